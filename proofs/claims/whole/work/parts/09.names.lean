theorem dX11_tree_127 : decode cX11_tree 127 = .ok (.iaload, 1) := by decide +kernel
theorem dX11_tree_128 : decode cX11_tree 128 = .ok (.iastore, 1) := by decide +kernel
theorem dX11_tree_129 : decode cX11_tree 129 = .ok (.iinc 2 1, 3) := by decide +kernel
theorem dX11_tree_132 : decode cX11_tree 132 = .ok (.goto (-20), 3) := by decide +kernel
theorem dX11_tree_135 : decode cX11_tree 135 = .ok (.iconst 0, 1) := by decide +kernel
theorem dX11_tree_136 : decode cX11_tree 136 = .ok (.istore_n 2, 1) := by decide +kernel
theorem dX11_tree_137 : decode cX11_tree 137 = .ok (.iload_n 2, 1) := by decide +kernel
theorem dX11_tree_138 : decode cX11_tree 138 = .ok (.aload_n 0, 1) := by decide +kernel
theorem dX11_tree_139 : decode cX11_tree 139 = .ok (.getfield 121, 3) := by decide +kernel
theorem dX11_tree_142 : decode cX11_tree 142 = .ok (.if_icmp .ge 33, 3) := by decide +kernel
theorem dX11_tree_145 : decode cX11_tree 145 = .ok (.aload_n 0, 1) := by decide +kernel
theorem dX11_tree_146 : decode cX11_tree 146 = .ok (.getfield 27, 3) := by decide +kernel
theorem dX11_tree_149 : decode cX11_tree 149 = .ok (.iload_n 2, 1) := by decide +kernel
theorem dX11_tree_150 : decode cX11_tree 150 = .ok (.aload_n 0, 1) := by decide +kernel
theorem dX11_tree_151 : decode cX11_tree 151 = .ok (.getfield 45, 3) := by decide +kernel
theorem dX11_tree_154 : decode cX11_tree 154 = .ok (.iload_n 2, 1) := by decide +kernel
theorem dX11_tree_155 : decode cX11_tree 155 = .ok (.iaload, 1) := by decide +kernel
theorem dX11_tree_156 : decode cX11_tree 156 = .ok (.iastore, 1) := by decide +kernel
theorem dX11_tree_157 : decode cX11_tree 157 = .ok (.aload_n 0, 1) := by decide +kernel
theorem dX11_tree_158 : decode cX11_tree 158 = .ok (.getfield 30, 3) := by decide +kernel
theorem dX11_tree_161 : decode cX11_tree 161 = .ok (.iload_n 2, 1) := by decide +kernel
theorem dX11_tree_162 : decode cX11_tree 162 = .ok (.aload_n 0, 1) := by decide +kernel
theorem dX11_tree_163 : decode cX11_tree 163 = .ok (.getfield 48, 3) := by decide +kernel
theorem dX11_tree_166 : decode cX11_tree 166 = .ok (.iload_n 2, 1) := by decide +kernel
theorem dX11_tree_167 : decode cX11_tree 167 = .ok (.iaload, 1) := by decide +kernel
theorem dX11_tree_168 : decode cX11_tree 168 = .ok (.iastore, 1) := by decide +kernel
theorem dX11_tree_169 : decode cX11_tree 169 = .ok (.iinc 2 1, 3) := by decide +kernel
theorem dX11_tree_172 : decode cX11_tree 172 = .ok (.goto (-35), 3) := by decide +kernel
theorem dX11_tree_175 : decode cX11_tree 175 = .ok (.aload_n 0, 1) := by decide +kernel
theorem dX11_tree_176 : decode cX11_tree 176 = .ok (.getfield 33, 3) := by decide +kernel
theorem dX11_tree_179 : decode cX11_tree 179 = .ok (.iconst 0, 1) := by decide +kernel
theorem dX11_tree_180 : decode cX11_tree 180 = .ok (.iaload, 1) := by decide +kernel
theorem dX11_tree_181 : decode cX11_tree 181 = .ok (.ireturn, 1) := by decide +kernel
set_option maxRecDepth 20000 in
theorem ggX11_grown_X11_in : GoodIn wsX11_grown wsX11_in := goodIn_r _ [7] (by decide +kernel) (by decide +kernel)
set_option maxRecDepth 20000 in
theorem gX11_grown_X11_in : GoodIn wsX11_grown (va_wsS RX11 103 yX11_in wsX11_in) := goodIn_app (goodIn_of _ (by decide +kernel)) ggX11_grown_X11_in
theorem dX11_grown_0 : decode cX11_grown 0 = .ok (.iload_n 1, 1) := by decide +kernel
theorem dX11_grown_1 : decode cX11_grown 1 = .ok (.i2l, 1) := by decide +kernel
theorem dX11_grown_2 : decode cX11_grown 2 = .ok (.lconst 0, 1) := by decide +kernel
theorem dX11_grown_3 : decode cX11_grown 3 = .ok (.ldc2_w 178, 3) := by decide +kernel
theorem dX11_grown_6 : decode cX11_grown 6 = .ok (.invokestatic 103, 3) := by decide +kernel
theorem dX11_grown_9 : decode cX11_grown 9 = .ok (.ifCond .ne 7, 3) := by decide +kernel
theorem dX11_grown_12 : decode cX11_grown 12 = .ok (.iconst (-1), 1) := by decide +kernel
theorem dX11_grown_13 : decode cX11_grown 13 = .ok (.goto 21, 3) := by decide +kernel
theorem dX11_grown_16 : decode cX11_grown 16 = .ok (.aload_n 0, 1) := by decide +kernel
theorem dX11_grown_17 : decode cX11_grown 17 = .ok (.getfield 117, 3) := by decide +kernel
theorem dX11_grown_20 : decode cX11_grown 20 = .ok (.ifCond .eq 12, 3) := by decide +kernel
theorem dX11_grown_23 : decode cX11_grown 23 = .ok (.aload_n 0, 1) := by decide +kernel
theorem dX11_grown_24 : decode cX11_grown 24 = .ok (.getfield 33, 3) := by decide +kernel
theorem dX11_grown_27 : decode cX11_grown 27 = .ok (.iload_n 1, 1) := by decide +kernel
theorem dX11_grown_28 : decode cX11_grown 28 = .ok (.iaload, 1) := by decide +kernel
theorem dX11_grown_29 : decode cX11_grown 29 = .ok (.goto 5, 3) := by decide +kernel
theorem dX11_grown_32 : decode cX11_grown 32 = .ok (.bipush (-2), 2) := by decide +kernel
theorem dX11_grown_34 : decode cX11_grown 34 = .ok (.ireturn, 1) := by decide +kernel
set_option maxRecDepth 20000 in
theorem ggX11_heard_X11_in : GoodIn wsX11_heard wsX11_in := goodIn_r _ [7] (by decide +kernel) (by decide +kernel)
set_option maxRecDepth 20000 in
theorem gX11_heard_X11_in : GoodIn wsX11_heard (va_wsS RX11 103 yX11_in wsX11_in) := goodIn_app (goodIn_of _ (by decide +kernel)) ggX11_heard_X11_in
theorem dX11_heard_0 : decode cX11_heard 0 = .ok (.iload_n 1, 1) := by decide +kernel
theorem dX11_heard_1 : decode cX11_heard 1 = .ok (.i2l, 1) := by decide +kernel
theorem dX11_heard_2 : decode cX11_heard 2 = .ok (.lconst 0, 1) := by decide +kernel
theorem dX11_heard_3 : decode cX11_heard 3 = .ok (.aload_n 0, 1) := by decide +kernel
theorem dX11_heard_4 : decode cX11_heard 4 = .ok (.getfield 121, 3) := by decide +kernel
theorem dX11_heard_7 : decode cX11_heard 7 = .ok (.iconst 1, 1) := by decide +kernel
theorem dX11_heard_8 : decode cX11_heard 8 = .ok (.isub, 1) := by decide +kernel
theorem dX11_heard_9 : decode cX11_heard 9 = .ok (.i2l, 1) := by decide +kernel
theorem dX11_heard_10 : decode cX11_heard 10 = .ok (.invokestatic 103, 3) := by decide +kernel
theorem dX11_heard_13 : decode cX11_heard 13 = .ok (.ifCond .eq 13, 3) := by decide +kernel
theorem dX11_heard_16 : decode cX11_heard 16 = .ok (.iload_n 2, 1) := by decide +kernel
theorem dX11_heard_17 : decode cX11_heard 17 = .ok (.i2l, 1) := by decide +kernel
theorem dX11_heard_18 : decode cX11_heard 18 = .ok (.lconst 0, 1) := by decide +kernel
theorem dX11_heard_19 : decode cX11_heard 19 = .ok (.lconst 1, 1) := by decide +kernel
theorem dX11_heard_20 : decode cX11_heard 20 = .ok (.invokestatic 103, 3) := by decide +kernel
theorem dX11_heard_23 : decode cX11_heard 23 = .ok (.ifCond .ne 5, 3) := by decide +kernel
theorem dX11_heard_26 : decode cX11_heard 26 = .ok (.iconst (-1), 1) := by decide +kernel
theorem dX11_heard_27 : decode cX11_heard 27 = .ok (.ireturn, 1) := by decide +kernel
theorem dX11_heard_28 : decode cX11_heard 28 = .ok (.iload_n 2, 1) := by decide +kernel
theorem dX11_heard_29 : decode cX11_heard 29 = .ok (.ifCond .ne 12, 3) := by decide +kernel
theorem dX11_heard_32 : decode cX11_heard 32 = .ok (.aload_n 0, 1) := by decide +kernel
theorem dX11_heard_33 : decode cX11_heard 33 = .ok (.getfield 27, 3) := by decide +kernel
theorem dX11_heard_36 : decode cX11_heard 36 = .ok (.iload_n 1, 1) := by decide +kernel
theorem dX11_heard_37 : decode cX11_heard 37 = .ok (.iaload, 1) := by decide +kernel
theorem dX11_heard_38 : decode cX11_heard 38 = .ok (.goto 9, 3) := by decide +kernel
theorem dX11_heard_41 : decode cX11_heard 41 = .ok (.aload_n 0, 1) := by decide +kernel
theorem dX11_heard_42 : decode cX11_heard 42 = .ok (.getfield 30, 3) := by decide +kernel
theorem dX11_heard_45 : decode cX11_heard 45 = .ok (.iload_n 1, 1) := by decide +kernel
theorem dX11_heard_46 : decode cX11_heard 46 = .ok (.iaload, 1) := by decide +kernel
theorem dX11_heard_47 : decode cX11_heard 47 = .ok (.ireturn, 1) := by decide +kernel
set_option maxRecDepth 20000 in
theorem ggX11_learns_X11_isNumber : GoodIn wsX11_learns wsX11_isNumber := goodIn_r _ [10, 3, 11, 12, 9, 13, 14, 15, 16, 17, 18, 19, 20, 21, 22, 23, 24, 25, 26, 27, 28, 29, 30, 31, 32, 33, 34, 35, 36, 37, 38, 39, 40, 41, 42, 43, 44, 45, 46, 47, 48, 49, 50, 51, 52, 53, 54, 55, 56, 57, 58, 59, 60, 61] (by decide +kernel) (by decide +kernel)
set_option maxRecDepth 20000 in
theorem gX11_learns_X11_isNumber : GoodIn wsX11_learns (wsV RX11 124 RX11 yX11_isNumber wsX11_isNumber) := goodIn_app (goodIn_of _ (by decide +kernel)) ggX11_learns_X11_isNumber
theorem dX11_learns_0 : decode cX11_learns 0 = .ok (.aload_n 0, 1) := by decide +kernel
theorem dX11_learns_1 : decode cX11_learns 1 = .ok (.iload_n 1, 1) := by decide +kernel
theorem dX11_learns_2 : decode cX11_learns 2 = .ok (.invokevirtual 124, 3) := by decide +kernel
theorem dX11_learns_5 : decode cX11_learns 5 = .ok (.ifCond .ne 5, 3) := by decide +kernel
theorem dX11_learns_8 : decode cX11_learns 8 = .ok (.iconst (-1), 1) := by decide +kernel
theorem dX11_learns_9 : decode cX11_learns 9 = .ok (.ireturn, 1) := by decide +kernel
theorem dX11_learns_10 : decode cX11_learns 10 = .ok (.aload_n 0, 1) := by decide +kernel
theorem dX11_learns_11 : decode cX11_learns 11 = .ok (.getfield 117, 3) := by decide +kernel
theorem dX11_learns_14 : decode cX11_learns 14 = .ok (.ifCond .ne 6, 3) := by decide +kernel
theorem dX11_learns_17 : decode cX11_learns 17 = .ok (.bipush (-2), 2) := by decide +kernel
theorem dX11_learns_19 : decode cX11_learns 19 = .ok (.ireturn, 1) := by decide +kernel
theorem dX11_learns_20 : decode cX11_learns 20 = .ok (.iconst 0, 1) := by decide +kernel
theorem dX11_learns_21 : decode cX11_learns 21 = .ok (.istore_n 2, 1) := by decide +kernel
theorem dX11_learns_22 : decode cX11_learns 22 = .ok (.iconst 0, 1) := by decide +kernel
theorem dX11_learns_23 : decode cX11_learns 23 = .ok (.istore_n 3, 1) := by decide +kernel
theorem dX11_learns_24 : decode cX11_learns 24 = .ok (.iload_n 3, 1) := by decide +kernel
theorem dX11_learns_25 : decode cX11_learns 25 = .ok (.aload_n 0, 1) := by decide +kernel
theorem dX11_learns_26 : decode cX11_learns 26 = .ok (.getfield 121, 3) := by decide +kernel
theorem dX11_learns_29 : decode cX11_learns 29 = .ok (.if_icmp .ge 64, 3) := by decide +kernel
theorem dX11_learns_32 : decode cX11_learns 32 = .ok (.iload_n 1, 1) := by decide +kernel
theorem dX11_learns_33 : decode cX11_learns 33 = .ok (.aload_n 0, 1) := by decide +kernel
theorem dX11_learns_34 : decode cX11_learns 34 = .ok (.getfield 7, 3) := by decide +kernel
theorem dX11_learns_37 : decode cX11_learns 37 = .ok (.aload_n 0, 1) := by decide +kernel
theorem dX11_learns_38 : decode cX11_learns 38 = .ok (.getfield 27, 3) := by decide +kernel
theorem dX11_learns_41 : decode cX11_learns 41 = .ok (.iload_n 3, 1) := by decide +kernel
theorem dX11_learns_42 : decode cX11_learns 42 = .ok (.iaload, 1) := by decide +kernel
theorem dX11_learns_43 : decode cX11_learns 43 = .ok (.isub, 1) := by decide +kernel
theorem dX11_learns_44 : decode cX11_learns 44 = .ok (.ishr, 1) := by decide +kernel
theorem dX11_learns_45 : decode cX11_learns 45 = .ok (.aload_n 0, 1) := by decide +kernel
theorem dX11_learns_46 : decode cX11_learns 46 = .ok (.getfield 30, 3) := by decide +kernel
theorem dX11_learns_49 : decode cX11_learns 49 = .ok (.iload_n 3, 1) := by decide +kernel
theorem dX11_learns_50 : decode cX11_learns 50 = .ok (.iaload, 1) := by decide +kernel
theorem dX11_learns_51 : decode cX11_learns 51 = .ok (.if_icmp .ne 7, 3) := by decide +kernel
theorem dX11_learns_54 : decode cX11_learns 54 = .ok (.iconst 1, 1) := by decide +kernel
theorem dX11_learns_55 : decode cX11_learns 55 = .ok (.goto 4, 3) := by decide +kernel
theorem dX11_learns_58 : decode cX11_learns 58 = .ok (.iconst 0, 1) := by decide +kernel
theorem dX11_learns_59 : decode cX11_learns 59 = .ok (.istore 4, 2) := by decide +kernel
theorem dX11_learns_61 : decode cX11_learns 61 = .ok (.iload 4, 2) := by decide +kernel
theorem dX11_learns_63 : decode cX11_learns 63 = .ok (.ifCond .eq 22, 3) := by decide +kernel
theorem dX11_learns_66 : decode cX11_learns 66 = .ok (.aload_n 0, 1) := by decide +kernel
theorem dX11_learns_67 : decode cX11_learns 67 = .ok (.getfield 27, 3) := by decide +kernel
theorem dX11_learns_70 : decode cX11_learns 70 = .ok (.iload_n 3, 1) := by decide +kernel
theorem dX11_learns_71 : decode cX11_learns 71 = .ok (.iaload, 1) := by decide +kernel
theorem dX11_learns_72 : decode cX11_learns 72 = .ok (.iload_n 2, 1) := by decide +kernel
theorem dX11_learns_73 : decode cX11_learns 73 = .ok (.if_icmp .le 12, 3) := by decide +kernel
theorem dX11_learns_76 : decode cX11_learns 76 = .ok (.aload_n 0, 1) := by decide +kernel
theorem dX11_learns_77 : decode cX11_learns 77 = .ok (.getfield 27, 3) := by decide +kernel
theorem dX11_learns_80 : decode cX11_learns 80 = .ok (.iload_n 3, 1) := by decide +kernel
theorem dX11_learns_81 : decode cX11_learns 81 = .ok (.iaload, 1) := by decide +kernel
theorem dX11_learns_82 : decode cX11_learns 82 = .ok (.goto 4, 3) := by decide +kernel
theorem dX11_learns_85 : decode cX11_learns 85 = .ok (.iload_n 2, 1) := by decide +kernel
theorem dX11_learns_86 : decode cX11_learns 86 = .ok (.istore_n 2, 1) := by decide +kernel
theorem dX11_learns_87 : decode cX11_learns 87 = .ok (.iinc 3 1, 3) := by decide +kernel
theorem dX11_learns_90 : decode cX11_learns 90 = .ok (.goto (-66), 3) := by decide +kernel
theorem dX11_learns_93 : decode cX11_learns 93 = .ok (.iload_n 2, 1) := by decide +kernel
theorem dX11_learns_94 : decode cX11_learns 94 = .ok (.ireturn, 1) := by decide +kernel
theorem dX11_wouldBy_0 : decode cX11_wouldBy 0 = .ok (.aload_n 0, 1) := by decide +kernel
theorem dX11_wouldBy_1 : decode cX11_wouldBy 1 = .ok (.getfield 7, 3) := by decide +kernel
theorem dX11_wouldBy_4 : decode cX11_wouldBy 4 = .ok (.istore_n 3, 1) := by decide +kernel
theorem dX11_wouldBy_5 : decode cX11_wouldBy 5 = .ok (.iload_n 3, 1) := by decide +kernel
theorem dX11_wouldBy_6 : decode cX11_wouldBy 6 = .ok (.ifCond .lt 223, 3) := by decide +kernel
theorem dX11_wouldBy_9 : decode cX11_wouldBy 9 = .ok (.iconst 0, 1) := by decide +kernel
theorem dX11_wouldBy_10 : decode cX11_wouldBy 10 = .ok (.istore 4, 2) := by decide +kernel
theorem dX11_wouldBy_12 : decode cX11_wouldBy 12 = .ok (.iload 4, 2) := by decide +kernel
theorem dX11_wouldBy_14 : decode cX11_wouldBy 14 = .ok (.iconst 1, 1) := by decide +kernel
theorem dX11_wouldBy_15 : decode cX11_wouldBy 15 = .ok (.iload_n 3, 1) := by decide +kernel
theorem dX11_wouldBy_16 : decode cX11_wouldBy 16 = .ok (.ishl, 1) := by decide +kernel
theorem dX11_wouldBy_17 : decode cX11_wouldBy 17 = .ok (.if_icmp .ge 206, 3) := by decide +kernel
theorem dX11_wouldBy_20 : decode cX11_wouldBy 20 = .ok (.iconst 0, 1) := by decide +kernel
theorem dX11_wouldBy_21 : decode cX11_wouldBy 21 = .ok (.istore 5, 2) := by decide +kernel
theorem dX11_wouldBy_23 : decode cX11_wouldBy 23 = .ok (.iconst 0, 1) := by decide +kernel
theorem dX11_wouldBy_24 : decode cX11_wouldBy 24 = .ok (.istore 6, 2) := by decide +kernel
theorem dX11_wouldBy_26 : decode cX11_wouldBy 26 = .ok (.iconst 0, 1) := by decide +kernel
theorem dX11_wouldBy_27 : decode cX11_wouldBy 27 = .ok (.istore 7, 2) := by decide +kernel
theorem dX11_wouldBy_29 : decode cX11_wouldBy 29 = .ok (.iload 7, 2) := by decide +kernel
theorem dX11_wouldBy_31 : decode cX11_wouldBy 31 = .ok (.iconst 1, 1) := by decide +kernel
theorem dX11_wouldBy_32 : decode cX11_wouldBy 32 = .ok (.aload_n 0, 1) := by decide +kernel
theorem dX11_wouldBy_33 : decode cX11_wouldBy 33 = .ok (.getfield 7, 3) := by decide +kernel
theorem dX11_wouldBy_36 : decode cX11_wouldBy 36 = .ok (.ishl, 1) := by decide +kernel
theorem dX11_wouldBy_37 : decode cX11_wouldBy 37 = .ok (.if_icmp .ge 49, 3) := by decide +kernel
theorem dX11_wouldBy_40 : decode cX11_wouldBy 40 = .ok (.iload_n 2, 1) := by decide +kernel
theorem dX11_wouldBy_41 : decode cX11_wouldBy 41 = .ok (.iload 7, 2) := by decide +kernel
theorem dX11_wouldBy_43 : decode cX11_wouldBy 43 = .ok (.ishr, 1) := by decide +kernel
theorem dX11_wouldBy_44 : decode cX11_wouldBy 44 = .ok (.iconst 1, 1) := by decide +kernel
theorem dX11_wouldBy_45 : decode cX11_wouldBy 45 = .ok (.iand, 1) := by decide +kernel
theorem dX11_wouldBy_46 : decode cX11_wouldBy 46 = .ok (.iconst 1, 1) := by decide +kernel
theorem dX11_wouldBy_47 : decode cX11_wouldBy 47 = .ok (.if_icmp .ne 33, 3) := by decide +kernel
theorem dX11_wouldBy_50 : decode cX11_wouldBy 50 = .ok (.iload 7, 2) := by decide +kernel
theorem dX11_wouldBy_52 : decode cX11_wouldBy 52 = .ok (.aload_n 0, 1) := by decide +kernel
theorem dX11_wouldBy_53 : decode cX11_wouldBy 53 = .ok (.getfield 7, 3) := by decide +kernel
theorem dX11_wouldBy_56 : decode cX11_wouldBy 56 = .ok (.iload_n 3, 1) := by decide +kernel
theorem dX11_wouldBy_57 : decode cX11_wouldBy 57 = .ok (.isub, 1) := by decide +kernel
theorem dX11_wouldBy_58 : decode cX11_wouldBy 58 = .ok (.ishr, 1) := by decide +kernel
theorem dX11_wouldBy_59 : decode cX11_wouldBy 59 = .ok (.iload 4, 2) := by decide +kernel
theorem dX11_wouldBy_61 : decode cX11_wouldBy 61 = .ok (.if_icmp .ne 19, 3) := by decide +kernel
theorem dX11_wouldBy_64 : decode cX11_wouldBy 64 = .ok (.iload 5, 2) := by decide +kernel
theorem dX11_wouldBy_66 : decode cX11_wouldBy 66 = .ok (.iload 7, 2) := by decide +kernel
theorem dX11_wouldBy_68 : decode cX11_wouldBy 68 = .ok (.ior, 1) := by decide +kernel
theorem dX11_wouldBy_69 : decode cX11_wouldBy 69 = .ok (.istore 5, 2) := by decide +kernel
theorem dX11_wouldBy_71 : decode cX11_wouldBy 71 = .ok (.iload 6, 2) := by decide +kernel
theorem dX11_wouldBy_73 : decode cX11_wouldBy 73 = .ok (.iload 7, 2) := by decide +kernel
theorem dX11_wouldBy_75 : decode cX11_wouldBy 75 = .ok (.iconst (-1), 1) := by decide +kernel
theorem dX11_wouldBy_76 : decode cX11_wouldBy 76 = .ok (.ixor, 1) := by decide +kernel
theorem dX11_wouldBy_77 : decode cX11_wouldBy 77 = .ok (.ior, 1) := by decide +kernel
theorem dX11_wouldBy_78 : decode cX11_wouldBy 78 = .ok (.istore 6, 2) := by decide +kernel
theorem dX11_wouldBy_80 : decode cX11_wouldBy 80 = .ok (.iinc 7 1, 3) := by decide +kernel
theorem dX11_wouldBy_83 : decode cX11_wouldBy 83 = .ok (.goto (-54), 3) := by decide +kernel
theorem dX11_wouldBy_86 : decode cX11_wouldBy 86 = .ok (.iconst 1, 1) := by decide +kernel
theorem dX11_wouldBy_87 : decode cX11_wouldBy 87 = .ok (.aload_n 0, 1) := by decide +kernel
theorem dX11_wouldBy_88 : decode cX11_wouldBy 88 = .ok (.getfield 7, 3) := by decide +kernel
theorem dX11_wouldBy_91 : decode cX11_wouldBy 91 = .ok (.iload_n 3, 1) := by decide +kernel
theorem dX11_wouldBy_92 : decode cX11_wouldBy 92 = .ok (.isub, 1) := by decide +kernel
theorem dX11_wouldBy_93 : decode cX11_wouldBy 93 = .ok (.ishl, 1) := by decide +kernel
theorem dX11_wouldBy_94 : decode cX11_wouldBy 94 = .ok (.iconst 1, 1) := by decide +kernel
theorem dX11_wouldBy_95 : decode cX11_wouldBy 95 = .ok (.isub, 1) := by decide +kernel
theorem dX11_wouldBy_96 : decode cX11_wouldBy 96 = .ok (.istore 7, 2) := by decide +kernel
theorem dX11_wouldBy_98 : decode cX11_wouldBy 98 = .ok (.iload 5, 2) := by decide +kernel
theorem dX11_wouldBy_100 : decode cX11_wouldBy 100 = .ok (.iload 6, 2) := by decide +kernel
theorem dX11_wouldBy_102 : decode cX11_wouldBy 102 = .ok (.iand, 1) := by decide +kernel
theorem dX11_wouldBy_103 : decode cX11_wouldBy 103 = .ok (.iload 7, 2) := by decide +kernel
theorem dX11_wouldBy_105 : decode cX11_wouldBy 105 = .ok (.iand, 1) := by decide +kernel
theorem dX11_wouldBy_106 : decode cX11_wouldBy 106 = .ok (.istore 8, 2) := by decide +kernel
theorem dX11_wouldBy_108 : decode cX11_wouldBy 108 = .ok (.iload_n 3, 1) := by decide +kernel
theorem dX11_wouldBy_109 : decode cX11_wouldBy 109 = .ok (.istore 9, 2) := by decide +kernel
theorem dX11_wouldBy_111 : decode cX11_wouldBy 111 = .ok (.iload 4, 2) := by decide +kernel
theorem dX11_wouldBy_113 : decode cX11_wouldBy 113 = .ok (.istore 10, 2) := by decide +kernel
theorem dX11_wouldBy_115 : decode cX11_wouldBy 115 = .ok (.iload 8, 2) := by decide +kernel
theorem dX11_wouldBy_117 : decode cX11_wouldBy 117 = .ok (.ifCond .eq 48, 3) := by decide +kernel
theorem dX11_wouldBy_120 : decode cX11_wouldBy 120 = .ok (.iload_n 1, 1) := by decide +kernel
theorem dX11_wouldBy_121 : decode cX11_wouldBy 121 = .ok (.iconst 1, 1) := by decide +kernel
theorem dX11_wouldBy_122 : decode cX11_wouldBy 122 = .ok (.if_icmp .ne 43, 3) := by decide +kernel
theorem dX11_wouldBy_125 : decode cX11_wouldBy 125 = .ok (.iload 8, 2) := by decide +kernel
theorem dX11_wouldBy_127 : decode cX11_wouldBy 127 = .ok (.aload_n 0, 1) := by decide +kernel
theorem dX11_wouldBy_128 : decode cX11_wouldBy 128 = .ok (.getfield 7, 3) := by decide +kernel
theorem dX11_wouldBy_131 : decode cX11_wouldBy 131 = .ok (.iload 9, 2) := by decide +kernel
theorem dX11_wouldBy_133 : decode cX11_wouldBy 133 = .ok (.isub, 1) := by decide +kernel
theorem dX11_wouldBy_134 : decode cX11_wouldBy 134 = .ok (.iconst 1, 1) := by decide +kernel
theorem dX11_wouldBy_135 : decode cX11_wouldBy 135 = .ok (.isub, 1) := by decide +kernel
theorem dX11_wouldBy_136 : decode cX11_wouldBy 136 = .ok (.ishr, 1) := by decide +kernel
theorem dX11_wouldBy_137 : decode cX11_wouldBy 137 = .ok (.ifCond .ne 28, 3) := by decide +kernel
theorem dX11_wouldBy_140 : decode cX11_wouldBy 140 = .ok (.iinc 9 1, 3) := by decide +kernel
theorem dX11_wouldBy_143 : decode cX11_wouldBy 143 = .ok (.iload 10, 2) := by decide +kernel
theorem dX11_wouldBy_145 : decode cX11_wouldBy 145 = .ok (.iconst 1, 1) := by decide +kernel
theorem dX11_wouldBy_146 : decode cX11_wouldBy 146 = .ok (.ishl, 1) := by decide +kernel
theorem dX11_wouldBy_147 : decode cX11_wouldBy 147 = .ok (.iload 5, 2) := by decide +kernel
theorem dX11_wouldBy_149 : decode cX11_wouldBy 149 = .ok (.aload_n 0, 1) := by decide +kernel
theorem dX11_wouldBy_150 : decode cX11_wouldBy 150 = .ok (.getfield 7, 3) := by decide +kernel
theorem dX11_wouldBy_153 : decode cX11_wouldBy 153 = .ok (.iload 9, 2) := by decide +kernel
theorem dX11_wouldBy_155 : decode cX11_wouldBy 155 = .ok (.isub, 1) := by decide +kernel
theorem dX11_wouldBy_156 : decode cX11_wouldBy 156 = .ok (.ishr, 1) := by decide +kernel
theorem dX11_wouldBy_157 : decode cX11_wouldBy 157 = .ok (.iconst 1, 1) := by decide +kernel
theorem dX11_wouldBy_158 : decode cX11_wouldBy 158 = .ok (.iand, 1) := by decide +kernel
theorem dX11_wouldBy_159 : decode cX11_wouldBy 159 = .ok (.ior, 1) := by decide +kernel
theorem dX11_wouldBy_160 : decode cX11_wouldBy 160 = .ok (.istore 10, 2) := by decide +kernel
theorem dX11_wouldBy_162 : decode cX11_wouldBy 162 = .ok (.goto (-47), 3) := by decide +kernel
theorem dX11_wouldBy_165 : decode cX11_wouldBy 165 = .ok (.iconst 1, 1) := by decide +kernel
theorem dX11_wouldBy_166 : decode cX11_wouldBy 166 = .ok (.iload 9, 2) := by decide +kernel
theorem dX11_wouldBy_168 : decode cX11_wouldBy 168 = .ok (.iconst 1, 1) := by decide +kernel
theorem dX11_wouldBy_169 : decode cX11_wouldBy 169 = .ok (.iadd, 1) := by decide +kernel
theorem dX11_wouldBy_170 : decode cX11_wouldBy 170 = .ok (.ishl, 1) := by decide +kernel
theorem dX11_wouldBy_171 : decode cX11_wouldBy 171 = .ok (.iconst 2, 1) := by decide +kernel
theorem dX11_wouldBy_172 : decode cX11_wouldBy 172 = .ok (.iload 10, 2) := by decide +kernel
theorem dX11_wouldBy_174 : decode cX11_wouldBy 174 = .ok (.imul, 1) := by decide +kernel
theorem dX11_wouldBy_175 : decode cX11_wouldBy 175 = .ok (.iadd, 1) := by decide +kernel
theorem dX11_wouldBy_176 : decode cX11_wouldBy 176 = .ok (.istore 11, 2) := by decide +kernel
theorem dX11_wouldBy_178 : decode cX11_wouldBy 178 = .ok (.aload_n 0, 1) := by decide +kernel
theorem dX11_wouldBy_179 : decode cX11_wouldBy 179 = .ok (.getfield 54, 3) := by decide +kernel
theorem dX11_wouldBy_182 : decode cX11_wouldBy 182 = .ok (.iconst 1, 1) := by decide +kernel
theorem dX11_wouldBy_183 : decode cX11_wouldBy 183 = .ok (.iload_n 3, 1) := by decide +kernel
theorem dX11_wouldBy_184 : decode cX11_wouldBy 184 = .ok (.ishl, 1) := by decide +kernel
theorem dX11_wouldBy_185 : decode cX11_wouldBy 185 = .ok (.iload 4, 2) := by decide +kernel
theorem dX11_wouldBy_187 : decode cX11_wouldBy 187 = .ok (.iadd, 1) := by decide +kernel
theorem dX11_wouldBy_188 : decode cX11_wouldBy 188 = .ok (.iload 8, 2) := by decide +kernel
theorem dX11_wouldBy_190 : decode cX11_wouldBy 190 = .ok (.ifCond .ne 7, 3) := by decide +kernel
theorem dX11_wouldBy_193 : decode cX11_wouldBy 193 = .ok (.iconst 1, 1) := by decide +kernel
theorem dX11_wouldBy_194 : decode cX11_wouldBy 194 = .ok (.goto 22, 3) := by decide +kernel
theorem dX11_wouldBy_197 : decode cX11_wouldBy 197 = .ok (.iconst 1, 1) := by decide +kernel
theorem dX11_wouldBy_198 : decode cX11_wouldBy 198 = .ok (.aload_n 0, 1) := by decide +kernel
theorem dX11_wouldBy_199 : decode cX11_wouldBy 199 = .ok (.getfield 54, 3) := by decide +kernel
theorem dX11_wouldBy_202 : decode cX11_wouldBy 202 = .ok (.iload 11, 2) := by decide +kernel
theorem dX11_wouldBy_204 : decode cX11_wouldBy 204 = .ok (.iaload, 1) := by decide +kernel
theorem dX11_wouldBy_205 : decode cX11_wouldBy 205 = .ok (.iadd, 1) := by decide +kernel
theorem dX11_wouldBy_206 : decode cX11_wouldBy 206 = .ok (.aload_n 0, 1) := by decide +kernel
theorem dX11_wouldBy_207 : decode cX11_wouldBy 207 = .ok (.getfield 54, 3) := by decide +kernel
theorem dX11_wouldBy_210 : decode cX11_wouldBy 210 = .ok (.iload 11, 2) := by decide +kernel
theorem dX11_wouldBy_212 : decode cX11_wouldBy 212 = .ok (.iconst 1, 1) := by decide +kernel
theorem dX11_wouldBy_213 : decode cX11_wouldBy 213 = .ok (.iadd, 1) := by decide +kernel
theorem dX11_wouldBy_214 : decode cX11_wouldBy 214 = .ok (.iaload, 1) := by decide +kernel
theorem dX11_wouldBy_215 : decode cX11_wouldBy 215 = .ok (.iadd, 1) := by decide +kernel
theorem dX11_wouldBy_216 : decode cX11_wouldBy 216 = .ok (.iastore, 1) := by decide +kernel
theorem dX11_wouldBy_217 : decode cX11_wouldBy 217 = .ok (.iinc 4 1, 3) := by decide +kernel
theorem dX11_wouldBy_220 : decode cX11_wouldBy 220 = .ok (.goto (-208), 3) := by decide +kernel
theorem dX11_wouldBy_223 : decode cX11_wouldBy 223 = .ok (.iinc 3 (-1), 3) := by decide +kernel
theorem dX11_wouldBy_226 : decode cX11_wouldBy 226 = .ok (.goto (-221), 3) := by decide +kernel
theorem dX11_wouldBy_229 : decode cX11_wouldBy 229 = .ok (.aload_n 0, 1) := by decide +kernel
theorem dX11_wouldBy_230 : decode cX11_wouldBy 230 = .ok (.getfield 54, 3) := by decide +kernel
theorem dX11_wouldBy_233 : decode cX11_wouldBy 233 = .ok (.iconst 1, 1) := by decide +kernel
theorem dX11_wouldBy_234 : decode cX11_wouldBy 234 = .ok (.iaload, 1) := by decide +kernel
theorem dX11_wouldBy_235 : decode cX11_wouldBy 235 = .ok (.ireturn, 1) := by decide +kernel
set_option maxRecDepth 20000 in
theorem ggX11_would_X11_in : GoodIn wsX11_would wsX11_in := goodIn_r _ [5] (by decide +kernel) (by decide +kernel)
set_option maxRecDepth 20000 in
theorem gX11_would_X11_in : GoodIn wsX11_would (va_wsS RX11 103 yX11_in wsX11_in) := goodIn_app (goodIn_of _ (by decide +kernel)) ggX11_would_X11_in
set_option maxRecDepth 20000 in
theorem ggX11_would_X11_wouldBy : GoodIn wsX11_would wsX11_wouldBy := goodIn_r _ [9, 1, 10, 11, 12, 13, 14, 15, 16, 17, 18, 19, 20, 21, 22, 23, 24, 25, 26, 27, 28, 29, 30, 31, 32, 33, 34, 35, 36, 37, 38, 39, 40, 41, 42, 43, 44, 45, 46, 47, 48, 49, 50, 51, 52, 53, 54, 55, 56, 57, 58] (by decide +kernel) (by decide +kernel)
set_option maxRecDepth 20000 in
theorem gX11_would_X11_wouldBy : GoodIn wsX11_would (wsV RX11 180 RX11 yX11_wouldBy wsX11_wouldBy) := goodIn_app (goodIn_of _ (by decide +kernel)) ggX11_would_X11_wouldBy
theorem dX11_would_0 : decode cX11_would 0 = .ok (.iload_n 1, 1) := by decide +kernel
theorem dX11_would_1 : decode cX11_would 1 = .ok (.i2l, 1) := by decide +kernel
theorem dX11_would_2 : decode cX11_would 2 = .ok (.lconst 0, 1) := by decide +kernel
theorem dX11_would_3 : decode cX11_would 3 = .ok (.lconst 1, 1) := by decide +kernel
theorem dX11_would_4 : decode cX11_would 4 = .ok (.invokestatic 103, 3) := by decide +kernel
theorem dX11_would_7 : decode cX11_would 7 = .ok (.ifCond .eq 38, 3) := by decide +kernel
theorem dX11_would_10 : decode cX11_would 10 = .ok (.aload_n 0, 1) := by decide +kernel
theorem dX11_would_11 : decode cX11_would 11 = .ok (.getfield 7, 3) := by decide +kernel
theorem dX11_would_14 : decode cX11_would 14 = .ok (.iconst 5, 1) := by decide +kernel
theorem dX11_would_15 : decode cX11_would 15 = .ok (.if_icmp .gt 30, 3) := by decide +kernel
theorem dX11_would_18 : decode cX11_would 18 = .ok (.aload_n 0, 1) := by decide +kernel
theorem dX11_would_19 : decode cX11_would 19 = .ok (.getfield 7, 3) := by decide +kernel
theorem dX11_would_22 : decode cX11_would 22 = .ok (.iconst 5, 1) := by decide +kernel
theorem dX11_would_23 : decode cX11_would 23 = .ok (.if_icmp .ge 24, 3) := by decide +kernel
theorem dX11_would_26 : decode cX11_would 26 = .ok (.iload_n 2, 1) := by decide +kernel
theorem dX11_would_27 : decode cX11_would 27 = .ok (.i2l, 1) := by decide +kernel
theorem dX11_would_28 : decode cX11_would 28 = .ok (.lconst 0, 1) := by decide +kernel
theorem dX11_would_29 : decode cX11_would 29 = .ok (.lconst 1, 1) := by decide +kernel
theorem dX11_would_30 : decode cX11_would 30 = .ok (.iconst 1, 1) := by decide +kernel
theorem dX11_would_31 : decode cX11_would 31 = .ok (.aload_n 0, 1) := by decide +kernel
theorem dX11_would_32 : decode cX11_would 32 = .ok (.getfield 7, 3) := by decide +kernel
theorem dX11_would_35 : decode cX11_would 35 = .ok (.ishl, 1) := by decide +kernel
theorem dX11_would_36 : decode cX11_would 36 = .ok (.lshl, 1) := by decide +kernel
theorem dX11_would_37 : decode cX11_would 37 = .ok (.lconst 1, 1) := by decide +kernel
theorem dX11_would_38 : decode cX11_would 38 = .ok (.lsub, 1) := by decide +kernel
theorem dX11_would_39 : decode cX11_would 39 = .ok (.invokestatic 103, 3) := by decide +kernel
theorem dX11_would_42 : decode cX11_would 42 = .ok (.ifCond .ne 5, 3) := by decide +kernel
theorem dX11_would_45 : decode cX11_would 45 = .ok (.iconst (-1), 1) := by decide +kernel
theorem dX11_would_46 : decode cX11_would 46 = .ok (.ireturn, 1) := by decide +kernel
theorem dX11_would_47 : decode cX11_would 47 = .ok (.aload_n 0, 1) := by decide +kernel
theorem dX11_would_48 : decode cX11_would 48 = .ok (.iload_n 1, 1) := by decide +kernel
theorem dX11_would_49 : decode cX11_would 49 = .ok (.iload_n 2, 1) := by decide +kernel
theorem dX11_would_50 : decode cX11_would 50 = .ok (.invokevirtual 180, 3) := by decide +kernel
theorem dX11_would_53 : decode cX11_would 53 = .ok (.ireturn, 1) := by decide +kernel
set_option maxRecDepth 20000 in
theorem ggX11_most_X11_in : GoodIn wsX11_most wsX11_in := goodIn_r _ [6] (by decide +kernel) (by decide +kernel)
set_option maxRecDepth 20000 in
theorem gX11_most_X11_in : GoodIn wsX11_most (va_wsS RX11 103 yX11_in wsX11_in) := goodIn_app (goodIn_of _ (by decide +kernel)) ggX11_most_X11_in
theorem dX11_most_0 : decode cX11_most 0 = .ok (.iload_n 1, 1) := by decide +kernel
theorem dX11_most_1 : decode cX11_most 1 = .ok (.i2l, 1) := by decide +kernel
theorem dX11_most_2 : decode cX11_most 2 = .ok (.lconst 0, 1) := by decide +kernel
theorem dX11_most_3 : decode cX11_most 3 = .ok (.lconst 1, 1) := by decide +kernel
theorem dX11_most_4 : decode cX11_most 4 = .ok (.invokestatic 103, 3) := by decide +kernel
theorem dX11_most_7 : decode cX11_most 7 = .ok (.ifCond .eq 37, 3) := by decide +kernel
theorem dX11_most_10 : decode cX11_most 10 = .ok (.aload_n 0, 1) := by decide +kernel
theorem dX11_most_11 : decode cX11_most 11 = .ok (.getfield 7, 3) := by decide +kernel
theorem dX11_most_14 : decode cX11_most 14 = .ok (.iconst 4, 1) := by decide +kernel
theorem dX11_most_15 : decode cX11_most 15 = .ok (.if_icmp .gt 29, 3) := by decide +kernel
theorem dX11_most_18 : decode cX11_most 18 = .ok (.iload_n 2, 1) := by decide +kernel
theorem dX11_most_19 : decode cX11_most 19 = .ok (.i2l, 1) := by decide +kernel
theorem dX11_most_20 : decode cX11_most 20 = .ok (.lconst 0, 1) := by decide +kernel
theorem dX11_most_21 : decode cX11_most 21 = .ok (.iconst 1, 1) := by decide +kernel
theorem dX11_most_22 : decode cX11_most 22 = .ok (.aload_n 0, 1) := by decide +kernel
theorem dX11_most_23 : decode cX11_most 23 = .ok (.getfield 7, 3) := by decide +kernel
theorem dX11_most_26 : decode cX11_most 26 = .ok (.ishl, 1) := by decide +kernel
theorem dX11_most_27 : decode cX11_most 27 = .ok (.i2l, 1) := by decide +kernel
theorem dX11_most_28 : decode cX11_most 28 = .ok (.invokestatic 103, 3) := by decide +kernel
theorem dX11_most_31 : decode cX11_most 31 = .ok (.ifCond .eq 13, 3) := by decide +kernel
theorem dX11_most_34 : decode cX11_most 34 = .ok (.iload_n 3, 1) := by decide +kernel
theorem dX11_most_35 : decode cX11_most 35 = .ok (.i2l, 1) := by decide +kernel
theorem dX11_most_36 : decode cX11_most 36 = .ok (.lconst 0, 1) := by decide +kernel
theorem dX11_most_37 : decode cX11_most 37 = .ok (.lconst 1, 1) := by decide +kernel
theorem dX11_most_38 : decode cX11_most 38 = .ok (.invokestatic 103, 3) := by decide +kernel
theorem dX11_most_41 : decode cX11_most 41 = .ok (.ifCond .ne 5, 3) := by decide +kernel
theorem dX11_most_44 : decode cX11_most 44 = .ok (.iconst (-1), 1) := by decide +kernel
theorem dX11_most_45 : decode cX11_most 45 = .ok (.ireturn, 1) := by decide +kernel
theorem dX11_most_46 : decode cX11_most 46 = .ok (.iconst 0, 1) := by decide +kernel
theorem dX11_most_47 : decode cX11_most 47 = .ok (.istore 4, 2) := by decide +kernel
theorem dX11_most_49 : decode cX11_most 49 = .ok (.iload 4, 2) := by decide +kernel
theorem dX11_most_51 : decode cX11_most 51 = .ok (.aload_n 0, 1) := by decide +kernel
theorem dX11_most_52 : decode cX11_most 52 = .ok (.getfield 7, 3) := by decide +kernel
theorem dX11_most_55 : decode cX11_most 55 = .ok (.if_icmp .gt 224, 3) := by decide +kernel
theorem dX11_most_58 : decode cX11_most 58 = .ok (.iconst 0, 1) := by decide +kernel
theorem dX11_most_59 : decode cX11_most 59 = .ok (.istore 5, 2) := by decide +kernel
theorem dX11_most_61 : decode cX11_most 61 = .ok (.iload 5, 2) := by decide +kernel
theorem dX11_most_63 : decode cX11_most 63 = .ok (.iconst 1, 1) := by decide +kernel
theorem dX11_most_64 : decode cX11_most 64 = .ok (.iload 4, 2) := by decide +kernel
theorem dX11_most_66 : decode cX11_most 66 = .ok (.ishl, 1) := by decide +kernel
theorem dX11_most_67 : decode cX11_most 67 = .ok (.if_icmp .gt 206, 3) := by decide +kernel
theorem dX11_most_70 : decode cX11_most 70 = .ok (.iload 5, 2) := by decide +kernel
theorem dX11_most_72 : decode cX11_most 72 = .ok (.iconst 2, 1) := by decide +kernel
theorem dX11_most_73 : decode cX11_most 73 = .ok (.if_icmp .ge 7, 3) := by decide +kernel
theorem dX11_most_76 : decode cX11_most 76 = .ok (.iconst 1, 1) := by decide +kernel
theorem dX11_most_77 : decode cX11_most 77 = .ok (.goto 5, 3) := by decide +kernel
theorem dX11_most_80 : decode cX11_most 80 = .ok (.bipush (-4), 2) := by decide +kernel
theorem dX11_most_82 : decode cX11_most 82 = .ok (.istore 6, 2) := by decide +kernel
theorem dX11_most_84 : decode cX11_most 84 = .ok (.iload_n 1, 1) := by decide +kernel
theorem dX11_most_85 : decode cX11_most 85 = .ok (.ifCond .ne 7, 3) := by decide +kernel
theorem dX11_most_88 : decode cX11_most 88 = .ok (.iconst 1, 1) := by decide +kernel
theorem dX11_most_89 : decode cX11_most 89 = .ok (.goto 5, 3) := by decide +kernel
theorem dX11_most_92 : decode cX11_most 92 = .ok (.iload 4, 2) := by decide +kernel
theorem dX11_most_94 : decode cX11_most 94 = .ok (.istore 7, 2) := by decide +kernel
theorem dX11_most_96 : decode cX11_most 96 = .ok (.iconst 1, 1) := by decide +kernel
theorem dX11_most_97 : decode cX11_most 97 = .ok (.istore 8, 2) := by decide +kernel
theorem dX11_most_99 : decode cX11_most 99 = .ok (.iload 8, 2) := by decide +kernel
theorem dX11_most_101 : decode cX11_most 101 = .ok (.iload 7, 2) := by decide +kernel
theorem dX11_most_103 : decode cX11_most 103 = .ok (.if_icmp .gt 149, 3) := by decide +kernel
theorem dX11_most_106 : decode cX11_most 106 = .ok (.iload 5, 2) := by decide +kernel
theorem dX11_most_108 : decode cX11_most 108 = .ok (.iconst 1, 1) := by decide +kernel
theorem dX11_most_109 : decode cX11_most 109 = .ok (.if_icmp .le 143, 3) := by decide +kernel
theorem dX11_most_112 : decode cX11_most 112 = .ok (.iconst 1, 1) := by decide +kernel
theorem dX11_most_113 : decode cX11_most 113 = .ok (.iload 4, 2) := by decide +kernel
theorem dX11_most_115 : decode cX11_most 115 = .ok (.iload 8, 2) := by decide +kernel
theorem dX11_most_117 : decode cX11_most 117 = .ok (.isub, 1) := by decide +kernel
theorem dX11_most_118 : decode cX11_most 118 = .ok (.ishl, 1) := by decide +kernel
theorem dX11_most_119 : decode cX11_most 119 = .ok (.istore 9, 2) := by decide +kernel
theorem dX11_most_121 : decode cX11_most 121 = .ok (.iload_n 1, 1) := by decide +kernel
theorem dX11_most_122 : decode cX11_most 122 = .ok (.ifCond .ne 7, 3) := by decide +kernel
theorem dX11_most_125 : decode cX11_most 125 = .ok (.iconst 0, 1) := by decide +kernel
theorem dX11_most_126 : decode cX11_most 126 = .ok (.goto 4, 3) := by decide +kernel
theorem dX11_most_129 : decode cX11_most 129 = .ok (.iconst 1, 1) := by decide +kernel
theorem dX11_most_130 : decode cX11_most 130 = .ok (.istore 10, 2) := by decide +kernel
theorem dX11_most_132 : decode cX11_most 132 = .ok (.iload 10, 2) := by decide +kernel
theorem dX11_most_134 : decode cX11_most 134 = .ok (.istore 11, 2) := by decide +kernel
theorem dX11_most_136 : decode cX11_most 136 = .ok (.iload 11, 2) := by decide +kernel
theorem dX11_most_138 : decode cX11_most 138 = .ok (.iload 5, 2) := by decide +kernel
theorem dX11_most_140 : decode cX11_most 140 = .ok (.iload 10, 2) := by decide +kernel
theorem dX11_most_142 : decode cX11_most 142 = .ok (.isub, 1) := by decide +kernel
theorem dX11_most_143 : decode cX11_most 143 = .ok (.if_icmp .gt 103, 3) := by decide +kernel
theorem dX11_most_146 : decode cX11_most 146 = .ok (.iload 11, 2) := by decide +kernel
theorem dX11_most_148 : decode cX11_most 148 = .ok (.iload 9, 2) := by decide +kernel
theorem dX11_most_150 : decode cX11_most 150 = .ok (.if_icmp .gt 90, 3) := by decide +kernel
theorem dX11_most_153 : decode cX11_most 153 = .ok (.iload 5, 2) := by decide +kernel
theorem dX11_most_155 : decode cX11_most 155 = .ok (.iload 11, 2) := by decide +kernel
theorem dX11_most_157 : decode cX11_most 157 = .ok (.isub, 1) := by decide +kernel
theorem dX11_most_158 : decode cX11_most 158 = .ok (.iload 9, 2) := by decide +kernel
theorem dX11_most_160 : decode cX11_most 160 = .ok (.if_icmp .gt 80, 3) := by decide +kernel
theorem dX11_most_163 : decode cX11_most 163 = .ok (.iconst 1, 1) := by decide +kernel
theorem dX11_most_164 : decode cX11_most 164 = .ok (.aload_n 0, 1) := by decide +kernel
theorem dX11_most_165 : decode cX11_most 165 = .ok (.getfield 57, 3) := by decide +kernel
theorem dX11_most_168 : decode cX11_most 168 = .ok (.bipush 17, 2) := by decide +kernel
theorem dX11_most_170 : decode cX11_most 170 = .ok (.iload 4, 2) := by decide +kernel
theorem dX11_most_172 : decode cX11_most 172 = .ok (.iload 8, 2) := by decide +kernel
theorem dX11_most_174 : decode cX11_most 174 = .ok (.isub, 1) := by decide +kernel
theorem dX11_most_175 : decode cX11_most 175 = .ok (.imul, 1) := by decide +kernel
theorem dX11_most_176 : decode cX11_most 176 = .ok (.iload 11, 2) := by decide +kernel
theorem dX11_most_178 : decode cX11_most 178 = .ok (.iadd, 1) := by decide +kernel
theorem dX11_most_179 : decode cX11_most 179 = .ok (.iaload, 1) := by decide +kernel
theorem dX11_most_180 : decode cX11_most 180 = .ok (.iadd, 1) := by decide +kernel
theorem dX11_most_181 : decode cX11_most 181 = .ok (.aload_n 0, 1) := by decide +kernel
theorem dX11_most_182 : decode cX11_most 182 = .ok (.getfield 57, 3) := by decide +kernel
theorem dX11_most_185 : decode cX11_most 185 = .ok (.bipush 17, 2) := by decide +kernel
theorem dX11_most_187 : decode cX11_most 187 = .ok (.iload 4, 2) := by decide +kernel
theorem dX11_most_189 : decode cX11_most 189 = .ok (.iload 8, 2) := by decide +kernel
theorem dX11_most_191 : decode cX11_most 191 = .ok (.isub, 1) := by decide +kernel
theorem dX11_most_192 : decode cX11_most 192 = .ok (.imul, 1) := by decide +kernel
theorem dX11_most_193 : decode cX11_most 193 = .ok (.iload 5, 2) := by decide +kernel
theorem dX11_most_195 : decode cX11_most 195 = .ok (.iadd, 1) := by decide +kernel
theorem dX11_most_196 : decode cX11_most 196 = .ok (.iload 11, 2) := by decide +kernel
theorem dX11_most_198 : decode cX11_most 198 = .ok (.isub, 1) := by decide +kernel
theorem dX11_most_199 : decode cX11_most 199 = .ok (.iaload, 1) := by decide +kernel
theorem dX11_most_200 : decode cX11_most 200 = .ok (.iadd, 1) := by decide +kernel
theorem dX11_most_201 : decode cX11_most 201 = .ok (.istore 12, 2) := by decide +kernel
theorem dX11_most_203 : decode cX11_most 203 = .ok (.iload 6, 2) := by decide +kernel
theorem dX11_most_205 : decode cX11_most 205 = .ok (.bipush (-4), 2) := by decide +kernel
theorem dX11_most_207 : decode cX11_most 207 = .ok (.if_icmp .eq 24, 3) := by decide +kernel
theorem dX11_most_210 : decode cX11_most 210 = .ok (.iload_n 3, 1) := by decide +kernel
theorem dX11_most_211 : decode cX11_most 211 = .ok (.ifCond .ne 13, 3) := by decide +kernel
theorem dX11_most_214 : decode cX11_most 214 = .ok (.iload 12, 2) := by decide +kernel
theorem dX11_most_216 : decode cX11_most 216 = .ok (.iload 6, 2) := by decide +kernel
theorem dX11_most_218 : decode cX11_most 218 = .ok (.if_icmp .le 18, 3) := by decide +kernel
theorem dX11_most_221 : decode cX11_most 221 = .ok (.goto 10, 3) := by decide +kernel
theorem dX11_most_224 : decode cX11_most 224 = .ok (.iload 12, 2) := by decide +kernel
theorem dX11_most_226 : decode cX11_most 226 = .ok (.iload 6, 2) := by decide +kernel
theorem dX11_most_228 : decode cX11_most 228 = .ok (.if_icmp .ge 8, 3) := by decide +kernel
theorem dX11_most_231 : decode cX11_most 231 = .ok (.iload 12, 2) := by decide +kernel
theorem dX11_most_233 : decode cX11_most 233 = .ok (.goto 5, 3) := by decide +kernel
theorem dX11_most_236 : decode cX11_most 236 = .ok (.iload 6, 2) := by decide +kernel
theorem dX11_most_238 : decode cX11_most 238 = .ok (.istore 6, 2) := by decide +kernel
theorem dX11_most_240 : decode cX11_most 240 = .ok (.iinc 11 1, 3) := by decide +kernel
theorem dX11_most_243 : decode cX11_most 243 = .ok (.goto (-107), 3) := by decide +kernel
theorem dX11_most_246 : decode cX11_most 246 = .ok (.iinc 8 1, 3) := by decide +kernel
theorem dX11_most_249 : decode cX11_most 249 = .ok (.goto (-150), 3) := by decide +kernel
theorem dX11_most_252 : decode cX11_most 252 = .ok (.aload_n 0, 1) := by decide +kernel
theorem dX11_most_253 : decode cX11_most 253 = .ok (.getfield 57, 3) := by decide +kernel
theorem dX11_most_256 : decode cX11_most 256 = .ok (.bipush 17, 2) := by decide +kernel
theorem dX11_most_258 : decode cX11_most 258 = .ok (.iload 4, 2) := by decide +kernel
theorem dX11_most_260 : decode cX11_most 260 = .ok (.imul, 1) := by decide +kernel
theorem dX11_most_261 : decode cX11_most 261 = .ok (.iload 5, 2) := by decide +kernel
theorem dX11_most_263 : decode cX11_most 263 = .ok (.iadd, 1) := by decide +kernel
theorem dX11_most_264 : decode cX11_most 264 = .ok (.iload 6, 2) := by decide +kernel
theorem dX11_most_266 : decode cX11_most 266 = .ok (.iastore, 1) := by decide +kernel
theorem dX11_most_267 : decode cX11_most 267 = .ok (.iinc 5 1, 3) := by decide +kernel
theorem dX11_most_270 : decode cX11_most 270 = .ok (.goto (-209), 3) := by decide +kernel
theorem dX11_most_273 : decode cX11_most 273 = .ok (.iinc 4 1, 3) := by decide +kernel
theorem dX11_most_276 : decode cX11_most 276 = .ok (.goto (-227), 3) := by decide +kernel
theorem dX11_most_279 : decode cX11_most 279 = .ok (.aload_n 0, 1) := by decide +kernel
theorem dX11_most_280 : decode cX11_most 280 = .ok (.getfield 57, 3) := by decide +kernel
theorem dX11_most_283 : decode cX11_most 283 = .ok (.bipush 17, 2) := by decide +kernel
theorem dX11_most_285 : decode cX11_most 285 = .ok (.aload_n 0, 1) := by decide +kernel
theorem dX11_most_286 : decode cX11_most 286 = .ok (.getfield 7, 3) := by decide +kernel
theorem dX11_most_289 : decode cX11_most 289 = .ok (.imul, 1) := by decide +kernel
theorem dX11_most_290 : decode cX11_most 290 = .ok (.iload_n 2, 1) := by decide +kernel
theorem dX11_most_291 : decode cX11_most 291 = .ok (.iadd, 1) := by decide +kernel
theorem dX11_most_292 : decode cX11_most 292 = .ok (.iaload, 1) := by decide +kernel
theorem dX11_most_293 : decode cX11_most 293 = .ok (.ireturn, 1) := by decide +kernel
theorem dX11_firstDraft_0 : decode cX11_firstDraft 0 = .ok (.iconst 0, 1) := by decide +kernel
theorem dX11_firstDraft_1 : decode cX11_firstDraft 1 = .ok (.istore_n 1, 1) := by decide +kernel
theorem dX11_firstDraft_2 : decode cX11_firstDraft 2 = .ok (.iload_n 1, 1) := by decide +kernel
theorem dX11_firstDraft_3 : decode cX11_firstDraft 3 = .ok (.bipush 9, 2) := by decide +kernel
theorem dX11_firstDraft_5 : decode cX11_firstDraft 5 = .ok (.if_icmp .ge 99, 3) := by decide +kernel
theorem dX11_firstDraft_8 : decode cX11_firstDraft 8 = .ok (.aload_n 0, 1) := by decide +kernel
theorem dX11_firstDraft_9 : decode cX11_firstDraft 9 = .ok (.getfield 66, 3) := by decide +kernel
theorem dX11_firstDraft_12 : decode cX11_firstDraft 12 = .ok (.iload_n 1, 1) := by decide +kernel
theorem dX11_firstDraft_13 : decode cX11_firstDraft 13 = .ok (.iconst 0, 1) := by decide +kernel
theorem dX11_firstDraft_14 : decode cX11_firstDraft 14 = .ok (.bastore, 1) := by decide +kernel
theorem dX11_firstDraft_15 : decode cX11_firstDraft 15 = .ok (.aload_n 0, 1) := by decide +kernel
theorem dX11_firstDraft_16 : decode cX11_firstDraft 16 = .ok (.getfield 63, 3) := by decide +kernel
theorem dX11_firstDraft_19 : decode cX11_firstDraft 19 = .ok (.iload_n 1, 1) := by decide +kernel
theorem dX11_firstDraft_20 : decode cX11_firstDraft 20 = .ok (.iload_n 1, 1) := by decide +kernel
theorem dX11_firstDraft_21 : decode cX11_firstDraft 21 = .ok (.ifCond .ne 8, 3) := by decide +kernel
theorem dX11_firstDraft_24 : decode cX11_firstDraft 24 = .ok (.bipush 8, 2) := by decide +kernel
theorem dX11_firstDraft_26 : decode cX11_firstDraft 26 = .ok (.goto 71, 3) := by decide +kernel
theorem dX11_firstDraft_29 : decode cX11_firstDraft 29 = .ok (.iload_n 1, 1) := by decide +kernel
theorem dX11_firstDraft_30 : decode cX11_firstDraft 30 = .ok (.iconst 1, 1) := by decide +kernel
theorem dX11_firstDraft_31 : decode cX11_firstDraft 31 = .ok (.if_icmp .ne 7, 3) := by decide +kernel
theorem dX11_firstDraft_34 : decode cX11_firstDraft 34 = .ok (.iconst 1, 1) := by decide +kernel
theorem dX11_firstDraft_35 : decode cX11_firstDraft 35 = .ok (.goto 62, 3) := by decide +kernel
theorem dX11_firstDraft_38 : decode cX11_firstDraft 38 = .ok (.iload_n 1, 1) := by decide +kernel
theorem dX11_firstDraft_39 : decode cX11_firstDraft 39 = .ok (.iconst 2, 1) := by decide +kernel
theorem dX11_firstDraft_40 : decode cX11_firstDraft 40 = .ok (.if_icmp .ne 8, 3) := by decide +kernel
theorem dX11_firstDraft_43 : decode cX11_firstDraft 43 = .ok (.bipush 64, 2) := by decide +kernel
theorem dX11_firstDraft_45 : decode cX11_firstDraft 45 = .ok (.goto 52, 3) := by decide +kernel
theorem dX11_firstDraft_48 : decode cX11_firstDraft 48 = .ok (.iload_n 1, 1) := by decide +kernel
theorem dX11_firstDraft_49 : decode cX11_firstDraft 49 = .ok (.iconst 3, 1) := by decide +kernel
theorem dX11_firstDraft_50 : decode cX11_firstDraft 50 = .ok (.if_icmp .eq 8, 3) := by decide +kernel
theorem dX11_firstDraft_53 : decode cX11_firstDraft 53 = .ok (.iload_n 1, 1) := by decide +kernel
theorem dX11_firstDraft_54 : decode cX11_firstDraft 54 = .ok (.iconst 5, 1) := by decide +kernel
theorem dX11_firstDraft_55 : decode cX11_firstDraft 55 = .ok (.if_icmp .ne 8, 3) := by decide +kernel
theorem dX11_firstDraft_58 : decode cX11_firstDraft 58 = .ok (.bipush 60, 2) := by decide +kernel
theorem dX11_firstDraft_60 : decode cX11_firstDraft 60 = .ok (.goto 37, 3) := by decide +kernel
theorem dX11_firstDraft_63 : decode cX11_firstDraft 63 = .ok (.iload_n 1, 1) := by decide +kernel
theorem dX11_firstDraft_64 : decode cX11_firstDraft 64 = .ok (.iconst 4, 1) := by decide +kernel
theorem dX11_firstDraft_65 : decode cX11_firstDraft 65 = .ok (.if_icmp .ne 9, 3) := by decide +kernel
theorem dX11_firstDraft_68 : decode cX11_firstDraft 68 = .ok (.sipush 200, 3) := by decide +kernel
theorem dX11_firstDraft_71 : decode cX11_firstDraft 71 = .ok (.goto 26, 3) := by decide +kernel
theorem dX11_firstDraft_74 : decode cX11_firstDraft 74 = .ok (.iload_n 1, 1) := by decide +kernel
theorem dX11_firstDraft_75 : decode cX11_firstDraft 75 = .ok (.bipush 6, 2) := by decide +kernel
theorem dX11_firstDraft_77 : decode cX11_firstDraft 77 = .ok (.if_icmp .ne 8, 3) := by decide +kernel
theorem dX11_firstDraft_80 : decode cX11_firstDraft 80 = .ok (.bipush 50, 2) := by decide +kernel
theorem dX11_firstDraft_82 : decode cX11_firstDraft 82 = .ok (.goto 15, 3) := by decide +kernel
theorem dX11_firstDraft_85 : decode cX11_firstDraft 85 = .ok (.iload_n 1, 1) := by decide +kernel
theorem dX11_firstDraft_86 : decode cX11_firstDraft 86 = .ok (.bipush 7, 2) := by decide +kernel
theorem dX11_firstDraft_88 : decode cX11_firstDraft 88 = .ok (.if_icmp .ne 7, 3) := by decide +kernel
theorem dX11_firstDraft_91 : decode cX11_firstDraft 91 = .ok (.iconst 0, 1) := by decide +kernel
theorem dX11_firstDraft_92 : decode cX11_firstDraft 92 = .ok (.goto 5, 3) := by decide +kernel
theorem dX11_firstDraft_95 : decode cX11_firstDraft 95 = .ok (.bipush 20, 2) := by decide +kernel
theorem dX11_firstDraft_97 : decode cX11_firstDraft 97 = .ok (.iastore, 1) := by decide +kernel
theorem dX11_firstDraft_98 : decode cX11_firstDraft 98 = .ok (.iinc 1 1, 3) := by decide +kernel
theorem dX11_firstDraft_101 : decode cX11_firstDraft 101 = .ok (.goto (-99), 3) := by decide +kernel
theorem dX11_firstDraft_104 : decode cX11_firstDraft 104 = .ok (.return_, 1) := by decide +kernel
theorem dX11_keepDraft_0 : decode cX11_keepDraft 0 = .ok (.iconst 0, 1) := by decide +kernel
theorem dX11_keepDraft_1 : decode cX11_keepDraft 1 = .ok (.istore_n 1, 1) := by decide +kernel
theorem dX11_keepDraft_2 : decode cX11_keepDraft 2 = .ok (.iload_n 1, 1) := by decide +kernel
theorem dX11_keepDraft_3 : decode cX11_keepDraft 3 = .ok (.bipush 9, 2) := by decide +kernel
theorem dX11_keepDraft_5 : decode cX11_keepDraft 5 = .ok (.if_icmp .ge 21, 3) := by decide +kernel
theorem dX11_keepDraft_8 : decode cX11_keepDraft 8 = .ok (.aload_n 0, 1) := by decide +kernel
theorem dX11_keepDraft_9 : decode cX11_keepDraft 9 = .ok (.getfield 60, 3) := by decide +kernel
theorem dX11_keepDraft_12 : decode cX11_keepDraft 12 = .ok (.iload_n 1, 1) := by decide +kernel
theorem dX11_keepDraft_13 : decode cX11_keepDraft 13 = .ok (.aload_n 0, 1) := by decide +kernel
theorem dX11_keepDraft_14 : decode cX11_keepDraft 14 = .ok (.getfield 63, 3) := by decide +kernel
theorem dX11_keepDraft_17 : decode cX11_keepDraft 17 = .ok (.iload_n 1, 1) := by decide +kernel
theorem dX11_keepDraft_18 : decode cX11_keepDraft 18 = .ok (.iaload, 1) := by decide +kernel
theorem dX11_keepDraft_19 : decode cX11_keepDraft 19 = .ok (.iastore, 1) := by decide +kernel
theorem dX11_keepDraft_20 : decode cX11_keepDraft 20 = .ok (.iinc 1 1, 3) := by decide +kernel
theorem dX11_keepDraft_23 : decode cX11_keepDraft 23 = .ok (.goto (-21), 3) := by decide +kernel
theorem dX11_keepDraft_26 : decode cX11_keepDraft 26 = .ok (.return_, 1) := by decide +kernel
theorem dX11_feed_0 : decode cX11_feed 0 = .ok (.aload_n 0, 1) := by decide +kernel
theorem dX11_feed_1 : decode cX11_feed 1 = .ok (.getfield 184, 3) := by decide +kernel
theorem dX11_feed_4 : decode cX11_feed 4 = .ok (.bipush 8, 2) := by decide +kernel
theorem dX11_feed_6 : decode cX11_feed 6 = .ok (.iadd, 1) := by decide +kernel
theorem dX11_feed_7 : decode cX11_feed 7 = .ok (.sipush 200, 3) := by decide +kernel
theorem dX11_feed_10 : decode cX11_feed 10 = .ok (.if_icmp .le 6, 3) := by decide +kernel
theorem dX11_feed_13 : decode cX11_feed 13 = .ok (.bipush (-3), 2) := by decide +kernel
theorem dX11_feed_15 : decode cX11_feed 15 = .ok (.ireturn, 1) := by decide +kernel
theorem dX11_feed_16 : decode cX11_feed 16 = .ok (.bipush 56, 2) := by decide +kernel
theorem dX11_feed_18 : decode cX11_feed 18 = .ok (.istore_n 3, 1) := by decide +kernel
theorem dX11_feed_19 : decode cX11_feed 19 = .ok (.iload_n 3, 1) := by decide +kernel
theorem dX11_feed_20 : decode cX11_feed 20 = .ok (.ifCond .lt 36, 3) := by decide +kernel
theorem dX11_feed_23 : decode cX11_feed 23 = .ok (.aload_n 0, 1) := by decide +kernel
theorem dX11_feed_24 : decode cX11_feed 24 = .ok (.getfield 69, 3) := by decide +kernel
theorem dX11_feed_27 : decode cX11_feed 27 = .ok (.aload_n 0, 1) := by decide +kernel
theorem dX11_feed_28 : decode cX11_feed 28 = .ok (.getfield 184, 3) := by decide +kernel
theorem dX11_feed_31 : decode cX11_feed 31 = .ok (.lload_n 1, 1) := by decide +kernel
theorem dX11_feed_32 : decode cX11_feed 32 = .ok (.iload_n 3, 1) := by decide +kernel
theorem dX11_feed_33 : decode cX11_feed 33 = .ok (.lshr, 1) := by decide +kernel
theorem dX11_feed_34 : decode cX11_feed 34 = .ok (.ldc2_w 187, 3) := by decide +kernel
theorem dX11_feed_37 : decode cX11_feed 37 = .ok (.land, 1) := by decide +kernel
theorem dX11_feed_38 : decode cX11_feed 38 = .ok (.l2i, 1) := by decide +kernel
theorem dX11_feed_39 : decode cX11_feed 39 = .ok (.iastore, 1) := by decide +kernel
theorem dX11_feed_40 : decode cX11_feed 40 = .ok (.aload_n 0, 1) := by decide +kernel
theorem dX11_feed_41 : decode cX11_feed 41 = .ok (.dup, 1) := by decide +kernel
theorem dX11_feed_42 : decode cX11_feed 42 = .ok (.getfield 184, 3) := by decide +kernel
theorem dX11_feed_45 : decode cX11_feed 45 = .ok (.iconst 1, 1) := by decide +kernel
theorem dX11_feed_46 : decode cX11_feed 46 = .ok (.iadd, 1) := by decide +kernel
theorem dX11_feed_47 : decode cX11_feed 47 = .ok (.putfield 184, 3) := by decide +kernel
theorem dX11_feed_50 : decode cX11_feed 50 = .ok (.iinc 3 (-8), 3) := by decide +kernel
theorem dX11_feed_53 : decode cX11_feed 53 = .ok (.goto (-34), 3) := by decide +kernel
theorem dX11_feed_56 : decode cX11_feed 56 = .ok (.aload_n 0, 1) := by decide +kernel
theorem dX11_feed_57 : decode cX11_feed 57 = .ok (.getfield 184, 3) := by decide +kernel
theorem dX11_feed_60 : decode cX11_feed 60 = .ok (.ireturn, 1) := by decide +kernel
set_option maxRecDepth 20000 in
theorem ggX11_end_X11_in : GoodIn wsX11_end wsX11_in := goodIn_r _ [5] (by decide +kernel) (by decide +kernel)
set_option maxRecDepth 20000 in
theorem gX11_end_X11_in : GoodIn wsX11_end (va_wsS RX11 103 yX11_in wsX11_in) := goodIn_app (goodIn_of _ (by decide +kernel)) ggX11_end_X11_in
theorem dX11_end_0 : decode cX11_end 0 = .ok (.iload_n 1, 1) := by decide +kernel
theorem dX11_end_1 : decode cX11_end 1 = .ok (.i2l, 1) := by decide +kernel
theorem dX11_end_2 : decode cX11_end 2 = .ok (.lconst 0, 1) := by decide +kernel
theorem dX11_end_3 : decode cX11_end 3 = .ok (.aload_n 0, 1) := by decide +kernel
theorem dX11_end_4 : decode cX11_end 4 = .ok (.getfield 184, 3) := by decide +kernel
theorem dX11_end_7 : decode cX11_end 7 = .ok (.i2l, 1) := by decide +kernel
theorem dX11_end_8 : decode cX11_end 8 = .ok (.invokestatic 103, 3) := by decide +kernel
theorem dX11_end_11 : decode cX11_end 11 = .ok (.ifCond .ne 5, 3) := by decide +kernel
theorem dX11_end_14 : decode cX11_end 14 = .ok (.iconst (-1), 1) := by decide +kernel
theorem dX11_end_15 : decode cX11_end 15 = .ok (.ireturn, 1) := by decide +kernel
theorem dX11_end_16 : decode cX11_end 16 = .ok (.aload_n 0, 1) := by decide +kernel
theorem dX11_end_17 : decode cX11_end 17 = .ok (.getfield 184, 3) := by decide +kernel
theorem dX11_end_20 : decode cX11_end 20 = .ok (.istore_n 2, 1) := by decide +kernel
theorem dX11_end_21 : decode cX11_end 21 = .ok (.aload_n 0, 1) := by decide +kernel
theorem dX11_end_22 : decode cX11_end 22 = .ok (.iload_n 1, 1) := by decide +kernel
theorem dX11_end_23 : decode cX11_end 23 = .ok (.putfield 184, 3) := by decide +kernel
theorem dX11_end_26 : decode cX11_end 26 = .ok (.iload_n 2, 1) := by decide +kernel
theorem dX11_end_27 : decode cX11_end 27 = .ok (.ireturn, 1) := by decide +kernel
theorem dX11_wants_0 : decode cX11_wants 0 = .ok (.iload_n 1, 1) := by decide +kernel
theorem dX11_wants_1 : decode cX11_wants 1 = .ok (.ifCond .ne 23, 3) := by decide +kernel
theorem dX11_wants_4 : decode cX11_wants 4 = .ok (.aload_n 0, 1) := by decide +kernel
theorem dX11_wants_5 : decode cX11_wants 5 = .ok (.getfield 189, 3) := by decide +kernel
theorem dX11_wants_8 : decode cX11_wants 8 = .ok (.ifCond .ne 16, 3) := by decide +kernel
theorem dX11_wants_11 : decode cX11_wants 11 = .ok (.aload_n 0, 1) := by decide +kernel
theorem dX11_wants_12 : decode cX11_wants 12 = .ok (.iload_n 2, 1) := by decide +kernel
theorem dX11_wants_13 : decode cX11_wants 13 = .ok (.putfield 189, 3) := by decide +kernel
theorem dX11_wants_16 : decode cX11_wants 16 = .ok (.aload_n 0, 1) := by decide +kernel
theorem dX11_wants_17 : decode cX11_wants 17 = .ok (.aload_n 0, 1) := by decide +kernel
theorem dX11_wants_18 : decode cX11_wants 18 = .ok (.getfield 192, 3) := by decide +kernel
theorem dX11_wants_21 : decode cX11_wants 21 = .ok (.putfield 195, 3) := by decide +kernel
theorem dX11_wants_24 : decode cX11_wants 24 = .ok (.return_, 1) := by decide +kernel
theorem dX11_look_0 : decode cX11_look 0 = .ok (.iload_n 1, 1) := by decide +kernel
theorem dX11_look_1 : decode cX11_look 1 = .ok (.aload_n 0, 1) := by decide +kernel
theorem dX11_look_2 : decode cX11_look 2 = .ok (.getfield 184, 3) := by decide +kernel
theorem dX11_look_5 : decode cX11_look 5 = .ok (.if_icmp .ge 12, 3) := by decide +kernel
theorem dX11_look_8 : decode cX11_look 8 = .ok (.aload_n 0, 1) := by decide +kernel
theorem dX11_look_9 : decode cX11_look 9 = .ok (.getfield 69, 3) := by decide +kernel
theorem dX11_look_12 : decode cX11_look 12 = .ok (.iload_n 1, 1) := by decide +kernel
theorem dX11_look_13 : decode cX11_look 13 = .ok (.iaload, 1) := by decide +kernel
theorem dX11_look_14 : decode cX11_look 14 = .ok (.goto 4, 3) := by decide +kernel
theorem dX11_look_17 : decode cX11_look 17 = .ok (.iconst (-1), 1) := by decide +kernel
theorem dX11_look_18 : decode cX11_look 18 = .ok (.ireturn, 1) := by decide +kernel
set_option maxRecDepth 20000 in
theorem ggX11_is_X11_look : GoodIn wsX11_is wsX11_look := goodIn_r _ [7, 8, 9, 10, 11, 12, 13, 14, 15, 16, 17, 18, 19, 20, 21, 22, 23, 24, 25, 26, 27, 28, 29, 30, 31, 32, 33, 34, 35, 36, 37, 38, 39, 40, 41, 42, 43, 44, 45, 46, 47, 48, 49, 50, 51, 52, 53, 54, 55, 56, 57] (by decide +kernel) (by decide +kernel)
set_option maxRecDepth 20000 in
theorem gX11_is_X11_look : GoodIn wsX11_is (wsV RX11 201 RX11 yX11_look wsX11_look) := goodIn_app (goodIn_of _ (by decide +kernel)) ggX11_is_X11_look
theorem dX11_is_0 : decode cX11_is 0 = .ok (.aload_n 0, 1) := by decide +kernel
theorem dX11_is_1 : decode cX11_is 1 = .ok (.getfield 198, 3) := by decide +kernel
theorem dX11_is_4 : decode cX11_is 4 = .ok (.aload_n 0, 1) := by decide +kernel
theorem dX11_is_5 : decode cX11_is 5 = .ok (.getfield 192, 3) := by decide +kernel
theorem dX11_is_8 : decode cX11_is 8 = .ok (.isub, 1) := by decide +kernel
theorem dX11_is_9 : decode cX11_is 9 = .ok (.iload_n 1, 1) := by decide +kernel
theorem dX11_is_10 : decode cX11_is 10 = .ok (.if_icmp .ne 63, 3) := by decide +kernel
theorem dX11_is_13 : decode cX11_is 13 = .ok (.aload_n 0, 1) := by decide +kernel
theorem dX11_is_14 : decode cX11_is 14 = .ok (.aload_n 0, 1) := by decide +kernel
theorem dX11_is_15 : decode cX11_is 15 = .ok (.getfield 192, 3) := by decide +kernel
theorem dX11_is_18 : decode cX11_is 18 = .ok (.invokevirtual 201, 3) := by decide +kernel
theorem dX11_is_21 : decode cX11_is 21 = .ok (.iload_n 2, 1) := by decide +kernel
theorem dX11_is_22 : decode cX11_is 22 = .ok (.if_icmp .ne 51, 3) := by decide +kernel
theorem dX11_is_25 : decode cX11_is 25 = .ok (.aload_n 0, 1) := by decide +kernel
theorem dX11_is_26 : decode cX11_is 26 = .ok (.aload_n 0, 1) := by decide +kernel
theorem dX11_is_27 : decode cX11_is 27 = .ok (.getfield 192, 3) := by decide +kernel
theorem dX11_is_30 : decode cX11_is 30 = .ok (.iconst 1, 1) := by decide +kernel
theorem dX11_is_31 : decode cX11_is 31 = .ok (.iadd, 1) := by decide +kernel
theorem dX11_is_32 : decode cX11_is 32 = .ok (.invokevirtual 201, 3) := by decide +kernel
theorem dX11_is_35 : decode cX11_is 35 = .ok (.iload_n 3, 1) := by decide +kernel
theorem dX11_is_36 : decode cX11_is 36 = .ok (.if_icmp .ne 37, 3) := by decide +kernel
theorem dX11_is_39 : decode cX11_is 39 = .ok (.aload_n 0, 1) := by decide +kernel
theorem dX11_is_40 : decode cX11_is 40 = .ok (.aload_n 0, 1) := by decide +kernel
theorem dX11_is_41 : decode cX11_is 41 = .ok (.getfield 192, 3) := by decide +kernel
theorem dX11_is_44 : decode cX11_is 44 = .ok (.iconst 2, 1) := by decide +kernel
theorem dX11_is_45 : decode cX11_is 45 = .ok (.iadd, 1) := by decide +kernel
theorem dX11_is_46 : decode cX11_is 46 = .ok (.invokevirtual 201, 3) := by decide +kernel
theorem dX11_is_49 : decode cX11_is 49 = .ok (.iload 4, 2) := by decide +kernel
theorem dX11_is_51 : decode cX11_is 51 = .ok (.if_icmp .ne 22, 3) := by decide +kernel
theorem dX11_is_54 : decode cX11_is 54 = .ok (.aload_n 0, 1) := by decide +kernel
theorem dX11_is_55 : decode cX11_is 55 = .ok (.aload_n 0, 1) := by decide +kernel
theorem dX11_is_56 : decode cX11_is 56 = .ok (.getfield 192, 3) := by decide +kernel
theorem dX11_is_59 : decode cX11_is 59 = .ok (.iconst 3, 1) := by decide +kernel
theorem dX11_is_60 : decode cX11_is 60 = .ok (.iadd, 1) := by decide +kernel
theorem dX11_is_61 : decode cX11_is 61 = .ok (.invokevirtual 201, 3) := by decide +kernel
theorem dX11_is_64 : decode cX11_is 64 = .ok (.iload 5, 2) := by decide +kernel
theorem dX11_is_66 : decode cX11_is 66 = .ok (.if_icmp .ne 7, 3) := by decide +kernel
theorem dX11_is_69 : decode cX11_is 69 = .ok (.iconst 1, 1) := by decide +kernel
theorem dX11_is_70 : decode cX11_is 70 = .ok (.goto 4, 3) := by decide +kernel
theorem dX11_is_73 : decode cX11_is 73 = .ok (.iconst 0, 1) := by decide +kernel
theorem dX11_is_74 : decode cX11_is 74 = .ok (.ireturn, 1) := by decide +kernel
set_option maxRecDepth 20000 in
theorem ggX11_nameNow_X11_is : GoodIn wsX11_nameNow wsX11_is := goodIn_r _ [6, 7, 1, 8, 9, 10, 5, 11, 12, 13, 14, 15, 16, 17, 18, 19, 20, 21, 22, 23, 24, 25, 26, 27, 28, 29, 30, 31, 32, 33, 34, 35, 36, 37, 38, 39, 40, 41, 42, 43, 44, 45, 46, 47, 48, 49, 50, 51, 52, 53, 54, 55, 56, 57, 58, 59, 60, 61] (by decide +kernel) (by decide +kernel)
set_option maxRecDepth 20000 in
theorem gX11_nameNow_X11_is : GoodIn wsX11_nameNow (wsV RX11 204 RX11 yX11_is wsX11_is) := goodIn_app (goodIn_of _ (by decide +kernel)) ggX11_nameNow_X11_is
set_option maxRecDepth 20000 in
theorem ggX11_nameNow_X11_look : GoodIn wsX11_nameNow wsX11_look := goodIn_r _ [11, 12, 13, 14, 15, 16, 17, 18, 19, 20, 21, 22, 23, 24, 25, 26, 27, 28, 29, 30, 31, 32, 33, 34, 35, 36, 37, 38, 39, 40, 41, 42, 43, 44, 45, 46, 47, 48, 49, 50, 51, 52, 53, 54, 55, 56, 57, 58, 59, 60, 61] (by decide +kernel) (by decide +kernel)
set_option maxRecDepth 20000 in
theorem gX11_nameNow_X11_look : GoodIn wsX11_nameNow (wsV RX11 201 RX11 yX11_look wsX11_look) := goodIn_app (goodIn_of _ (by decide +kernel)) ggX11_nameNow_X11_look
theorem dX11_nameNow_0 : decode cX11_nameNow 0 = .ok (.aload_n 0, 1) := by decide +kernel
theorem dX11_nameNow_1 : decode cX11_nameNow 1 = .ok (.iconst 5, 1) := by decide +kernel
theorem dX11_nameNow_2 : decode cX11_nameNow 2 = .ok (.bipush 102, 2) := by decide +kernel
theorem dX11_nameNow_4 : decode cX11_nameNow 4 = .ok (.bipush 114, 2) := by decide +kernel
theorem dX11_nameNow_6 : decode cX11_nameNow 6 = .ok (.bipush 97, 2) := by decide +kernel
theorem dX11_nameNow_8 : decode cX11_nameNow 8 = .ok (.bipush 109, 2) := by decide +kernel
theorem dX11_nameNow_10 : decode cX11_nameNow 10 = .ok (.invokevirtual 204, 3) := by decide +kernel
theorem dX11_nameNow_13 : decode cX11_nameNow 13 = .ok (.ifCond .eq 20, 3) := by decide +kernel
theorem dX11_nameNow_16 : decode cX11_nameNow 16 = .ok (.aload_n 0, 1) := by decide +kernel
theorem dX11_nameNow_17 : decode cX11_nameNow 17 = .ok (.aload_n 0, 1) := by decide +kernel
theorem dX11_nameNow_18 : decode cX11_nameNow 18 = .ok (.getfield 192, 3) := by decide +kernel
theorem dX11_nameNow_21 : decode cX11_nameNow 21 = .ok (.iconst 4, 1) := by decide +kernel
theorem dX11_nameNow_22 : decode cX11_nameNow 22 = .ok (.iadd, 1) := by decide +kernel
theorem dX11_nameNow_23 : decode cX11_nameNow 23 = .ok (.invokevirtual 201, 3) := by decide +kernel
theorem dX11_nameNow_26 : decode cX11_nameNow 26 = .ok (.bipush 101, 2) := by decide +kernel
theorem dX11_nameNow_28 : decode cX11_nameNow 28 = .ok (.if_icmp .ne 5, 3) := by decide +kernel
theorem dX11_nameNow_31 : decode cX11_nameNow 31 = .ok (.iconst 0, 1) := by decide +kernel
theorem dX11_nameNow_32 : decode cX11_nameNow 32 = .ok (.ireturn, 1) := by decide +kernel
theorem dX11_nameNow_33 : decode cX11_nameNow 33 = .ok (.aload_n 0, 1) := by decide +kernel
theorem dX11_nameNow_34 : decode cX11_nameNow 34 = .ok (.iconst 5, 1) := by decide +kernel
theorem dX11_nameNow_35 : decode cX11_nameNow 35 = .ok (.bipush 108, 2) := by decide +kernel
theorem dX11_nameNow_37 : decode cX11_nameNow 37 = .ok (.bipush 101, 2) := by decide +kernel
theorem dX11_nameNow_39 : decode cX11_nameNow 39 = .ok (.bipush 97, 2) := by decide +kernel
theorem dX11_nameNow_41 : decode cX11_nameNow 41 = .ok (.bipush 115, 2) := by decide +kernel
theorem dX11_nameNow_43 : decode cX11_nameNow 43 = .ok (.invokevirtual 204, 3) := by decide +kernel
theorem dX11_nameNow_46 : decode cX11_nameNow 46 = .ok (.ifCond .eq 20, 3) := by decide +kernel
theorem dX11_nameNow_49 : decode cX11_nameNow 49 = .ok (.aload_n 0, 1) := by decide +kernel
theorem dX11_nameNow_50 : decode cX11_nameNow 50 = .ok (.aload_n 0, 1) := by decide +kernel
theorem dX11_nameNow_51 : decode cX11_nameNow 51 = .ok (.getfield 192, 3) := by decide +kernel
theorem dX11_nameNow_54 : decode cX11_nameNow 54 = .ok (.iconst 4, 1) := by decide +kernel
theorem dX11_nameNow_55 : decode cX11_nameNow 55 = .ok (.iadd, 1) := by decide +kernel
theorem dX11_nameNow_56 : decode cX11_nameNow 56 = .ok (.invokevirtual 201, 3) := by decide +kernel
theorem dX11_nameNow_59 : decode cX11_nameNow 59 = .ok (.bipush 116, 2) := by decide +kernel
theorem dX11_nameNow_61 : decode cX11_nameNow 61 = .ok (.if_icmp .ne 5, 3) := by decide +kernel
theorem dX11_nameNow_64 : decode cX11_nameNow 64 = .ok (.iconst 1, 1) := by decide +kernel
theorem dX11_nameNow_65 : decode cX11_nameNow 65 = .ok (.ireturn, 1) := by decide +kernel
theorem dX11_nameNow_66 : decode cX11_nameNow 66 = .ok (.aload_n 0, 1) := by decide +kernel
theorem dX11_nameNow_67 : decode cX11_nameNow 67 = .ok (.iconst 4, 1) := by decide +kernel
theorem dX11_nameNow_68 : decode cX11_nameNow 68 = .ok (.bipush 109, 2) := by decide +kernel
theorem dX11_nameNow_70 : decode cX11_nameNow 70 = .ok (.bipush 111, 2) := by decide +kernel
theorem dX11_nameNow_72 : decode cX11_nameNow 72 = .ok (.bipush 115, 2) := by decide +kernel
theorem dX11_nameNow_74 : decode cX11_nameNow 74 = .ok (.bipush 116, 2) := by decide +kernel
theorem dX11_nameNow_76 : decode cX11_nameNow 76 = .ok (.invokevirtual 204, 3) := by decide +kernel
theorem dX11_nameNow_79 : decode cX11_nameNow 79 = .ok (.ifCond .eq 5, 3) := by decide +kernel
theorem dX11_nameNow_82 : decode cX11_nameNow 82 = .ok (.iconst 2, 1) := by decide +kernel
theorem dX11_nameNow_83 : decode cX11_nameNow 83 = .ok (.ireturn, 1) := by decide +kernel
theorem dX11_nameNow_84 : decode cX11_nameNow 84 = .ok (.aload_n 0, 1) := by decide +kernel
theorem dX11_nameNow_85 : decode cX11_nameNow 85 = .ok (.iconst 4, 1) := by decide +kernel
theorem dX11_nameNow_86 : decode cX11_nameNow 86 = .ok (.bipush 103, 2) := by decide +kernel
theorem dX11_nameNow_88 : decode cX11_nameNow 88 = .ok (.bipush 114, 2) := by decide +kernel
theorem dX11_nameNow_90 : decode cX11_nameNow 90 = .ok (.bipush 111, 2) := by decide +kernel
theorem dX11_nameNow_92 : decode cX11_nameNow 92 = .ok (.bipush 119, 2) := by decide +kernel
theorem dX11_nameNow_94 : decode cX11_nameNow 94 = .ok (.invokevirtual 204, 3) := by decide +kernel
theorem dX11_nameNow_97 : decode cX11_nameNow 97 = .ok (.ifCond .eq 5, 3) := by decide +kernel
theorem dX11_nameNow_100 : decode cX11_nameNow 100 = .ok (.iconst 3, 1) := by decide +kernel
theorem dX11_nameNow_101 : decode cX11_nameNow 101 = .ok (.ireturn, 1) := by decide +kernel
theorem dX11_nameNow_102 : decode cX11_nameNow 102 = .ok (.aload_n 0, 1) := by decide +kernel
theorem dX11_nameNow_103 : decode cX11_nameNow 103 = .ok (.bipush 6, 2) := by decide +kernel
theorem dX11_nameNow_105 : decode cX11_nameNow 105 = .ok (.bipush 115, 2) := by decide +kernel
theorem dX11_nameNow_107 : decode cX11_nameNow 107 = .ok (.bipush 104, 2) := by decide +kernel
theorem dX11_nameNow_109 : decode cX11_nameNow 109 = .ok (.bipush 114, 2) := by decide +kernel
theorem dX11_nameNow_111 : decode cX11_nameNow 111 = .ok (.bipush 105, 2) := by decide +kernel
theorem dX11_nameNow_113 : decode cX11_nameNow 113 = .ok (.invokevirtual 204, 3) := by decide +kernel
theorem dX11_nameNow_116 : decode cX11_nameNow 116 = .ok (.ifCond .eq 35, 3) := by decide +kernel
theorem dX11_nameNow_119 : decode cX11_nameNow 119 = .ok (.aload_n 0, 1) := by decide +kernel
theorem dX11_nameNow_120 : decode cX11_nameNow 120 = .ok (.aload_n 0, 1) := by decide +kernel
theorem dX11_nameNow_121 : decode cX11_nameNow 121 = .ok (.getfield 192, 3) := by decide +kernel
theorem dX11_nameNow_124 : decode cX11_nameNow 124 = .ok (.iconst 4, 1) := by decide +kernel
theorem dX11_nameNow_125 : decode cX11_nameNow 125 = .ok (.iadd, 1) := by decide +kernel
theorem dX11_nameNow_126 : decode cX11_nameNow 126 = .ok (.invokevirtual 201, 3) := by decide +kernel
theorem dX11_nameNow_129 : decode cX11_nameNow 129 = .ok (.bipush 110, 2) := by decide +kernel
theorem dX11_nameNow_131 : decode cX11_nameNow 131 = .ok (.if_icmp .ne 20, 3) := by decide +kernel
theorem dX11_nameNow_134 : decode cX11_nameNow 134 = .ok (.aload_n 0, 1) := by decide +kernel
theorem dX11_nameNow_135 : decode cX11_nameNow 135 = .ok (.aload_n 0, 1) := by decide +kernel
theorem dX11_nameNow_136 : decode cX11_nameNow 136 = .ok (.getfield 192, 3) := by decide +kernel
theorem dX11_nameNow_139 : decode cX11_nameNow 139 = .ok (.iconst 5, 1) := by decide +kernel
theorem dX11_nameNow_140 : decode cX11_nameNow 140 = .ok (.iadd, 1) := by decide +kernel
theorem dX11_nameNow_141 : decode cX11_nameNow 141 = .ok (.invokevirtual 201, 3) := by decide +kernel
theorem dX11_nameNow_144 : decode cX11_nameNow 144 = .ok (.bipush 107, 2) := by decide +kernel
theorem dX11_nameNow_146 : decode cX11_nameNow 146 = .ok (.if_icmp .ne 5, 3) := by decide +kernel
theorem dX11_nameNow_149 : decode cX11_nameNow 149 = .ok (.iconst 5, 1) := by decide +kernel
theorem dX11_nameNow_150 : decode cX11_nameNow 150 = .ok (.ireturn, 1) := by decide +kernel
theorem dX11_nameNow_151 : decode cX11_nameNow 151 = .ok (.aload_n 0, 1) := by decide +kernel
theorem dX11_nameNow_152 : decode cX11_nameNow 152 = .ok (.iconst 5, 1) := by decide +kernel
theorem dX11_nameNow_153 : decode cX11_nameNow 153 = .ok (.bipush 97, 2) := by decide +kernel
theorem dX11_nameNow_155 : decode cX11_nameNow 155 = .ok (.bipush 98, 2) := by decide +kernel
theorem dX11_nameNow_157 : decode cX11_nameNow 157 = .ok (.bipush 111, 2) := by decide +kernel
theorem dX11_nameNow_159 : decode cX11_nameNow 159 = .ok (.bipush 118, 2) := by decide +kernel
theorem dX11_nameNow_161 : decode cX11_nameNow 161 = .ok (.invokevirtual 204, 3) := by decide +kernel
theorem dX11_nameNow_164 : decode cX11_nameNow 164 = .ok (.ifCond .eq 21, 3) := by decide +kernel
theorem dX11_nameNow_167 : decode cX11_nameNow 167 = .ok (.aload_n 0, 1) := by decide +kernel
theorem dX11_nameNow_168 : decode cX11_nameNow 168 = .ok (.aload_n 0, 1) := by decide +kernel
theorem dX11_nameNow_169 : decode cX11_nameNow 169 = .ok (.getfield 192, 3) := by decide +kernel
theorem dX11_nameNow_172 : decode cX11_nameNow 172 = .ok (.iconst 4, 1) := by decide +kernel
theorem dX11_nameNow_173 : decode cX11_nameNow 173 = .ok (.iadd, 1) := by decide +kernel
theorem dX11_nameNow_174 : decode cX11_nameNow 174 = .ok (.invokevirtual 201, 3) := by decide +kernel
theorem dX11_nameNow_177 : decode cX11_nameNow 177 = .ok (.bipush 101, 2) := by decide +kernel
theorem dX11_nameNow_179 : decode cX11_nameNow 179 = .ok (.if_icmp .ne 6, 3) := by decide +kernel
theorem dX11_nameNow_182 : decode cX11_nameNow 182 = .ok (.bipush 7, 2) := by decide +kernel
theorem dX11_nameNow_184 : decode cX11_nameNow 184 = .ok (.ireturn, 1) := by decide +kernel
theorem dX11_nameNow_185 : decode cX11_nameNow 185 = .ok (.aload_n 0, 1) := by decide +kernel
theorem dX11_nameNow_186 : decode cX11_nameNow 186 = .ok (.bipush 6, 2) := by decide +kernel
theorem dX11_nameNow_188 : decode cX11_nameNow 188 = .ok (.bipush 114, 2) := by decide +kernel
theorem dX11_nameNow_190 : decode cX11_nameNow 190 = .ok (.bipush 111, 2) := by decide +kernel
theorem dX11_nameNow_192 : decode cX11_nameNow 192 = .ok (.bipush 117, 2) := by decide +kernel
theorem dX11_nameNow_194 : decode cX11_nameNow 194 = .ok (.bipush 110, 2) := by decide +kernel
theorem dX11_nameNow_196 : decode cX11_nameNow 196 = .ok (.invokevirtual 204, 3) := by decide +kernel
theorem dX11_nameNow_199 : decode cX11_nameNow 199 = .ok (.ifCond .eq 38, 3) := by decide +kernel
theorem dX11_nameNow_202 : decode cX11_nameNow 202 = .ok (.aload_n 0, 1) := by decide +kernel
theorem dX11_nameNow_203 : decode cX11_nameNow 203 = .ok (.aload_n 0, 1) := by decide +kernel
theorem dX11_nameNow_204 : decode cX11_nameNow 204 = .ok (.getfield 192, 3) := by decide +kernel
theorem dX11_nameNow_207 : decode cX11_nameNow 207 = .ok (.iconst 4, 1) := by decide +kernel
theorem dX11_nameNow_208 : decode cX11_nameNow 208 = .ok (.iadd, 1) := by decide +kernel
theorem dX11_nameNow_209 : decode cX11_nameNow 209 = .ok (.invokevirtual 201, 3) := by decide +kernel
theorem dX11_nameNow_212 : decode cX11_nameNow 212 = .ok (.bipush 100, 2) := by decide +kernel
theorem dX11_nameNow_214 : decode cX11_nameNow 214 = .ok (.if_icmp .ne 23, 3) := by decide +kernel
theorem dX11_nameNow_217 : decode cX11_nameNow 217 = .ok (.aload_n 0, 1) := by decide +kernel
theorem dX11_nameNow_218 : decode cX11_nameNow 218 = .ok (.aload_n 0, 1) := by decide +kernel
theorem dX11_nameNow_219 : decode cX11_nameNow 219 = .ok (.getfield 192, 3) := by decide +kernel
theorem dX11_nameNow_222 : decode cX11_nameNow 222 = .ok (.iconst 5, 1) := by decide +kernel
theorem dX11_nameNow_223 : decode cX11_nameNow 223 = .ok (.iadd, 1) := by decide +kernel
theorem dX11_nameNow_224 : decode cX11_nameNow 224 = .ok (.invokevirtual 201, 3) := by decide +kernel
theorem dX11_nameNow_227 : decode cX11_nameNow 227 = .ok (.bipush 115, 2) := by decide +kernel
theorem dX11_nameNow_229 : decode cX11_nameNow 229 = .ok (.if_icmp .ne 8, 3) := by decide +kernel
theorem dX11_nameNow_232 : decode cX11_nameNow 232 = .ok (.bipush 8, 2) := by decide +kernel
theorem dX11_nameNow_234 : decode cX11_nameNow 234 = .ok (.goto 5, 3) := by decide +kernel
theorem dX11_nameNow_237 : decode cX11_nameNow 237 = .ok (.bipush (-4), 2) := by decide +kernel
theorem dX11_nameNow_239 : decode cX11_nameNow 239 = .ok (.ireturn, 1) := by decide +kernel
set_option maxRecDepth 20000 in
theorem ggX11_next_X11_look : GoodIn wsX11_next wsX11_look := goodIn_r _ [14, 15, 16, 33, 34, 35, 36, 37, 38, 39, 40, 41, 42, 43, 44, 45, 46, 47, 48, 49, 50, 51, 52, 53, 54, 55, 56, 57, 58, 59, 60, 61, 62, 63, 64, 65, 66, 67, 68, 69, 70, 71, 72, 73, 74, 75, 76, 77, 78, 79, 80] (by decide +kernel) (by decide +kernel)
set_option maxRecDepth 20000 in
theorem gX11_next_X11_look : GoodIn wsX11_next (wsV RX11 201 RX11 yX11_look wsX11_look) := goodIn_app (goodIn_of _ (by decide +kernel)) ggX11_next_X11_look
set_option maxRecDepth 20000 in
theorem ggX11_next_X11_in : GoodIn wsX11_next wsX11_in := goodIn_r _ [19] (by decide +kernel) (by decide +kernel)
set_option maxRecDepth 20000 in
theorem gX11_next_X11_in : GoodIn wsX11_next (va_wsS RX11 103 yX11_in wsX11_in) := goodIn_app (goodIn_of _ (by decide +kernel)) ggX11_next_X11_in
set_option maxRecDepth 20000 in
theorem ggX11_next_X11_nameNow : GoodIn wsX11_next wsX11_nameNow := goodIn_r _ [23, 3, 24, 25, 26, 13, 27, 2, 10, 11, 12, 14, 15, 16, 33, 34, 35, 36, 37, 38, 39, 40, 41, 42, 43, 44, 45, 46, 47, 48, 49, 50, 51, 52, 53, 54, 55, 56, 57, 58, 59, 60, 61, 62, 63, 64, 65, 66, 67, 68, 69, 70, 71, 72, 73, 74, 75, 76, 77, 78, 79, 80] (by decide +kernel) (by decide +kernel)
set_option maxRecDepth 20000 in
theorem gX11_next_X11_nameNow : GoodIn wsX11_next (wsV RX11 215 RX11 yX11_nameNow wsX11_nameNow) := goodIn_app (goodIn_of _ (by decide +kernel)) ggX11_next_X11_nameNow
set_option maxRecDepth 20000 in
theorem ggX11_next_X11_wants : GoodIn wsX11_next wsX11_wants := goodIn_r _ [31, 1, 3, 32, 33, 34, 35, 36, 37, 38, 39, 40, 41, 42, 43, 44, 45, 46, 47, 48, 49, 50, 51, 52, 53, 54, 55, 56, 57, 58, 59, 60, 61, 62, 63, 64, 65, 66, 67, 68, 69, 70, 71, 72, 73, 74, 75, 76, 77, 78, 79, 80] (by decide +kernel) (by decide +kernel)
set_option maxRecDepth 20000 in
theorem gX11_next_X11_wants : GoodIn wsX11_next (wsV RX11 221 RX11 yX11_wants wsX11_wants) := goodIn_app (goodIn_of _ (by decide +kernel)) ggX11_next_X11_wants
theorem dX11_next_0 : decode cX11_next 0 = .ok (.aload_n 0, 1) := by decide +kernel
theorem dX11_next_1 : decode cX11_next 1 = .ok (.getfield 189, 3) := by decide +kernel
theorem dX11_next_4 : decode cX11_next 4 = .ok (.ifCond .le 4, 3) := by decide +kernel
theorem dX11_next_7 : decode cX11_next 7 = .ok (.return_, 1) := by decide +kernel
theorem dX11_next_8 : decode cX11_next 8 = .ok (.aload_n 0, 1) := by decide +kernel
theorem dX11_next_9 : decode cX11_next 9 = .ok (.aload_n 0, 1) := by decide +kernel
theorem dX11_next_10 : decode cX11_next 10 = .ok (.getfield 198, 3) := by decide +kernel
theorem dX11_next_13 : decode cX11_next 13 = .ok (.invokevirtual 201, 3) := by decide +kernel
theorem dX11_next_16 : decode cX11_next 16 = .ok (.bipush 32, 2) := by decide +kernel
theorem dX11_next_18 : decode cX11_next 18 = .ok (.if_icmp .ne 16, 3) := by decide +kernel
theorem dX11_next_21 : decode cX11_next 21 = .ok (.aload_n 0, 1) := by decide +kernel
theorem dX11_next_22 : decode cX11_next 22 = .ok (.dup, 1) := by decide +kernel
theorem dX11_next_23 : decode cX11_next 23 = .ok (.getfield 198, 3) := by decide +kernel
theorem dX11_next_26 : decode cX11_next 26 = .ok (.iconst 1, 1) := by decide +kernel
theorem dX11_next_27 : decode cX11_next 27 = .ok (.iadd, 1) := by decide +kernel
theorem dX11_next_28 : decode cX11_next 28 = .ok (.putfield 198, 3) := by decide +kernel
theorem dX11_next_31 : decode cX11_next 31 = .ok (.goto (-23), 3) := by decide +kernel
theorem dX11_next_34 : decode cX11_next 34 = .ok (.aload_n 0, 1) := by decide +kernel
theorem dX11_next_35 : decode cX11_next 35 = .ok (.aload_n 0, 1) := by decide +kernel
theorem dX11_next_36 : decode cX11_next 36 = .ok (.getfield 198, 3) := by decide +kernel
theorem dX11_next_39 : decode cX11_next 39 = .ok (.putfield 192, 3) := by decide +kernel
theorem dX11_next_42 : decode cX11_next 42 = .ok (.aload_n 0, 1) := by decide +kernel
theorem dX11_next_43 : decode cX11_next 43 = .ok (.aload_n 0, 1) := by decide +kernel
theorem dX11_next_44 : decode cX11_next 44 = .ok (.getfield 198, 3) := by decide +kernel
theorem dX11_next_47 : decode cX11_next 47 = .ok (.invokevirtual 201, 3) := by decide +kernel
theorem dX11_next_50 : decode cX11_next 50 = .ok (.istore_n 1, 1) := by decide +kernel
theorem dX11_next_51 : decode cX11_next 51 = .ok (.iload_n 1, 1) := by decide +kernel
theorem dX11_next_52 : decode cX11_next 52 = .ok (.ifCond .ge 11, 3) := by decide +kernel
theorem dX11_next_55 : decode cX11_next 55 = .ok (.aload_n 0, 1) := by decide +kernel
theorem dX11_next_56 : decode cX11_next 56 = .ok (.iconst 0, 1) := by decide +kernel
theorem dX11_next_57 : decode cX11_next 57 = .ok (.putfield 208, 3) := by decide +kernel
theorem dX11_next_60 : decode cX11_next 60 = .ok (.goto 244, 3) := by decide +kernel
theorem dX11_next_63 : decode cX11_next 63 = .ok (.iload_n 1, 1) := by decide +kernel
theorem dX11_next_64 : decode cX11_next 64 = .ok (.i2l, 1) := by decide +kernel
theorem dX11_next_65 : decode cX11_next 65 = .ok (.ldc2_w 211, 3) := by decide +kernel
theorem dX11_next_68 : decode cX11_next 68 = .ok (.ldc2_w 213, 3) := by decide +kernel
theorem dX11_next_71 : decode cX11_next 71 = .ok (.invokestatic 103, 3) := by decide +kernel
theorem dX11_next_74 : decode cX11_next 74 = .ok (.ifCond .eq 72, 3) := by decide +kernel
theorem dX11_next_77 : decode cX11_next 77 = .ok (.aload_n 0, 1) := by decide +kernel
theorem dX11_next_78 : decode cX11_next 78 = .ok (.iconst 1, 1) := by decide +kernel
theorem dX11_next_79 : decode cX11_next 79 = .ok (.putfield 208, 3) := by decide +kernel
theorem dX11_next_82 : decode cX11_next 82 = .ok (.aload_n 0, 1) := by decide +kernel
theorem dX11_next_83 : decode cX11_next 83 = .ok (.aload_n 0, 1) := by decide +kernel
theorem dX11_next_84 : decode cX11_next 84 = .ok (.getfield 198, 3) := by decide +kernel
theorem dX11_next_87 : decode cX11_next 87 = .ok (.invokevirtual 201, 3) := by decide +kernel
theorem dX11_next_90 : decode cX11_next 90 = .ok (.i2l, 1) := by decide +kernel
theorem dX11_next_91 : decode cX11_next 91 = .ok (.ldc2_w 211, 3) := by decide +kernel
theorem dX11_next_94 : decode cX11_next 94 = .ok (.ldc2_w 213, 3) := by decide +kernel
theorem dX11_next_97 : decode cX11_next 97 = .ok (.invokestatic 103, 3) := by decide +kernel
theorem dX11_next_100 : decode cX11_next 100 = .ok (.ifCond .eq 16, 3) := by decide +kernel
theorem dX11_next_103 : decode cX11_next 103 = .ok (.aload_n 0, 1) := by decide +kernel
theorem dX11_next_104 : decode cX11_next 104 = .ok (.dup, 1) := by decide +kernel
theorem dX11_next_105 : decode cX11_next 105 = .ok (.getfield 198, 3) := by decide +kernel
theorem dX11_next_108 : decode cX11_next 108 = .ok (.iconst 1, 1) := by decide +kernel
theorem dX11_next_109 : decode cX11_next 109 = .ok (.iadd, 1) := by decide +kernel
theorem dX11_next_110 : decode cX11_next 110 = .ok (.putfield 198, 3) := by decide +kernel
theorem dX11_next_113 : decode cX11_next 113 = .ok (.goto (-31), 3) := by decide +kernel
