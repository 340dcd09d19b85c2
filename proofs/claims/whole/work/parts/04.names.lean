theorem dX3_likeliest_44 : decode cX3_likeliest 44 = .ok (.lmul, 1) := by decide +kernel
theorem dX3_likeliest_45 : decode cX3_likeliest 45 = .ok (.lstore 5, 2) := by decide +kernel
theorem dX3_likeliest_47 : decode cX3_likeliest 47 = .ok (.lload 8, 2) := by decide +kernel
theorem dX3_likeliest_49 : decode cX3_likeliest 49 = .ok (.lload 5, 2) := by decide +kernel
theorem dX3_likeliest_51 : decode cX3_likeliest 51 = .ok (.lcmp, 1) := by decide +kernel
theorem dX3_likeliest_52 : decode cX3_likeliest 52 = .ok (.ifCond .le 11, 3) := by decide +kernel
theorem dX3_likeliest_55 : decode cX3_likeliest 55 = .ok (.iload 7, 2) := by decide +kernel
theorem dX3_likeliest_57 : decode cX3_likeliest 57 = .ok (.istore 4, 2) := by decide +kernel
theorem dX3_likeliest_59 : decode cX3_likeliest 59 = .ok (.lload 8, 2) := by decide +kernel
theorem dX3_likeliest_61 : decode cX3_likeliest 61 = .ok (.lstore 5, 2) := by decide +kernel
theorem dX3_likeliest_63 : decode cX3_likeliest 63 = .ok (.iinc 7 1, 3) := by decide +kernel
theorem dX3_likeliest_66 : decode cX3_likeliest 66 = .ok (.goto (-48), 3) := by decide +kernel
theorem dX3_likeliest_69 : decode cX3_likeliest 69 = .ok (.iload 4, 2) := by decide +kernel
theorem dX3_likeliest_71 : decode cX3_likeliest 71 = .ok (.ireturn, 1) := by decide +kernel
theorem dX3_choose_0 : decode cX3_choose 0 = .ok (.lconst 1, 1) := by decide +kernel
theorem dX3_choose_1 : decode cX3_choose 1 = .ok (.lstore_n 2, 1) := by decide +kernel
theorem dX3_choose_2 : decode cX3_choose 2 = .ok (.iconst 1, 1) := by decide +kernel
theorem dX3_choose_3 : decode cX3_choose 3 = .ok (.istore 4, 2) := by decide +kernel
theorem dX3_choose_5 : decode cX3_choose 5 = .ok (.iload 4, 2) := by decide +kernel
theorem dX3_choose_7 : decode cX3_choose 7 = .ok (.iload_n 1, 1) := by decide +kernel
theorem dX3_choose_8 : decode cX3_choose 8 = .ok (.if_icmp .gt 23, 3) := by decide +kernel
theorem dX3_choose_11 : decode cX3_choose 11 = .ok (.lload_n 2, 1) := by decide +kernel
theorem dX3_choose_12 : decode cX3_choose 12 = .ok (.iload_n 0, 1) := by decide +kernel
theorem dX3_choose_13 : decode cX3_choose 13 = .ok (.iload_n 1, 1) := by decide +kernel
theorem dX3_choose_14 : decode cX3_choose 14 = .ok (.isub, 1) := by decide +kernel
theorem dX3_choose_15 : decode cX3_choose 15 = .ok (.iload 4, 2) := by decide +kernel
theorem dX3_choose_17 : decode cX3_choose 17 = .ok (.iadd, 1) := by decide +kernel
theorem dX3_choose_18 : decode cX3_choose 18 = .ok (.i2l, 1) := by decide +kernel
theorem dX3_choose_19 : decode cX3_choose 19 = .ok (.lmul, 1) := by decide +kernel
theorem dX3_choose_20 : decode cX3_choose 20 = .ok (.iload 4, 2) := by decide +kernel
theorem dX3_choose_22 : decode cX3_choose 22 = .ok (.i2l, 1) := by decide +kernel
theorem dX3_choose_23 : decode cX3_choose 23 = .ok (.ldiv, 1) := by decide +kernel
theorem dX3_choose_24 : decode cX3_choose 24 = .ok (.lstore_n 2, 1) := by decide +kernel
theorem dX3_choose_25 : decode cX3_choose 25 = .ok (.iinc 4 1, 3) := by decide +kernel
theorem dX3_choose_28 : decode cX3_choose 28 = .ok (.goto (-23), 3) := by decide +kernel
theorem dX3_choose_31 : decode cX3_choose 31 = .ok (.lload_n 2, 1) := by decide +kernel
theorem dX3_choose_32 : decode cX3_choose 32 = .ok (.lreturn, 1) := by decide +kernel
theorem dX3_arranged_0 : decode cX3_arranged 0 = .ok (.lconst 1, 1) := by decide +kernel
theorem dX3_arranged_1 : decode cX3_arranged 1 = .ok (.lstore_n 2, 1) := by decide +kernel
theorem dX3_arranged_2 : decode cX3_arranged 2 = .ok (.iconst 0, 1) := by decide +kernel
theorem dX3_arranged_3 : decode cX3_arranged 3 = .ok (.istore 4, 2) := by decide +kernel
theorem dX3_arranged_5 : decode cX3_arranged 5 = .ok (.iload 4, 2) := by decide +kernel
theorem dX3_arranged_7 : decode cX3_arranged 7 = .ok (.iload_n 1, 1) := by decide +kernel
theorem dX3_arranged_8 : decode cX3_arranged 8 = .ok (.if_icmp .ge 17, 3) := by decide +kernel
theorem dX3_arranged_11 : decode cX3_arranged 11 = .ok (.lload_n 2, 1) := by decide +kernel
theorem dX3_arranged_12 : decode cX3_arranged 12 = .ok (.iload_n 0, 1) := by decide +kernel
theorem dX3_arranged_13 : decode cX3_arranged 13 = .ok (.iload 4, 2) := by decide +kernel
theorem dX3_arranged_15 : decode cX3_arranged 15 = .ok (.isub, 1) := by decide +kernel
theorem dX3_arranged_16 : decode cX3_arranged 16 = .ok (.i2l, 1) := by decide +kernel
theorem dX3_arranged_17 : decode cX3_arranged 17 = .ok (.lmul, 1) := by decide +kernel
theorem dX3_arranged_18 : decode cX3_arranged 18 = .ok (.lstore_n 2, 1) := by decide +kernel
theorem dX3_arranged_19 : decode cX3_arranged 19 = .ok (.iinc 4 1, 3) := by decide +kernel
theorem dX3_arranged_22 : decode cX3_arranged 22 = .ok (.goto (-17), 3) := by decide +kernel
theorem dX3_arranged_25 : decode cX3_arranged 25 = .ok (.lload_n 2, 1) := by decide +kernel
theorem dX3_arranged_26 : decode cX3_arranged 26 = .ok (.lreturn, 1) := by decide +kernel
theorem dX4_init_0 : decode cX4_init 0 = .ok (.aload_n 0, 1) := by decide +kernel
theorem dX4_init_1 : decode cX4_init 1 = .ok (.invokespecial 3, 3) := by decide +kernel
theorem dX4_init_4 : decode cX4_init 4 = .ok (.aload_n 0, 1) := by decide +kernel
theorem dX4_init_5 : decode cX4_init 5 = .ok (.iconst 4, 1) := by decide +kernel
theorem dX4_init_6 : decode cX4_init 6 = .ok (.newarray .int, 2) := by decide +kernel
theorem dX4_init_8 : decode cX4_init 8 = .ok (.putfield 9, 3) := by decide +kernel
theorem dX4_init_11 : decode cX4_init 11 = .ok (.return_, 1) := by decide +kernel
theorem dX4_wasRun_0 : decode cX4_wasRun 0 = .ok (.aload_n 0, 1) := by decide +kernel
theorem dX4_wasRun_1 : decode cX4_wasRun 1 = .ok (.getfield 9, 3) := by decide +kernel
theorem dX4_wasRun_4 : decode cX4_wasRun 4 = .ok (.iconst 0, 1) := by decide +kernel
theorem dX4_wasRun_5 : decode cX4_wasRun 5 = .ok (.iaload, 1) := by decide +kernel
theorem dX4_wasRun_6 : decode cX4_wasRun 6 = .ok (.ifCond .le 7, 3) := by decide +kernel
theorem dX4_wasRun_9 : decode cX4_wasRun 9 = .ok (.iconst 1, 1) := by decide +kernel
theorem dX4_wasRun_10 : decode cX4_wasRun 10 = .ok (.goto 4, 3) := by decide +kernel
theorem dX4_wasRun_13 : decode cX4_wasRun 13 = .ok (.iconst 0, 1) := by decide +kernel
theorem dX4_wasRun_14 : decode cX4_wasRun 14 = .ok (.ireturn, 1) := by decide +kernel
set_option maxRecDepth 20000 in
theorem ggX4_run_X4_bounded : GoodIn wsX4_run wsX4_bounded := goodIn_r _ [6, 7, 8, 9, 10, 11, 12, 13] (by decide +kernel) (by decide +kernel)
set_option maxRecDepth 20000 in
theorem gX4_run_X4_bounded : GoodIn wsX4_run (va_wsS RX4 15 yX4_bounded wsX4_bounded) := goodIn_app (goodIn_of _ (by decide +kernel)) ggX4_run_X4_bounded
set_option maxRecDepth 20000 in
theorem ggX4_run_X1_hold : GoodIn wsX4_run wsX1_hold := goodIn_r _ [18, 19, 20, 21, 22, 23, 24, 25, 26, 27, 28, 29, 17, 30, 31, 32, 33, 34, 35, 36, 37, 38, 39, 40, 41, 42, 8, 9, 10, 43, 44, 45, 46, 55, 56, 57, 58, 51, 52, 53, 54] (by decide +kernel) (by decide +kernel)
set_option maxRecDepth 20000 in
theorem gX4_run_X1_hold : GoodIn wsX4_run (wsV RX4 19 RX1 yX1_hold wsX1_hold) := goodIn_app (goodIn_of _ (by decide +kernel)) ggX4_run_X1_hold
set_option maxRecDepth 20000 in
theorem ggX4_run_X4_next : GoodIn wsX4_run wsX4_next := goodIn_r _ [49, 2, 51, 52, 53, 54] (by decide +kernel) (by decide +kernel)
set_option maxRecDepth 20000 in
theorem gX4_run_X4_next : GoodIn wsX4_run (va_wsS RX4 26 yX4_next wsX4_next) := goodIn_app (goodIn_of _ (by decide +kernel)) ggX4_run_X4_next
theorem dX4_run_0 : decode cX4_run 0 = .ok (.iconst 0, 1) := by decide +kernel
theorem dX4_run_1 : decode cX4_run 1 = .ok (.istore 5, 2) := by decide +kernel
theorem dX4_run_3 : decode cX4_run 3 = .ok (.iload 5, 2) := by decide +kernel
theorem dX4_run_5 : decode cX4_run 5 = .ok (.aload_n 0, 1) := by decide +kernel
theorem dX4_run_6 : decode cX4_run 6 = .ok (.getfield 9, 3) := by decide +kernel
theorem dX4_run_9 : decode cX4_run 9 = .ok (.arraylength, 1) := by decide +kernel
theorem dX4_run_10 : decode cX4_run 10 = .ok (.if_icmp .ge 17, 3) := by decide +kernel
theorem dX4_run_13 : decode cX4_run 13 = .ok (.aload_n 0, 1) := by decide +kernel
theorem dX4_run_14 : decode cX4_run 14 = .ok (.getfield 9, 3) := by decide +kernel
theorem dX4_run_17 : decode cX4_run 17 = .ok (.iload 5, 2) := by decide +kernel
theorem dX4_run_19 : decode cX4_run 19 = .ok (.iconst 0, 1) := by decide +kernel
theorem dX4_run_20 : decode cX4_run 20 = .ok (.iastore, 1) := by decide +kernel
theorem dX4_run_21 : decode cX4_run 21 = .ok (.iinc 5 1, 3) := by decide +kernel
theorem dX4_run_24 : decode cX4_run 24 = .ok (.goto (-21), 3) := by decide +kernel
theorem dX4_run_27 : decode cX4_run 27 = .ok (.aload_n 3, 1) := by decide +kernel
theorem dX4_run_28 : decode cX4_run 28 = .ok (.iconst 0, 1) := by decide +kernel
theorem dX4_run_29 : decode cX4_run 29 = .ok (.iaload, 1) := by decide +kernel
theorem dX4_run_30 : decode cX4_run 30 = .ok (.aload_n 3, 1) := by decide +kernel
theorem dX4_run_31 : decode cX4_run 31 = .ok (.invokestatic 15, 3) := by decide +kernel
theorem dX4_run_34 : decode cX4_run 34 = .ok (.istore 5, 2) := by decide +kernel
theorem dX4_run_36 : decode cX4_run 36 = .ok (.iconst 0, 1) := by decide +kernel
theorem dX4_run_37 : decode cX4_run 37 = .ok (.istore 6, 2) := by decide +kernel
theorem dX4_run_39 : decode cX4_run 39 = .ok (.iconst 0, 1) := by decide +kernel
theorem dX4_run_40 : decode cX4_run 40 = .ok (.istore 7, 2) := by decide +kernel
theorem dX4_run_42 : decode cX4_run 42 = .ok (.iload 7, 2) := by decide +kernel
theorem dX4_run_44 : decode cX4_run 44 = .ok (.aload_n 3, 1) := by decide +kernel
theorem dX4_run_45 : decode cX4_run 45 = .ok (.bipush 8, 2) := by decide +kernel
theorem dX4_run_47 : decode cX4_run 47 = .ok (.iaload, 1) := by decide +kernel
theorem dX4_run_48 : decode cX4_run 48 = .ok (.if_icmp .ge 97, 3) := by decide +kernel
theorem dX4_run_51 : decode cX4_run 51 = .ok (.iload 6, 2) := by decide +kernel
theorem dX4_run_53 : decode cX4_run 53 = .ok (.ifCond .ne 92, 3) := by decide +kernel
theorem dX4_run_56 : decode cX4_run 56 = .ok (.aload_n 0, 1) := by decide +kernel
theorem dX4_run_57 : decode cX4_run 57 = .ok (.getfield 9, 3) := by decide +kernel
theorem dX4_run_60 : decode cX4_run 60 = .ok (.iconst 2, 1) := by decide +kernel
theorem dX4_run_61 : decode cX4_run 61 = .ok (.dup2, 1) := by decide +kernel
theorem dX4_run_62 : decode cX4_run 62 = .ok (.iaload, 1) := by decide +kernel
theorem dX4_run_63 : decode cX4_run 63 = .ok (.aload_n 1, 1) := by decide +kernel
theorem dX4_run_64 : decode cX4_run 64 = .ok (.aload_n 2, 1) := by decide +kernel
theorem dX4_run_65 : decode cX4_run 65 = .ok (.iload 5, 2) := by decide +kernel
theorem dX4_run_67 : decode cX4_run 67 = .ok (.iload 4, 2) := by decide +kernel
theorem dX4_run_69 : decode cX4_run 69 = .ok (.iload 7, 2) := by decide +kernel
theorem dX4_run_71 : decode cX4_run 71 = .ok (.iadd, 1) := by decide +kernel
theorem dX4_run_72 : decode cX4_run 72 = .ok (.aload_n 3, 1) := by decide +kernel
theorem dX4_run_73 : decode cX4_run 73 = .ok (.bipush 7, 2) := by decide +kernel
theorem dX4_run_75 : decode cX4_run 75 = .ok (.iaload, 1) := by decide +kernel
theorem dX4_run_76 : decode cX4_run 76 = .ok (.invokevirtual 19, 3) := by decide +kernel
theorem dX4_run_79 : decode cX4_run 79 = .ok (.iadd, 1) := by decide +kernel
theorem dX4_run_80 : decode cX4_run 80 = .ok (.iastore, 1) := by decide +kernel
theorem dX4_run_81 : decode cX4_run 81 = .ok (.aload_n 0, 1) := by decide +kernel
theorem dX4_run_82 : decode cX4_run 82 = .ok (.getfield 9, 3) := by decide +kernel
theorem dX4_run_85 : decode cX4_run 85 = .ok (.iconst 0, 1) := by decide +kernel
theorem dX4_run_86 : decode cX4_run 86 = .ok (.dup2, 1) := by decide +kernel
theorem dX4_run_87 : decode cX4_run 87 = .ok (.iaload, 1) := by decide +kernel
theorem dX4_run_88 : decode cX4_run 88 = .ok (.iconst 1, 1) := by decide +kernel
theorem dX4_run_89 : decode cX4_run 89 = .ok (.iadd, 1) := by decide +kernel
theorem dX4_run_90 : decode cX4_run 90 = .ok (.iastore, 1) := by decide +kernel
theorem dX4_run_91 : decode cX4_run 91 = .ok (.aload_n 0, 1) := by decide +kernel
theorem dX4_run_92 : decode cX4_run 92 = .ok (.getfield 9, 3) := by decide +kernel
theorem dX4_run_95 : decode cX4_run 95 = .ok (.iconst 1, 1) := by decide +kernel
theorem dX4_run_96 : decode cX4_run 96 = .ok (.dup2, 1) := by decide +kernel
theorem dX4_run_97 : decode cX4_run 97 = .ok (.iaload, 1) := by decide +kernel
theorem dX4_run_98 : decode cX4_run 98 = .ok (.iload 5, 2) := by decide +kernel
theorem dX4_run_100 : decode cX4_run 100 = .ok (.iadd, 1) := by decide +kernel
theorem dX4_run_101 : decode cX4_run 101 = .ok (.iastore, 1) := by decide +kernel
theorem dX4_run_102 : decode cX4_run 102 = .ok (.aload_n 0, 1) := by decide +kernel
theorem dX4_run_103 : decode cX4_run 103 = .ok (.getfield 9, 3) := by decide +kernel
theorem dX4_run_106 : decode cX4_run 106 = .ok (.iconst 3, 1) := by decide +kernel
theorem dX4_run_107 : decode cX4_run 107 = .ok (.iload 5, 2) := by decide +kernel
theorem dX4_run_109 : decode cX4_run 109 = .ok (.iastore, 1) := by decide +kernel
theorem dX4_run_110 : decode cX4_run 110 = .ok (.aload_n 1, 1) := by decide +kernel
theorem dX4_run_111 : decode cX4_run 111 = .ok (.getfield 25, 3) := by decide +kernel
theorem dX4_run_114 : decode cX4_run 114 = .ok (.iconst 1, 1) := by decide +kernel
theorem dX4_run_115 : decode cX4_run 115 = .ok (.iaload, 1) := by decide +kernel
theorem dX4_run_116 : decode cX4_run 116 = .ok (.iload 5, 2) := by decide +kernel
theorem dX4_run_118 : decode cX4_run 118 = .ok (.if_icmp .ne 7, 3) := by decide +kernel
theorem dX4_run_121 : decode cX4_run 121 = .ok (.iconst 1, 1) := by decide +kernel
theorem dX4_run_122 : decode cX4_run 122 = .ok (.goto 4, 3) := by decide +kernel
theorem dX4_run_125 : decode cX4_run 125 = .ok (.iconst 0, 1) := by decide +kernel
theorem dX4_run_126 : decode cX4_run 126 = .ok (.istore 6, 2) := by decide +kernel
theorem dX4_run_128 : decode cX4_run 128 = .ok (.aload_n 1, 1) := by decide +kernel
theorem dX4_run_129 : decode cX4_run 129 = .ok (.aload_n 3, 1) := by decide +kernel
theorem dX4_run_130 : decode cX4_run 130 = .ok (.invokestatic 26, 3) := by decide +kernel
theorem dX4_run_133 : decode cX4_run 133 = .ok (.aload_n 3, 1) := by decide +kernel
theorem dX4_run_134 : decode cX4_run 134 = .ok (.invokestatic 15, 3) := by decide +kernel
theorem dX4_run_137 : decode cX4_run 137 = .ok (.istore 5, 2) := by decide +kernel
theorem dX4_run_139 : decode cX4_run 139 = .ok (.iinc 7 1, 3) := by decide +kernel
theorem dX4_run_142 : decode cX4_run 142 = .ok (.goto (-100), 3) := by decide +kernel
theorem dX4_run_145 : decode cX4_run 145 = .ok (.iload 6, 2) := by decide +kernel
theorem dX4_run_147 : decode cX4_run 147 = .ok (.ireturn, 1) := by decide +kernel
theorem dX4_bounded_0 : decode cX4_bounded 0 = .ok (.iload_n 0, 1) := by decide +kernel
theorem dX4_bounded_1 : decode cX4_bounded 1 = .ok (.aload_n 1, 1) := by decide +kernel
theorem dX4_bounded_2 : decode cX4_bounded 2 = .ok (.iconst 1, 1) := by decide +kernel
theorem dX4_bounded_3 : decode cX4_bounded 3 = .ok (.iaload, 1) := by decide +kernel
theorem dX4_bounded_4 : decode cX4_bounded 4 = .ok (.invokestatic 30, 3) := by decide +kernel
theorem dX4_bounded_7 : decode cX4_bounded 7 = .ok (.aload_n 1, 1) := by decide +kernel
theorem dX4_bounded_8 : decode cX4_bounded 8 = .ok (.iconst 2, 1) := by decide +kernel
theorem dX4_bounded_9 : decode cX4_bounded 9 = .ok (.iaload, 1) := by decide +kernel
theorem dX4_bounded_10 : decode cX4_bounded 10 = .ok (.invokestatic 36, 3) := by decide +kernel
theorem dX4_bounded_13 : decode cX4_bounded 13 = .ok (.ireturn, 1) := by decide +kernel
theorem dX4_next_0 : decode cX4_next 0 = .ok (.aload_n 0, 1) := by decide +kernel
theorem dX4_next_1 : decode cX4_next 1 = .ok (.getfield 25, 3) := by decide +kernel
theorem dX4_next_4 : decode cX4_next 4 = .ok (.iconst 0, 1) := by decide +kernel
theorem dX4_next_5 : decode cX4_next 5 = .ok (.iaload, 1) := by decide +kernel
theorem dX4_next_6 : decode cX4_next 6 = .ok (.istore_n 2, 1) := by decide +kernel
theorem dX4_next_7 : decode cX4_next 7 = .ok (.aload_n 0, 1) := by decide +kernel
theorem dX4_next_8 : decode cX4_next 8 = .ok (.getfield 25, 3) := by decide +kernel
theorem dX4_next_11 : decode cX4_next 11 = .ok (.iconst 1, 1) := by decide +kernel
theorem dX4_next_12 : decode cX4_next 12 = .ok (.iaload, 1) := by decide +kernel
theorem dX4_next_13 : decode cX4_next 13 = .ok (.istore_n 3, 1) := by decide +kernel
theorem dX4_next_14 : decode cX4_next 14 = .ok (.aload_n 0, 1) := by decide +kernel
theorem dX4_next_15 : decode cX4_next 15 = .ok (.getfield 25, 3) := by decide +kernel
theorem dX4_next_18 : decode cX4_next 18 = .ok (.iconst 3, 1) := by decide +kernel
theorem dX4_next_19 : decode cX4_next 19 = .ok (.iaload, 1) := by decide +kernel
theorem dX4_next_20 : decode cX4_next 20 = .ok (.istore 4, 2) := by decide +kernel
theorem dX4_next_22 : decode cX4_next 22 = .ok (.iload_n 2, 1) := by decide +kernel
theorem dX4_next_23 : decode cX4_next 23 = .ok (.iload_n 3, 1) := by decide +kernel
theorem dX4_next_24 : decode cX4_next 24 = .ok (.if_icmp .le 27, 3) := by decide +kernel
theorem dX4_next_27 : decode cX4_next 27 = .ok (.bipush 100, 2) := by decide +kernel
theorem dX4_next_29 : decode cX4_next 29 = .ok (.iload 4, 2) := by decide +kernel
theorem dX4_next_31 : decode cX4_next 31 = .ok (.imul, 1) := by decide +kernel
theorem dX4_next_32 : decode cX4_next 32 = .ok (.aload_n 1, 1) := by decide +kernel
theorem dX4_next_33 : decode cX4_next 33 = .ok (.iconst 3, 1) := by decide +kernel
theorem dX4_next_34 : decode cX4_next 34 = .ok (.iaload, 1) := by decide +kernel
theorem dX4_next_35 : decode cX4_next 35 = .ok (.iload_n 2, 1) := by decide +kernel
theorem dX4_next_36 : decode cX4_next 36 = .ok (.iload_n 3, 1) := by decide +kernel
theorem dX4_next_37 : decode cX4_next 37 = .ok (.isub, 1) := by decide +kernel
theorem dX4_next_38 : decode cX4_next 38 = .ok (.imul, 1) := by decide +kernel
theorem dX4_next_39 : decode cX4_next 39 = .ok (.if_icmp .lt 12, 3) := by decide +kernel
theorem dX4_next_42 : decode cX4_next 42 = .ok (.iload_n 2, 1) := by decide +kernel
theorem dX4_next_43 : decode cX4_next 43 = .ok (.aload_n 1, 1) := by decide +kernel
theorem dX4_next_44 : decode cX4_next 44 = .ok (.iconst 4, 1) := by decide +kernel
theorem dX4_next_45 : decode cX4_next 45 = .ok (.iaload, 1) := by decide +kernel
theorem dX4_next_46 : decode cX4_next 46 = .ok (.imul, 1) := by decide +kernel
theorem dX4_next_47 : decode cX4_next 47 = .ok (.bipush 100, 2) := by decide +kernel
theorem dX4_next_49 : decode cX4_next 49 = .ok (.idiv, 1) := by decide +kernel
theorem dX4_next_50 : decode cX4_next 50 = .ok (.ireturn, 1) := by decide +kernel
theorem dX4_next_51 : decode cX4_next 51 = .ok (.bipush 100, 2) := by decide +kernel
theorem dX4_next_53 : decode cX4_next 53 = .ok (.iload_n 3, 1) := by decide +kernel
theorem dX4_next_54 : decode cX4_next 54 = .ok (.imul, 1) := by decide +kernel
theorem dX4_next_55 : decode cX4_next 55 = .ok (.aload_n 1, 1) := by decide +kernel
theorem dX4_next_56 : decode cX4_next 56 = .ok (.iconst 5, 1) := by decide +kernel
theorem dX4_next_57 : decode cX4_next 57 = .ok (.iaload, 1) := by decide +kernel
theorem dX4_next_58 : decode cX4_next 58 = .ok (.iload_n 2, 1) := by decide +kernel
theorem dX4_next_59 : decode cX4_next 59 = .ok (.imul, 1) := by decide +kernel
theorem dX4_next_60 : decode cX4_next 60 = .ok (.if_icmp .lt 13, 3) := by decide +kernel
theorem dX4_next_63 : decode cX4_next 63 = .ok (.iload_n 2, 1) := by decide +kernel
theorem dX4_next_64 : decode cX4_next 64 = .ok (.aload_n 1, 1) := by decide +kernel
theorem dX4_next_65 : decode cX4_next 65 = .ok (.bipush 6, 2) := by decide +kernel
theorem dX4_next_67 : decode cX4_next 67 = .ok (.iaload, 1) := by decide +kernel
theorem dX4_next_68 : decode cX4_next 68 = .ok (.imul, 1) := by decide +kernel
theorem dX4_next_69 : decode cX4_next 69 = .ok (.bipush 100, 2) := by decide +kernel
theorem dX4_next_71 : decode cX4_next 71 = .ok (.idiv, 1) := by decide +kernel
theorem dX4_next_72 : decode cX4_next 72 = .ok (.ireturn, 1) := by decide +kernel
theorem dX4_next_73 : decode cX4_next 73 = .ok (.iload_n 2, 1) := by decide +kernel
theorem dX4_next_74 : decode cX4_next 74 = .ok (.ireturn, 1) := by decide +kernel
theorem dX5_init_0 : decode cX5_init 0 = .ok (.aload_n 0, 1) := by decide +kernel
theorem dX5_init_1 : decode cX5_init 1 = .ok (.invokespecial 3, 3) := by decide +kernel
theorem dX5_init_4 : decode cX5_init 4 = .ok (.aload_n 0, 1) := by decide +kernel
theorem dX5_init_5 : decode cX5_init 5 = .ok (.bipush 40, 2) := by decide +kernel
theorem dX5_init_7 : decode cX5_init 7 = .ok (.newarray .int, 2) := by decide +kernel
theorem dX5_init_9 : decode cX5_init 9 = .ok (.putfield 9, 3) := by decide +kernel
theorem dX5_init_12 : decode cX5_init 12 = .ok (.aload_n 0, 1) := by decide +kernel
theorem dX5_init_13 : decode cX5_init 13 = .ok (.iconst 0, 1) := by decide +kernel
theorem dX5_init_14 : decode cX5_init 14 = .ok (.putfield 15, 3) := by decide +kernel
theorem dX5_init_17 : decode cX5_init 17 = .ok (.aload_n 0, 1) := by decide +kernel
theorem dX5_init_18 : decode cX5_init 18 = .ok (.iconst (-1), 1) := by decide +kernel
theorem dX5_init_19 : decode cX5_init 19 = .ok (.putfield 19, 3) := by decide +kernel
theorem dX5_init_22 : decode cX5_init 22 = .ok (.return_, 1) := by decide +kernel
set_option maxRecDepth 20000 in
theorem ggX5_renew_X10_within : GoodIn wsX5_renew wsX10_within := goodIn_r _ [6] (by decide +kernel) (by decide +kernel)
set_option maxRecDepth 20000 in
theorem gX5_renew_X10_within_n22 : GoodIn wsX5_renew (wsX10_within) := ggX5_renew_X10_within
theorem dX5_renew_0 : decode cX5_renew 0 = .ok (.iload_n 2, 1) := by decide +kernel
theorem dX5_renew_1 : decode cX5_renew 1 = .ok (.iconst 0, 1) := by decide +kernel
theorem dX5_renew_2 : decode cX5_renew 2 = .ok (.bipush 40, 2) := by decide +kernel
theorem dX5_renew_4 : decode cX5_renew 4 = .ok (.invokestatic 22, 3) := by decide +kernel
theorem dX5_renew_7 : decode cX5_renew 7 = .ok (.ifCond .ne 4, 3) := by decide +kernel
theorem dX5_renew_10 : decode cX5_renew 10 = .ok (.return_, 1) := by decide +kernel
theorem dX5_renew_11 : decode cX5_renew 11 = .ok (.aload_n 0, 1) := by decide +kernel
theorem dX5_renew_12 : decode cX5_renew 12 = .ok (.iload_n 1, 1) := by decide +kernel
theorem dX5_renew_13 : decode cX5_renew 13 = .ok (.putfield 15, 3) := by decide +kernel
theorem dX5_renew_16 : decode cX5_renew 16 = .ok (.aload_n 0, 1) := by decide +kernel
theorem dX5_renew_17 : decode cX5_renew 17 = .ok (.iload_n 2, 1) := by decide +kernel
theorem dX5_renew_18 : decode cX5_renew 18 = .ok (.putfield 19, 3) := by decide +kernel
theorem dX5_renew_21 : decode cX5_renew 21 = .ok (.iconst 0, 1) := by decide +kernel
theorem dX5_renew_22 : decode cX5_renew 22 = .ok (.istore_n 3, 1) := by decide +kernel
theorem dX5_renew_23 : decode cX5_renew 23 = .ok (.iload_n 3, 1) := by decide +kernel
theorem dX5_renew_24 : decode cX5_renew 24 = .ok (.iload_n 2, 1) := by decide +kernel
theorem dX5_renew_25 : decode cX5_renew 25 = .ok (.if_icmp .ge 16, 3) := by decide +kernel
theorem dX5_renew_28 : decode cX5_renew 28 = .ok (.aload_n 0, 1) := by decide +kernel
theorem dX5_renew_29 : decode cX5_renew 29 = .ok (.getfield 9, 3) := by decide +kernel
theorem dX5_renew_32 : decode cX5_renew 32 = .ok (.iload_n 3, 1) := by decide +kernel
theorem dX5_renew_33 : decode cX5_renew 33 = .ok (.iconst 0, 1) := by decide +kernel
theorem dX5_renew_34 : decode cX5_renew 34 = .ok (.iastore, 1) := by decide +kernel
theorem dX5_renew_35 : decode cX5_renew 35 = .ok (.iinc 3 1, 3) := by decide +kernel
theorem dX5_renew_38 : decode cX5_renew 38 = .ok (.goto (-15), 3) := by decide +kernel
theorem dX5_renew_41 : decode cX5_renew 41 = .ok (.return_, 1) := by decide +kernel
set_option maxRecDepth 20000 in
theorem ggX5_faultOfCell_X10_within : GoodIn wsX5_faultOfCell wsX10_within := goodIn_r _ [4] (by decide +kernel) (by decide +kernel)
set_option maxRecDepth 20000 in
theorem gX5_faultOfCell_X10_within_n22 : GoodIn wsX5_faultOfCell (wsX10_within) := ggX5_faultOfCell_X10_within
theorem dX5_faultOfCell_0 : decode cX5_faultOfCell 0 = .ok (.aload_n 0, 1) := by decide +kernel
theorem dX5_faultOfCell_1 : decode cX5_faultOfCell 1 = .ok (.getfield 19, 3) := by decide +kernel
theorem dX5_faultOfCell_4 : decode cX5_faultOfCell 4 = .ok (.ifCond .ge 5, 3) := by decide +kernel
theorem dX5_faultOfCell_7 : decode cX5_faultOfCell 7 = .ok (.iconst 1, 1) := by decide +kernel
theorem dX5_faultOfCell_8 : decode cX5_faultOfCell 8 = .ok (.ireturn, 1) := by decide +kernel
theorem dX5_faultOfCell_9 : decode cX5_faultOfCell 9 = .ok (.iload_n 1, 1) := by decide +kernel
theorem dX5_faultOfCell_10 : decode cX5_faultOfCell 10 = .ok (.iconst 0, 1) := by decide +kernel
theorem dX5_faultOfCell_11 : decode cX5_faultOfCell 11 = .ok (.aload_n 0, 1) := by decide +kernel
theorem dX5_faultOfCell_12 : decode cX5_faultOfCell 12 = .ok (.getfield 19, 3) := by decide +kernel
theorem dX5_faultOfCell_15 : decode cX5_faultOfCell 15 = .ok (.iconst 1, 1) := by decide +kernel
theorem dX5_faultOfCell_16 : decode cX5_faultOfCell 16 = .ok (.isub, 1) := by decide +kernel
theorem dX5_faultOfCell_17 : decode cX5_faultOfCell 17 = .ok (.invokestatic 22, 3) := by decide +kernel
theorem dX5_faultOfCell_20 : decode cX5_faultOfCell 20 = .ok (.ifCond .eq 7, 3) := by decide +kernel
theorem dX5_faultOfCell_23 : decode cX5_faultOfCell 23 = .ok (.iconst 0, 1) := by decide +kernel
theorem dX5_faultOfCell_24 : decode cX5_faultOfCell 24 = .ok (.goto 4, 3) := by decide +kernel
theorem dX5_faultOfCell_27 : decode cX5_faultOfCell 27 = .ok (.iconst 2, 1) := by decide +kernel
theorem dX5_faultOfCell_28 : decode cX5_faultOfCell 28 = .ok (.ireturn, 1) := by decide +kernel
set_option maxRecDepth 20000 in
theorem ggX5_faultOfPair_X5_faultOfCell : GoodIn wsX5_faultOfPair wsX5_faultOfCell := goodIn_r _ [7, 1, 8, 9, 10, 11, 12, 13] (by decide +kernel) (by decide +kernel)
set_option maxRecDepth 20000 in
theorem gX5_faultOfPair_X5_faultOfCell : GoodIn wsX5_faultOfPair (wsV RX5 26 RX5 yX5_faultOfCell wsX5_faultOfCell) := goodIn_app (goodIn_of _ (by decide +kernel)) ggX5_faultOfPair_X5_faultOfCell
theorem dX5_faultOfPair_0 : decode cX5_faultOfPair 0 = .ok (.aload_n 0, 1) := by decide +kernel
theorem dX5_faultOfPair_1 : decode cX5_faultOfPair 1 = .ok (.getfield 19, 3) := by decide +kernel
theorem dX5_faultOfPair_4 : decode cX5_faultOfPair 4 = .ok (.ifCond .lt 13, 3) := by decide +kernel
theorem dX5_faultOfPair_7 : decode cX5_faultOfPair 7 = .ok (.iload_n 1, 1) := by decide +kernel
theorem dX5_faultOfPair_8 : decode cX5_faultOfPair 8 = .ok (.aload_n 0, 1) := by decide +kernel
theorem dX5_faultOfPair_9 : decode cX5_faultOfPair 9 = .ok (.getfield 15, 3) := by decide +kernel
theorem dX5_faultOfPair_12 : decode cX5_faultOfPair 12 = .ok (.if_icmp .eq 5, 3) := by decide +kernel
theorem dX5_faultOfPair_15 : decode cX5_faultOfPair 15 = .ok (.iconst 3, 1) := by decide +kernel
theorem dX5_faultOfPair_16 : decode cX5_faultOfPair 16 = .ok (.ireturn, 1) := by decide +kernel
theorem dX5_faultOfPair_17 : decode cX5_faultOfPair 17 = .ok (.aload_n 0, 1) := by decide +kernel
theorem dX5_faultOfPair_18 : decode cX5_faultOfPair 18 = .ok (.iload_n 2, 1) := by decide +kernel
theorem dX5_faultOfPair_19 : decode cX5_faultOfPair 19 = .ok (.invokevirtual 26, 3) := by decide +kernel
theorem dX5_faultOfPair_22 : decode cX5_faultOfPair 22 = .ok (.istore_n 3, 1) := by decide +kernel
theorem dX5_faultOfPair_23 : decode cX5_faultOfPair 23 = .ok (.iload_n 3, 1) := by decide +kernel
theorem dX5_faultOfPair_24 : decode cX5_faultOfPair 24 = .ok (.ifCond .eq 7, 3) := by decide +kernel
theorem dX5_faultOfPair_27 : decode cX5_faultOfPair 27 = .ok (.iload_n 3, 1) := by decide +kernel
theorem dX5_faultOfPair_28 : decode cX5_faultOfPair 28 = .ok (.goto 10, 3) := by decide +kernel
theorem dX5_faultOfPair_31 : decode cX5_faultOfPair 31 = .ok (.aload_n 0, 1) := by decide +kernel
theorem dX5_faultOfPair_32 : decode cX5_faultOfPair 32 = .ok (.iload_n 2, 1) := by decide +kernel
theorem dX5_faultOfPair_33 : decode cX5_faultOfPair 33 = .ok (.iconst 1, 1) := by decide +kernel
theorem dX5_faultOfPair_34 : decode cX5_faultOfPair 34 = .ok (.iadd, 1) := by decide +kernel
theorem dX5_faultOfPair_35 : decode cX5_faultOfPair 35 = .ok (.invokevirtual 26, 3) := by decide +kernel
theorem dX5_faultOfPair_38 : decode cX5_faultOfPair 38 = .ok (.ireturn, 1) := by decide +kernel
set_option maxRecDepth 20000 in
theorem ggX5_put_X5_faultOfCell : GoodIn wsX5_put wsX5_faultOfCell := goodIn_r _ [7, 8, 9, 10, 11, 12, 13, 14] (by decide +kernel) (by decide +kernel)
set_option maxRecDepth 20000 in
theorem gX5_put_X5_faultOfCell : GoodIn wsX5_put (wsV RX5 26 RX5 yX5_faultOfCell wsX5_faultOfCell) := goodIn_app (goodIn_of _ (by decide +kernel)) ggX5_put_X5_faultOfCell
theorem dX5_put_0 : decode cX5_put 0 = .ok (.aload_n 0, 1) := by decide +kernel
theorem dX5_put_1 : decode cX5_put 1 = .ok (.iload_n 1, 1) := by decide +kernel
theorem dX5_put_2 : decode cX5_put 2 = .ok (.invokevirtual 26, 3) := by decide +kernel
theorem dX5_put_5 : decode cX5_put 5 = .ok (.ifCond .eq 4, 3) := by decide +kernel
theorem dX5_put_8 : decode cX5_put 8 = .ok (.return_, 1) := by decide +kernel
theorem dX5_put_9 : decode cX5_put 9 = .ok (.aload_n 0, 1) := by decide +kernel
theorem dX5_put_10 : decode cX5_put 10 = .ok (.getfield 15, 3) := by decide +kernel
theorem dX5_put_13 : decode cX5_put 13 = .ok (.ifCond .ne 14, 3) := by decide +kernel
theorem dX5_put_16 : decode cX5_put 16 = .ok (.aload_n 0, 1) := by decide +kernel
theorem dX5_put_17 : decode cX5_put 17 = .ok (.getfield 9, 3) := by decide +kernel
theorem dX5_put_20 : decode cX5_put 20 = .ok (.iload_n 1, 1) := by decide +kernel
theorem dX5_put_21 : decode cX5_put 21 = .ok (.iload_n 2, 1) := by decide +kernel
theorem dX5_put_22 : decode cX5_put 22 = .ok (.i2b, 1) := by decide +kernel
theorem dX5_put_23 : decode cX5_put 23 = .ok (.iastore, 1) := by decide +kernel
theorem dX5_put_24 : decode cX5_put 24 = .ok (.goto 29, 3) := by decide +kernel
theorem dX5_put_27 : decode cX5_put 27 = .ok (.aload_n 0, 1) := by decide +kernel
theorem dX5_put_28 : decode cX5_put 28 = .ok (.getfield 15, 3) := by decide +kernel
theorem dX5_put_31 : decode cX5_put 31 = .ok (.iconst 1, 1) := by decide +kernel
theorem dX5_put_32 : decode cX5_put 32 = .ok (.if_icmp .ne 14, 3) := by decide +kernel
theorem dX5_put_35 : decode cX5_put 35 = .ok (.aload_n 0, 1) := by decide +kernel
theorem dX5_put_36 : decode cX5_put 36 = .ok (.getfield 9, 3) := by decide +kernel
theorem dX5_put_39 : decode cX5_put 39 = .ok (.iload_n 1, 1) := by decide +kernel
theorem dX5_put_40 : decode cX5_put 40 = .ok (.iload_n 2, 1) := by decide +kernel
theorem dX5_put_41 : decode cX5_put 41 = .ok (.i2s, 1) := by decide +kernel
theorem dX5_put_42 : decode cX5_put 42 = .ok (.iastore, 1) := by decide +kernel
theorem dX5_put_43 : decode cX5_put 43 = .ok (.goto 10, 3) := by decide +kernel
theorem dX5_put_46 : decode cX5_put 46 = .ok (.aload_n 0, 1) := by decide +kernel
theorem dX5_put_47 : decode cX5_put 47 = .ok (.getfield 9, 3) := by decide +kernel
theorem dX5_put_50 : decode cX5_put 50 = .ok (.iload_n 1, 1) := by decide +kernel
theorem dX5_put_51 : decode cX5_put 51 = .ok (.iload_n 2, 1) := by decide +kernel
theorem dX5_put_52 : decode cX5_put 52 = .ok (.iastore, 1) := by decide +kernel
theorem dX5_put_53 : decode cX5_put 53 = .ok (.return_, 1) := by decide +kernel
theorem dX6_init_0 : decode cX6_init 0 = .ok (.aload_n 0, 1) := by decide +kernel
theorem dX6_init_1 : decode cX6_init 1 = .ok (.invokespecial 3, 3) := by decide +kernel
theorem dX6_init_4 : decode cX6_init 4 = .ok (.aload_n 0, 1) := by decide +kernel
theorem dX6_init_5 : decode cX6_init 5 = .ok (.bipush 16, 2) := by decide +kernel
theorem dX6_init_7 : decode cX6_init 7 = .ok (.newarray .int, 2) := by decide +kernel
theorem dX6_init_9 : decode cX6_init 9 = .ok (.putfield 9, 3) := by decide +kernel
theorem dX6_init_12 : decode cX6_init 12 = .ok (.aload_n 0, 1) := by decide +kernel
theorem dX6_init_13 : decode cX6_init 13 = .ok (.bipush 16, 2) := by decide +kernel
theorem dX6_init_15 : decode cX6_init 15 = .ok (.newarray .int, 2) := by decide +kernel
theorem dX6_init_17 : decode cX6_init 17 = .ok (.putfield 15, 3) := by decide +kernel
theorem dX6_init_20 : decode cX6_init 20 = .ok (.aload_n 0, 1) := by decide +kernel
theorem dX6_init_21 : decode cX6_init 21 = .ok (.bipush 16, 2) := by decide +kernel
theorem dX6_init_23 : decode cX6_init 23 = .ok (.newarray .boolean, 2) := by decide +kernel
theorem dX6_init_25 : decode cX6_init 25 = .ok (.putfield 18, 3) := by decide +kernel
theorem dX6_init_28 : decode cX6_init 28 = .ok (.aload_n 0, 1) := by decide +kernel
theorem dX6_init_29 : decode cX6_init 29 = .ok (.iconst 0, 1) := by decide +kernel
theorem dX6_init_30 : decode cX6_init 30 = .ok (.putfield 22, 3) := by decide +kernel
theorem dX6_init_33 : decode cX6_init 33 = .ok (.return_, 1) := by decide +kernel
set_option maxRecDepth 20000 in
theorem ggX6_has_X10_within : GoodIn wsX6_has wsX10_within := goodIn_r _ [4] (by decide +kernel) (by decide +kernel)
set_option maxRecDepth 20000 in
theorem gX6_has_X10_within_n26 : GoodIn wsX6_has (wsX10_within) := ggX6_has_X10_within
theorem dX6_has_0 : decode cX6_has 0 = .ok (.iload_n 1, 1) := by decide +kernel
theorem dX6_has_1 : decode cX6_has 1 = .ok (.iconst 0, 1) := by decide +kernel
theorem dX6_has_2 : decode cX6_has 2 = .ok (.aload_n 0, 1) := by decide +kernel
theorem dX6_has_3 : decode cX6_has 3 = .ok (.getfield 22, 3) := by decide +kernel
theorem dX6_has_6 : decode cX6_has 6 = .ok (.iconst 1, 1) := by decide +kernel
theorem dX6_has_7 : decode cX6_has 7 = .ok (.isub, 1) := by decide +kernel
theorem dX6_has_8 : decode cX6_has 8 = .ok (.invokestatic 26, 3) := by decide +kernel
theorem dX6_has_11 : decode cX6_has 11 = .ok (.ireturn, 1) := by decide +kernel
theorem dX6_hasNumber_0 : decode cX6_hasNumber 0 = .ok (.iconst 0, 1) := by decide +kernel
theorem dX6_hasNumber_1 : decode cX6_hasNumber 1 = .ok (.istore_n 2, 1) := by decide +kernel
theorem dX6_hasNumber_2 : decode cX6_hasNumber 2 = .ok (.iload_n 2, 1) := by decide +kernel
theorem dX6_hasNumber_3 : decode cX6_hasNumber 3 = .ok (.aload_n 0, 1) := by decide +kernel
theorem dX6_hasNumber_4 : decode cX6_hasNumber 4 = .ok (.getfield 22, 3) := by decide +kernel
theorem dX6_hasNumber_7 : decode cX6_hasNumber 7 = .ok (.if_icmp .ge 21, 3) := by decide +kernel
theorem dX6_hasNumber_10 : decode cX6_hasNumber 10 = .ok (.aload_n 0, 1) := by decide +kernel
theorem dX6_hasNumber_11 : decode cX6_hasNumber 11 = .ok (.getfield 9, 3) := by decide +kernel
theorem dX6_hasNumber_14 : decode cX6_hasNumber 14 = .ok (.iload_n 2, 1) := by decide +kernel
theorem dX6_hasNumber_15 : decode cX6_hasNumber 15 = .ok (.iaload, 1) := by decide +kernel
theorem dX6_hasNumber_16 : decode cX6_hasNumber 16 = .ok (.iload_n 1, 1) := by decide +kernel
theorem dX6_hasNumber_17 : decode cX6_hasNumber 17 = .ok (.if_icmp .ne 5, 3) := by decide +kernel
theorem dX6_hasNumber_20 : decode cX6_hasNumber 20 = .ok (.iconst 1, 1) := by decide +kernel
theorem dX6_hasNumber_21 : decode cX6_hasNumber 21 = .ok (.ireturn, 1) := by decide +kernel
theorem dX6_hasNumber_22 : decode cX6_hasNumber 22 = .ok (.iinc 2 1, 3) := by decide +kernel
theorem dX6_hasNumber_25 : decode cX6_hasNumber 25 = .ok (.goto (-23), 3) := by decide +kernel
theorem dX6_hasNumber_28 : decode cX6_hasNumber 28 = .ok (.iconst 0, 1) := by decide +kernel
theorem dX6_hasNumber_29 : decode cX6_hasNumber 29 = .ok (.ireturn, 1) := by decide +kernel
theorem dX6_add_0 : decode cX6_add 0 = .ok (.aload_n 0, 1) := by decide +kernel
theorem dX6_add_1 : decode cX6_add 1 = .ok (.getfield 22, 3) := by decide +kernel
theorem dX6_add_4 : decode cX6_add 4 = .ok (.bipush 16, 2) := by decide +kernel
theorem dX6_add_6 : decode cX6_add 6 = .ok (.if_icmp .lt 4, 3) := by decide +kernel
theorem dX6_add_9 : decode cX6_add 9 = .ok (.return_, 1) := by decide +kernel
theorem dX6_add_10 : decode cX6_add 10 = .ok (.aload_n 0, 1) := by decide +kernel
theorem dX6_add_11 : decode cX6_add 11 = .ok (.getfield 9, 3) := by decide +kernel
theorem dX6_add_14 : decode cX6_add 14 = .ok (.aload_n 0, 1) := by decide +kernel
theorem dX6_add_15 : decode cX6_add 15 = .ok (.getfield 22, 3) := by decide +kernel
theorem dX6_add_18 : decode cX6_add 18 = .ok (.iload_n 1, 1) := by decide +kernel
theorem dX6_add_19 : decode cX6_add 19 = .ok (.iastore, 1) := by decide +kernel
theorem dX6_add_20 : decode cX6_add 20 = .ok (.aload_n 0, 1) := by decide +kernel
theorem dX6_add_21 : decode cX6_add 21 = .ok (.getfield 15, 3) := by decide +kernel
theorem dX6_add_24 : decode cX6_add 24 = .ok (.aload_n 0, 1) := by decide +kernel
theorem dX6_add_25 : decode cX6_add 25 = .ok (.getfield 22, 3) := by decide +kernel
theorem dX6_add_28 : decode cX6_add 28 = .ok (.iload_n 2, 1) := by decide +kernel
theorem dX6_add_29 : decode cX6_add 29 = .ok (.iastore, 1) := by decide +kernel
theorem dX6_add_30 : decode cX6_add 30 = .ok (.aload_n 0, 1) := by decide +kernel
theorem dX6_add_31 : decode cX6_add 31 = .ok (.getfield 18, 3) := by decide +kernel
theorem dX6_add_34 : decode cX6_add 34 = .ok (.aload_n 0, 1) := by decide +kernel
theorem dX6_add_35 : decode cX6_add 35 = .ok (.getfield 22, 3) := by decide +kernel
theorem dX6_add_38 : decode cX6_add 38 = .ok (.iconst 0, 1) := by decide +kernel
theorem dX6_add_39 : decode cX6_add 39 = .ok (.bastore, 1) := by decide +kernel
theorem dX6_add_40 : decode cX6_add 40 = .ok (.aload_n 0, 1) := by decide +kernel
theorem dX6_add_41 : decode cX6_add 41 = .ok (.dup, 1) := by decide +kernel
theorem dX6_add_42 : decode cX6_add 42 = .ok (.getfield 22, 3) := by decide +kernel
theorem dX6_add_45 : decode cX6_add 45 = .ok (.iconst 1, 1) := by decide +kernel
theorem dX6_add_46 : decode cX6_add 46 = .ok (.iadd, 1) := by decide +kernel
theorem dX6_add_47 : decode cX6_add 47 = .ok (.putfield 22, 3) := by decide +kernel
theorem dX6_add_50 : decode cX6_add 50 = .ok (.return_, 1) := by decide +kernel
theorem dX6_silentOnes_0 : decode cX6_silentOnes 0 = .ok (.iconst 0, 1) := by decide +kernel
theorem dX6_silentOnes_1 : decode cX6_silentOnes 1 = .ok (.istore_n 1, 1) := by decide +kernel
theorem dX6_silentOnes_2 : decode cX6_silentOnes 2 = .ok (.iconst 0, 1) := by decide +kernel
theorem dX6_silentOnes_3 : decode cX6_silentOnes 3 = .ok (.istore_n 2, 1) := by decide +kernel
theorem dX6_silentOnes_4 : decode cX6_silentOnes 4 = .ok (.iload_n 2, 1) := by decide +kernel
theorem dX6_silentOnes_5 : decode cX6_silentOnes 5 = .ok (.aload_n 0, 1) := by decide +kernel
theorem dX6_silentOnes_6 : decode cX6_silentOnes 6 = .ok (.getfield 22, 3) := by decide +kernel
theorem dX6_silentOnes_9 : decode cX6_silentOnes 9 = .ok (.if_icmp .ge 21, 3) := by decide +kernel
theorem dX6_silentOnes_12 : decode cX6_silentOnes 12 = .ok (.aload_n 0, 1) := by decide +kernel
theorem dX6_silentOnes_13 : decode cX6_silentOnes 13 = .ok (.getfield 18, 3) := by decide +kernel
theorem dX6_silentOnes_16 : decode cX6_silentOnes 16 = .ok (.iload_n 2, 1) := by decide +kernel
theorem dX6_silentOnes_17 : decode cX6_silentOnes 17 = .ok (.baload, 1) := by decide +kernel
theorem dX6_silentOnes_18 : decode cX6_silentOnes 18 = .ok (.ifCond .eq 6, 3) := by decide +kernel
theorem dX6_silentOnes_21 : decode cX6_silentOnes 21 = .ok (.iinc 1 1, 3) := by decide +kernel
theorem dX6_silentOnes_24 : decode cX6_silentOnes 24 = .ok (.iinc 2 1, 3) := by decide +kernel
theorem dX6_silentOnes_27 : decode cX6_silentOnes 27 = .ok (.goto (-23), 3) := by decide +kernel
theorem dX6_silentOnes_30 : decode cX6_silentOnes 30 = .ok (.iload_n 1, 1) := by decide +kernel
theorem dX6_silentOnes_31 : decode cX6_silentOnes 31 = .ok (.ireturn, 1) := by decide +kernel
theorem dX6_silenceAll_0 : decode cX6_silenceAll 0 = .ok (.iconst 0, 1) := by decide +kernel
theorem dX6_silenceAll_1 : decode cX6_silenceAll 1 = .ok (.istore_n 2, 1) := by decide +kernel
theorem dX6_silenceAll_2 : decode cX6_silenceAll 2 = .ok (.iload_n 2, 1) := by decide +kernel
theorem dX6_silenceAll_3 : decode cX6_silenceAll 3 = .ok (.aload_n 0, 1) := by decide +kernel
theorem dX6_silenceAll_4 : decode cX6_silenceAll 4 = .ok (.getfield 22, 3) := by decide +kernel
theorem dX6_silenceAll_7 : decode cX6_silenceAll 7 = .ok (.if_icmp .ge 16, 3) := by decide +kernel
theorem dX6_silenceAll_10 : decode cX6_silenceAll 10 = .ok (.aload_n 0, 1) := by decide +kernel
theorem dX6_silenceAll_11 : decode cX6_silenceAll 11 = .ok (.getfield 18, 3) := by decide +kernel
theorem dX6_silenceAll_14 : decode cX6_silenceAll 14 = .ok (.iload_n 2, 1) := by decide +kernel
theorem dX6_silenceAll_15 : decode cX6_silenceAll 15 = .ok (.iload_n 1, 1) := by decide +kernel
theorem dX6_silenceAll_16 : decode cX6_silenceAll 16 = .ok (.bastore, 1) := by decide +kernel
theorem dX6_silenceAll_17 : decode cX6_silenceAll 17 = .ok (.iinc 2 1, 3) := by decide +kernel
theorem dX6_silenceAll_20 : decode cX6_silenceAll 20 = .ok (.goto (-18), 3) := by decide +kernel
theorem dX6_silenceAll_23 : decode cX6_silenceAll 23 = .ok (.return_, 1) := by decide +kernel
theorem dX7_init_0 : decode cX7_init 0 = .ok (.aload_n 0, 1) := by decide +kernel
theorem dX7_init_1 : decode cX7_init 1 = .ok (.invokespecial 3, 3) := by decide +kernel
theorem dX7_init_4 : decode cX7_init 4 = .ok (.aload_n 0, 1) := by decide +kernel
theorem dX7_init_5 : decode cX7_init 5 = .ok (.sipush 200, 3) := by decide +kernel
theorem dX7_init_8 : decode cX7_init 8 = .ok (.newarray .byte, 2) := by decide +kernel
theorem dX7_init_10 : decode cX7_init 10 = .ok (.putfield 9, 3) := by decide +kernel
theorem dX7_init_13 : decode cX7_init 13 = .ok (.aload_n 0, 1) := by decide +kernel
theorem dX7_init_14 : decode cX7_init 14 = .ok (.iconst 0, 1) := by decide +kernel
theorem dX7_init_15 : decode cX7_init 15 = .ok (.putfield 15, 3) := by decide +kernel
theorem dX7_init_18 : decode cX7_init 18 = .ok (.aload_n 0, 1) := by decide +kernel
theorem dX7_init_19 : decode cX7_init 19 = .ok (.iconst 0, 1) := by decide +kernel
theorem dX7_init_20 : decode cX7_init 20 = .ok (.putfield 19, 3) := by decide +kernel
theorem dX7_init_23 : decode cX7_init 23 = .ok (.aload_n 0, 1) := by decide +kernel
theorem dX7_init_24 : decode cX7_init 24 = .ok (.iconst 0, 1) := by decide +kernel
theorem dX7_init_25 : decode cX7_init 25 = .ok (.putfield 22, 3) := by decide +kernel
theorem dX7_init_28 : decode cX7_init 28 = .ok (.aload_n 0, 1) := by decide +kernel
theorem dX7_init_29 : decode cX7_init 29 = .ok (.iconst 0, 1) := by decide +kernel
theorem dX7_init_30 : decode cX7_init 30 = .ok (.putfield 25, 3) := by decide +kernel
theorem dX7_init_33 : decode cX7_init 33 = .ok (.aload_n 0, 1) := by decide +kernel
theorem dX7_init_34 : decode cX7_init 34 = .ok (.iconst 0, 1) := by decide +kernel
theorem dX7_init_35 : decode cX7_init 35 = .ok (.putfield 28, 3) := by decide +kernel
theorem dX7_init_38 : decode cX7_init 38 = .ok (.return_, 1) := by decide +kernel
theorem dX7_add_0 : decode cX7_add 0 = .ok (.bipush 56, 2) := by decide +kernel
theorem dX7_add_2 : decode cX7_add 2 = .ok (.istore_n 3, 1) := by decide +kernel
theorem dX7_add_3 : decode cX7_add 3 = .ok (.iload_n 3, 1) := by decide +kernel
theorem dX7_add_4 : decode cX7_add 4 = .ok (.ifCond .lt 43, 3) := by decide +kernel
theorem dX7_add_7 : decode cX7_add 7 = .ok (.aload_n 0, 1) := by decide +kernel
theorem dX7_add_8 : decode cX7_add 8 = .ok (.getfield 15, 3) := by decide +kernel
theorem dX7_add_11 : decode cX7_add 11 = .ok (.sipush 200, 3) := by decide +kernel
theorem dX7_add_14 : decode cX7_add 14 = .ok (.if_icmp .ge 33, 3) := by decide +kernel
theorem dX7_add_17 : decode cX7_add 17 = .ok (.aload_n 0, 1) := by decide +kernel
theorem dX7_add_18 : decode cX7_add 18 = .ok (.getfield 9, 3) := by decide +kernel
theorem dX7_add_21 : decode cX7_add 21 = .ok (.aload_n 0, 1) := by decide +kernel
theorem dX7_add_22 : decode cX7_add 22 = .ok (.getfield 15, 3) := by decide +kernel
theorem dX7_add_25 : decode cX7_add 25 = .ok (.lload_n 1, 1) := by decide +kernel
theorem dX7_add_26 : decode cX7_add 26 = .ok (.iload_n 3, 1) := by decide +kernel
theorem dX7_add_27 : decode cX7_add 27 = .ok (.lshr, 1) := by decide +kernel
theorem dX7_add_28 : decode cX7_add 28 = .ok (.l2i, 1) := by decide +kernel
theorem dX7_add_29 : decode cX7_add 29 = .ok (.i2b, 1) := by decide +kernel
theorem dX7_add_30 : decode cX7_add 30 = .ok (.bastore, 1) := by decide +kernel
theorem dX7_add_31 : decode cX7_add 31 = .ok (.aload_n 0, 1) := by decide +kernel
theorem dX7_add_32 : decode cX7_add 32 = .ok (.dup, 1) := by decide +kernel
theorem dX7_add_33 : decode cX7_add 33 = .ok (.getfield 15, 3) := by decide +kernel
theorem dX7_add_36 : decode cX7_add 36 = .ok (.iconst 1, 1) := by decide +kernel
theorem dX7_add_37 : decode cX7_add 37 = .ok (.iadd, 1) := by decide +kernel
theorem dX7_add_38 : decode cX7_add 38 = .ok (.putfield 15, 3) := by decide +kernel
theorem dX7_add_41 : decode cX7_add 41 = .ok (.iinc 3 (-8), 3) := by decide +kernel
theorem dX7_add_44 : decode cX7_add 44 = .ok (.goto (-41), 3) := by decide +kernel
theorem dX7_add_47 : decode cX7_add 47 = .ok (.return_, 1) := by decide +kernel
theorem dX7_rewind_0 : decode cX7_rewind 0 = .ok (.aload_n 0, 1) := by decide +kernel
theorem dX7_rewind_1 : decode cX7_rewind 1 = .ok (.iconst 0, 1) := by decide +kernel
theorem dX7_rewind_2 : decode cX7_rewind 2 = .ok (.putfield 28, 3) := by decide +kernel
theorem dX7_rewind_5 : decode cX7_rewind 5 = .ok (.return_, 1) := by decide +kernel
theorem dX7_byteAt_0 : decode cX7_byteAt 0 = .ok (.iload_n 1, 1) := by decide +kernel
theorem dX7_byteAt_1 : decode cX7_byteAt 1 = .ok (.ifCond .lt 27, 3) := by decide +kernel
theorem dX7_byteAt_4 : decode cX7_byteAt 4 = .ok (.iload_n 1, 1) := by decide +kernel
theorem dX7_byteAt_5 : decode cX7_byteAt 5 = .ok (.aload_n 0, 1) := by decide +kernel
theorem dX7_byteAt_6 : decode cX7_byteAt 6 = .ok (.getfield 15, 3) := by decide +kernel
theorem dX7_byteAt_9 : decode cX7_byteAt 9 = .ok (.if_icmp .ge 19, 3) := by decide +kernel
theorem dX7_byteAt_12 : decode cX7_byteAt 12 = .ok (.iload_n 1, 1) := by decide +kernel
theorem dX7_byteAt_13 : decode cX7_byteAt 13 = .ok (.sipush 200, 3) := by decide +kernel
theorem dX7_byteAt_16 : decode cX7_byteAt 16 = .ok (.if_icmp .ge 12, 3) := by decide +kernel
theorem dX7_byteAt_19 : decode cX7_byteAt 19 = .ok (.aload_n 0, 1) := by decide +kernel
theorem dX7_byteAt_20 : decode cX7_byteAt 20 = .ok (.getfield 9, 3) := by decide +kernel
theorem dX7_byteAt_23 : decode cX7_byteAt 23 = .ok (.iload_n 1, 1) := by decide +kernel
theorem dX7_byteAt_24 : decode cX7_byteAt 24 = .ok (.baload, 1) := by decide +kernel
theorem dX7_byteAt_25 : decode cX7_byteAt 25 = .ok (.goto 4, 3) := by decide +kernel
theorem dX7_byteAt_28 : decode cX7_byteAt 28 = .ok (.iconst 0, 1) := by decide +kernel
theorem dX7_byteAt_29 : decode cX7_byteAt 29 = .ok (.ireturn, 1) := by decide +kernel
set_option maxRecDepth 20000 in
theorem ggX7_isLetterAt_X7_byteAt : GoodIn wsX7_isLetterAt wsX7_byteAt := goodIn_r _ [5, 6, 7, 11, 12, 13, 14, 15, 16] (by decide +kernel) (by decide +kernel)
set_option maxRecDepth 20000 in
theorem gX7_isLetterAt_X7_byteAt : GoodIn wsX7_isLetterAt (wsV RX7 31 RX7 yX7_byteAt wsX7_byteAt) := goodIn_app (goodIn_of _ (by decide +kernel)) ggX7_isLetterAt_X7_byteAt
set_option maxRecDepth 20000 in
theorem ggX7_isLetterAt_X10_within : GoodIn wsX7_isLetterAt wsX10_within := goodIn_r _ [10] (by decide +kernel) (by decide +kernel)
set_option maxRecDepth 20000 in
theorem gX7_isLetterAt_X10_within_n35 : GoodIn wsX7_isLetterAt (wsX10_within) := ggX7_isLetterAt_X10_within
theorem dX7_isLetterAt_0 : decode cX7_isLetterAt 0 = .ok (.aload_n 0, 1) := by decide +kernel
theorem dX7_isLetterAt_1 : decode cX7_isLetterAt 1 = .ok (.iload_n 1, 1) := by decide +kernel
theorem dX7_isLetterAt_2 : decode cX7_isLetterAt 2 = .ok (.invokevirtual 31, 3) := by decide +kernel
theorem dX7_isLetterAt_5 : decode cX7_isLetterAt 5 = .ok (.bipush 97, 2) := by decide +kernel
theorem dX7_isLetterAt_7 : decode cX7_isLetterAt 7 = .ok (.bipush 122, 2) := by decide +kernel
theorem dX7_isLetterAt_9 : decode cX7_isLetterAt 9 = .ok (.invokestatic 35, 3) := by decide +kernel
theorem dX7_isLetterAt_12 : decode cX7_isLetterAt 12 = .ok (.ireturn, 1) := by decide +kernel
set_option maxRecDepth 20000 in
theorem ggX7_isFigureAt_X7_byteAt : GoodIn wsX7_isFigureAt wsX7_byteAt := goodIn_r _ [5, 6, 7, 11, 12, 13, 14, 15, 16] (by decide +kernel) (by decide +kernel)
set_option maxRecDepth 20000 in
theorem gX7_isFigureAt_X7_byteAt : GoodIn wsX7_isFigureAt (wsV RX7 31 RX7 yX7_byteAt wsX7_byteAt) := goodIn_app (goodIn_of _ (by decide +kernel)) ggX7_isFigureAt_X7_byteAt
set_option maxRecDepth 20000 in
theorem ggX7_isFigureAt_X10_within : GoodIn wsX7_isFigureAt wsX10_within := goodIn_r _ [10] (by decide +kernel) (by decide +kernel)
set_option maxRecDepth 20000 in
theorem gX7_isFigureAt_X10_within_n35 : GoodIn wsX7_isFigureAt (wsX10_within) := ggX7_isFigureAt_X10_within
theorem dX7_isFigureAt_0 : decode cX7_isFigureAt 0 = .ok (.aload_n 0, 1) := by decide +kernel
theorem dX7_isFigureAt_1 : decode cX7_isFigureAt 1 = .ok (.iload_n 1, 1) := by decide +kernel
theorem dX7_isFigureAt_2 : decode cX7_isFigureAt 2 = .ok (.invokevirtual 31, 3) := by decide +kernel
theorem dX7_isFigureAt_5 : decode cX7_isFigureAt 5 = .ok (.bipush 48, 2) := by decide +kernel
theorem dX7_isFigureAt_7 : decode cX7_isFigureAt 7 = .ok (.bipush 57, 2) := by decide +kernel
theorem dX7_isFigureAt_9 : decode cX7_isFigureAt 9 = .ok (.invokestatic 35, 3) := by decide +kernel
theorem dX7_isFigureAt_12 : decode cX7_isFigureAt 12 = .ok (.ireturn, 1) := by decide +kernel
set_option maxRecDepth 20000 in
theorem ggX7_readToken_X7_byteAt : GoodIn wsX7_readToken wsX7_byteAt := goodIn_r _ [9, 2, 10, 87, 88, 89, 90, 91, 92] (by decide +kernel) (by decide +kernel)
set_option maxRecDepth 20000 in
theorem gX7_readToken_X7_byteAt : GoodIn wsX7_readToken (wsV RX7 31 RX7 yX7_byteAt wsX7_byteAt) := goodIn_app (goodIn_of _ (by decide +kernel)) ggX7_readToken_X7_byteAt
set_option maxRecDepth 20000 in
theorem ggX7_readToken_X7_isLetterAt : GoodIn wsX7_readToken wsX7_isLetterAt := goodIn_r _ [14, 5, 6, 7, 8, 9, 2, 10, 15, 16, 17, 87, 88, 89, 90, 91, 92] (by decide +kernel) (by decide +kernel)
set_option maxRecDepth 20000 in
theorem gX7_readToken_X7_isLetterAt : GoodIn wsX7_readToken (wsV RX7 39 RX7 yX7_isLetterAt wsX7_isLetterAt) := goodIn_app (goodIn_of _ (by decide +kernel)) ggX7_readToken_X7_isLetterAt
set_option maxRecDepth 20000 in
theorem ggX7_readToken_X7_readName : GoodIn wsX7_readToken wsX7_readName := goodIn_r _ [21, 1, 2, 4, 22, 11, 12, 13, 8, 14, 5, 6, 7, 9, 10, 15, 16, 17, 23, 24, 25, 26, 27, 28, 29, 3, 30, 31, 32, 33, 34, 35, 36, 37, 38, 39, 40, 41, 42, 43, 44, 45, 46, 47, 48, 49, 50, 51, 52, 53, 54, 55, 56, 57, 58, 59, 60, 61, 62, 63, 64, 65, 66, 67, 68, 69, 70, 71, 72, 73, 74, 75, 76, 77, 78, 87, 88, 89, 90, 91, 92] (by decide +kernel) (by decide +kernel)
set_option maxRecDepth 20000 in
theorem gX7_readToken_X7_readName : GoodIn wsX7_readToken (wsV RX7 43 RX7 yX7_readName wsX7_readName) := goodIn_app (goodIn_of _ (by decide +kernel)) ggX7_readToken_X7_readName
set_option maxRecDepth 20000 in
theorem ggX7_readToken_X7_isFigureAt : GoodIn wsX7_readToken wsX7_isFigureAt := goodIn_r _ [82, 5, 6, 7, 8, 9, 2, 10, 15, 16, 17, 87, 88, 89, 90, 91, 92] (by decide +kernel) (by decide +kernel)
set_option maxRecDepth 20000 in
theorem gX7_readToken_X7_isFigureAt : GoodIn wsX7_readToken (wsV RX7 46 RX7 yX7_isFigureAt wsX7_isFigureAt) := goodIn_app (goodIn_of _ (by decide +kernel)) ggX7_readToken_X7_isFigureAt
set_option maxRecDepth 20000 in
theorem ggX7_readToken_X7_readNumber : GoodIn wsX7_readToken wsX7_readNumber := goodIn_r _ [86, 22, 1, 2, 3, 4, 79, 80, 81, 8, 82, 5, 6, 7, 9, 10, 15, 16, 17, 87, 88, 89, 90, 91, 92] (by decide +kernel) (by decide +kernel)
set_option maxRecDepth 20000 in
theorem gX7_readToken_X7_readNumber : GoodIn wsX7_readToken (wsV RX7 49 RX7 yX7_readNumber wsX7_readNumber) := goodIn_app (goodIn_of _ (by decide +kernel)) ggX7_readToken_X7_readNumber
theorem dX7_readToken_0 : decode cX7_readToken 0 = .ok (.aload_n 0, 1) := by decide +kernel
theorem dX7_readToken_1 : decode cX7_readToken 1 = .ok (.getfield 28, 3) := by decide +kernel
theorem dX7_readToken_4 : decode cX7_readToken 4 = .ok (.aload_n 0, 1) := by decide +kernel
theorem dX7_readToken_5 : decode cX7_readToken 5 = .ok (.getfield 15, 3) := by decide +kernel
theorem dX7_readToken_8 : decode cX7_readToken 8 = .ok (.if_icmp .ge 29, 3) := by decide +kernel
theorem dX7_readToken_11 : decode cX7_readToken 11 = .ok (.aload_n 0, 1) := by decide +kernel
theorem dX7_readToken_12 : decode cX7_readToken 12 = .ok (.aload_n 0, 1) := by decide +kernel
theorem dX7_readToken_13 : decode cX7_readToken 13 = .ok (.getfield 28, 3) := by decide +kernel
theorem dX7_readToken_16 : decode cX7_readToken 16 = .ok (.invokevirtual 31, 3) := by decide +kernel
theorem dX7_readToken_19 : decode cX7_readToken 19 = .ok (.bipush 32, 2) := by decide +kernel
theorem dX7_readToken_21 : decode cX7_readToken 21 = .ok (.if_icmp .ne 16, 3) := by decide +kernel
theorem dX7_readToken_24 : decode cX7_readToken 24 = .ok (.aload_n 0, 1) := by decide +kernel
theorem dX7_readToken_25 : decode cX7_readToken 25 = .ok (.dup, 1) := by decide +kernel
theorem dX7_readToken_26 : decode cX7_readToken 26 = .ok (.getfield 28, 3) := by decide +kernel
theorem dX7_readToken_29 : decode cX7_readToken 29 = .ok (.iconst 1, 1) := by decide +kernel
theorem dX7_readToken_30 : decode cX7_readToken 30 = .ok (.iadd, 1) := by decide +kernel
theorem dX7_readToken_31 : decode cX7_readToken 31 = .ok (.putfield 28, 3) := by decide +kernel
theorem dX7_readToken_34 : decode cX7_readToken 34 = .ok (.goto (-34), 3) := by decide +kernel
theorem dX7_readToken_37 : decode cX7_readToken 37 = .ok (.aload_n 0, 1) := by decide +kernel
theorem dX7_readToken_38 : decode cX7_readToken 38 = .ok (.aload_n 0, 1) := by decide +kernel
theorem dX7_readToken_39 : decode cX7_readToken 39 = .ok (.getfield 28, 3) := by decide +kernel
theorem dX7_readToken_42 : decode cX7_readToken 42 = .ok (.putfield 22, 3) := by decide +kernel
theorem dX7_readToken_45 : decode cX7_readToken 45 = .ok (.aload_n 0, 1) := by decide +kernel
theorem dX7_readToken_46 : decode cX7_readToken 46 = .ok (.getfield 28, 3) := by decide +kernel
theorem dX7_readToken_49 : decode cX7_readToken 49 = .ok (.aload_n 0, 1) := by decide +kernel
theorem dX7_readToken_50 : decode cX7_readToken 50 = .ok (.getfield 15, 3) := by decide +kernel
theorem dX7_readToken_53 : decode cX7_readToken 53 = .ok (.if_icmp .lt 11, 3) := by decide +kernel
theorem dX7_readToken_56 : decode cX7_readToken 56 = .ok (.aload_n 0, 1) := by decide +kernel
theorem dX7_readToken_57 : decode cX7_readToken 57 = .ok (.iconst 4, 1) := by decide +kernel
theorem dX7_readToken_58 : decode cX7_readToken 58 = .ok (.putfield 19, 3) := by decide +kernel
theorem dX7_readToken_61 : decode cX7_readToken 61 = .ok (.goto 71, 3) := by decide +kernel
theorem dX7_readToken_64 : decode cX7_readToken 64 = .ok (.aload_n 0, 1) := by decide +kernel
theorem dX7_readToken_65 : decode cX7_readToken 65 = .ok (.aload_n 0, 1) := by decide +kernel
theorem dX7_readToken_66 : decode cX7_readToken 66 = .ok (.getfield 28, 3) := by decide +kernel
theorem dX7_readToken_69 : decode cX7_readToken 69 = .ok (.invokevirtual 39, 3) := by decide +kernel
theorem dX7_readToken_72 : decode cX7_readToken 72 = .ok (.ifCond .eq 10, 3) := by decide +kernel
theorem dX7_readToken_75 : decode cX7_readToken 75 = .ok (.aload_n 0, 1) := by decide +kernel
theorem dX7_readToken_76 : decode cX7_readToken 76 = .ok (.invokevirtual 43, 3) := by decide +kernel
theorem dX7_readToken_79 : decode cX7_readToken 79 = .ok (.goto 53, 3) := by decide +kernel
theorem dX7_readToken_82 : decode cX7_readToken 82 = .ok (.aload_n 0, 1) := by decide +kernel
theorem dX7_readToken_83 : decode cX7_readToken 83 = .ok (.aload_n 0, 1) := by decide +kernel
theorem dX7_readToken_84 : decode cX7_readToken 84 = .ok (.getfield 28, 3) := by decide +kernel
theorem dX7_readToken_87 : decode cX7_readToken 87 = .ok (.invokevirtual 46, 3) := by decide +kernel
theorem dX7_readToken_90 : decode cX7_readToken 90 = .ok (.ifCond .eq 10, 3) := by decide +kernel
theorem dX7_readToken_93 : decode cX7_readToken 93 = .ok (.aload_n 0, 1) := by decide +kernel
theorem dX7_readToken_94 : decode cX7_readToken 94 = .ok (.invokevirtual 49, 3) := by decide +kernel
theorem dX7_readToken_97 : decode cX7_readToken 97 = .ok (.goto 35, 3) := by decide +kernel
theorem dX7_readToken_100 : decode cX7_readToken 100 = .ok (.aload_n 0, 1) := by decide +kernel
theorem dX7_readToken_101 : decode cX7_readToken 101 = .ok (.aload_n 0, 1) := by decide +kernel
theorem dX7_readToken_102 : decode cX7_readToken 102 = .ok (.aload_n 0, 1) := by decide +kernel
theorem dX7_readToken_103 : decode cX7_readToken 103 = .ok (.getfield 28, 3) := by decide +kernel
theorem dX7_readToken_106 : decode cX7_readToken 106 = .ok (.invokevirtual 31, 3) := by decide +kernel
theorem dX7_readToken_109 : decode cX7_readToken 109 = .ok (.bipush 59, 2) := by decide +kernel
theorem dX7_readToken_111 : decode cX7_readToken 111 = .ok (.if_icmp .ne 7, 3) := by decide +kernel
theorem dX7_readToken_114 : decode cX7_readToken 114 = .ok (.iconst 3, 1) := by decide +kernel
theorem dX7_readToken_115 : decode cX7_readToken 115 = .ok (.goto 4, 3) := by decide +kernel
theorem dX7_readToken_118 : decode cX7_readToken 118 = .ok (.iconst 0, 1) := by decide +kernel
theorem dX7_readToken_119 : decode cX7_readToken 119 = .ok (.putfield 19, 3) := by decide +kernel
theorem dX7_readToken_122 : decode cX7_readToken 122 = .ok (.aload_n 0, 1) := by decide +kernel
theorem dX7_readToken_123 : decode cX7_readToken 123 = .ok (.dup, 1) := by decide +kernel
theorem dX7_readToken_124 : decode cX7_readToken 124 = .ok (.getfield 28, 3) := by decide +kernel
theorem dX7_readToken_127 : decode cX7_readToken 127 = .ok (.iconst 1, 1) := by decide +kernel
theorem dX7_readToken_128 : decode cX7_readToken 128 = .ok (.iadd, 1) := by decide +kernel
theorem dX7_readToken_129 : decode cX7_readToken 129 = .ok (.putfield 28, 3) := by decide +kernel
theorem dX7_readToken_132 : decode cX7_readToken 132 = .ok (.return_, 1) := by decide +kernel
set_option maxRecDepth 20000 in
theorem ggX7_readName_X7_isLetterAt : GoodIn wsX7_readName wsX7_isLetterAt := goodIn_r _ [9, 10, 11, 12, 8, 13, 2, 14, 15, 16, 17, 75, 76, 77, 78, 79, 80] (by decide +kernel) (by decide +kernel)
set_option maxRecDepth 20000 in
theorem gX7_readName_X7_isLetterAt : GoodIn wsX7_readName (wsV RX7 39 RX7 yX7_isLetterAt wsX7_isLetterAt) := goodIn_app (goodIn_of _ (by decide +kernel)) ggX7_readName_X7_isLetterAt
set_option maxRecDepth 20000 in
theorem ggX7_readName_X7_lineName : GoodIn wsX7_readName wsX7_lineName := goodIn_r _ [20] (by decide +kernel) (by decide +kernel)
set_option maxRecDepth 20000 in
theorem gX7_readName_X7_lineName : GoodIn wsX7_readName (va_wsS RX7 52 yX7_lineName wsX7_lineName) := goodIn_app (goodIn_of _ (by decide +kernel)) ggX7_readName_X7_lineName
set_option maxRecDepth 20000 in
theorem ggX7_readName_X7_isSpelled : GoodIn wsX7_readName wsX7_isSpelled := goodIn_r _ [24, 1, 25, 26, 27, 28, 29, 30, 31, 32, 33, 34, 35, 36, 37, 10, 11, 12, 8, 13, 2, 14, 38, 39, 40, 41, 42, 43, 44, 45, 46, 47, 48, 49, 50, 51, 52, 53, 54, 55, 56, 57, 58, 59, 60, 61, 62, 63, 64, 65, 66, 67, 68, 69, 70, 71, 72, 73, 74, 75, 76, 77, 78, 79, 80] (by decide +kernel) (by decide +kernel)
set_option maxRecDepth 20000 in
theorem gX7_readName_X7_isSpelled : GoodIn wsX7_readName (wsV RX7 56 RX7 yX7_isSpelled wsX7_isSpelled) := goodIn_app (goodIn_of _ (by decide +kernel)) ggX7_readName_X7_isSpelled
theorem dX7_readName_0 : decode cX7_readName 0 = .ok (.aload_n 0, 1) := by decide +kernel
theorem dX7_readName_1 : decode cX7_readName 1 = .ok (.getfield 28, 3) := by decide +kernel
theorem dX7_readName_4 : decode cX7_readName 4 = .ok (.aload_n 0, 1) := by decide +kernel
theorem dX7_readName_5 : decode cX7_readName 5 = .ok (.getfield 15, 3) := by decide +kernel
theorem dX7_readName_8 : decode cX7_readName 8 = .ok (.if_icmp .ge 27, 3) := by decide +kernel
theorem dX7_readName_11 : decode cX7_readName 11 = .ok (.aload_n 0, 1) := by decide +kernel
theorem dX7_readName_12 : decode cX7_readName 12 = .ok (.aload_n 0, 1) := by decide +kernel
theorem dX7_readName_13 : decode cX7_readName 13 = .ok (.getfield 28, 3) := by decide +kernel
theorem dX7_readName_16 : decode cX7_readName 16 = .ok (.invokevirtual 39, 3) := by decide +kernel
theorem dX7_readName_19 : decode cX7_readName 19 = .ok (.ifCond .eq 16, 3) := by decide +kernel
theorem dX7_readName_22 : decode cX7_readName 22 = .ok (.aload_n 0, 1) := by decide +kernel
theorem dX7_readName_23 : decode cX7_readName 23 = .ok (.dup, 1) := by decide +kernel
theorem dX7_readName_24 : decode cX7_readName 24 = .ok (.getfield 28, 3) := by decide +kernel
theorem dX7_readName_27 : decode cX7_readName 27 = .ok (.iconst 1, 1) := by decide +kernel
theorem dX7_readName_28 : decode cX7_readName 28 = .ok (.iadd, 1) := by decide +kernel
theorem dX7_readName_29 : decode cX7_readName 29 = .ok (.putfield 28, 3) := by decide +kernel
theorem dX7_readName_32 : decode cX7_readName 32 = .ok (.goto (-32), 3) := by decide +kernel
theorem dX7_readName_35 : decode cX7_readName 35 = .ok (.aload_n 0, 1) := by decide +kernel
theorem dX7_readName_36 : decode cX7_readName 36 = .ok (.iconst 0, 1) := by decide +kernel
theorem dX7_readName_37 : decode cX7_readName 37 = .ok (.putfield 19, 3) := by decide +kernel
theorem dX7_readName_40 : decode cX7_readName 40 = .ok (.iconst 0, 1) := by decide +kernel
theorem dX7_readName_41 : decode cX7_readName 41 = .ok (.istore_n 1, 1) := by decide +kernel
theorem dX7_readName_42 : decode cX7_readName 42 = .ok (.iload_n 1, 1) := by decide +kernel
theorem dX7_readName_43 : decode cX7_readName 43 = .ok (.bipush 7, 2) := by decide +kernel
theorem dX7_readName_45 : decode cX7_readName 45 = .ok (.if_icmp .ge 30, 3) := by decide +kernel
theorem dX7_readName_48 : decode cX7_readName 48 = .ok (.aload_n 0, 1) := by decide +kernel
theorem dX7_readName_49 : decode cX7_readName 49 = .ok (.iload_n 1, 1) := by decide +kernel
theorem dX7_readName_50 : decode cX7_readName 50 = .ok (.invokestatic 52, 3) := by decide +kernel
theorem dX7_readName_53 : decode cX7_readName 53 = .ok (.invokevirtual 56, 3) := by decide +kernel
theorem dX7_readName_56 : decode cX7_readName 56 = .ok (.ifCond .eq 13, 3) := by decide +kernel
theorem dX7_readName_59 : decode cX7_readName 59 = .ok (.aload_n 0, 1) := by decide +kernel
theorem dX7_readName_60 : decode cX7_readName 60 = .ok (.iconst 1, 1) := by decide +kernel
theorem dX7_readName_61 : decode cX7_readName 61 = .ok (.putfield 19, 3) := by decide +kernel
theorem dX7_readName_64 : decode cX7_readName 64 = .ok (.aload_n 0, 1) := by decide +kernel
theorem dX7_readName_65 : decode cX7_readName 65 = .ok (.iload_n 1, 1) := by decide +kernel
theorem dX7_readName_66 : decode cX7_readName 66 = .ok (.putfield 25, 3) := by decide +kernel
theorem dX7_readName_69 : decode cX7_readName 69 = .ok (.iinc 1 1, 3) := by decide +kernel
theorem dX7_readName_72 : decode cX7_readName 72 = .ok (.goto (-30), 3) := by decide +kernel
theorem dX7_readName_75 : decode cX7_readName 75 = .ok (.return_, 1) := by decide +kernel
set_option maxRecDepth 20000 in
theorem ggX7_isSpelled_J0_length_8abf5 : GoodIn wsX7_isSpelled wsJ0_length_8abf5 := goodIn_r _ [7, 8, 9, 10, 11, 6, 12, 13, 14] (by decide +kernel) (by decide +kernel)
set_option maxRecDepth 20000 in
theorem gX7_isSpelled_J0_length_8abf5 : GoodIn wsX7_isSpelled (wsV RX7 60 RJ0 yJ0_length_8abf5 wsJ0_length_8abf5) := goodIn_app (goodIn_of _ (by decide +kernel)) ggX7_isSpelled_J0_length_8abf5
set_option maxRecDepth 20000 in
theorem ggX7_isSpelled_X7_byteAt : GoodIn wsX7_isSpelled wsX7_byteAt := goodIn_r _ [19, 20, 21, 59, 60, 61, 62, 63, 64] (by decide +kernel) (by decide +kernel)
set_option maxRecDepth 20000 in
theorem gX7_isSpelled_X7_byteAt : GoodIn wsX7_isSpelled (wsV RX7 31 RX7 yX7_byteAt wsX7_byteAt) := goodIn_app (goodIn_of _ (by decide +kernel)) ggX7_isSpelled_X7_byteAt
set_option maxRecDepth 20000 in
theorem ggX7_isSpelled_J0_charAt_5068e : GoodIn wsX7_isSpelled wsJ0_charAt_5068e := goodIn_r _ [25, 8, 26, 27, 28, 6, 29, 13, 14, 30, 31, 32, 33, 34, 35, 36, 37, 38, 39, 40, 41, 42, 43, 44, 45, 46, 47, 48, 49, 50, 51, 52, 53, 54, 55, 56, 57, 58] (by decide +kernel) (by decide +kernel)
set_option maxRecDepth 20000 in
theorem gX7_isSpelled_J0_charAt_5068e : GoodIn wsX7_isSpelled (wsV RX7 65 RJ0 yJ0_charAt_5068e wsJ0_charAt_5068e) := goodIn_app (goodIn_of _ (by decide +kernel)) ggX7_isSpelled_J0_charAt_5068e
theorem dX7_isSpelled_0 : decode cX7_isSpelled 0 = .ok (.aload_n 0, 1) := by decide +kernel
theorem dX7_isSpelled_1 : decode cX7_isSpelled 1 = .ok (.getfield 28, 3) := by decide +kernel
theorem dX7_isSpelled_4 : decode cX7_isSpelled 4 = .ok (.aload_n 0, 1) := by decide +kernel
theorem dX7_isSpelled_5 : decode cX7_isSpelled 5 = .ok (.getfield 22, 3) := by decide +kernel
theorem dX7_isSpelled_8 : decode cX7_isSpelled 8 = .ok (.isub, 1) := by decide +kernel
theorem dX7_isSpelled_9 : decode cX7_isSpelled 9 = .ok (.aload_n 1, 1) := by decide +kernel
theorem dX7_isSpelled_10 : decode cX7_isSpelled 10 = .ok (.invokevirtual 60, 3) := by decide +kernel
theorem dX7_isSpelled_13 : decode cX7_isSpelled 13 = .ok (.if_icmp .ne 7, 3) := by decide +kernel
theorem dX7_isSpelled_16 : decode cX7_isSpelled 16 = .ok (.iconst 1, 1) := by decide +kernel
theorem dX7_isSpelled_17 : decode cX7_isSpelled 17 = .ok (.goto 4, 3) := by decide +kernel
theorem dX7_isSpelled_20 : decode cX7_isSpelled 20 = .ok (.iconst 0, 1) := by decide +kernel
theorem dX7_isSpelled_21 : decode cX7_isSpelled 21 = .ok (.istore_n 2, 1) := by decide +kernel
theorem dX7_isSpelled_22 : decode cX7_isSpelled 22 = .ok (.iconst 0, 1) := by decide +kernel
theorem dX7_isSpelled_23 : decode cX7_isSpelled 23 = .ok (.istore_n 3, 1) := by decide +kernel
theorem dX7_isSpelled_24 : decode cX7_isSpelled 24 = .ok (.iload_n 3, 1) := by decide +kernel
theorem dX7_isSpelled_25 : decode cX7_isSpelled 25 = .ok (.aload_n 1, 1) := by decide +kernel
theorem dX7_isSpelled_26 : decode cX7_isSpelled 26 = .ok (.invokevirtual 60, 3) := by decide +kernel
theorem dX7_isSpelled_29 : decode cX7_isSpelled 29 = .ok (.if_icmp .ge 37, 3) := by decide +kernel
theorem dX7_isSpelled_32 : decode cX7_isSpelled 32 = .ok (.iload_n 2, 1) := by decide +kernel
theorem dX7_isSpelled_33 : decode cX7_isSpelled 33 = .ok (.ifCond .eq 33, 3) := by decide +kernel
theorem dX7_isSpelled_36 : decode cX7_isSpelled 36 = .ok (.aload_n 0, 1) := by decide +kernel
theorem dX7_isSpelled_37 : decode cX7_isSpelled 37 = .ok (.aload_n 0, 1) := by decide +kernel
theorem dX7_isSpelled_38 : decode cX7_isSpelled 38 = .ok (.getfield 22, 3) := by decide +kernel
theorem dX7_isSpelled_41 : decode cX7_isSpelled 41 = .ok (.iload_n 3, 1) := by decide +kernel
theorem dX7_isSpelled_42 : decode cX7_isSpelled 42 = .ok (.iadd, 1) := by decide +kernel
theorem dX7_isSpelled_43 : decode cX7_isSpelled 43 = .ok (.invokevirtual 31, 3) := by decide +kernel
theorem dX7_isSpelled_46 : decode cX7_isSpelled 46 = .ok (.aload_n 1, 1) := by decide +kernel
theorem dX7_isSpelled_47 : decode cX7_isSpelled 47 = .ok (.iload_n 3, 1) := by decide +kernel
theorem dX7_isSpelled_48 : decode cX7_isSpelled 48 = .ok (.invokevirtual 65, 3) := by decide +kernel
theorem dX7_isSpelled_51 : decode cX7_isSpelled 51 = .ok (.if_icmp .ne 7, 3) := by decide +kernel
theorem dX7_isSpelled_54 : decode cX7_isSpelled 54 = .ok (.iconst 1, 1) := by decide +kernel
theorem dX7_isSpelled_55 : decode cX7_isSpelled 55 = .ok (.goto 4, 3) := by decide +kernel
theorem dX7_isSpelled_58 : decode cX7_isSpelled 58 = .ok (.iconst 0, 1) := by decide +kernel
theorem dX7_isSpelled_59 : decode cX7_isSpelled 59 = .ok (.istore_n 2, 1) := by decide +kernel
theorem dX7_isSpelled_60 : decode cX7_isSpelled 60 = .ok (.iinc 3 1, 3) := by decide +kernel
theorem dX7_isSpelled_63 : decode cX7_isSpelled 63 = .ok (.goto (-39), 3) := by decide +kernel
theorem dX7_isSpelled_66 : decode cX7_isSpelled 66 = .ok (.iload_n 2, 1) := by decide +kernel
theorem dX7_isSpelled_67 : decode cX7_isSpelled 67 = .ok (.ireturn, 1) := by decide +kernel
set_option maxRecDepth 20000 in
theorem ggX7_readNumber_X7_isFigureAt : GoodIn wsX7_readNumber wsX7_isFigureAt := goodIn_r _ [10, 11, 12, 13, 9, 14, 3, 15, 16, 17, 18, 19, 20, 21, 22, 23, 24] (by decide +kernel) (by decide +kernel)
set_option maxRecDepth 20000 in
theorem gX7_readNumber_X7_isFigureAt : GoodIn wsX7_readNumber (wsV RX7 46 RX7 yX7_isFigureAt wsX7_isFigureAt) := goodIn_app (goodIn_of _ (by decide +kernel)) ggX7_readNumber_X7_isFigureAt
set_option maxRecDepth 20000 in
theorem ggX7_readNumber_X7_byteAt : GoodIn wsX7_readNumber wsX7_byteAt := goodIn_r _ [14, 3, 15, 19, 20, 21, 22, 23, 24] (by decide +kernel) (by decide +kernel)
set_option maxRecDepth 20000 in
theorem gX7_readNumber_X7_byteAt : GoodIn wsX7_readNumber (wsV RX7 31 RX7 yX7_byteAt wsX7_byteAt) := goodIn_app (goodIn_of _ (by decide +kernel)) ggX7_readNumber_X7_byteAt
theorem dX7_readNumber_0 : decode cX7_readNumber 0 = .ok (.aload_n 0, 1) := by decide +kernel
theorem dX7_readNumber_1 : decode cX7_readNumber 1 = .ok (.iconst 0, 1) := by decide +kernel
theorem dX7_readNumber_2 : decode cX7_readNumber 2 = .ok (.putfield 25, 3) := by decide +kernel
theorem dX7_readNumber_5 : decode cX7_readNumber 5 = .ok (.aload_n 0, 1) := by decide +kernel
theorem dX7_readNumber_6 : decode cX7_readNumber 6 = .ok (.getfield 28, 3) := by decide +kernel
theorem dX7_readNumber_9 : decode cX7_readNumber 9 = .ok (.aload_n 0, 1) := by decide +kernel
theorem dX7_readNumber_10 : decode cX7_readNumber 10 = .ok (.getfield 15, 3) := by decide +kernel
theorem dX7_readNumber_13 : decode cX7_readNumber 13 = .ok (.if_icmp .ge 50, 3) := by decide +kernel
theorem dX7_readNumber_16 : decode cX7_readNumber 16 = .ok (.aload_n 0, 1) := by decide +kernel
theorem dX7_readNumber_17 : decode cX7_readNumber 17 = .ok (.aload_n 0, 1) := by decide +kernel
theorem dX7_readNumber_18 : decode cX7_readNumber 18 = .ok (.getfield 28, 3) := by decide +kernel
theorem dX7_readNumber_21 : decode cX7_readNumber 21 = .ok (.invokevirtual 46, 3) := by decide +kernel
theorem dX7_readNumber_24 : decode cX7_readNumber 24 = .ok (.ifCond .eq 39, 3) := by decide +kernel
theorem dX7_readNumber_27 : decode cX7_readNumber 27 = .ok (.aload_n 0, 1) := by decide +kernel
theorem dX7_readNumber_28 : decode cX7_readNumber 28 = .ok (.aload_n 0, 1) := by decide +kernel
theorem dX7_readNumber_29 : decode cX7_readNumber 29 = .ok (.getfield 25, 3) := by decide +kernel
theorem dX7_readNumber_32 : decode cX7_readNumber 32 = .ok (.bipush 10, 2) := by decide +kernel
theorem dX7_readNumber_34 : decode cX7_readNumber 34 = .ok (.imul, 1) := by decide +kernel
theorem dX7_readNumber_35 : decode cX7_readNumber 35 = .ok (.aload_n 0, 1) := by decide +kernel
theorem dX7_readNumber_36 : decode cX7_readNumber 36 = .ok (.aload_n 0, 1) := by decide +kernel
theorem dX7_readNumber_37 : decode cX7_readNumber 37 = .ok (.getfield 28, 3) := by decide +kernel
theorem dX7_readNumber_40 : decode cX7_readNumber 40 = .ok (.invokevirtual 31, 3) := by decide +kernel
theorem dX7_readNumber_43 : decode cX7_readNumber 43 = .ok (.iadd, 1) := by decide +kernel
theorem dX7_readNumber_44 : decode cX7_readNumber 44 = .ok (.bipush 48, 2) := by decide +kernel
theorem dX7_readNumber_46 : decode cX7_readNumber 46 = .ok (.isub, 1) := by decide +kernel
theorem dX7_readNumber_47 : decode cX7_readNumber 47 = .ok (.putfield 25, 3) := by decide +kernel
theorem dX7_readNumber_50 : decode cX7_readNumber 50 = .ok (.aload_n 0, 1) := by decide +kernel
theorem dX7_readNumber_51 : decode cX7_readNumber 51 = .ok (.dup, 1) := by decide +kernel
theorem dX7_readNumber_52 : decode cX7_readNumber 52 = .ok (.getfield 28, 3) := by decide +kernel
theorem dX7_readNumber_55 : decode cX7_readNumber 55 = .ok (.iconst 1, 1) := by decide +kernel
theorem dX7_readNumber_56 : decode cX7_readNumber 56 = .ok (.iadd, 1) := by decide +kernel
theorem dX7_readNumber_57 : decode cX7_readNumber 57 = .ok (.putfield 28, 3) := by decide +kernel
theorem dX7_readNumber_60 : decode cX7_readNumber 60 = .ok (.goto (-55), 3) := by decide +kernel
theorem dX7_readNumber_63 : decode cX7_readNumber 63 = .ok (.aload_n 0, 1) := by decide +kernel
theorem dX7_readNumber_64 : decode cX7_readNumber 64 = .ok (.aload_n 0, 1) := by decide +kernel
theorem dX7_readNumber_65 : decode cX7_readNumber 65 = .ok (.getfield 28, 3) := by decide +kernel
theorem dX7_readNumber_68 : decode cX7_readNumber 68 = .ok (.aload_n 0, 1) := by decide +kernel
theorem dX7_readNumber_69 : decode cX7_readNumber 69 = .ok (.getfield 22, 3) := by decide +kernel
theorem dX7_readNumber_72 : decode cX7_readNumber 72 = .ok (.isub, 1) := by decide +kernel
theorem dX7_readNumber_73 : decode cX7_readNumber 73 = .ok (.iconst 4, 1) := by decide +kernel
theorem dX7_readNumber_74 : decode cX7_readNumber 74 = .ok (.if_icmp .le 7, 3) := by decide +kernel
theorem dX7_readNumber_77 : decode cX7_readNumber 77 = .ok (.iconst 0, 1) := by decide +kernel
theorem dX7_readNumber_78 : decode cX7_readNumber 78 = .ok (.goto 4, 3) := by decide +kernel
theorem dX7_readNumber_81 : decode cX7_readNumber 81 = .ok (.iconst 2, 1) := by decide +kernel
theorem dX7_readNumber_82 : decode cX7_readNumber 82 = .ok (.putfield 19, 3) := by decide +kernel
theorem dX7_readNumber_85 : decode cX7_readNumber 85 = .ok (.return_, 1) := by decide +kernel
theorem dX7_lineName_0 : decode cX7_lineName 0 = .ok (.iload_n 0, 1) := by decide +kernel
theorem dX7_lineName_1 : decode cX7_lineName 1 = .ok (.tableswitch 57 0 5 #[39, 42, 45, 48, 51, 54], 39) := by decide +kernel
theorem dX7_lineName_40 : decode cX7_lineName 40 = .ok (.ldc 69, 2) := by decide +kernel
theorem dX7_lineName_42 : decode cX7_lineName 42 = .ok (.areturn, 1) := by decide +kernel
theorem dX7_lineName_43 : decode cX7_lineName 43 = .ok (.ldc 71, 2) := by decide +kernel
theorem dX7_lineName_45 : decode cX7_lineName 45 = .ok (.areturn, 1) := by decide +kernel
theorem dX7_lineName_46 : decode cX7_lineName 46 = .ok (.ldc 73, 2) := by decide +kernel
theorem dX7_lineName_48 : decode cX7_lineName 48 = .ok (.areturn, 1) := by decide +kernel
theorem dX7_lineName_49 : decode cX7_lineName 49 = .ok (.ldc 75, 2) := by decide +kernel
theorem dX7_lineName_51 : decode cX7_lineName 51 = .ok (.areturn, 1) := by decide +kernel
theorem dX7_lineName_52 : decode cX7_lineName 52 = .ok (.ldc 77, 2) := by decide +kernel
theorem dX7_lineName_54 : decode cX7_lineName 54 = .ok (.areturn, 1) := by decide +kernel
theorem dX7_lineName_55 : decode cX7_lineName 55 = .ok (.ldc 79, 2) := by decide +kernel
theorem dX7_lineName_57 : decode cX7_lineName 57 = .ok (.areturn, 1) := by decide +kernel
theorem dX7_lineName_58 : decode cX7_lineName 58 = .ok (.ldc 81, 2) := by decide +kernel
theorem dX7_lineName_60 : decode cX7_lineName 60 = .ok (.areturn, 1) := by decide +kernel
theorem dX8_init_0 : decode cX8_init 0 = .ok (.aload_n 0, 1) := by decide +kernel
theorem dX8_init_1 : decode cX8_init 1 = .ok (.invokespecial 3, 3) := by decide +kernel
theorem dX8_init_4 : decode cX8_init 4 = .ok (.aload_n 0, 1) := by decide +kernel
theorem dX8_init_5 : decode cX8_init 5 = .ok (.getstatic 9, 3) := by decide +kernel
theorem dX8_init_8 : decode cX8_init 8 = .ok (.invokevirtual 13, 3) := by decide +kernel
theorem dX8_init_11 : decode cX8_init 11 = .ok (.checkcast 14, 3) := by decide +kernel
theorem dX8_init_14 : decode cX8_init 14 = .ok (.putfield 18, 3) := by decide +kernel
theorem dX8_init_17 : decode cX8_init 17 = .ok (.aload_n 0, 1) := by decide +kernel
theorem dX8_init_18 : decode cX8_init 18 = .ok (.iconst 0, 1) := by decide +kernel
theorem dX8_init_19 : decode cX8_init 19 = .ok (.putfield 23, 3) := by decide +kernel
theorem dX8_init_22 : decode cX8_init 22 = .ok (.aload_n 0, 1) := by decide +kernel
theorem dX8_init_23 : decode cX8_init 23 = .ok (.getstatic 9, 3) := by decide +kernel
theorem dX8_init_26 : decode cX8_init 26 = .ok (.invokevirtual 13, 3) := by decide +kernel
theorem dX8_init_29 : decode cX8_init 29 = .ok (.checkcast 14, 3) := by decide +kernel
theorem dX8_init_32 : decode cX8_init 32 = .ok (.putfield 27, 3) := by decide +kernel
theorem dX8_init_35 : decode cX8_init 35 = .ok (.aload_n 0, 1) := by decide +kernel
theorem dX8_init_36 : decode cX8_init 36 = .ok (.bipush 7, 2) := by decide +kernel
theorem dX8_init_38 : decode cX8_init 38 = .ok (.newarray .boolean, 2) := by decide +kernel
theorem dX8_init_40 : decode cX8_init 40 = .ok (.putfield 30, 3) := by decide +kernel
theorem dX8_init_43 : decode cX8_init 43 = .ok (.aload_n 0, 1) := by decide +kernel
theorem dX8_init_44 : decode cX8_init 44 = .ok (.iconst 0, 1) := by decide +kernel
theorem dX8_init_45 : decode cX8_init 45 = .ok (.putfield 34, 3) := by decide +kernel
theorem dX8_init_48 : decode cX8_init 48 = .ok (.aload_n 0, 1) := by decide +kernel
theorem dX8_init_49 : decode cX8_init 49 = .ok (.iconst 0, 1) := by decide +kernel
theorem dX8_init_50 : decode cX8_init 50 = .ok (.putfield 37, 3) := by decide +kernel
theorem dX8_init_53 : decode cX8_init 53 = .ok (.return_, 1) := by decide +kernel
set_option maxRecDepth 20000 in
theorem ggX8_parse_X8_startAnew : GoodIn wsX8_parse wsX8_startAnew := goodIn_r _ [16, 1, 11, 3, 7, 8, 9, 10, 17, 18, 19, 20, 21, 22, 23, 24, 25, 26, 15, 27, 2, 28, 29, 30, 31, 32, 33, 34, 35, 36, 37, 38, 39, 40, 41, 42, 43, 44, 45, 46, 47, 48, 49, 50, 51, 52, 53, 54, 55, 56, 57, 58, 59, 60, 61, 62, 63, 64, 65, 66, 67, 68, 69, 70, 71, 72, 73, 74, 75, 76, 77, 78, 79, 80, 81, 82, 83, 84, 85, 86, 87, 88, 89, 90, 91, 92, 93, 94, 95, 96, 97, 98, 99, 100, 101, 102, 103, 104, 105, 106, 107, 108, 109, 110, 111, 112, 113, 114, 115, 116, 117, 118, 119, 120, 5, 138, 139, 140, 141, 142, 143, 144, 145, 146, 147, 148, 149] (by decide +kernel) (by decide +kernel)
set_option maxRecDepth 20000 in
theorem gX8_parse_X8_startAnew : GoodIn wsX8_parse (wsV RX8 40 RX8 yX8_startAnew wsX8_startAnew) := goodIn_app (goodIn_of _ (by decide +kernel)) ggX8_parse_X8_startAnew
set_option maxRecDepth 20000 in
theorem ggX8_parse_X8_parseLine : GoodIn wsX8_parse wsX8_parseLine := goodIn_r _ [124, 1, 11, 125, 126, 127, 15, 128, 129, 17, 28, 130, 131, 132, 133, 2, 117, 118, 119, 120, 5, 45, 46, 47, 24, 25, 26, 27, 29, 30, 31, 21, 32, 23, 33, 34, 35, 36, 37, 38, 39, 40, 41, 42, 43, 44, 48, 49, 50, 51, 52, 53, 54, 55, 56, 57, 58, 59, 60, 61, 62, 63, 64, 65, 66, 67, 68, 69, 70, 71, 72, 73, 74, 75, 76, 77, 78, 79, 80, 81, 82, 83, 84, 85, 86, 87, 88, 89, 90, 91, 92, 93, 94, 95, 96, 97, 98, 99, 100, 101, 102, 103, 104, 105, 106, 107, 108, 109, 110, 111, 112, 113, 114, 115, 116, 134, 135, 136, 137, 3, 138, 139, 140, 141, 142, 143, 144, 145, 146, 147, 148, 149] (by decide +kernel) (by decide +kernel)
set_option maxRecDepth 20000 in
theorem gX8_parse_X8_parseLine : GoodIn wsX8_parse (wsV RX8 49 RX8 yX8_parseLine wsX8_parseLine) := goodIn_app (goodIn_of _ (by decide +kernel)) ggX8_parse_X8_parseLine
set_option maxRecDepth 20000 in
theorem ggX8_parse_X8_meet : GoodIn wsX8_parse wsX8_meet := goodIn_r _ [120, 1, 5, 138, 139, 140, 141, 142, 143] (by decide +kernel) (by decide +kernel)
set_option maxRecDepth 20000 in
theorem gX8_parse_X8_meet : GoodIn wsX8_parse (wsV RX8 55 RX8 yX8_meet wsX8_meet) := goodIn_app (goodIn_of _ (by decide +kernel)) ggX8_parse_X8_meet
theorem dX8_parse_0 : decode cX8_parse 0 = .ok (.aload_n 0, 1) := by decide +kernel
theorem dX8_parse_1 : decode cX8_parse 1 = .ok (.aload_n 1, 1) := by decide +kernel
theorem dX8_parse_2 : decode cX8_parse 2 = .ok (.invokevirtual 40, 3) := by decide +kernel
theorem dX8_parse_5 : decode cX8_parse 5 = .ok (.iconst 0, 1) := by decide +kernel
theorem dX8_parse_6 : decode cX8_parse 6 = .ok (.istore_n 2, 1) := by decide +kernel
theorem dX8_parse_7 : decode cX8_parse 7 = .ok (.iload_n 2, 1) := by decide +kernel
theorem dX8_parse_8 : decode cX8_parse 8 = .ok (.sipush 200, 3) := by decide +kernel
theorem dX8_parse_11 : decode cX8_parse 11 = .ok (.if_icmp .ge 29, 3) := by decide +kernel
theorem dX8_parse_14 : decode cX8_parse 14 = .ok (.aload_n 0, 1) := by decide +kernel
theorem dX8_parse_15 : decode cX8_parse 15 = .ok (.getfield 23, 3) := by decide +kernel
theorem dX8_parse_18 : decode cX8_parse 18 = .ok (.ifCond .ne 22, 3) := by decide +kernel
theorem dX8_parse_21 : decode cX8_parse 21 = .ok (.aload_n 1, 1) := by decide +kernel
theorem dX8_parse_22 : decode cX8_parse 22 = .ok (.getfield 44, 3) := by decide +kernel
theorem dX8_parse_25 : decode cX8_parse 25 = .ok (.iconst 4, 1) := by decide +kernel
theorem dX8_parse_26 : decode cX8_parse 26 = .ok (.if_icmp .eq 14, 3) := by decide +kernel
theorem dX8_parse_29 : decode cX8_parse 29 = .ok (.aload_n 0, 1) := by decide +kernel
theorem dX8_parse_30 : decode cX8_parse 30 = .ok (.aload_n 1, 1) := by decide +kernel
theorem dX8_parse_31 : decode cX8_parse 31 = .ok (.invokevirtual 49, 3) := by decide +kernel
theorem dX8_parse_34 : decode cX8_parse 34 = .ok (.iinc 2 1, 3) := by decide +kernel
theorem dX8_parse_37 : decode cX8_parse 37 = .ok (.goto (-30), 3) := by decide +kernel
theorem dX8_parse_40 : decode cX8_parse 40 = .ok (.aload_n 0, 1) := by decide +kernel
theorem dX8_parse_41 : decode cX8_parse 41 = .ok (.getfield 23, 3) := by decide +kernel
theorem dX8_parse_44 : decode cX8_parse 44 = .ok (.ifCond .ne 27, 3) := by decide +kernel
theorem dX8_parse_47 : decode cX8_parse 47 = .ok (.aload_n 0, 1) := by decide +kernel
theorem dX8_parse_48 : decode cX8_parse 48 = .ok (.getfield 27, 3) := by decide +kernel
theorem dX8_parse_51 : decode cX8_parse 51 = .ok (.iconst 1, 1) := by decide +kernel
theorem dX8_parse_52 : decode cX8_parse 52 = .ok (.iaload, 1) := by decide +kernel
theorem dX8_parse_53 : decode cX8_parse 53 = .ok (.aload_n 0, 1) := by decide +kernel
theorem dX8_parse_54 : decode cX8_parse 54 = .ok (.getfield 27, 3) := by decide +kernel
theorem dX8_parse_57 : decode cX8_parse 57 = .ok (.iconst 2, 1) := by decide +kernel
theorem dX8_parse_58 : decode cX8_parse 58 = .ok (.iaload, 1) := by decide +kernel
theorem dX8_parse_59 : decode cX8_parse 59 = .ok (.if_icmp .le 12, 3) := by decide +kernel
theorem dX8_parse_62 : decode cX8_parse 62 = .ok (.aload_n 0, 1) := by decide +kernel
theorem dX8_parse_63 : decode cX8_parse 63 = .ok (.iconst 5, 1) := by decide +kernel
