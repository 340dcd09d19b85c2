theorem dX8_parse_64 : decode cX8_parse 64 = .ok (.aload_n 1, 1) := by decide +kernel
theorem dX8_parse_65 : decode cX8_parse 65 = .ok (.getfield 52, 3) := by decide +kernel
theorem dX8_parse_68 : decode cX8_parse 68 = .ok (.invokevirtual 55, 3) := by decide +kernel
theorem dX8_parse_71 : decode cX8_parse 71 = .ok (.aload_n 0, 1) := by decide +kernel
theorem dX8_parse_72 : decode cX8_parse 72 = .ok (.getfield 23, 3) := by decide +kernel
theorem dX8_parse_75 : decode cX8_parse 75 = .ok (.ifCond .eq 11, 3) := by decide +kernel
theorem dX8_parse_78 : decode cX8_parse 78 = .ok (.bipush (-10), 2) := by decide +kernel
theorem dX8_parse_80 : decode cX8_parse 80 = .ok (.aload_n 0, 1) := by decide +kernel
theorem dX8_parse_81 : decode cX8_parse 81 = .ok (.getfield 34, 3) := by decide +kernel
theorem dX8_parse_84 : decode cX8_parse 84 = .ok (.isub, 1) := by decide +kernel
theorem dX8_parse_85 : decode cX8_parse 85 = .ok (.ireturn, 1) := by decide +kernel
theorem dX8_parse_86 : decode cX8_parse 86 = .ok (.aload_n 0, 1) := by decide +kernel
theorem dX8_parse_87 : decode cX8_parse 87 = .ok (.getfield 27, 3) := by decide +kernel
theorem dX8_parse_90 : decode cX8_parse 90 = .ok (.iconst 0, 1) := by decide +kernel
theorem dX8_parse_91 : decode cX8_parse 91 = .ok (.aload_n 0, 1) := by decide +kernel
theorem dX8_parse_92 : decode cX8_parse 92 = .ok (.getfield 18, 3) := by decide +kernel
theorem dX8_parse_95 : decode cX8_parse 95 = .ok (.iconst 0, 1) := by decide +kernel
theorem dX8_parse_96 : decode cX8_parse 96 = .ok (.aload_n 0, 1) := by decide +kernel
theorem dX8_parse_97 : decode cX8_parse 97 = .ok (.getfield 18, 3) := by decide +kernel
theorem dX8_parse_100 : decode cX8_parse 100 = .ok (.arraylength, 1) := by decide +kernel
theorem dX8_parse_101 : decode cX8_parse 101 = .ok (.invokestatic 59, 3) := by decide +kernel
theorem dX8_parse_104 : decode cX8_parse 104 = .ok (.aload_n 0, 1) := by decide +kernel
theorem dX8_parse_105 : decode cX8_parse 105 = .ok (.getfield 37, 3) := by decide +kernel
theorem dX8_parse_108 : decode cX8_parse 108 = .ok (.ireturn, 1) := by decide +kernel
set_option maxRecDepth 20000 in
theorem ggX8_startAnew_X7_rewind : GoodIn wsX8_startAnew wsX7_rewind := goodIn_r _ [13, 14, 121, 122, 123, 124, 125, 126] (by decide +kernel) (by decide +kernel)
set_option maxRecDepth 20000 in
theorem gX8_startAnew_X7_rewind : GoodIn wsX8_startAnew (wsV RX8 65 RX7 yX7_rewind wsX7_rewind) := goodIn_app (goodIn_of _ (by decide +kernel)) ggX8_startAnew_X7_rewind
set_option maxRecDepth 20000 in
theorem ggX8_startAnew_X8_readNext : GoodIn wsX8_startAnew wsX8_readNext := goodIn_r _ [19, 20, 21, 22, 23, 24, 12, 25, 14, 26, 27, 28, 29, 30, 31, 32, 33, 34, 35, 36, 37, 38, 39, 40, 41, 42, 43, 44, 45, 46, 47, 48, 49, 50, 51, 52, 53, 54, 55, 56, 57, 58, 59, 60, 61, 62, 63, 64, 65, 66, 67, 68, 69, 70, 71, 72, 73, 74, 75, 76, 77, 78, 79, 80, 81, 82, 83, 84, 85, 86, 87, 88, 89, 90, 91, 92, 93, 94, 95, 96, 97, 98, 99, 100, 101, 102, 103, 104, 105, 106, 107, 108, 109, 110, 111, 112, 18, 113, 1, 114, 121, 122, 123, 124, 125, 126, 115, 116, 117, 118, 119, 120] (by decide +kernel) (by decide +kernel)
set_option maxRecDepth 20000 in
theorem gX8_startAnew_X8_readNext : GoodIn wsX8_startAnew (wsV RX8 68 RX8 yX8_readNext wsX8_readNext) := goodIn_app (goodIn_of _ (by decide +kernel)) ggX8_startAnew_X8_readNext
theorem dX8_startAnew_0 : decode cX8_startAnew 0 = .ok (.aload_n 0, 1) := by decide +kernel
theorem dX8_startAnew_1 : decode cX8_startAnew 1 = .ok (.iconst 0, 1) := by decide +kernel
theorem dX8_startAnew_2 : decode cX8_startAnew 2 = .ok (.putfield 23, 3) := by decide +kernel
theorem dX8_startAnew_5 : decode cX8_startAnew 5 = .ok (.aload_n 0, 1) := by decide +kernel
theorem dX8_startAnew_6 : decode cX8_startAnew 6 = .ok (.iconst 0, 1) := by decide +kernel
theorem dX8_startAnew_7 : decode cX8_startAnew 7 = .ok (.putfield 37, 3) := by decide +kernel
theorem dX8_startAnew_10 : decode cX8_startAnew 10 = .ok (.getstatic 9, 3) := by decide +kernel
theorem dX8_startAnew_13 : decode cX8_startAnew 13 = .ok (.iconst 0, 1) := by decide +kernel
theorem dX8_startAnew_14 : decode cX8_startAnew 14 = .ok (.aload_n 0, 1) := by decide +kernel
theorem dX8_startAnew_15 : decode cX8_startAnew 15 = .ok (.getfield 27, 3) := by decide +kernel
theorem dX8_startAnew_18 : decode cX8_startAnew 18 = .ok (.iconst 0, 1) := by decide +kernel
theorem dX8_startAnew_19 : decode cX8_startAnew 19 = .ok (.aload_n 0, 1) := by decide +kernel
theorem dX8_startAnew_20 : decode cX8_startAnew 20 = .ok (.getfield 27, 3) := by decide +kernel
theorem dX8_startAnew_23 : decode cX8_startAnew 23 = .ok (.arraylength, 1) := by decide +kernel
theorem dX8_startAnew_24 : decode cX8_startAnew 24 = .ok (.invokestatic 59, 3) := by decide +kernel
theorem dX8_startAnew_27 : decode cX8_startAnew 27 = .ok (.iconst 0, 1) := by decide +kernel
theorem dX8_startAnew_28 : decode cX8_startAnew 28 = .ok (.istore_n 2, 1) := by decide +kernel
theorem dX8_startAnew_29 : decode cX8_startAnew 29 = .ok (.iload_n 2, 1) := by decide +kernel
theorem dX8_startAnew_30 : decode cX8_startAnew 30 = .ok (.bipush 7, 2) := by decide +kernel
theorem dX8_startAnew_32 : decode cX8_startAnew 32 = .ok (.if_icmp .ge 16, 3) := by decide +kernel
theorem dX8_startAnew_35 : decode cX8_startAnew 35 = .ok (.aload_n 0, 1) := by decide +kernel
theorem dX8_startAnew_36 : decode cX8_startAnew 36 = .ok (.getfield 30, 3) := by decide +kernel
theorem dX8_startAnew_39 : decode cX8_startAnew 39 = .ok (.iload_n 2, 1) := by decide +kernel
theorem dX8_startAnew_40 : decode cX8_startAnew 40 = .ok (.iconst 0, 1) := by decide +kernel
theorem dX8_startAnew_41 : decode cX8_startAnew 41 = .ok (.bastore, 1) := by decide +kernel
theorem dX8_startAnew_42 : decode cX8_startAnew 42 = .ok (.iinc 2 1, 3) := by decide +kernel
theorem dX8_startAnew_45 : decode cX8_startAnew 45 = .ok (.goto (-16), 3) := by decide +kernel
theorem dX8_startAnew_48 : decode cX8_startAnew 48 = .ok (.aload_n 1, 1) := by decide +kernel
theorem dX8_startAnew_49 : decode cX8_startAnew 49 = .ok (.invokevirtual 65, 3) := by decide +kernel
theorem dX8_startAnew_52 : decode cX8_startAnew 52 = .ok (.aload_n 0, 1) := by decide +kernel
theorem dX8_startAnew_53 : decode cX8_startAnew 53 = .ok (.aload_n 1, 1) := by decide +kernel
theorem dX8_startAnew_54 : decode cX8_startAnew 54 = .ok (.invokevirtual 68, 3) := by decide +kernel
theorem dX8_startAnew_57 : decode cX8_startAnew 57 = .ok (.return_, 1) := by decide +kernel
set_option maxRecDepth 20000 in
theorem ggX8_parseLine_X8_takeName : GoodIn wsX8_parseLine wsX8_takeName := goodIn_r _ [7, 8, 1, 9, 10, 11, 12, 13, 6, 14, 15, 16, 17, 18, 19, 20, 21, 22, 23, 24, 25, 26, 27, 28, 29, 30, 31, 32, 33, 34, 35, 36, 37, 38, 39, 40, 41, 42, 43, 44, 45, 46, 47, 48, 49, 50, 51, 52, 53, 54, 55, 56, 57, 58, 59, 60, 61, 62, 63, 64, 65, 66, 67, 68, 69, 70, 71, 72, 73, 74, 75, 76, 77, 78, 79, 80, 81, 82, 83, 84, 85, 86, 87, 88, 89, 90, 91, 92, 93, 94, 95, 96, 97, 98, 99, 100, 101, 102, 103, 104, 105, 106, 107, 108, 109, 110, 111, 112, 113, 114, 126, 127, 128, 129, 130, 131, 120, 121, 122, 123, 124, 125] (by decide +kernel) (by decide +kernel)
set_option maxRecDepth 20000 in
theorem gX8_parseLine_X8_takeName : GoodIn wsX8_parseLine (wsV RX8 71 RX8 yX8_takeName wsX8_takeName) := goodIn_app (goodIn_of _ (by decide +kernel)) ggX8_parseLine_X8_takeName
set_option maxRecDepth 20000 in
theorem ggX8_parseLine_X8_takeNumber : GoodIn wsX8_parseLine wsX8_takeNumber := goodIn_r _ [118, 1, 119, 8, 10, 11, 12, 13, 6, 14, 15, 16, 17, 18, 19, 20, 21, 22, 23, 24, 25, 26, 27, 28, 29, 30, 31, 32, 33, 34, 35, 36, 37, 38, 39, 40, 41, 42, 43, 44, 45, 46, 47, 48, 49, 50, 51, 52, 53, 54, 55, 56, 57, 58, 59, 60, 61, 62, 63, 64, 65, 66, 67, 68, 69, 70, 71, 72, 73, 74, 75, 76, 77, 78, 79, 80, 81, 82, 83, 84, 85, 86, 87, 88, 89, 90, 91, 92, 93, 94, 95, 96, 97, 98, 99, 100, 101, 102, 103, 104, 105, 106, 107, 108, 109, 110, 111, 112, 113, 114, 120, 121, 122, 123, 124, 125, 126, 127, 128, 129, 130, 131] (by decide +kernel) (by decide +kernel)
set_option maxRecDepth 20000 in
theorem gX8_parseLine_X8_takeNumber : GoodIn wsX8_parseLine (wsV RX8 81 RX8 yX8_takeNumber wsX8_takeNumber) := goodIn_app (goodIn_of _ (by decide +kernel)) ggX8_parseLine_X8_takeNumber
set_option maxRecDepth 20000 in
theorem ggX8_parseLine_X8_expect : GoodIn wsX8_parseLine wsX8_expect := goodIn_r _ [14, 15, 10, 16, 17, 18, 6, 19, 1, 20, 126, 127, 128, 129, 130, 131, 120, 121, 122, 123, 124, 125] (by decide +kernel) (by decide +kernel)
set_option maxRecDepth 20000 in
theorem gX8_parseLine_X8_expect : GoodIn wsX8_parseLine (wsV RX8 85 RX8 yX8_expect wsX8_expect) := goodIn_app (goodIn_of _ (by decide +kernel)) ggX8_parseLine_X8_expect
set_option maxRecDepth 20000 in
theorem ggX8_parseLine_X8_readNext : GoodIn wsX8_parseLine wsX8_readNext := goodIn_r _ [27, 15, 10, 28, 29, 30, 31, 32, 33, 34, 35, 36, 37, 38, 39, 40, 41, 42, 43, 44, 45, 21, 22, 23, 46, 47, 48, 49, 50, 51, 52, 53, 54, 55, 56, 57, 58, 59, 60, 61, 62, 63, 64, 65, 66, 67, 68, 69, 70, 71, 72, 73, 74, 75, 76, 77, 78, 79, 80, 81, 82, 83, 84, 85, 86, 87, 88, 89, 90, 91, 92, 93, 94, 95, 96, 97, 98, 99, 100, 101, 102, 103, 104, 105, 106, 107, 108, 109, 110, 111, 112, 113, 114, 16, 17, 18, 6, 19, 1, 20, 126, 127, 128, 129, 130, 131, 120, 121, 122, 123, 124, 125] (by decide +kernel) (by decide +kernel)
set_option maxRecDepth 20000 in
theorem gX8_parseLine_X8_readNext : GoodIn wsX8_parseLine (wsV RX8 68 RX8 yX8_readNext wsX8_readNext) := goodIn_app (goodIn_of _ (by decide +kernel)) ggX8_parseLine_X8_readNext
theorem dX8_parseLine_0 : decode cX8_parseLine 0 = .ok (.aload_n 0, 1) := by decide +kernel
theorem dX8_parseLine_1 : decode cX8_parseLine 1 = .ok (.aload_n 1, 1) := by decide +kernel
theorem dX8_parseLine_2 : decode cX8_parseLine 2 = .ok (.invokevirtual 71, 3) := by decide +kernel
theorem dX8_parseLine_5 : decode cX8_parseLine 5 = .ok (.istore_n 2, 1) := by decide +kernel
theorem dX8_parseLine_6 : decode cX8_parseLine 6 = .ok (.aload_n 0, 1) := by decide +kernel
theorem dX8_parseLine_7 : decode cX8_parseLine 7 = .ok (.getfield 23, 3) := by decide +kernel
theorem dX8_parseLine_10 : decode cX8_parseLine 10 = .ok (.ifCond .eq 4, 3) := by decide +kernel
theorem dX8_parseLine_13 : decode cX8_parseLine 13 = .ok (.return_, 1) := by decide +kernel
theorem dX8_parseLine_14 : decode cX8_parseLine 14 = .ok (.iconst 0, 1) := by decide +kernel
theorem dX8_parseLine_15 : decode cX8_parseLine 15 = .ok (.istore_n 3, 1) := by decide +kernel
theorem dX8_parseLine_16 : decode cX8_parseLine 16 = .ok (.iload_n 3, 1) := by decide +kernel
theorem dX8_parseLine_17 : decode cX8_parseLine 17 = .ok (.getstatic 75, 3) := by decide +kernel
theorem dX8_parseLine_20 : decode cX8_parseLine 20 = .ok (.iload_n 2, 1) := by decide +kernel
theorem dX8_parseLine_21 : decode cX8_parseLine 21 = .ok (.iaload, 1) := by decide +kernel
theorem dX8_parseLine_22 : decode cX8_parseLine 22 = .ok (.if_icmp .ge 28, 3) := by decide +kernel
theorem dX8_parseLine_25 : decode cX8_parseLine 25 = .ok (.aload_n 0, 1) := by decide +kernel
theorem dX8_parseLine_26 : decode cX8_parseLine 26 = .ok (.getfield 23, 3) := by decide +kernel
theorem dX8_parseLine_29 : decode cX8_parseLine 29 = .ok (.ifCond .ne 21, 3) := by decide +kernel
theorem dX8_parseLine_32 : decode cX8_parseLine 32 = .ok (.aload_n 0, 1) := by decide +kernel
theorem dX8_parseLine_33 : decode cX8_parseLine 33 = .ok (.aload_n 1, 1) := by decide +kernel
theorem dX8_parseLine_34 : decode cX8_parseLine 34 = .ok (.getstatic 78, 3) := by decide +kernel
theorem dX8_parseLine_37 : decode cX8_parseLine 37 = .ok (.iload_n 2, 1) := by decide +kernel
theorem dX8_parseLine_38 : decode cX8_parseLine 38 = .ok (.iaload, 1) := by decide +kernel
theorem dX8_parseLine_39 : decode cX8_parseLine 39 = .ok (.iload_n 3, 1) := by decide +kernel
theorem dX8_parseLine_40 : decode cX8_parseLine 40 = .ok (.iadd, 1) := by decide +kernel
theorem dX8_parseLine_41 : decode cX8_parseLine 41 = .ok (.invokevirtual 81, 3) := by decide +kernel
theorem dX8_parseLine_44 : decode cX8_parseLine 44 = .ok (.iinc 3 1, 3) := by decide +kernel
theorem dX8_parseLine_47 : decode cX8_parseLine 47 = .ok (.goto (-31), 3) := by decide +kernel
theorem dX8_parseLine_50 : decode cX8_parseLine 50 = .ok (.aload_n 0, 1) := by decide +kernel
theorem dX8_parseLine_51 : decode cX8_parseLine 51 = .ok (.getfield 23, 3) := by decide +kernel
theorem dX8_parseLine_54 : decode cX8_parseLine 54 = .ok (.ifCond .ne 9, 3) := by decide +kernel
theorem dX8_parseLine_57 : decode cX8_parseLine 57 = .ok (.aload_n 0, 1) := by decide +kernel
theorem dX8_parseLine_58 : decode cX8_parseLine 58 = .ok (.aload_n 1, 1) := by decide +kernel
theorem dX8_parseLine_59 : decode cX8_parseLine 59 = .ok (.iconst 3, 1) := by decide +kernel
theorem dX8_parseLine_60 : decode cX8_parseLine 60 = .ok (.invokevirtual 85, 3) := by decide +kernel
theorem dX8_parseLine_63 : decode cX8_parseLine 63 = .ok (.aload_n 0, 1) := by decide +kernel
theorem dX8_parseLine_64 : decode cX8_parseLine 64 = .ok (.getfield 23, 3) := by decide +kernel
theorem dX8_parseLine_67 : decode cX8_parseLine 67 = .ok (.ifCond .ne 18, 3) := by decide +kernel
theorem dX8_parseLine_70 : decode cX8_parseLine 70 = .ok (.aload_n 0, 1) := by decide +kernel
theorem dX8_parseLine_71 : decode cX8_parseLine 71 = .ok (.dup, 1) := by decide +kernel
theorem dX8_parseLine_72 : decode cX8_parseLine 72 = .ok (.getfield 37, 3) := by decide +kernel
theorem dX8_parseLine_75 : decode cX8_parseLine 75 = .ok (.iconst 1, 1) := by decide +kernel
theorem dX8_parseLine_76 : decode cX8_parseLine 76 = .ok (.iadd, 1) := by decide +kernel
theorem dX8_parseLine_77 : decode cX8_parseLine 77 = .ok (.putfield 37, 3) := by decide +kernel
theorem dX8_parseLine_80 : decode cX8_parseLine 80 = .ok (.aload_n 0, 1) := by decide +kernel
theorem dX8_parseLine_81 : decode cX8_parseLine 81 = .ok (.aload_n 1, 1) := by decide +kernel
theorem dX8_parseLine_82 : decode cX8_parseLine 82 = .ok (.invokevirtual 68, 3) := by decide +kernel
theorem dX8_parseLine_85 : decode cX8_parseLine 85 = .ok (.return_, 1) := by decide +kernel
set_option maxRecDepth 20000 in
theorem ggX8_takeName_X8_expect : GoodIn wsX8_takeName wsX8_expect := goodIn_r _ [9, 10, 4, 11, 12, 13, 8, 14, 2, 15, 110, 111, 112, 113, 114, 115, 116, 117, 118, 119, 120, 121] (by decide +kernel) (by decide +kernel)
set_option maxRecDepth 20000 in
theorem gX8_takeName_X8_expect : GoodIn wsX8_takeName (wsV RX8 85 RX8 yX8_expect wsX8_expect) := goodIn_app (goodIn_of _ (by decide +kernel)) ggX8_takeName_X8_expect
set_option maxRecDepth 20000 in
theorem ggX8_takeName_X10_within : GoodIn wsX8_takeName wsX10_within := goodIn_r _ [18] (by decide +kernel) (by decide +kernel)
set_option maxRecDepth 20000 in
theorem gX8_takeName_X10_within_n91 : GoodIn wsX8_takeName (wsX10_within) := ggX8_takeName_X10_within
set_option maxRecDepth 20000 in
theorem ggX8_takeName_X8_meet : GoodIn wsX8_takeName wsX8_meet := goodIn_r _ [14, 2, 15, 116, 117, 118, 119, 120, 121] (by decide +kernel) (by decide +kernel)
set_option maxRecDepth 20000 in
theorem gX8_takeName_X8_meet : GoodIn wsX8_takeName (wsV RX8 55 RX8 yX8_meet wsX8_meet) := goodIn_app (goodIn_of _ (by decide +kernel)) ggX8_takeName_X8_meet
set_option maxRecDepth 20000 in
theorem ggX8_takeName_X8_readNext : GoodIn wsX8_takeName wsX8_readNext := goodIn_r _ [22, 10, 4, 23, 24, 25, 26, 27, 28, 29, 30, 31, 32, 33, 34, 35, 36, 37, 38, 39, 40, 16, 17, 18, 41, 42, 43, 44, 45, 46, 47, 48, 49, 50, 51, 52, 53, 54, 55, 56, 57, 58, 59, 60, 61, 62, 63, 64, 65, 66, 67, 68, 69, 70, 71, 72, 73, 74, 75, 76, 77, 78, 79, 80, 81, 82, 83, 84, 85, 86, 87, 88, 89, 90, 91, 92, 93, 94, 95, 96, 97, 98, 99, 100, 101, 102, 103, 104, 105, 106, 107, 108, 109, 11, 12, 13, 8, 14, 2, 15, 110, 111, 112, 113, 114, 115, 116, 117, 118, 119, 120, 121] (by decide +kernel) (by decide +kernel)
set_option maxRecDepth 20000 in
theorem gX8_takeName_X8_readNext : GoodIn wsX8_takeName (wsV RX8 68 RX8 yX8_readNext wsX8_readNext) := goodIn_app (goodIn_of _ (by decide +kernel)) ggX8_takeName_X8_readNext
theorem dX8_takeName_0 : decode cX8_takeName 0 = .ok (.aload_n 0, 1) := by decide +kernel
theorem dX8_takeName_1 : decode cX8_takeName 1 = .ok (.aload_n 1, 1) := by decide +kernel
theorem dX8_takeName_2 : decode cX8_takeName 2 = .ok (.iconst 1, 1) := by decide +kernel
theorem dX8_takeName_3 : decode cX8_takeName 3 = .ok (.invokevirtual 85, 3) := by decide +kernel
theorem dX8_takeName_6 : decode cX8_takeName 6 = .ok (.aload_n 1, 1) := by decide +kernel
theorem dX8_takeName_7 : decode cX8_takeName 7 = .ok (.getfield 88, 3) := by decide +kernel
theorem dX8_takeName_10 : decode cX8_takeName 10 = .ok (.istore_n 2, 1) := by decide +kernel
theorem dX8_takeName_11 : decode cX8_takeName 11 = .ok (.aload_n 0, 1) := by decide +kernel
theorem dX8_takeName_12 : decode cX8_takeName 12 = .ok (.getfield 23, 3) := by decide +kernel
theorem dX8_takeName_15 : decode cX8_takeName 15 = .ok (.ifCond .ne 13, 3) := by decide +kernel
theorem dX8_takeName_18 : decode cX8_takeName 18 = .ok (.iload_n 2, 1) := by decide +kernel
theorem dX8_takeName_19 : decode cX8_takeName 19 = .ok (.iconst 0, 1) := by decide +kernel
theorem dX8_takeName_20 : decode cX8_takeName 20 = .ok (.bipush 6, 2) := by decide +kernel
theorem dX8_takeName_22 : decode cX8_takeName 22 = .ok (.invokestatic 91, 3) := by decide +kernel
theorem dX8_takeName_25 : decode cX8_takeName 25 = .ok (.ifCond .ne 5, 3) := by decide +kernel
theorem dX8_takeName_28 : decode cX8_takeName 28 = .ok (.iconst 0, 1) := by decide +kernel
theorem dX8_takeName_29 : decode cX8_takeName 29 = .ok (.ireturn, 1) := by decide +kernel
theorem dX8_takeName_30 : decode cX8_takeName 30 = .ok (.aload_n 0, 1) := by decide +kernel
theorem dX8_takeName_31 : decode cX8_takeName 31 = .ok (.getfield 30, 3) := by decide +kernel
theorem dX8_takeName_34 : decode cX8_takeName 34 = .ok (.iload_n 2, 1) := by decide +kernel
theorem dX8_takeName_35 : decode cX8_takeName 35 = .ok (.baload, 1) := by decide +kernel
theorem dX8_takeName_36 : decode cX8_takeName 36 = .ok (.ifCond .eq 14, 3) := by decide +kernel
theorem dX8_takeName_39 : decode cX8_takeName 39 = .ok (.aload_n 0, 1) := by decide +kernel
theorem dX8_takeName_40 : decode cX8_takeName 40 = .ok (.iconst 4, 1) := by decide +kernel
theorem dX8_takeName_41 : decode cX8_takeName 41 = .ok (.aload_n 1, 1) := by decide +kernel
theorem dX8_takeName_42 : decode cX8_takeName 42 = .ok (.getfield 95, 3) := by decide +kernel
theorem dX8_takeName_45 : decode cX8_takeName 45 = .ok (.invokevirtual 55, 3) := by decide +kernel
theorem dX8_takeName_48 : decode cX8_takeName 48 = .ok (.iconst 0, 1) := by decide +kernel
theorem dX8_takeName_49 : decode cX8_takeName 49 = .ok (.ireturn, 1) := by decide +kernel
theorem dX8_takeName_50 : decode cX8_takeName 50 = .ok (.aload_n 0, 1) := by decide +kernel
theorem dX8_takeName_51 : decode cX8_takeName 51 = .ok (.getfield 30, 3) := by decide +kernel
theorem dX8_takeName_54 : decode cX8_takeName 54 = .ok (.iload_n 2, 1) := by decide +kernel
theorem dX8_takeName_55 : decode cX8_takeName 55 = .ok (.iconst 1, 1) := by decide +kernel
theorem dX8_takeName_56 : decode cX8_takeName 56 = .ok (.bastore, 1) := by decide +kernel
theorem dX8_takeName_57 : decode cX8_takeName 57 = .ok (.aload_n 0, 1) := by decide +kernel
theorem dX8_takeName_58 : decode cX8_takeName 58 = .ok (.aload_n 1, 1) := by decide +kernel
theorem dX8_takeName_59 : decode cX8_takeName 59 = .ok (.invokevirtual 68, 3) := by decide +kernel
theorem dX8_takeName_62 : decode cX8_takeName 62 = .ok (.iload_n 2, 1) := by decide +kernel
theorem dX8_takeName_63 : decode cX8_takeName 63 = .ok (.ireturn, 1) := by decide +kernel
set_option maxRecDepth 20000 in
theorem ggX8_takeNumber_X8_expect : GoodIn wsX8_takeNumber wsX8_expect := goodIn_r _ [9, 10, 4, 11, 12, 13, 8, 14, 1, 15, 116, 117, 118, 119, 120, 121, 110, 111, 112, 113, 114, 115] (by decide +kernel) (by decide +kernel)
set_option maxRecDepth 20000 in
theorem gX8_takeNumber_X8_expect : GoodIn wsX8_takeNumber (wsV RX8 85 RX8 yX8_expect wsX8_expect) := goodIn_app (goodIn_of _ (by decide +kernel)) ggX8_takeNumber_X8_expect
set_option maxRecDepth 20000 in
theorem ggX8_takeNumber_X10_within : GoodIn wsX8_takeNumber wsX10_within := goodIn_r _ [18] (by decide +kernel) (by decide +kernel)
set_option maxRecDepth 20000 in
theorem gX8_takeNumber_X10_within_n91 : GoodIn wsX8_takeNumber (wsX10_within) := ggX8_takeNumber_X10_within
set_option maxRecDepth 20000 in
theorem ggX8_takeNumber_X8_meet : GoodIn wsX8_takeNumber wsX8_meet := goodIn_r _ [14, 1, 15, 110, 111, 112, 113, 114, 115] (by decide +kernel) (by decide +kernel)
set_option maxRecDepth 20000 in
theorem gX8_takeNumber_X8_meet : GoodIn wsX8_takeNumber (wsV RX8 55 RX8 yX8_meet wsX8_meet) := goodIn_app (goodIn_of _ (by decide +kernel)) ggX8_takeNumber_X8_meet
set_option maxRecDepth 20000 in
theorem ggX8_takeNumber_X8_readNext : GoodIn wsX8_takeNumber wsX8_readNext := goodIn_r _ [22, 10, 4, 23, 24, 25, 26, 27, 28, 29, 30, 31, 32, 33, 34, 35, 36, 37, 38, 39, 40, 16, 17, 18, 41, 42, 43, 44, 45, 46, 47, 48, 49, 50, 51, 52, 53, 54, 55, 56, 57, 58, 59, 60, 61, 62, 63, 64, 65, 66, 67, 68, 69, 70, 71, 72, 73, 74, 75, 76, 77, 78, 79, 80, 81, 82, 83, 84, 85, 86, 87, 88, 89, 90, 91, 92, 93, 94, 95, 96, 97, 98, 99, 100, 101, 102, 103, 104, 105, 106, 107, 108, 109, 11, 12, 13, 8, 14, 1, 15, 116, 117, 118, 119, 120, 121, 110, 111, 112, 113, 114, 115] (by decide +kernel) (by decide +kernel)
set_option maxRecDepth 20000 in
theorem gX8_takeNumber_X8_readNext : GoodIn wsX8_takeNumber (wsV RX8 68 RX8 yX8_readNext wsX8_readNext) := goodIn_app (goodIn_of _ (by decide +kernel)) ggX8_takeNumber_X8_readNext
theorem dX8_takeNumber_0 : decode cX8_takeNumber 0 = .ok (.aload_n 0, 1) := by decide +kernel
theorem dX8_takeNumber_1 : decode cX8_takeNumber 1 = .ok (.aload_n 1, 1) := by decide +kernel
theorem dX8_takeNumber_2 : decode cX8_takeNumber 2 = .ok (.iconst 2, 1) := by decide +kernel
theorem dX8_takeNumber_3 : decode cX8_takeNumber 3 = .ok (.invokevirtual 85, 3) := by decide +kernel
theorem dX8_takeNumber_6 : decode cX8_takeNumber 6 = .ok (.aload_n 0, 1) := by decide +kernel
theorem dX8_takeNumber_7 : decode cX8_takeNumber 7 = .ok (.getfield 23, 3) := by decide +kernel
theorem dX8_takeNumber_10 : decode cX8_takeNumber 10 = .ok (.ifCond .ne 18, 3) := by decide +kernel
theorem dX8_takeNumber_13 : decode cX8_takeNumber 13 = .ok (.iload_n 2, 1) := by decide +kernel
theorem dX8_takeNumber_14 : decode cX8_takeNumber 14 = .ok (.iconst 0, 1) := by decide +kernel
theorem dX8_takeNumber_15 : decode cX8_takeNumber 15 = .ok (.aload_n 0, 1) := by decide +kernel
theorem dX8_takeNumber_16 : decode cX8_takeNumber 16 = .ok (.getfield 27, 3) := by decide +kernel
theorem dX8_takeNumber_19 : decode cX8_takeNumber 19 = .ok (.arraylength, 1) := by decide +kernel
theorem dX8_takeNumber_20 : decode cX8_takeNumber 20 = .ok (.iconst 1, 1) := by decide +kernel
theorem dX8_takeNumber_21 : decode cX8_takeNumber 21 = .ok (.isub, 1) := by decide +kernel
theorem dX8_takeNumber_22 : decode cX8_takeNumber 22 = .ok (.invokestatic 91, 3) := by decide +kernel
theorem dX8_takeNumber_25 : decode cX8_takeNumber 25 = .ok (.ifCond .ne 4, 3) := by decide +kernel
theorem dX8_takeNumber_28 : decode cX8_takeNumber 28 = .ok (.return_, 1) := by decide +kernel
theorem dX8_takeNumber_29 : decode cX8_takeNumber 29 = .ok (.aload_n 1, 1) := by decide +kernel
theorem dX8_takeNumber_30 : decode cX8_takeNumber 30 = .ok (.getfield 88, 3) := by decide +kernel
theorem dX8_takeNumber_33 : decode cX8_takeNumber 33 = .ok (.getstatic 98, 3) := by decide +kernel
theorem dX8_takeNumber_36 : decode cX8_takeNumber 36 = .ok (.iload_n 2, 1) := by decide +kernel
theorem dX8_takeNumber_37 : decode cX8_takeNumber 37 = .ok (.iaload, 1) := by decide +kernel
theorem dX8_takeNumber_38 : decode cX8_takeNumber 38 = .ok (.getstatic 101, 3) := by decide +kernel
theorem dX8_takeNumber_41 : decode cX8_takeNumber 41 = .ok (.iload_n 2, 1) := by decide +kernel
theorem dX8_takeNumber_42 : decode cX8_takeNumber 42 = .ok (.iaload, 1) := by decide +kernel
theorem dX8_takeNumber_43 : decode cX8_takeNumber 43 = .ok (.invokestatic 91, 3) := by decide +kernel
theorem dX8_takeNumber_46 : decode cX8_takeNumber 46 = .ok (.ifCond .ne 13, 3) := by decide +kernel
theorem dX8_takeNumber_49 : decode cX8_takeNumber 49 = .ok (.aload_n 0, 1) := by decide +kernel
theorem dX8_takeNumber_50 : decode cX8_takeNumber 50 = .ok (.iconst 3, 1) := by decide +kernel
theorem dX8_takeNumber_51 : decode cX8_takeNumber 51 = .ok (.aload_n 1, 1) := by decide +kernel
theorem dX8_takeNumber_52 : decode cX8_takeNumber 52 = .ok (.getfield 95, 3) := by decide +kernel
theorem dX8_takeNumber_55 : decode cX8_takeNumber 55 = .ok (.invokevirtual 55, 3) := by decide +kernel
theorem dX8_takeNumber_58 : decode cX8_takeNumber 58 = .ok (.return_, 1) := by decide +kernel
theorem dX8_takeNumber_59 : decode cX8_takeNumber 59 = .ok (.aload_n 0, 1) := by decide +kernel
theorem dX8_takeNumber_60 : decode cX8_takeNumber 60 = .ok (.getfield 27, 3) := by decide +kernel
theorem dX8_takeNumber_63 : decode cX8_takeNumber 63 = .ok (.iload_n 2, 1) := by decide +kernel
theorem dX8_takeNumber_64 : decode cX8_takeNumber 64 = .ok (.aload_n 1, 1) := by decide +kernel
theorem dX8_takeNumber_65 : decode cX8_takeNumber 65 = .ok (.getfield 88, 3) := by decide +kernel
theorem dX8_takeNumber_68 : decode cX8_takeNumber 68 = .ok (.iastore, 1) := by decide +kernel
theorem dX8_takeNumber_69 : decode cX8_takeNumber 69 = .ok (.aload_n 0, 1) := by decide +kernel
theorem dX8_takeNumber_70 : decode cX8_takeNumber 70 = .ok (.aload_n 1, 1) := by decide +kernel
theorem dX8_takeNumber_71 : decode cX8_takeNumber 71 = .ok (.invokevirtual 68, 3) := by decide +kernel
theorem dX8_takeNumber_74 : decode cX8_takeNumber 74 = .ok (.return_, 1) := by decide +kernel
set_option maxRecDepth 20000 in
theorem ggX8_readNext_X7_readToken : GoodIn wsX8_readNext wsX7_readToken := goodIn_r _ [7, 8, 9, 10, 11, 12, 13, 14, 6, 15, 16, 17, 18, 19, 20, 21, 22, 23, 24, 25, 26, 27, 28, 29, 30, 31, 32, 33, 34, 35, 36, 37, 38, 39, 40, 41, 42, 43, 44, 45, 46, 47, 48, 49, 50, 51, 52, 53, 54, 55, 56, 57, 58, 59, 60, 61, 62, 63, 64, 65, 66, 67, 68, 69, 70, 71, 72, 73, 74, 75, 76, 77, 78, 79, 80, 81, 82, 83, 84, 85, 86, 87, 88, 89, 90, 91, 92, 100, 101, 102, 103, 104, 105] (by decide +kernel) (by decide +kernel)
set_option maxRecDepth 20000 in
theorem gX8_readNext_X7_readToken : GoodIn wsX8_readNext (wsV RX8 104 RX7 yX7_readToken wsX7_readToken) := goodIn_app (goodIn_of _ (by decide +kernel)) ggX8_readNext_X7_readToken
set_option maxRecDepth 20000 in
theorem ggX8_readNext_X8_meet : GoodIn wsX8_readNext wsX8_meet := goodIn_r _ [97, 98, 99, 106, 107, 108, 109, 110, 111] (by decide +kernel) (by decide +kernel)
set_option maxRecDepth 20000 in
theorem gX8_readNext_X8_meet : GoodIn wsX8_readNext (wsV RX8 55 RX8 yX8_meet wsX8_meet) := goodIn_app (goodIn_of _ (by decide +kernel)) ggX8_readNext_X8_meet
theorem dX8_readNext_0 : decode cX8_readNext 0 = .ok (.aload_n 1, 1) := by decide +kernel
theorem dX8_readNext_1 : decode cX8_readNext 1 = .ok (.invokevirtual 104, 3) := by decide +kernel
theorem dX8_readNext_4 : decode cX8_readNext 4 = .ok (.aload_n 1, 1) := by decide +kernel
theorem dX8_readNext_5 : decode cX8_readNext 5 = .ok (.getfield 44, 3) := by decide +kernel
theorem dX8_readNext_8 : decode cX8_readNext 8 = .ok (.ifCond .ne 12, 3) := by decide +kernel
theorem dX8_readNext_11 : decode cX8_readNext 11 = .ok (.aload_n 0, 1) := by decide +kernel
theorem dX8_readNext_12 : decode cX8_readNext 12 = .ok (.iconst 1, 1) := by decide +kernel
theorem dX8_readNext_13 : decode cX8_readNext 13 = .ok (.aload_n 1, 1) := by decide +kernel
theorem dX8_readNext_14 : decode cX8_readNext 14 = .ok (.getfield 95, 3) := by decide +kernel
theorem dX8_readNext_17 : decode cX8_readNext 17 = .ok (.invokevirtual 55, 3) := by decide +kernel
theorem dX8_readNext_20 : decode cX8_readNext 20 = .ok (.return_, 1) := by decide +kernel
set_option maxRecDepth 20000 in
theorem ggX8_expect_X8_meet : GoodIn wsX8_expect wsX8_meet := goodIn_r _ [7, 8, 9, 16, 17, 18, 19, 20, 21] (by decide +kernel) (by decide +kernel)
set_option maxRecDepth 20000 in
theorem gX8_expect_X8_meet : GoodIn wsX8_expect (wsV RX8 55 RX8 yX8_meet wsX8_meet) := goodIn_app (goodIn_of _ (by decide +kernel)) ggX8_expect_X8_meet
theorem dX8_expect_0 : decode cX8_expect 0 = .ok (.aload_n 1, 1) := by decide +kernel
theorem dX8_expect_1 : decode cX8_expect 1 = .ok (.getfield 44, 3) := by decide +kernel
theorem dX8_expect_4 : decode cX8_expect 4 = .ok (.iload_n 2, 1) := by decide +kernel
theorem dX8_expect_5 : decode cX8_expect 5 = .ok (.if_icmp .eq 12, 3) := by decide +kernel
theorem dX8_expect_8 : decode cX8_expect 8 = .ok (.aload_n 0, 1) := by decide +kernel
theorem dX8_expect_9 : decode cX8_expect 9 = .ok (.iconst 2, 1) := by decide +kernel
theorem dX8_expect_10 : decode cX8_expect 10 = .ok (.aload_n 1, 1) := by decide +kernel
theorem dX8_expect_11 : decode cX8_expect 11 = .ok (.getfield 95, 3) := by decide +kernel
theorem dX8_expect_14 : decode cX8_expect 14 = .ok (.invokevirtual 55, 3) := by decide +kernel
theorem dX8_expect_17 : decode cX8_expect 17 = .ok (.return_, 1) := by decide +kernel
theorem dX8_meet_0 : decode cX8_meet 0 = .ok (.aload_n 0, 1) := by decide +kernel
theorem dX8_meet_1 : decode cX8_meet 1 = .ok (.iload_n 1, 1) := by decide +kernel
theorem dX8_meet_2 : decode cX8_meet 2 = .ok (.putfield 23, 3) := by decide +kernel
theorem dX8_meet_5 : decode cX8_meet 5 = .ok (.aload_n 0, 1) := by decide +kernel
theorem dX8_meet_6 : decode cX8_meet 6 = .ok (.iload_n 2, 1) := by decide +kernel
theorem dX8_meet_7 : decode cX8_meet 7 = .ok (.putfield 34, 3) := by decide +kernel
theorem dX8_meet_10 : decode cX8_meet 10 = .ok (.return_, 1) := by decide +kernel
theorem dX9_init_0 : decode cX9_init 0 = .ok (.aload_n 0, 1) := by decide +kernel
theorem dX9_init_1 : decode cX9_init 1 = .ok (.invokespecial 3, 3) := by decide +kernel
theorem dX9_init_4 : decode cX9_init 4 = .ok (.aload_n 0, 1) := by decide +kernel
theorem dX9_init_5 : decode cX9_init 5 = .ok (.iconst 5, 1) := by decide +kernel
theorem dX9_init_6 : decode cX9_init 6 = .ok (.newarray .int, 2) := by decide +kernel
theorem dX9_init_8 : decode cX9_init 8 = .ok (.putfield 9, 3) := by decide +kernel
theorem dX9_init_11 : decode cX9_init 11 = .ok (.aload_n 0, 1) := by decide +kernel
theorem dX9_init_12 : decode cX9_init 12 = .ok (.bipush 64, 2) := by decide +kernel
theorem dX9_init_14 : decode cX9_init 14 = .ok (.newarray .int, 2) := by decide +kernel
theorem dX9_init_16 : decode cX9_init 16 = .ok (.putfield 15, 3) := by decide +kernel
theorem dX9_init_19 : decode cX9_init 19 = .ok (.aload_n 0, 1) := by decide +kernel
theorem dX9_init_20 : decode cX9_init 20 = .ok (.bipush 64, 2) := by decide +kernel
theorem dX9_init_22 : decode cX9_init 22 = .ok (.newarray .int, 2) := by decide +kernel
theorem dX9_init_24 : decode cX9_init 24 = .ok (.putfield 18, 3) := by decide +kernel
theorem dX9_init_27 : decode cX9_init 27 = .ok (.aload_n 0, 1) := by decide +kernel
theorem dX9_init_28 : decode cX9_init 28 = .ok (.iconst 0, 1) := by decide +kernel
theorem dX9_init_29 : decode cX9_init 29 = .ok (.putfield 21, 3) := by decide +kernel
theorem dX9_init_32 : decode cX9_init 32 = .ok (.aload_n 0, 1) := by decide +kernel
theorem dX9_init_33 : decode cX9_init 33 = .ok (.bipush 14, 2) := by decide +kernel
theorem dX9_init_35 : decode cX9_init 35 = .ok (.newarray .int, 2) := by decide +kernel
theorem dX9_init_37 : decode cX9_init 37 = .ok (.putfield 25, 3) := by decide +kernel
theorem dX9_init_40 : decode cX9_init 40 = .ok (.aload_n 0, 1) := by decide +kernel
theorem dX9_init_41 : decode cX9_init 41 = .ok (.bipush 14, 2) := by decide +kernel
theorem dX9_init_43 : decode cX9_init 43 = .ok (.newarray .int, 2) := by decide +kernel
theorem dX9_init_45 : decode cX9_init 45 = .ok (.putfield 28, 3) := by decide +kernel
theorem dX9_init_48 : decode cX9_init 48 = .ok (.aload_n 0, 1) := by decide +kernel
theorem dX9_init_49 : decode cX9_init 49 = .ok (.iconst 0, 1) := by decide +kernel
theorem dX9_init_50 : decode cX9_init 50 = .ok (.putfield 31, 3) := by decide +kernel
theorem dX9_init_53 : decode cX9_init 53 = .ok (.return_, 1) := by decide +kernel
theorem dX9_clear_0 : decode cX9_clear 0 = .ok (.iconst 0, 1) := by decide +kernel
theorem dX9_clear_1 : decode cX9_clear 1 = .ok (.istore_n 1, 1) := by decide +kernel
theorem dX9_clear_2 : decode cX9_clear 2 = .ok (.iload_n 1, 1) := by decide +kernel
theorem dX9_clear_3 : decode cX9_clear 3 = .ok (.aload_n 0, 1) := by decide +kernel
theorem dX9_clear_4 : decode cX9_clear 4 = .ok (.getfield 9, 3) := by decide +kernel
theorem dX9_clear_7 : decode cX9_clear 7 = .ok (.arraylength, 1) := by decide +kernel
theorem dX9_clear_8 : decode cX9_clear 8 = .ok (.if_icmp .ge 16, 3) := by decide +kernel
theorem dX9_clear_11 : decode cX9_clear 11 = .ok (.aload_n 0, 1) := by decide +kernel
theorem dX9_clear_12 : decode cX9_clear 12 = .ok (.getfield 9, 3) := by decide +kernel
theorem dX9_clear_15 : decode cX9_clear 15 = .ok (.iload_n 1, 1) := by decide +kernel
theorem dX9_clear_16 : decode cX9_clear 16 = .ok (.iconst 0, 1) := by decide +kernel
theorem dX9_clear_17 : decode cX9_clear 17 = .ok (.iastore, 1) := by decide +kernel
theorem dX9_clear_18 : decode cX9_clear 18 = .ok (.iinc 1 1, 3) := by decide +kernel
theorem dX9_clear_21 : decode cX9_clear 21 = .ok (.goto (-19), 3) := by decide +kernel
theorem dX9_clear_24 : decode cX9_clear 24 = .ok (.aload_n 0, 1) := by decide +kernel
theorem dX9_clear_25 : decode cX9_clear 25 = .ok (.iconst 0, 1) := by decide +kernel
theorem dX9_clear_26 : decode cX9_clear 26 = .ok (.putfield 21, 3) := by decide +kernel
theorem dX9_clear_29 : decode cX9_clear 29 = .ok (.aload_n 0, 1) := by decide +kernel
theorem dX9_clear_30 : decode cX9_clear 30 = .ok (.iconst 0, 1) := by decide +kernel
theorem dX9_clear_31 : decode cX9_clear 31 = .ok (.putfield 31, 3) := by decide +kernel
theorem dX9_clear_34 : decode cX9_clear 34 = .ok (.return_, 1) := by decide +kernel
theorem dX9_wasWalked_0 : decode cX9_wasWalked 0 = .ok (.aload_n 0, 1) := by decide +kernel
theorem dX9_wasWalked_1 : decode cX9_wasWalked 1 = .ok (.getfield 9, 3) := by decide +kernel
theorem dX9_wasWalked_4 : decode cX9_wasWalked 4 = .ok (.iconst 0, 1) := by decide +kernel
theorem dX9_wasWalked_5 : decode cX9_wasWalked 5 = .ok (.iaload, 1) := by decide +kernel
theorem dX9_wasWalked_6 : decode cX9_wasWalked 6 = .ok (.ifCond .le 7, 3) := by decide +kernel
theorem dX9_wasWalked_9 : decode cX9_wasWalked 9 = .ok (.iconst 1, 1) := by decide +kernel
theorem dX9_wasWalked_10 : decode cX9_wasWalked 10 = .ok (.goto 4, 3) := by decide +kernel
theorem dX9_wasWalked_13 : decode cX9_wasWalked 13 = .ok (.iconst 0, 1) := by decide +kernel
theorem dX9_wasWalked_14 : decode cX9_wasWalked 14 = .ok (.ireturn, 1) := by decide +kernel
set_option maxRecDepth 20000 in
theorem ggX9_walk_X9_clear : GoodIn wsX9_walk wsX9_clear := goodIn_r _ [8, 9, 10, 1, 68, 69, 70, 71, 72, 73, 74] (by decide +kernel) (by decide +kernel)
set_option maxRecDepth 20000 in
theorem gX9_walk_X9_clear : GoodIn wsX9_walk (wsV RX9 34 RX9 yX9_clear wsX9_clear) := goodIn_app (goodIn_of _ (by decide +kernel)) ggX9_walk_X9_clear
set_option maxRecDepth 20000 in
theorem ggX9_walk_X9_push : GoodIn wsX9_walk wsX9_push := goodIn_r _ [14, 1, 2, 3, 68, 69, 70, 71, 72, 73, 74] (by decide +kernel) (by decide +kernel)
set_option maxRecDepth 20000 in
theorem gX9_walk_X9_push : GoodIn wsX9_walk (wsV RX9 37 RX9 yX9_push wsX9_push) := goodIn_app (goodIn_of _ (by decide +kernel)) ggX9_walk_X9_push
set_option maxRecDepth 20000 in
theorem ggX9_walk_X9_question : GoodIn wsX9_walk wsX9_question := goodIn_r _ [18, 9, 19, 20, 21, 22, 23, 7, 24, 10, 25, 26, 27, 28, 29, 30, 31, 32, 33, 34, 35, 36, 37, 38, 39, 40, 41, 42, 43, 44, 45, 46, 47, 48, 49, 50, 51, 52, 53, 54, 55, 56, 57, 58, 59, 60, 61, 62, 63, 64, 65, 66, 67, 11, 12, 13, 14, 1, 2, 3, 68, 69, 70, 71, 72, 73, 74, 75, 76, 77, 78, 79, 80, 81, 82, 83] (by decide +kernel) (by decide +kernel)
set_option maxRecDepth 20000 in
theorem gX9_walk_X9_question : GoodIn wsX9_walk (wsV RX9 41 RX9 yX9_question wsX9_question) := goodIn_app (goodIn_of _ (by decide +kernel)) ggX9_walk_X9_question
theorem dX9_walk_0 : decode cX9_walk 0 = .ok (.aload_n 0, 1) := by decide +kernel
theorem dX9_walk_1 : decode cX9_walk 1 = .ok (.invokevirtual 34, 3) := by decide +kernel
theorem dX9_walk_4 : decode cX9_walk 4 = .ok (.aload_n 0, 1) := by decide +kernel
theorem dX9_walk_5 : decode cX9_walk 5 = .ok (.iconst 0, 1) := by decide +kernel
theorem dX9_walk_6 : decode cX9_walk 6 = .ok (.iconst 0, 1) := by decide +kernel
theorem dX9_walk_7 : decode cX9_walk 7 = .ok (.invokevirtual 37, 3) := by decide +kernel
theorem dX9_walk_10 : decode cX9_walk 10 = .ok (.iconst 0, 1) := by decide +kernel
theorem dX9_walk_11 : decode cX9_walk 11 = .ok (.istore_n 3, 1) := by decide +kernel
theorem dX9_walk_12 : decode cX9_walk 12 = .ok (.iload_n 3, 1) := by decide +kernel
theorem dX9_walk_13 : decode cX9_walk 13 = .ok (.sipush 2000, 3) := by decide +kernel
theorem dX9_walk_16 : decode cX9_walk 16 = .ok (.if_icmp .ge 50, 3) := by decide +kernel
theorem dX9_walk_19 : decode cX9_walk 19 = .ok (.aload_n 0, 1) := by decide +kernel
theorem dX9_walk_20 : decode cX9_walk 20 = .ok (.getfield 31, 3) := by decide +kernel
theorem dX9_walk_23 : decode cX9_walk 23 = .ok (.ifCond .le 43, 3) := by decide +kernel
theorem dX9_walk_26 : decode cX9_walk 26 = .ok (.aload_n 0, 1) := by decide +kernel
theorem dX9_walk_27 : decode cX9_walk 27 = .ok (.dup, 1) := by decide +kernel
theorem dX9_walk_28 : decode cX9_walk 28 = .ok (.getfield 31, 3) := by decide +kernel
theorem dX9_walk_31 : decode cX9_walk 31 = .ok (.iconst 1, 1) := by decide +kernel
theorem dX9_walk_32 : decode cX9_walk 32 = .ok (.isub, 1) := by decide +kernel
theorem dX9_walk_33 : decode cX9_walk 33 = .ok (.putfield 31, 3) := by decide +kernel
theorem dX9_walk_36 : decode cX9_walk 36 = .ok (.aload_n 0, 1) := by decide +kernel
theorem dX9_walk_37 : decode cX9_walk 37 = .ok (.aload_n 1, 1) := by decide +kernel
theorem dX9_walk_38 : decode cX9_walk 38 = .ok (.iload_n 2, 1) := by decide +kernel
theorem dX9_walk_39 : decode cX9_walk 39 = .ok (.aload_n 0, 1) := by decide +kernel
theorem dX9_walk_40 : decode cX9_walk 40 = .ok (.getfield 25, 3) := by decide +kernel
theorem dX9_walk_43 : decode cX9_walk 43 = .ok (.aload_n 0, 1) := by decide +kernel
theorem dX9_walk_44 : decode cX9_walk 44 = .ok (.getfield 31, 3) := by decide +kernel
theorem dX9_walk_47 : decode cX9_walk 47 = .ok (.iaload, 1) := by decide +kernel
theorem dX9_walk_48 : decode cX9_walk 48 = .ok (.aload_n 0, 1) := by decide +kernel
theorem dX9_walk_49 : decode cX9_walk 49 = .ok (.getfield 28, 3) := by decide +kernel
theorem dX9_walk_52 : decode cX9_walk 52 = .ok (.aload_n 0, 1) := by decide +kernel
theorem dX9_walk_53 : decode cX9_walk 53 = .ok (.getfield 31, 3) := by decide +kernel
theorem dX9_walk_56 : decode cX9_walk 56 = .ok (.iaload, 1) := by decide +kernel
theorem dX9_walk_57 : decode cX9_walk 57 = .ok (.invokevirtual 41, 3) := by decide +kernel
theorem dX9_walk_60 : decode cX9_walk 60 = .ok (.iinc 3 1, 3) := by decide +kernel
theorem dX9_walk_63 : decode cX9_walk 63 = .ok (.goto (-51), 3) := by decide +kernel
theorem dX9_walk_66 : decode cX9_walk 66 = .ok (.aload_n 0, 1) := by decide +kernel
theorem dX9_walk_67 : decode cX9_walk 67 = .ok (.getfield 31, 3) := by decide +kernel
theorem dX9_walk_70 : decode cX9_walk 70 = .ok (.ifCond .ne 7, 3) := by decide +kernel
theorem dX9_walk_73 : decode cX9_walk 73 = .ok (.iconst 1, 1) := by decide +kernel
theorem dX9_walk_74 : decode cX9_walk 74 = .ok (.goto 4, 3) := by decide +kernel
theorem dX9_walk_77 : decode cX9_walk 77 = .ok (.iconst 0, 1) := by decide +kernel
theorem dX9_walk_78 : decode cX9_walk 78 = .ok (.ireturn, 1) := by decide +kernel
theorem dX9_push_0 : decode cX9_push 0 = .ok (.aload_n 0, 1) := by decide +kernel
theorem dX9_push_1 : decode cX9_push 1 = .ok (.getfield 31, 3) := by decide +kernel
theorem dX9_push_4 : decode cX9_push 4 = .ok (.aload_n 0, 1) := by decide +kernel
theorem dX9_push_5 : decode cX9_push 5 = .ok (.getfield 25, 3) := by decide +kernel
theorem dX9_push_8 : decode cX9_push 8 = .ok (.arraylength, 1) := by decide +kernel
theorem dX9_push_9 : decode cX9_push 9 = .ok (.if_icmp .ge 33, 3) := by decide +kernel
theorem dX9_push_12 : decode cX9_push 12 = .ok (.aload_n 0, 1) := by decide +kernel
theorem dX9_push_13 : decode cX9_push 13 = .ok (.getfield 25, 3) := by decide +kernel
theorem dX9_push_16 : decode cX9_push 16 = .ok (.aload_n 0, 1) := by decide +kernel
theorem dX9_push_17 : decode cX9_push 17 = .ok (.getfield 31, 3) := by decide +kernel
theorem dX9_push_20 : decode cX9_push 20 = .ok (.iload_n 1, 1) := by decide +kernel
theorem dX9_push_21 : decode cX9_push 21 = .ok (.iastore, 1) := by decide +kernel
theorem dX9_push_22 : decode cX9_push 22 = .ok (.aload_n 0, 1) := by decide +kernel
theorem dX9_push_23 : decode cX9_push 23 = .ok (.getfield 28, 3) := by decide +kernel
theorem dX9_push_26 : decode cX9_push 26 = .ok (.aload_n 0, 1) := by decide +kernel
theorem dX9_push_27 : decode cX9_push 27 = .ok (.getfield 31, 3) := by decide +kernel
theorem dX9_push_30 : decode cX9_push 30 = .ok (.iload_n 2, 1) := by decide +kernel
theorem dX9_push_31 : decode cX9_push 31 = .ok (.iastore, 1) := by decide +kernel
theorem dX9_push_32 : decode cX9_push 32 = .ok (.aload_n 0, 1) := by decide +kernel
theorem dX9_push_33 : decode cX9_push 33 = .ok (.dup, 1) := by decide +kernel
theorem dX9_push_34 : decode cX9_push 34 = .ok (.getfield 31, 3) := by decide +kernel
theorem dX9_push_37 : decode cX9_push 37 = .ok (.iconst 1, 1) := by decide +kernel
theorem dX9_push_38 : decode cX9_push 38 = .ok (.iadd, 1) := by decide +kernel
theorem dX9_push_39 : decode cX9_push 39 = .ok (.putfield 31, 3) := by decide +kernel
theorem dX9_push_42 : decode cX9_push 42 = .ok (.return_, 1) := by decide +kernel
set_option maxRecDepth 20000 in
theorem ggX9_question_X9_keep : GoodIn wsX9_question wsX9_keep := goodIn_r _ [8, 9, 10, 11, 60, 61, 62, 63, 64, 65, 66] (by decide +kernel) (by decide +kernel)
set_option maxRecDepth 20000 in
theorem gX9_question_X9_keep : GoodIn wsX9_question (wsV RX9 45 RX9 yX9_keep wsX9_keep) := goodIn_app (goodIn_of _ (by decide +kernel)) ggX9_question_X9_keep
set_option maxRecDepth 20000 in
theorem ggX9_question_X0_listen : GoodIn wsX9_question wsX0_listen := goodIn_r _ [16, 17, 18, 19, 20, 21, 22, 23, 24, 25, 26, 27, 28, 15, 29, 30, 31, 32, 33, 34, 35, 36, 37, 38, 39, 67, 68, 69, 70, 71, 72, 73, 74, 75] (by decide +kernel) (by decide +kernel)
set_option maxRecDepth 20000 in
theorem gX9_question_X0_listen : GoodIn wsX9_question (wsV RX9 48 RX0 yX0_listen wsX0_listen) := goodIn_app (goodIn_of _ (by decide +kernel)) ggX9_question_X0_listen
set_option maxRecDepth 20000 in
theorem ggX9_question_X0_clashes : GoodIn wsX9_question wsX0_clashes := goodIn_r _ [43, 19, 20, 67, 68, 69, 70, 71, 72, 73, 74, 75] (by decide +kernel) (by decide +kernel)
set_option maxRecDepth 20000 in
theorem gX9_question_X0_clashes : GoodIn wsX9_question (wsV RX9 53 RX0 yX0_clashes wsX0_clashes) := goodIn_app (goodIn_of _ (by decide +kernel)) ggX9_question_X0_clashes
set_option maxRecDepth 20000 in
theorem ggX9_question_X9_goOn : GoodIn wsX9_question wsX9_goOn := goodIn_r _ [47, 48, 49, 50, 51, 7, 52, 40, 41, 42, 15, 43, 19, 20, 53, 54, 55, 56, 57, 58, 59, 67, 68, 69, 70, 71, 72, 73, 74, 75, 60, 61, 62, 63, 64, 65, 66] (by decide +kernel) (by decide +kernel)
set_option maxRecDepth 20000 in
theorem gX9_question_X9_goOn : GoodIn wsX9_question (wsV RX9 57 RX9 yX9_goOn wsX9_goOn) := goodIn_app (goodIn_of _ (by decide +kernel)) ggX9_question_X9_goOn
theorem dX9_question_0 : decode cX9_question 0 = .ok (.aload_n 0, 1) := by decide +kernel
theorem dX9_question_1 : decode cX9_question 1 = .ok (.iload_n 3, 1) := by decide +kernel
theorem dX9_question_2 : decode cX9_question 2 = .ok (.iload 4, 2) := by decide +kernel
theorem dX9_question_4 : decode cX9_question 4 = .ok (.invokevirtual 45, 3) := by decide +kernel
theorem dX9_question_7 : decode cX9_question 7 = .ok (.aload_n 0, 1) := by decide +kernel
theorem dX9_question_8 : decode cX9_question 8 = .ok (.getfield 9, 3) := by decide +kernel
theorem dX9_question_11 : decode cX9_question 11 = .ok (.iconst 0, 1) := by decide +kernel
theorem dX9_question_12 : decode cX9_question 12 = .ok (.dup2, 1) := by decide +kernel
theorem dX9_question_13 : decode cX9_question 13 = .ok (.iaload, 1) := by decide +kernel
theorem dX9_question_14 : decode cX9_question 14 = .ok (.iconst 1, 1) := by decide +kernel
theorem dX9_question_15 : decode cX9_question 15 = .ok (.iadd, 1) := by decide +kernel
theorem dX9_question_16 : decode cX9_question 16 = .ok (.iastore, 1) := by decide +kernel
theorem dX9_question_17 : decode cX9_question 17 = .ok (.aload_n 1, 1) := by decide +kernel
theorem dX9_question_18 : decode cX9_question 18 = .ok (.iload_n 3, 1) := by decide +kernel
theorem dX9_question_19 : decode cX9_question 19 = .ok (.iload 4, 2) := by decide +kernel
theorem dX9_question_21 : decode cX9_question 21 = .ok (.invokevirtual 48, 3) := by decide +kernel
theorem dX9_question_24 : decode cX9_question 24 = .ok (.aload_n 1, 1) := by decide +kernel
theorem dX9_question_25 : decode cX9_question 25 = .ok (.invokevirtual 53, 3) := by decide +kernel
theorem dX9_question_28 : decode cX9_question 28 = .ok (.ifCond .eq 25, 3) := by decide +kernel
theorem dX9_question_31 : decode cX9_question 31 = .ok (.aload_n 0, 1) := by decide +kernel
theorem dX9_question_32 : decode cX9_question 32 = .ok (.getfield 9, 3) := by decide +kernel
theorem dX9_question_35 : decode cX9_question 35 = .ok (.iconst 4, 1) := by decide +kernel
theorem dX9_question_36 : decode cX9_question 36 = .ok (.dup2, 1) := by decide +kernel
theorem dX9_question_37 : decode cX9_question 37 = .ok (.iaload, 1) := by decide +kernel
theorem dX9_question_38 : decode cX9_question 38 = .ok (.iconst 1, 1) := by decide +kernel
theorem dX9_question_39 : decode cX9_question 39 = .ok (.iadd, 1) := by decide +kernel
theorem dX9_question_40 : decode cX9_question 40 = .ok (.iastore, 1) := by decide +kernel
theorem dX9_question_41 : decode cX9_question 41 = .ok (.aload_n 0, 1) := by decide +kernel
theorem dX9_question_42 : decode cX9_question 42 = .ok (.aload_n 1, 1) := by decide +kernel
theorem dX9_question_43 : decode cX9_question 43 = .ok (.iload_n 2, 1) := by decide +kernel
theorem dX9_question_44 : decode cX9_question 44 = .ok (.iload_n 3, 1) := by decide +kernel
theorem dX9_question_45 : decode cX9_question 45 = .ok (.iload 4, 2) := by decide +kernel
theorem dX9_question_47 : decode cX9_question 47 = .ok (.invokevirtual 57, 3) := by decide +kernel
theorem dX9_question_50 : decode cX9_question 50 = .ok (.goto 53, 3) := by decide +kernel
theorem dX9_question_53 : decode cX9_question 53 = .ok (.aload_n 1, 1) := by decide +kernel
theorem dX9_question_54 : decode cX9_question 54 = .ok (.getfield 60, 3) := by decide +kernel
theorem dX9_question_57 : decode cX9_question 57 = .ok (.ifCond .le 16, 3) := by decide +kernel
theorem dX9_question_60 : decode cX9_question 60 = .ok (.aload_n 0, 1) := by decide +kernel
theorem dX9_question_61 : decode cX9_question 61 = .ok (.getfield 9, 3) := by decide +kernel
theorem dX9_question_64 : decode cX9_question 64 = .ok (.iconst 1, 1) := by decide +kernel
theorem dX9_question_65 : decode cX9_question 65 = .ok (.dup2, 1) := by decide +kernel
theorem dX9_question_66 : decode cX9_question 66 = .ok (.iaload, 1) := by decide +kernel
theorem dX9_question_67 : decode cX9_question 67 = .ok (.iconst 1, 1) := by decide +kernel
theorem dX9_question_68 : decode cX9_question 68 = .ok (.iadd, 1) := by decide +kernel
theorem dX9_question_69 : decode cX9_question 69 = .ok (.iastore, 1) := by decide +kernel
theorem dX9_question_70 : decode cX9_question 70 = .ok (.goto 33, 3) := by decide +kernel
theorem dX9_question_73 : decode cX9_question 73 = .ok (.aload_n 1, 1) := by decide +kernel
theorem dX9_question_74 : decode cX9_question 74 = .ok (.getfield 63, 3) := by decide +kernel
theorem dX9_question_77 : decode cX9_question 77 = .ok (.ifCond .le 16, 3) := by decide +kernel
theorem dX9_question_80 : decode cX9_question 80 = .ok (.aload_n 0, 1) := by decide +kernel
theorem dX9_question_81 : decode cX9_question 81 = .ok (.getfield 9, 3) := by decide +kernel
theorem dX9_question_84 : decode cX9_question 84 = .ok (.iconst 2, 1) := by decide +kernel
theorem dX9_question_85 : decode cX9_question 85 = .ok (.dup2, 1) := by decide +kernel
theorem dX9_question_86 : decode cX9_question 86 = .ok (.iaload, 1) := by decide +kernel
theorem dX9_question_87 : decode cX9_question 87 = .ok (.iconst 1, 1) := by decide +kernel
theorem dX9_question_88 : decode cX9_question 88 = .ok (.iadd, 1) := by decide +kernel
theorem dX9_question_89 : decode cX9_question 89 = .ok (.iastore, 1) := by decide +kernel
theorem dX9_question_90 : decode cX9_question 90 = .ok (.goto 13, 3) := by decide +kernel
theorem dX9_question_93 : decode cX9_question 93 = .ok (.aload_n 0, 1) := by decide +kernel
theorem dX9_question_94 : decode cX9_question 94 = .ok (.getfield 9, 3) := by decide +kernel
theorem dX9_question_97 : decode cX9_question 97 = .ok (.iconst 3, 1) := by decide +kernel
theorem dX9_question_98 : decode cX9_question 98 = .ok (.dup2, 1) := by decide +kernel
theorem dX9_question_99 : decode cX9_question 99 = .ok (.iaload, 1) := by decide +kernel
theorem dX9_question_100 : decode cX9_question 100 = .ok (.iconst 1, 1) := by decide +kernel
theorem dX9_question_101 : decode cX9_question 101 = .ok (.iadd, 1) := by decide +kernel
theorem dX9_question_102 : decode cX9_question 102 = .ok (.iastore, 1) := by decide +kernel
theorem dX9_question_103 : decode cX9_question 103 = .ok (.return_, 1) := by decide +kernel
theorem dX9_keep_0 : decode cX9_keep 0 = .ok (.aload_n 0, 1) := by decide +kernel
theorem dX9_keep_1 : decode cX9_keep 1 = .ok (.getfield 21, 3) := by decide +kernel
theorem dX9_keep_4 : decode cX9_keep 4 = .ok (.bipush 64, 2) := by decide +kernel
theorem dX9_keep_6 : decode cX9_keep 6 = .ok (.if_icmp .ge 33, 3) := by decide +kernel
theorem dX9_keep_9 : decode cX9_keep 9 = .ok (.aload_n 0, 1) := by decide +kernel
theorem dX9_keep_10 : decode cX9_keep 10 = .ok (.getfield 15, 3) := by decide +kernel
theorem dX9_keep_13 : decode cX9_keep 13 = .ok (.aload_n 0, 1) := by decide +kernel
theorem dX9_keep_14 : decode cX9_keep 14 = .ok (.getfield 21, 3) := by decide +kernel
theorem dX9_keep_17 : decode cX9_keep 17 = .ok (.iload_n 1, 1) := by decide +kernel
theorem dX9_keep_18 : decode cX9_keep 18 = .ok (.iastore, 1) := by decide +kernel
theorem dX9_keep_19 : decode cX9_keep 19 = .ok (.aload_n 0, 1) := by decide +kernel
theorem dX9_keep_20 : decode cX9_keep 20 = .ok (.getfield 18, 3) := by decide +kernel
theorem dX9_keep_23 : decode cX9_keep 23 = .ok (.aload_n 0, 1) := by decide +kernel
theorem dX9_keep_24 : decode cX9_keep 24 = .ok (.getfield 21, 3) := by decide +kernel
theorem dX9_keep_27 : decode cX9_keep 27 = .ok (.iload_n 2, 1) := by decide +kernel
theorem dX9_keep_28 : decode cX9_keep 28 = .ok (.iastore, 1) := by decide +kernel
theorem dX9_keep_29 : decode cX9_keep 29 = .ok (.aload_n 0, 1) := by decide +kernel
theorem dX9_keep_30 : decode cX9_keep 30 = .ok (.dup, 1) := by decide +kernel
theorem dX9_keep_31 : decode cX9_keep 31 = .ok (.getfield 21, 3) := by decide +kernel
theorem dX9_keep_34 : decode cX9_keep 34 = .ok (.iconst 1, 1) := by decide +kernel
theorem dX9_keep_35 : decode cX9_keep 35 = .ok (.iadd, 1) := by decide +kernel
theorem dX9_keep_36 : decode cX9_keep 36 = .ok (.putfield 21, 3) := by decide +kernel
theorem dX9_keep_39 : decode cX9_keep 39 = .ok (.return_, 1) := by decide +kernel
set_option maxRecDepth 20000 in
theorem ggX9_goOn_X9_bitsAheadOfClash : GoodIn wsX9_goOn wsX9_bitsAheadOfClash := goodIn_r _ [6, 2, 7, 8, 9, 10, 11, 12, 13, 21, 22, 23, 24, 25, 26, 27, 28, 29] (by decide +kernel) (by decide +kernel)
set_option maxRecDepth 20000 in
theorem gX9_goOn_X9_bitsAheadOfClash : GoodIn wsX9_goOn (va_wsS RX9 66 yX9_bitsAheadOfClash wsX9_bitsAheadOfClash) := goodIn_app (goodIn_of _ (by decide +kernel)) ggX9_goOn_X9_bitsAheadOfClash
set_option maxRecDepth 20000 in
theorem ggX9_goOn_X9_push : GoodIn wsX9_goOn wsX9_push := goodIn_r _ [17, 18, 19, 20, 30, 31, 32, 33, 34, 35, 36] (by decide +kernel) (by decide +kernel)
set_option maxRecDepth 20000 in
theorem gX9_goOn_X9_push : GoodIn wsX9_goOn (wsV RX9 37 RX9 yX9_push wsX9_push) := goodIn_app (goodIn_of _ (by decide +kernel)) ggX9_goOn_X9_push
theorem dX9_goOn_0 : decode cX9_goOn 0 = .ok (.iload_n 2, 1) := by decide +kernel
theorem dX9_goOn_1 : decode cX9_goOn 1 = .ok (.iconst 1, 1) := by decide +kernel
theorem dX9_goOn_2 : decode cX9_goOn 2 = .ok (.if_icmp .ne 11, 3) := by decide +kernel
theorem dX9_goOn_5 : decode cX9_goOn 5 = .ok (.aload_n 1, 1) := by decide +kernel
theorem dX9_goOn_6 : decode cX9_goOn 6 = .ok (.iload_n 3, 1) := by decide +kernel
theorem dX9_goOn_7 : decode cX9_goOn 7 = .ok (.invokestatic 66, 3) := by decide +kernel
theorem dX9_goOn_10 : decode cX9_goOn 10 = .ok (.goto 4, 3) := by decide +kernel
theorem dX9_goOn_13 : decode cX9_goOn 13 = .ok (.iconst 0, 1) := by decide +kernel
theorem dX9_goOn_14 : decode cX9_goOn 14 = .ok (.istore 5, 2) := by decide +kernel
theorem dX9_goOn_16 : decode cX9_goOn 16 = .ok (.iload 4, 2) := by decide +kernel
theorem dX9_goOn_18 : decode cX9_goOn 18 = .ok (.iload 5, 2) := by decide +kernel
theorem dX9_goOn_20 : decode cX9_goOn 20 = .ok (.ishl, 1) := by decide +kernel
theorem dX9_goOn_21 : decode cX9_goOn 21 = .ok (.aload_n 1, 1) := by decide +kernel
theorem dX9_goOn_22 : decode cX9_goOn 22 = .ok (.getfield 70, 3) := by decide +kernel
theorem dX9_goOn_25 : decode cX9_goOn 25 = .ok (.aload_n 1, 1) := by decide +kernel
theorem dX9_goOn_26 : decode cX9_goOn 26 = .ok (.getfield 73, 3) := by decide +kernel
theorem dX9_goOn_29 : decode cX9_goOn 29 = .ok (.iload_n 3, 1) := by decide +kernel
theorem dX9_goOn_30 : decode cX9_goOn 30 = .ok (.isub, 1) := by decide +kernel
theorem dX9_goOn_31 : decode cX9_goOn 31 = .ok (.iload 5, 2) := by decide +kernel
theorem dX9_goOn_33 : decode cX9_goOn 33 = .ok (.isub, 1) := by decide +kernel
theorem dX9_goOn_34 : decode cX9_goOn 34 = .ok (.ishr, 1) := by decide +kernel
theorem dX9_goOn_35 : decode cX9_goOn 35 = .ok (.ior, 1) := by decide +kernel
theorem dX9_goOn_36 : decode cX9_goOn 36 = .ok (.istore 6, 2) := by decide +kernel
theorem dX9_goOn_38 : decode cX9_goOn 38 = .ok (.aload_n 0, 1) := by decide +kernel
theorem dX9_goOn_39 : decode cX9_goOn 39 = .ok (.iload_n 3, 1) := by decide +kernel
theorem dX9_goOn_40 : decode cX9_goOn 40 = .ok (.iload 5, 2) := by decide +kernel
theorem dX9_goOn_42 : decode cX9_goOn 42 = .ok (.iadd, 1) := by decide +kernel
theorem dX9_goOn_43 : decode cX9_goOn 43 = .ok (.iconst 1, 1) := by decide +kernel
theorem dX9_goOn_44 : decode cX9_goOn 44 = .ok (.iadd, 1) := by decide +kernel
theorem dX9_goOn_45 : decode cX9_goOn 45 = .ok (.iload 6, 2) := by decide +kernel
theorem dX9_goOn_47 : decode cX9_goOn 47 = .ok (.iconst 1, 1) := by decide +kernel
theorem dX9_goOn_48 : decode cX9_goOn 48 = .ok (.ishl, 1) := by decide +kernel
theorem dX9_goOn_49 : decode cX9_goOn 49 = .ok (.iconst 1, 1) := by decide +kernel
theorem dX9_goOn_50 : decode cX9_goOn 50 = .ok (.ior, 1) := by decide +kernel
theorem dX9_goOn_51 : decode cX9_goOn 51 = .ok (.invokevirtual 37, 3) := by decide +kernel
theorem dX9_goOn_54 : decode cX9_goOn 54 = .ok (.aload_n 0, 1) := by decide +kernel
theorem dX9_goOn_55 : decode cX9_goOn 55 = .ok (.iload_n 3, 1) := by decide +kernel
theorem dX9_goOn_56 : decode cX9_goOn 56 = .ok (.iload 5, 2) := by decide +kernel
theorem dX9_goOn_58 : decode cX9_goOn 58 = .ok (.iadd, 1) := by decide +kernel
theorem dX9_goOn_59 : decode cX9_goOn 59 = .ok (.iconst 1, 1) := by decide +kernel
theorem dX9_goOn_60 : decode cX9_goOn 60 = .ok (.iadd, 1) := by decide +kernel
theorem dX9_goOn_61 : decode cX9_goOn 61 = .ok (.iload 6, 2) := by decide +kernel
theorem dX9_goOn_63 : decode cX9_goOn 63 = .ok (.iconst 1, 1) := by decide +kernel
theorem dX9_goOn_64 : decode cX9_goOn 64 = .ok (.ishl, 1) := by decide +kernel
theorem dX9_goOn_65 : decode cX9_goOn 65 = .ok (.invokevirtual 37, 3) := by decide +kernel
theorem dX9_goOn_68 : decode cX9_goOn 68 = .ok (.return_, 1) := by decide +kernel
set_option maxRecDepth 20000 in
theorem ggX9_bitsAheadOfClash_X0_clashes : GoodIn wsX9_bitsAheadOfClash wsX0_clashes := goodIn_r _ [6, 7, 8, 9, 10, 11, 12, 13, 14, 15, 16, 17] (by decide +kernel) (by decide +kernel)
set_option maxRecDepth 20000 in
theorem gX9_bitsAheadOfClash_X0_clashes : GoodIn wsX9_bitsAheadOfClash (wsV RX9 53 RX0 yX0_clashes wsX0_clashes) := goodIn_app (goodIn_of _ (by decide +kernel)) ggX9_bitsAheadOfClash_X0_clashes
theorem dX9_bitsAheadOfClash_0 : decode cX9_bitsAheadOfClash 0 = .ok (.aload_n 0, 1) := by decide +kernel
theorem dX9_bitsAheadOfClash_1 : decode cX9_bitsAheadOfClash 1 = .ok (.invokevirtual 53, 3) := by decide +kernel
theorem dX9_bitsAheadOfClash_4 : decode cX9_bitsAheadOfClash 4 = .ok (.istore_n 2, 1) := by decide +kernel
theorem dX9_bitsAheadOfClash_5 : decode cX9_bitsAheadOfClash 5 = .ok (.iconst 0, 1) := by decide +kernel
theorem dX9_bitsAheadOfClash_6 : decode cX9_bitsAheadOfClash 6 = .ok (.istore_n 3, 1) := by decide +kernel
theorem dX9_bitsAheadOfClash_7 : decode cX9_bitsAheadOfClash 7 = .ok (.aload_n 0, 1) := by decide +kernel
theorem dX9_bitsAheadOfClash_8 : decode cX9_bitsAheadOfClash 8 = .ok (.getfield 73, 3) := by decide +kernel
theorem dX9_bitsAheadOfClash_11 : decode cX9_bitsAheadOfClash 11 = .ok (.iload_n 1, 1) := by decide +kernel
theorem dX9_bitsAheadOfClash_12 : decode cX9_bitsAheadOfClash 12 = .ok (.isub, 1) := by decide +kernel
theorem dX9_bitsAheadOfClash_13 : decode cX9_bitsAheadOfClash 13 = .ok (.iconst 1, 1) := by decide +kernel
theorem dX9_bitsAheadOfClash_14 : decode cX9_bitsAheadOfClash 14 = .ok (.isub, 1) := by decide +kernel
theorem dX9_bitsAheadOfClash_15 : decode cX9_bitsAheadOfClash 15 = .ok (.istore 4, 2) := by decide +kernel
theorem dX9_bitsAheadOfClash_17 : decode cX9_bitsAheadOfClash 17 = .ok (.iload 4, 2) := by decide +kernel
theorem dX9_bitsAheadOfClash_19 : decode cX9_bitsAheadOfClash 19 = .ok (.ifCond .lt 21, 3) := by decide +kernel
theorem dX9_bitsAheadOfClash_22 : decode cX9_bitsAheadOfClash 22 = .ok (.iload_n 2, 1) := by decide +kernel
theorem dX9_bitsAheadOfClash_23 : decode cX9_bitsAheadOfClash 23 = .ok (.iload 4, 2) := by decide +kernel
theorem dX9_bitsAheadOfClash_25 : decode cX9_bitsAheadOfClash 25 = .ok (.ishr, 1) := by decide +kernel
theorem dX9_bitsAheadOfClash_26 : decode cX9_bitsAheadOfClash 26 = .ok (.iconst 1, 1) := by decide +kernel
theorem dX9_bitsAheadOfClash_27 : decode cX9_bitsAheadOfClash 27 = .ok (.iand, 1) := by decide +kernel
theorem dX9_bitsAheadOfClash_28 : decode cX9_bitsAheadOfClash 28 = .ok (.ifCond .ne 12, 3) := by decide +kernel
theorem dX9_bitsAheadOfClash_31 : decode cX9_bitsAheadOfClash 31 = .ok (.iinc 3 1, 3) := by decide +kernel
theorem dX9_bitsAheadOfClash_34 : decode cX9_bitsAheadOfClash 34 = .ok (.iinc 4 (-1), 3) := by decide +kernel
theorem dX9_bitsAheadOfClash_37 : decode cX9_bitsAheadOfClash 37 = .ok (.goto (-20), 3) := by decide +kernel
theorem dX9_bitsAheadOfClash_40 : decode cX9_bitsAheadOfClash 40 = .ok (.iload_n 3, 1) := by decide +kernel
theorem dX9_bitsAheadOfClash_41 : decode cX9_bitsAheadOfClash 41 = .ok (.ireturn, 1) := by decide +kernel
theorem dX9_longestOf_0 : decode cX9_longestOf 0 = .ok (.iconst 0, 1) := by decide +kernel
theorem dX9_longestOf_1 : decode cX9_longestOf 1 = .ok (.istore_n 3, 1) := by decide +kernel
theorem dX9_longestOf_2 : decode cX9_longestOf 2 = .ok (.iconst 0, 1) := by decide +kernel
theorem dX9_longestOf_3 : decode cX9_longestOf 3 = .ok (.istore 4, 2) := by decide +kernel
theorem dX9_longestOf_5 : decode cX9_longestOf 5 = .ok (.iload 4, 2) := by decide +kernel
theorem dX9_longestOf_7 : decode cX9_longestOf 7 = .ok (.aload_n 0, 1) := by decide +kernel
theorem dX9_longestOf_8 : decode cX9_longestOf 8 = .ok (.getfield 21, 3) := by decide +kernel
theorem dX9_longestOf_11 : decode cX9_longestOf 11 = .ok (.if_icmp .ge 43, 3) := by decide +kernel
theorem dX9_longestOf_14 : decode cX9_longestOf 14 = .ok (.aload_n 0, 1) := by decide +kernel
theorem dX9_longestOf_15 : decode cX9_longestOf 15 = .ok (.getfield 15, 3) := by decide +kernel
theorem dX9_longestOf_18 : decode cX9_longestOf 18 = .ok (.iload 4, 2) := by decide +kernel
theorem dX9_longestOf_20 : decode cX9_longestOf 20 = .ok (.iaload, 1) := by decide +kernel
theorem dX9_longestOf_21 : decode cX9_longestOf 21 = .ok (.istore 5, 2) := by decide +kernel
theorem dX9_longestOf_23 : decode cX9_longestOf 23 = .ok (.iload 5, 2) := by decide +kernel
theorem dX9_longestOf_25 : decode cX9_longestOf 25 = .ok (.iload_n 3, 1) := by decide +kernel
theorem dX9_longestOf_26 : decode cX9_longestOf 26 = .ok (.if_icmp .le 22, 3) := by decide +kernel
theorem dX9_longestOf_29 : decode cX9_longestOf 29 = .ok (.iload_n 1, 1) := by decide +kernel
theorem dX9_longestOf_30 : decode cX9_longestOf 30 = .ok (.iload_n 2, 1) := by decide +kernel
theorem dX9_longestOf_31 : decode cX9_longestOf 31 = .ok (.iload 5, 2) := by decide +kernel
theorem dX9_longestOf_33 : decode cX9_longestOf 33 = .ok (.isub, 1) := by decide +kernel
theorem dX9_longestOf_34 : decode cX9_longestOf 34 = .ok (.ishr, 1) := by decide +kernel
theorem dX9_longestOf_35 : decode cX9_longestOf 35 = .ok (.aload_n 0, 1) := by decide +kernel
theorem dX9_longestOf_36 : decode cX9_longestOf 36 = .ok (.getfield 18, 3) := by decide +kernel
theorem dX9_longestOf_39 : decode cX9_longestOf 39 = .ok (.iload 4, 2) := by decide +kernel
theorem dX9_longestOf_41 : decode cX9_longestOf 41 = .ok (.iaload, 1) := by decide +kernel
theorem dX9_longestOf_42 : decode cX9_longestOf 42 = .ok (.if_icmp .ne 6, 3) := by decide +kernel
theorem dX9_longestOf_45 : decode cX9_longestOf 45 = .ok (.iload 5, 2) := by decide +kernel
theorem dX9_longestOf_47 : decode cX9_longestOf 47 = .ok (.istore_n 3, 1) := by decide +kernel
theorem dX9_longestOf_48 : decode cX9_longestOf 48 = .ok (.iinc 4 1, 3) := by decide +kernel
theorem dX9_longestOf_51 : decode cX9_longestOf 51 = .ok (.goto (-46), 3) := by decide +kernel
theorem dX9_longestOf_54 : decode cX9_longestOf 54 = .ok (.iload_n 3, 1) := by decide +kernel
theorem dX9_longestOf_55 : decode cX9_longestOf 55 = .ok (.ireturn, 1) := by decide +kernel
set_option maxRecDepth 20000 in
theorem ggX10_init_X6_init : GoodIn wsX10_init wsX6_init := goodIn_r _ [52, 53, 2, 3, 21, 54, 55, 56, 57, 58, 150, 151, 152, 153] (by decide +kernel) (by decide +kernel)
set_option maxRecDepth 20000 in
theorem gX10_init_X6_init_n24 : GoodIn wsX10_init (wsX6_init) := ggX10_init_X6_init
set_option maxRecDepth 20000 in
theorem ggX10_init_X0_init : GoodIn wsX10_init wsX0_init := goodIn_r _ [60, 61, 2, 3, 21, 62, 63, 64, 65, 66, 67, 68, 69, 70, 154, 155, 156, 157, 158, 159, 160, 161, 162] (by decide +kernel) (by decide +kernel)
set_option maxRecDepth 20000 in
theorem gX10_init_X0_init_n31 : GoodIn wsX10_init (wsX0_init) := ggX10_init_X0_init
set_option maxRecDepth 20000 in
theorem ggX10_init_X9_init : GoodIn wsX10_init wsX9_init := goodIn_r _ [72, 73, 2, 3, 21, 74, 75, 76, 77, 78, 79, 80, 163, 164, 165, 166, 167, 168, 169] (by decide +kernel) (by decide +kernel)
set_option maxRecDepth 20000 in
theorem gX10_init_X9_init_n38 : GoodIn wsX10_init (wsX9_init) := ggX10_init_X9_init
set_option maxRecDepth 20000 in
theorem ggX10_init_X7_init : GoodIn wsX10_init wsX7_init := goodIn_r _ [82, 83, 2, 3, 84, 85, 86, 87, 88, 89, 90, 170, 171, 172, 173, 174, 175] (by decide +kernel) (by decide +kernel)
set_option maxRecDepth 20000 in
theorem gX10_init_X7_init_n52 : GoodIn wsX10_init (wsX7_init) := ggX10_init_X7_init
set_option maxRecDepth 20000 in
theorem ggX10_init_X8_init : GoodIn wsX10_init wsX8_init := goodIn_r _ [92, 93, 2, 3, 94, 95, 96, 97, 98, 99, 100, 101, 102, 56, 103, 104, 105, 176, 177, 178, 179, 180, 181] (by decide +kernel) (by decide +kernel)
set_option maxRecDepth 20000 in
theorem gX10_init_X8_init_n59 : GoodIn wsX10_init (wsX8_init) := ggX10_init_X8_init
set_option maxRecDepth 20000 in
theorem ggX10_init_X1_init : GoodIn wsX10_init wsX1_init := goodIn_r _ [107, 108, 2, 3, 21, 109, 110, 111, 112, 182, 183, 184, 185] (by decide +kernel) (by decide +kernel)
set_option maxRecDepth 20000 in
theorem gX10_init_X1_init_n66 : GoodIn wsX10_init (wsX1_init) := ggX10_init_X1_init
set_option maxRecDepth 20000 in
theorem ggX10_init_X4_init : GoodIn wsX10_init wsX4_init := goodIn_r _ [114, 115, 2, 3, 21, 116, 186] (by decide +kernel) (by decide +kernel)
set_option maxRecDepth 20000 in
theorem gX10_init_X4_init_n73 : GoodIn wsX10_init (wsX4_init) := ggX10_init_X4_init
set_option maxRecDepth 20000 in
theorem ggX10_init_X3_init : GoodIn wsX10_init wsX3_init := goodIn_r _ [118, 119, 2, 3, 120, 121, 187] (by decide +kernel) (by decide +kernel)
set_option maxRecDepth 20000 in
theorem gX10_init_X3_init_n80 : GoodIn wsX10_init (wsX3_init) := ggX10_init_X3_init
set_option maxRecDepth 20000 in
theorem ggX10_init_X2_init : GoodIn wsX10_init wsX2_init := goodIn_r _ [123, 124, 2, 3, 21, 125, 126, 127, 188, 189, 190] (by decide +kernel) (by decide +kernel)
set_option maxRecDepth 20000 in
theorem gX10_init_X2_init_n87 : GoodIn wsX10_init (wsX2_init) := ggX10_init_X2_init
set_option maxRecDepth 20000 in
theorem ggX10_init_X5_init : GoodIn wsX10_init wsX5_init := goodIn_r _ [129, 130, 2, 3, 21, 131, 132, 133, 191, 192, 193] (by decide +kernel) (by decide +kernel)
set_option maxRecDepth 20000 in
theorem gX10_init_X5_init_n98 : GoodIn wsX10_init (wsX5_init) := ggX10_init_X5_init
theorem dX10_init_0 : decode cX10_init 0 = .ok (.aload_n 0, 1) := by decide +kernel
theorem dX10_init_1 : decode cX10_init 1 = .ok (.invokespecial 1, 3) := by decide +kernel
theorem dX10_init_4 : decode cX10_init 4 = .ok (.aload_n 0, 1) := by decide +kernel
theorem dX10_init_5 : decode cX10_init 5 = .ok (.bipush 6, 2) := by decide +kernel
theorem dX10_init_7 : decode cX10_init 7 = .ok (.putfield 7, 3) := by decide +kernel
theorem dX10_init_10 : decode cX10_init 10 = .ok (.aload_n 0, 1) := by decide +kernel
theorem dX10_init_11 : decode cX10_init 11 = .ok (.iconst 0, 1) := by decide +kernel
theorem dX10_init_12 : decode cX10_init 12 = .ok (.putfield 13, 3) := by decide +kernel
theorem dX10_init_15 : decode cX10_init 15 = .ok (.aload_n 0, 1) := by decide +kernel
theorem dX10_init_16 : decode cX10_init 16 = .ok (.iconst (-1), 1) := by decide +kernel
theorem dX10_init_17 : decode cX10_init 17 = .ok (.putfield 16, 3) := by decide +kernel
theorem dX10_init_20 : decode cX10_init 20 = .ok (.aload_n 0, 1) := by decide +kernel
theorem dX10_init_21 : decode cX10_init 21 = .ok (.iconst 0, 1) := by decide +kernel
theorem dX10_init_22 : decode cX10_init 22 = .ok (.putfield 19, 3) := by decide +kernel
theorem dX10_init_25 : decode cX10_init 25 = .ok (.aload_n 0, 1) := by decide +kernel
theorem dX10_init_26 : decode cX10_init 26 = .ok (.new 22, 3) := by decide +kernel
theorem dX10_init_29 : decode cX10_init 29 = .ok (.dup, 1) := by decide +kernel
theorem dX10_init_30 : decode cX10_init 30 = .ok (.invokespecial 24, 3) := by decide +kernel
theorem dX10_init_33 : decode cX10_init 33 = .ok (.putfield 25, 3) := by decide +kernel
theorem dX10_init_36 : decode cX10_init 36 = .ok (.aload_n 0, 1) := by decide +kernel
theorem dX10_init_37 : decode cX10_init 37 = .ok (.new 29, 3) := by decide +kernel
theorem dX10_init_40 : decode cX10_init 40 = .ok (.dup, 1) := by decide +kernel
theorem dX10_init_41 : decode cX10_init 41 = .ok (.invokespecial 31, 3) := by decide +kernel
theorem dX10_init_44 : decode cX10_init 44 = .ok (.putfield 32, 3) := by decide +kernel
theorem dX10_init_47 : decode cX10_init 47 = .ok (.aload_n 0, 1) := by decide +kernel
theorem dX10_init_48 : decode cX10_init 48 = .ok (.new 36, 3) := by decide +kernel
theorem dX10_init_51 : decode cX10_init 51 = .ok (.dup, 1) := by decide +kernel
theorem dX10_init_52 : decode cX10_init 52 = .ok (.invokespecial 38, 3) := by decide +kernel
theorem dX10_init_55 : decode cX10_init 55 = .ok (.putfield 39, 3) := by decide +kernel
theorem dX10_init_58 : decode cX10_init 58 = .ok (.aload_n 0, 1) := by decide +kernel
theorem dX10_init_59 : decode cX10_init 59 = .ok (.new 36, 3) := by decide +kernel
theorem dX10_init_62 : decode cX10_init 62 = .ok (.dup, 1) := by decide +kernel
theorem dX10_init_63 : decode cX10_init 63 = .ok (.invokespecial 38, 3) := by decide +kernel
theorem dX10_init_66 : decode cX10_init 66 = .ok (.putfield 43, 3) := by decide +kernel
theorem dX10_init_69 : decode cX10_init 69 = .ok (.aload_n 0, 1) := by decide +kernel
theorem dX10_init_70 : decode cX10_init 70 = .ok (.bipush 17, 2) := by decide +kernel
theorem dX10_init_72 : decode cX10_init 72 = .ok (.newarray .int, 2) := by decide +kernel
theorem dX10_init_74 : decode cX10_init 74 = .ok (.putfield 46, 3) := by decide +kernel
theorem dX10_init_77 : decode cX10_init 77 = .ok (.aload_n 0, 1) := by decide +kernel
theorem dX10_init_78 : decode cX10_init 78 = .ok (.new 50, 3) := by decide +kernel
theorem dX10_init_81 : decode cX10_init 81 = .ok (.dup, 1) := by decide +kernel
theorem dX10_init_82 : decode cX10_init 82 = .ok (.invokespecial 52, 3) := by decide +kernel
theorem dX10_init_85 : decode cX10_init 85 = .ok (.putfield 53, 3) := by decide +kernel
theorem dX10_init_88 : decode cX10_init 88 = .ok (.aload_n 0, 1) := by decide +kernel
theorem dX10_init_89 : decode cX10_init 89 = .ok (.new 57, 3) := by decide +kernel
theorem dX10_init_92 : decode cX10_init 92 = .ok (.dup, 1) := by decide +kernel
theorem dX10_init_93 : decode cX10_init 93 = .ok (.invokespecial 59, 3) := by decide +kernel
theorem dX10_init_96 : decode cX10_init 96 = .ok (.putfield 60, 3) := by decide +kernel
theorem dX10_init_99 : decode cX10_init 99 = .ok (.aload_n 0, 1) := by decide +kernel
theorem dX10_init_100 : decode cX10_init 100 = .ok (.new 64, 3) := by decide +kernel
theorem dX10_init_103 : decode cX10_init 103 = .ok (.dup, 1) := by decide +kernel
theorem dX10_init_104 : decode cX10_init 104 = .ok (.invokespecial 66, 3) := by decide +kernel
theorem dX10_init_107 : decode cX10_init 107 = .ok (.putfield 67, 3) := by decide +kernel
theorem dX10_init_110 : decode cX10_init 110 = .ok (.aload_n 0, 1) := by decide +kernel
theorem dX10_init_111 : decode cX10_init 111 = .ok (.new 71, 3) := by decide +kernel
theorem dX10_init_114 : decode cX10_init 114 = .ok (.dup, 1) := by decide +kernel
theorem dX10_init_115 : decode cX10_init 115 = .ok (.invokespecial 73, 3) := by decide +kernel
theorem dX10_init_118 : decode cX10_init 118 = .ok (.putfield 74, 3) := by decide +kernel
theorem dX10_init_121 : decode cX10_init 121 = .ok (.aload_n 0, 1) := by decide +kernel
theorem dX10_init_122 : decode cX10_init 122 = .ok (.new 78, 3) := by decide +kernel
theorem dX10_init_125 : decode cX10_init 125 = .ok (.dup, 1) := by decide +kernel
theorem dX10_init_126 : decode cX10_init 126 = .ok (.invokespecial 80, 3) := by decide +kernel
theorem dX10_init_129 : decode cX10_init 129 = .ok (.putfield 81, 3) := by decide +kernel
theorem dX10_init_132 : decode cX10_init 132 = .ok (.aload_n 0, 1) := by decide +kernel
theorem dX10_init_133 : decode cX10_init 133 = .ok (.new 85, 3) := by decide +kernel
theorem dX10_init_136 : decode cX10_init 136 = .ok (.dup, 1) := by decide +kernel
theorem dX10_init_137 : decode cX10_init 137 = .ok (.invokespecial 87, 3) := by decide +kernel
theorem dX10_init_140 : decode cX10_init 140 = .ok (.putfield 88, 3) := by decide +kernel
theorem dX10_init_143 : decode cX10_init 143 = .ok (.aload_n 0, 1) := by decide +kernel
theorem dX10_init_144 : decode cX10_init 144 = .ok (.iconst 4, 1) := by decide +kernel
theorem dX10_init_145 : decode cX10_init 145 = .ok (.anewarray 92, 3) := by decide +kernel
theorem dX10_init_148 : decode cX10_init 148 = .ok (.putfield 94, 3) := by decide +kernel
theorem dX10_init_151 : decode cX10_init 151 = .ok (.iconst 0, 1) := by decide +kernel
theorem dX10_init_152 : decode cX10_init 152 = .ok (.istore_n 1, 1) := by decide +kernel
theorem dX10_init_153 : decode cX10_init 153 = .ok (.iload_n 1, 1) := by decide +kernel
theorem dX10_init_154 : decode cX10_init 154 = .ok (.iconst 4, 1) := by decide +kernel
theorem dX10_init_155 : decode cX10_init 155 = .ok (.if_icmp .ge 22, 3) := by decide +kernel
theorem dX10_init_158 : decode cX10_init 158 = .ok (.aload_n 0, 1) := by decide +kernel
theorem dX10_init_159 : decode cX10_init 159 = .ok (.getfield 94, 3) := by decide +kernel
theorem dX10_init_162 : decode cX10_init 162 = .ok (.iload_n 1, 1) := by decide +kernel
theorem dX10_init_163 : decode cX10_init 163 = .ok (.new 92, 3) := by decide +kernel
theorem dX10_init_166 : decode cX10_init 166 = .ok (.dup, 1) := by decide +kernel
theorem dX10_init_167 : decode cX10_init 167 = .ok (.invokespecial 98, 3) := by decide +kernel
theorem dX10_init_170 : decode cX10_init 170 = .ok (.aastore, 1) := by decide +kernel
theorem dX10_init_171 : decode cX10_init 171 = .ok (.iinc 1 1, 3) := by decide +kernel
theorem dX10_init_174 : decode cX10_init 174 = .ok (.goto (-21), 3) := by decide +kernel
theorem dX10_init_177 : decode cX10_init 177 = .ok (.return_, 1) := by decide +kernel
set_option maxRecDepth 20000 in
theorem ggX10_bits_X10_within : GoodIn wsX10_bits wsX10_within := goodIn_r _ [11] (by decide +kernel) (by decide +kernel)
set_option maxRecDepth 20000 in
theorem gX10_bits_X10_within : GoodIn wsX10_bits (va_wsS RX10 99 yX10_within wsX10_within) := goodIn_app (goodIn_of _ (by decide +kernel)) ggX10_bits_X10_within
set_option maxRecDepth 20000 in
theorem ggX10_bits_X9_clear : GoodIn wsX10_bits wsX9_clear := goodIn_r _ [16, 17, 18, 19, 43, 44, 45, 46, 47, 48, 49] (by decide +kernel) (by decide +kernel)
set_option maxRecDepth 20000 in
theorem gX10_bits_X9_clear : GoodIn wsX10_bits (wsV RX10 107 RX9 yX9_clear wsX9_clear) := goodIn_app (goodIn_of _ (by decide +kernel)) ggX10_bits_X9_clear
theorem dX10_bits_0 : decode cX10_bits 0 = .ok (.iload_n 1, 1) := by decide +kernel
theorem dX10_bits_1 : decode cX10_bits 1 = .ok (.iconst 2, 1) := by decide +kernel
theorem dX10_bits_2 : decode cX10_bits 2 = .ok (.bipush 12, 2) := by decide +kernel
theorem dX10_bits_4 : decode cX10_bits 4 = .ok (.invokestatic 99, 3) := by decide +kernel
theorem dX10_bits_7 : decode cX10_bits 7 = .ok (.ifCond .ne 5, 3) := by decide +kernel
theorem dX10_bits_10 : decode cX10_bits 10 = .ok (.iconst (-1), 1) := by decide +kernel
theorem dX10_bits_11 : decode cX10_bits 11 = .ok (.ireturn, 1) := by decide +kernel
theorem dX10_bits_12 : decode cX10_bits 12 = .ok (.aload_n 0, 1) := by decide +kernel
theorem dX10_bits_13 : decode cX10_bits 13 = .ok (.getfield 7, 3) := by decide +kernel
theorem dX10_bits_16 : decode cX10_bits 16 = .ok (.istore_n 2, 1) := by decide +kernel
theorem dX10_bits_17 : decode cX10_bits 17 = .ok (.aload_n 0, 1) := by decide +kernel
theorem dX10_bits_18 : decode cX10_bits 18 = .ok (.iload_n 1, 1) := by decide +kernel
theorem dX10_bits_19 : decode cX10_bits 19 = .ok (.putfield 7, 3) := by decide +kernel
theorem dX10_bits_22 : decode cX10_bits 22 = .ok (.aload_n 0, 1) := by decide +kernel
theorem dX10_bits_23 : decode cX10_bits 23 = .ok (.getfield 25, 3) := by decide +kernel
theorem dX10_bits_26 : decode cX10_bits 26 = .ok (.iconst 0, 1) := by decide +kernel
theorem dX10_bits_27 : decode cX10_bits 27 = .ok (.putfield 103, 3) := by decide +kernel
theorem dX10_bits_30 : decode cX10_bits 30 = .ok (.aload_n 0, 1) := by decide +kernel
theorem dX10_bits_31 : decode cX10_bits 31 = .ok (.getfield 88, 3) := by decide +kernel
theorem dX10_bits_34 : decode cX10_bits 34 = .ok (.iconst 0, 1) := by decide +kernel
theorem dX10_bits_35 : decode cX10_bits 35 = .ok (.putfield 106, 3) := by decide +kernel
theorem dX10_bits_38 : decode cX10_bits 38 = .ok (.aload_n 0, 1) := by decide +kernel
theorem dX10_bits_39 : decode cX10_bits 39 = .ok (.iconst (-1), 1) := by decide +kernel
theorem dX10_bits_40 : decode cX10_bits 40 = .ok (.putfield 16, 3) := by decide +kernel
theorem dX10_bits_43 : decode cX10_bits 43 = .ok (.aload_n 0, 1) := by decide +kernel
theorem dX10_bits_44 : decode cX10_bits 44 = .ok (.getfield 39, 3) := by decide +kernel
theorem dX10_bits_47 : decode cX10_bits 47 = .ok (.invokevirtual 107, 3) := by decide +kernel
theorem dX10_bits_50 : decode cX10_bits 50 = .ok (.iload_n 2, 1) := by decide +kernel
theorem dX10_bits_51 : decode cX10_bits 51 = .ok (.ireturn, 1) := by decide +kernel
set_option maxRecDepth 20000 in
theorem ggX10_tag_X10_refusalOfTag : GoodIn wsX10_tag wsX10_refusalOfTag := goodIn_r _ [7, 1, 2, 8, 9, 10, 6, 11, 12, 13, 14, 15, 16, 17, 18, 19, 20, 21, 22, 23, 24, 25, 32, 33, 34, 35, 36, 37, 38, 39, 40, 41, 42, 43, 44, 45, 46, 47, 48, 49, 50, 51] (by decide +kernel) (by decide +kernel)
set_option maxRecDepth 20000 in
theorem gX10_tag_X10_refusalOfTag : GoodIn wsX10_tag (wsV RX10 110 RX10 yX10_refusalOfTag wsX10_refusalOfTag) := goodIn_app (goodIn_of _ (by decide +kernel)) ggX10_tag_X10_refusalOfTag
set_option maxRecDepth 20000 in
theorem ggX10_tag_X6_add : GoodIn wsX10_tag wsX6_add := goodIn_r _ [29, 24, 25, 30, 31, 48, 49, 50, 51] (by decide +kernel) (by decide +kernel)
set_option maxRecDepth 20000 in
theorem gX10_tag_X6_add : GoodIn wsX10_tag (wsV RX10 114 RX6 yX6_add wsX6_add) := goodIn_app (goodIn_of _ (by decide +kernel)) ggX10_tag_X6_add
theorem dX10_tag_0 : decode cX10_tag 0 = .ok (.aload_n 0, 1) := by decide +kernel
theorem dX10_tag_1 : decode cX10_tag 1 = .ok (.iload_n 1, 1) := by decide +kernel
theorem dX10_tag_2 : decode cX10_tag 2 = .ok (.iload_n 2, 1) := by decide +kernel
theorem dX10_tag_3 : decode cX10_tag 3 = .ok (.invokevirtual 110, 3) := by decide +kernel
theorem dX10_tag_6 : decode cX10_tag 6 = .ok (.istore_n 3, 1) := by decide +kernel
theorem dX10_tag_7 : decode cX10_tag 7 = .ok (.iload_n 3, 1) := by decide +kernel
theorem dX10_tag_8 : decode cX10_tag 8 = .ok (.ifCond .eq 5, 3) := by decide +kernel
theorem dX10_tag_11 : decode cX10_tag 11 = .ok (.iload_n 3, 1) := by decide +kernel
theorem dX10_tag_12 : decode cX10_tag 12 = .ok (.ireturn, 1) := by decide +kernel
theorem dX10_tag_13 : decode cX10_tag 13 = .ok (.aload_n 0, 1) := by decide +kernel
theorem dX10_tag_14 : decode cX10_tag 14 = .ok (.getfield 25, 3) := by decide +kernel
theorem dX10_tag_17 : decode cX10_tag 17 = .ok (.iload_n 1, 1) := by decide +kernel
theorem dX10_tag_18 : decode cX10_tag 18 = .ok (.iload_n 2, 1) := by decide +kernel
theorem dX10_tag_19 : decode cX10_tag 19 = .ok (.invokevirtual 114, 3) := by decide +kernel
theorem dX10_tag_22 : decode cX10_tag 22 = .ok (.aload_n 0, 1) := by decide +kernel
theorem dX10_tag_23 : decode cX10_tag 23 = .ok (.getfield 25, 3) := by decide +kernel
theorem dX10_tag_26 : decode cX10_tag 26 = .ok (.getfield 103, 3) := by decide +kernel
theorem dX10_tag_29 : decode cX10_tag 29 = .ok (.iconst 1, 1) := by decide +kernel
theorem dX10_tag_30 : decode cX10_tag 30 = .ok (.isub, 1) := by decide +kernel
theorem dX10_tag_31 : decode cX10_tag 31 = .ok (.ireturn, 1) := by decide +kernel
set_option maxRecDepth 20000 in
theorem ggX10_of_X6_has : GoodIn wsX10_of wsX6_has := goodIn_r _ [9, 10, 11, 12, 13, 30, 31, 32, 33] (by decide +kernel) (by decide +kernel)
set_option maxRecDepth 20000 in
theorem gX10_of_X6_has : GoodIn wsX10_of (wsV RX10 118 RX6 yX6_has wsX6_has) := goodIn_app (goodIn_of _ (by decide +kernel)) ggX10_of_X6_has
theorem dX10_of_0 : decode cX10_of 0 = .ok (.aload_n 0, 1) := by decide +kernel
theorem dX10_of_1 : decode cX10_of 1 = .ok (.getfield 25, 3) := by decide +kernel
theorem dX10_of_4 : decode cX10_of 4 = .ok (.iload_n 1, 1) := by decide +kernel
theorem dX10_of_5 : decode cX10_of 5 = .ok (.invokevirtual 118, 3) := by decide +kernel
theorem dX10_of_8 : decode cX10_of 8 = .ok (.ifCond .ne 5, 3) := by decide +kernel
theorem dX10_of_11 : decode cX10_of 11 = .ok (.iconst (-1), 1) := by decide +kernel
theorem dX10_of_12 : decode cX10_of 12 = .ok (.ireturn, 1) := by decide +kernel
theorem dX10_of_13 : decode cX10_of 13 = .ok (.iload_n 2, 1) := by decide +kernel
theorem dX10_of_14 : decode cX10_of 14 = .ok (.tableswitch 64 0 2 #[26, 36, 46], 26) := by decide +kernel
theorem dX10_of_40 : decode cX10_of 40 = .ok (.aload_n 0, 1) := by decide +kernel
theorem dX10_of_41 : decode cX10_of 41 = .ok (.getfield 25, 3) := by decide +kernel
theorem dX10_of_44 : decode cX10_of 44 = .ok (.getfield 122, 3) := by decide +kernel
theorem dX10_of_47 : decode cX10_of 47 = .ok (.iload_n 1, 1) := by decide +kernel
theorem dX10_of_48 : decode cX10_of 48 = .ok (.iaload, 1) := by decide +kernel
theorem dX10_of_49 : decode cX10_of 49 = .ok (.ireturn, 1) := by decide +kernel
theorem dX10_of_50 : decode cX10_of 50 = .ok (.aload_n 0, 1) := by decide +kernel
theorem dX10_of_51 : decode cX10_of 51 = .ok (.getfield 25, 3) := by decide +kernel
theorem dX10_of_54 : decode cX10_of 54 = .ok (.getfield 125, 3) := by decide +kernel
theorem dX10_of_57 : decode cX10_of 57 = .ok (.iload_n 1, 1) := by decide +kernel
theorem dX10_of_58 : decode cX10_of 58 = .ok (.iaload, 1) := by decide +kernel
theorem dX10_of_59 : decode cX10_of 59 = .ok (.ireturn, 1) := by decide +kernel
theorem dX10_of_60 : decode cX10_of 60 = .ok (.aload_n 0, 1) := by decide +kernel
theorem dX10_of_61 : decode cX10_of 61 = .ok (.getfield 25, 3) := by decide +kernel
theorem dX10_of_64 : decode cX10_of 64 = .ok (.getfield 128, 3) := by decide +kernel
theorem dX10_of_67 : decode cX10_of 67 = .ok (.iload_n 1, 1) := by decide +kernel
theorem dX10_of_68 : decode cX10_of 68 = .ok (.baload, 1) := by decide +kernel
theorem dX10_of_69 : decode cX10_of 69 = .ok (.ifCond .eq 7, 3) := by decide +kernel
theorem dX10_of_72 : decode cX10_of 72 = .ok (.iconst 1, 1) := by decide +kernel
theorem dX10_of_73 : decode cX10_of 73 = .ok (.goto 4, 3) := by decide +kernel
theorem dX10_of_76 : decode cX10_of 76 = .ok (.iconst 0, 1) := by decide +kernel
theorem dX10_of_77 : decode cX10_of 77 = .ok (.ireturn, 1) := by decide +kernel
theorem dX10_of_78 : decode cX10_of 78 = .ok (.iconst (-1), 1) := by decide +kernel
theorem dX10_of_79 : decode cX10_of 79 = .ok (.ireturn, 1) := by decide +kernel
set_option maxRecDepth 20000 in
theorem ggX10_hush_X6_has : GoodIn wsX10_hush wsX6_has := goodIn_r _ [7, 8, 9, 10, 11, 28, 29, 30, 31] (by decide +kernel) (by decide +kernel)
set_option maxRecDepth 20000 in
theorem gX10_hush_X6_has : GoodIn wsX10_hush (wsV RX10 118 RX6 yX6_has wsX6_has) := goodIn_app (goodIn_of _ (by decide +kernel)) ggX10_hush_X6_has
theorem dX10_hush_0 : decode cX10_hush 0 = .ok (.aload_n 0, 1) := by decide +kernel
theorem dX10_hush_1 : decode cX10_hush 1 = .ok (.getfield 25, 3) := by decide +kernel
theorem dX10_hush_4 : decode cX10_hush 4 = .ok (.iload_n 1, 1) := by decide +kernel
theorem dX10_hush_5 : decode cX10_hush 5 = .ok (.invokevirtual 118, 3) := by decide +kernel
theorem dX10_hush_8 : decode cX10_hush 8 = .ok (.ifCond .ne 5, 3) := by decide +kernel
theorem dX10_hush_11 : decode cX10_hush 11 = .ok (.iconst (-1), 1) := by decide +kernel
theorem dX10_hush_12 : decode cX10_hush 12 = .ok (.ireturn, 1) := by decide +kernel
theorem dX10_hush_13 : decode cX10_hush 13 = .ok (.aload_n 0, 1) := by decide +kernel
theorem dX10_hush_14 : decode cX10_hush 14 = .ok (.getfield 25, 3) := by decide +kernel
theorem dX10_hush_17 : decode cX10_hush 17 = .ok (.getfield 128, 3) := by decide +kernel
theorem dX10_hush_20 : decode cX10_hush 20 = .ok (.iload_n 1, 1) := by decide +kernel
theorem dX10_hush_21 : decode cX10_hush 21 = .ok (.baload, 1) := by decide +kernel
theorem dX10_hush_22 : decode cX10_hush 22 = .ok (.ifCond .eq 7, 3) := by decide +kernel
theorem dX10_hush_25 : decode cX10_hush 25 = .ok (.iconst 1, 1) := by decide +kernel
theorem dX10_hush_26 : decode cX10_hush 26 = .ok (.goto 4, 3) := by decide +kernel
theorem dX10_hush_29 : decode cX10_hush 29 = .ok (.iconst 0, 1) := by decide +kernel
theorem dX10_hush_30 : decode cX10_hush 30 = .ok (.istore_n 3, 1) := by decide +kernel
theorem dX10_hush_31 : decode cX10_hush 31 = .ok (.aload_n 0, 1) := by decide +kernel
theorem dX10_hush_32 : decode cX10_hush 32 = .ok (.getfield 25, 3) := by decide +kernel
theorem dX10_hush_35 : decode cX10_hush 35 = .ok (.getfield 128, 3) := by decide +kernel
theorem dX10_hush_38 : decode cX10_hush 38 = .ok (.iload_n 1, 1) := by decide +kernel
theorem dX10_hush_39 : decode cX10_hush 39 = .ok (.iload_n 2, 1) := by decide +kernel
theorem dX10_hush_40 : decode cX10_hush 40 = .ok (.bastore, 1) := by decide +kernel
theorem dX10_hush_41 : decode cX10_hush 41 = .ok (.iload_n 3, 1) := by decide +kernel
theorem dX10_hush_42 : decode cX10_hush 42 = .ok (.ireturn, 1) := by decide +kernel
