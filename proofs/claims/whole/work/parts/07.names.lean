set_option maxRecDepth 20000 in
theorem ggX10_missing_X10_lowBits : GoodIn wsX10_missing wsX10_lowBits := goodIn_r _ [8] (by decide +kernel) (by decide +kernel)
set_option maxRecDepth 20000 in
theorem gX10_missing_X10_lowBits : GoodIn wsX10_missing (va_wsS RX10 140 yX10_lowBits wsX10_lowBits) := goodIn_app (goodIn_of _ (by decide +kernel)) ggX10_missing_X10_lowBits
set_option maxRecDepth 20000 in
theorem ggX10_missing_X2_notIn : GoodIn wsX10_missing wsX2_notIn := goodIn_r _ [13, 14, 15, 16, 4, 17, 18, 19, 36, 37, 38] (by decide +kernel) (by decide +kernel)
set_option maxRecDepth 20000 in
theorem gX10_missing_X2_notIn : GoodIn wsX10_missing (wsV RX10 266 RX2 yX2_notIn wsX2_notIn) := goodIn_app (goodIn_of _ (by decide +kernel)) ggX10_missing_X2_notIn
theorem dX10_missing_0 : decode cX10_missing 0 = .ok (.iload_n 1, 1) := by decide +kernel
theorem dX10_missing_1 : decode cX10_missing 1 = .ok (.iconst 1, 1) := by decide +kernel
theorem dX10_missing_2 : decode cX10_missing 2 = .ok (.bipush 30, 2) := by decide +kernel
theorem dX10_missing_4 : decode cX10_missing 4 = .ok (.invokestatic 99, 3) := by decide +kernel
theorem dX10_missing_7 : decode cX10_missing 7 = .ok (.ifCond .eq 15, 3) := by decide +kernel
theorem dX10_missing_10 : decode cX10_missing 10 = .ok (.iload_n 3, 1) := by decide +kernel
theorem dX10_missing_11 : decode cX10_missing 11 = .ok (.iconst 0, 1) := by decide +kernel
theorem dX10_missing_12 : decode cX10_missing 12 = .ok (.iload_n 1, 1) := by decide +kernel
theorem dX10_missing_13 : decode cX10_missing 13 = .ok (.invokestatic 140, 3) := by decide +kernel
theorem dX10_missing_16 : decode cX10_missing 16 = .ok (.invokestatic 99, 3) := by decide +kernel
theorem dX10_missing_19 : decode cX10_missing 19 = .ok (.ifCond .ne 5, 3) := by decide +kernel
theorem dX10_missing_22 : decode cX10_missing 22 = .ok (.iconst (-1), 1) := by decide +kernel
theorem dX10_missing_23 : decode cX10_missing 23 = .ok (.ireturn, 1) := by decide +kernel
theorem dX10_missing_24 : decode cX10_missing 24 = .ok (.aload_n 0, 1) := by decide +kernel
theorem dX10_missing_25 : decode cX10_missing 25 = .ok (.getfield 88, 3) := by decide +kernel
theorem dX10_missing_28 : decode cX10_missing 28 = .ok (.iload_n 3, 1) := by decide +kernel
theorem dX10_missing_29 : decode cX10_missing 29 = .ok (.iload_n 1, 1) := by decide +kernel
theorem dX10_missing_30 : decode cX10_missing 30 = .ok (.iload_n 2, 1) := by decide +kernel
theorem dX10_missing_31 : decode cX10_missing 31 = .ok (.invokevirtual 266, 3) := by decide +kernel
theorem dX10_missing_34 : decode cX10_missing 34 = .ok (.ireturn, 1) := by decide +kernel
set_option maxRecDepth 20000 in
theorem ggX10_seen_X10_within : GoodIn wsX10_seen wsX10_within := goodIn_r _ [5] (by decide +kernel) (by decide +kernel)
set_option maxRecDepth 20000 in
theorem gX10_seen_X10_within : GoodIn wsX10_seen (va_wsS RX10 99 yX10_within wsX10_within) := goodIn_app (goodIn_of _ (by decide +kernel)) ggX10_seen_X10_within
set_option maxRecDepth 20000 in
theorem ggX10_seen_X2_aloneOnes : GoodIn wsX10_seen wsX2_aloneOnes := goodIn_r _ [10, 11, 12, 13, 14, 4, 15, 16, 17, 18, 19, 20, 9, 21, 38, 39, 40] (by decide +kernel) (by decide +kernel)
set_option maxRecDepth 20000 in
theorem gX10_seen_X2_aloneOnes : GoodIn wsX10_seen (wsV RX10 269 RX2 yX2_aloneOnes wsX2_aloneOnes) := goodIn_app (goodIn_of _ (by decide +kernel)) ggX10_seen_X2_aloneOnes
theorem dX10_seen_0 : decode cX10_seen 0 = .ok (.iload_n 1, 1) := by decide +kernel
theorem dX10_seen_1 : decode cX10_seen 1 = .ok (.iconst 1, 1) := by decide +kernel
theorem dX10_seen_2 : decode cX10_seen 2 = .ok (.bipush 64, 2) := by decide +kernel
theorem dX10_seen_4 : decode cX10_seen 4 = .ok (.invokestatic 99, 3) := by decide +kernel
theorem dX10_seen_7 : decode cX10_seen 7 = .ok (.ifCond .eq 15, 3) := by decide +kernel
theorem dX10_seen_10 : decode cX10_seen 10 = .ok (.aload_n 0, 1) := by decide +kernel
theorem dX10_seen_11 : decode cX10_seen 11 = .ok (.getfield 88, 3) := by decide +kernel
theorem dX10_seen_14 : decode cX10_seen 14 = .ok (.iload_n 1, 1) := by decide +kernel
theorem dX10_seen_15 : decode cX10_seen 15 = .ok (.iload_n 2, 1) := by decide +kernel
theorem dX10_seen_16 : decode cX10_seen 16 = .ok (.invokevirtual 269, 3) := by decide +kernel
theorem dX10_seen_19 : decode cX10_seen 19 = .ok (.goto 4, 3) := by decide +kernel
theorem dX10_seen_22 : decode cX10_seen 22 = .ok (.iconst (-1), 1) := by decide +kernel
theorem dX10_seen_23 : decode cX10_seen 23 = .ok (.ireturn, 1) := by decide +kernel
set_option maxRecDepth 20000 in
theorem ggX10_seed_X10_within : GoodIn wsX10_seed wsX10_within := goodIn_r _ [5] (by decide +kernel) (by decide +kernel)
set_option maxRecDepth 20000 in
theorem gX10_seed_X10_within : GoodIn wsX10_seed (va_wsS RX10 99 yX10_within wsX10_within) := goodIn_app (goodIn_of _ (by decide +kernel)) ggX10_seed_X10_within
set_option maxRecDepth 20000 in
theorem ggX10_seed_X2_aloneOnes : GoodIn wsX10_seed wsX2_aloneOnes := goodIn_r _ [10, 11, 12, 13, 14, 4, 15, 16, 17, 18, 19, 20, 9, 21, 45, 46, 47] (by decide +kernel) (by decide +kernel)
set_option maxRecDepth 20000 in
theorem gX10_seed_X2_aloneOnes : GoodIn wsX10_seed (wsV RX10 269 RX2 yX2_aloneOnes wsX2_aloneOnes) := goodIn_app (goodIn_of _ (by decide +kernel)) ggX10_seed_X2_aloneOnes
set_option maxRecDepth 20000 in
theorem ggX10_seed_J6_bitCount_0f7a4 : GoodIn wsX10_seed wsJ6_bitCount_0f7a4 := goodIn_r _ [25, 26, 27, 28] (by decide +kernel) (by decide +kernel)
set_option maxRecDepth 20000 in
theorem gX10_seed_J6_bitCount_0f7a4 : GoodIn wsX10_seed (va_wsS RX10 272 yJ6_bitCount_0f7a4 wsJ6_bitCount_0f7a4) := goodIn_app (goodIn_of _ (by decide +kernel)) ggX10_seed_J6_bitCount_0f7a4
theorem dX10_seed_0 : decode cX10_seed 0 = .ok (.iload_n 1, 1) := by decide +kernel
theorem dX10_seed_1 : decode cX10_seed 1 = .ok (.iconst 1, 1) := by decide +kernel
theorem dX10_seed_2 : decode cX10_seed 2 = .ok (.bipush 64, 2) := by decide +kernel
theorem dX10_seed_4 : decode cX10_seed 4 = .ok (.invokestatic 99, 3) := by decide +kernel
theorem dX10_seed_7 : decode cX10_seed 7 = .ok (.ifCond .ne 5, 3) := by decide +kernel
theorem dX10_seed_10 : decode cX10_seed 10 = .ok (.iconst (-1), 1) := by decide +kernel
theorem dX10_seed_11 : decode cX10_seed 11 = .ok (.ireturn, 1) := by decide +kernel
theorem dX10_seed_12 : decode cX10_seed 12 = .ok (.iload_n 2, 1) := by decide +kernel
theorem dX10_seed_13 : decode cX10_seed 13 = .ok (.istore_n 3, 1) := by decide +kernel
theorem dX10_seed_14 : decode cX10_seed 14 = .ok (.iconst (-1), 1) := by decide +kernel
theorem dX10_seed_15 : decode cX10_seed 15 = .ok (.istore 4, 2) := by decide +kernel
theorem dX10_seed_17 : decode cX10_seed 17 = .ok (.iconst 0, 1) := by decide +kernel
theorem dX10_seed_18 : decode cX10_seed 18 = .ok (.istore 5, 2) := by decide +kernel
theorem dX10_seed_20 : decode cX10_seed 20 = .ok (.iload 5, 2) := by decide +kernel
theorem dX10_seed_22 : decode cX10_seed 22 = .ok (.bipush 100, 2) := by decide +kernel
theorem dX10_seed_24 : decode cX10_seed 24 = .ok (.if_icmp .ge 42, 3) := by decide +kernel
theorem dX10_seed_27 : decode cX10_seed 27 = .ok (.aload_n 0, 1) := by decide +kernel
theorem dX10_seed_28 : decode cX10_seed 28 = .ok (.getfield 88, 3) := by decide +kernel
theorem dX10_seed_31 : decode cX10_seed 31 = .ok (.iload_n 1, 1) := by decide +kernel
theorem dX10_seed_32 : decode cX10_seed 32 = .ok (.iload_n 2, 1) := by decide +kernel
theorem dX10_seed_33 : decode cX10_seed 33 = .ok (.iload 5, 2) := by decide +kernel
theorem dX10_seed_35 : decode cX10_seed 35 = .ok (.iadd, 1) := by decide +kernel
theorem dX10_seed_36 : decode cX10_seed 36 = .ok (.invokevirtual 269, 3) := by decide +kernel
theorem dX10_seed_39 : decode cX10_seed 39 = .ok (.invokestatic 272, 3) := by decide +kernel
theorem dX10_seed_42 : decode cX10_seed 42 = .ok (.istore 6, 2) := by decide +kernel
theorem dX10_seed_44 : decode cX10_seed 44 = .ok (.iload 6, 2) := by decide +kernel
theorem dX10_seed_46 : decode cX10_seed 46 = .ok (.iload 4, 2) := by decide +kernel
theorem dX10_seed_48 : decode cX10_seed 48 = .ok (.if_icmp .le 12, 3) := by decide +kernel
theorem dX10_seed_51 : decode cX10_seed 51 = .ok (.iload_n 2, 1) := by decide +kernel
theorem dX10_seed_52 : decode cX10_seed 52 = .ok (.iload 5, 2) := by decide +kernel
theorem dX10_seed_54 : decode cX10_seed 54 = .ok (.iadd, 1) := by decide +kernel
theorem dX10_seed_55 : decode cX10_seed 55 = .ok (.istore_n 3, 1) := by decide +kernel
theorem dX10_seed_56 : decode cX10_seed 56 = .ok (.iload 6, 2) := by decide +kernel
theorem dX10_seed_58 : decode cX10_seed 58 = .ok (.istore 4, 2) := by decide +kernel
theorem dX10_seed_60 : decode cX10_seed 60 = .ok (.iinc 5 1, 3) := by decide +kernel
theorem dX10_seed_63 : decode cX10_seed 63 = .ok (.goto (-43), 3) := by decide +kernel
theorem dX10_seed_66 : decode cX10_seed 66 = .ok (.iload_n 3, 1) := by decide +kernel
theorem dX10_seed_67 : decode cX10_seed 67 = .ok (.ireturn, 1) := by decide +kernel
set_option maxRecDepth 20000 in
theorem ggX10_sheet_X10_within : GoodIn wsX10_sheet wsX10_within := goodIn_r _ [5] (by decide +kernel) (by decide +kernel)
set_option maxRecDepth 20000 in
theorem gX10_sheet_X10_within : GoodIn wsX10_sheet (va_wsS RX10 99 yX10_within wsX10_within) := goodIn_app (goodIn_of _ (by decide +kernel)) ggX10_sheet_X10_within
set_option maxRecDepth 20000 in
theorem ggX10_sheet_X5_renew : GoodIn wsX10_sheet wsX5_renew := goodIn_r _ [10, 11, 12, 13, 3, 4, 5, 30, 31, 32] (by decide +kernel) (by decide +kernel)
set_option maxRecDepth 20000 in
theorem gX10_sheet_X5_renew : GoodIn wsX10_sheet (wsV RX10 277 RX5 yX5_renew wsX5_renew) := goodIn_app (goodIn_of _ (by decide +kernel)) ggX10_sheet_X5_renew
theorem dX10_sheet_0 : decode cX10_sheet 0 = .ok (.iload_n 1, 1) := by decide +kernel
theorem dX10_sheet_1 : decode cX10_sheet 1 = .ok (.iconst 0, 1) := by decide +kernel
theorem dX10_sheet_2 : decode cX10_sheet 2 = .ok (.iconst 3, 1) := by decide +kernel
theorem dX10_sheet_3 : decode cX10_sheet 3 = .ok (.invokestatic 99, 3) := by decide +kernel
theorem dX10_sheet_6 : decode cX10_sheet 6 = .ok (.ifCond .eq 18, 3) := by decide +kernel
theorem dX10_sheet_9 : decode cX10_sheet 9 = .ok (.iload_n 2, 1) := by decide +kernel
theorem dX10_sheet_10 : decode cX10_sheet 10 = .ok (.iconst 0, 1) := by decide +kernel
theorem dX10_sheet_11 : decode cX10_sheet 11 = .ok (.iconst 2, 1) := by decide +kernel
theorem dX10_sheet_12 : decode cX10_sheet 12 = .ok (.invokestatic 99, 3) := by decide +kernel
theorem dX10_sheet_15 : decode cX10_sheet 15 = .ok (.ifCond .eq 9, 3) := by decide +kernel
theorem dX10_sheet_18 : decode cX10_sheet 18 = .ok (.iload_n 3, 1) := by decide +kernel
theorem dX10_sheet_19 : decode cX10_sheet 19 = .ok (.bipush 40, 2) := by decide +kernel
theorem dX10_sheet_21 : decode cX10_sheet 21 = .ok (.if_icmp .le 5, 3) := by decide +kernel
theorem dX10_sheet_24 : decode cX10_sheet 24 = .ok (.iconst (-1), 1) := by decide +kernel
theorem dX10_sheet_25 : decode cX10_sheet 25 = .ok (.ireturn, 1) := by decide +kernel
theorem dX10_sheet_26 : decode cX10_sheet 26 = .ok (.iload_n 3, 1) := by decide +kernel
theorem dX10_sheet_27 : decode cX10_sheet 27 = .ok (.ifCond .ge 6, 3) := by decide +kernel
theorem dX10_sheet_30 : decode cX10_sheet 30 = .ok (.bipush (-14), 2) := by decide +kernel
theorem dX10_sheet_32 : decode cX10_sheet 32 = .ok (.ireturn, 1) := by decide +kernel
theorem dX10_sheet_33 : decode cX10_sheet 33 = .ok (.aload_n 0, 1) := by decide +kernel
theorem dX10_sheet_34 : decode cX10_sheet 34 = .ok (.getfield 94, 3) := by decide +kernel
theorem dX10_sheet_37 : decode cX10_sheet 37 = .ok (.iload_n 1, 1) := by decide +kernel
theorem dX10_sheet_38 : decode cX10_sheet 38 = .ok (.aaload, 1) := by decide +kernel
theorem dX10_sheet_39 : decode cX10_sheet 39 = .ok (.iload_n 2, 1) := by decide +kernel
theorem dX10_sheet_40 : decode cX10_sheet 40 = .ok (.iload_n 3, 1) := by decide +kernel
theorem dX10_sheet_41 : decode cX10_sheet 41 = .ok (.invokevirtual 277, 3) := by decide +kernel
theorem dX10_sheet_44 : decode cX10_sheet 44 = .ok (.iconst 1, 1) := by decide +kernel
theorem dX10_sheet_45 : decode cX10_sheet 45 = .ok (.ireturn, 1) := by decide +kernel
set_option maxRecDepth 20000 in
theorem ggX10_lay_X10_within : GoodIn wsX10_lay wsX10_within := goodIn_r _ [5] (by decide +kernel) (by decide +kernel)
set_option maxRecDepth 20000 in
theorem gX10_lay_X10_within : GoodIn wsX10_lay (va_wsS RX10 99 yX10_within wsX10_within) := goodIn_app (goodIn_of _ (by decide +kernel)) ggX10_lay_X10_within
set_option maxRecDepth 20000 in
theorem ggX10_lay_X5_faultOfCell : GoodIn wsX10_lay wsX5_faultOfCell := goodIn_r _ [10, 11, 3, 4, 5, 35, 36, 37] (by decide +kernel) (by decide +kernel)
set_option maxRecDepth 20000 in
theorem gX10_lay_X5_faultOfCell : GoodIn wsX10_lay (wsV RX10 280 RX5 yX5_faultOfCell wsX5_faultOfCell) := goodIn_app (goodIn_of _ (by decide +kernel)) ggX10_lay_X5_faultOfCell
set_option maxRecDepth 20000 in
theorem ggX10_lay_X5_put : GoodIn wsX10_lay wsX5_put := goodIn_r _ [15, 16, 17, 18, 7, 8, 9, 10, 11, 3, 4, 5, 35, 36, 37] (by decide +kernel) (by decide +kernel)
set_option maxRecDepth 20000 in
theorem gX10_lay_X5_put : GoodIn wsX10_lay (wsV RX10 283 RX5 yX5_put wsX5_put) := goodIn_app (goodIn_of _ (by decide +kernel)) ggX10_lay_X5_put
theorem dX10_lay_0 : decode cX10_lay 0 = .ok (.iload_n 1, 1) := by decide +kernel
theorem dX10_lay_1 : decode cX10_lay 1 = .ok (.iconst 0, 1) := by decide +kernel
theorem dX10_lay_2 : decode cX10_lay 2 = .ok (.iconst 3, 1) := by decide +kernel
theorem dX10_lay_3 : decode cX10_lay 3 = .ok (.invokestatic 99, 3) := by decide +kernel
theorem dX10_lay_6 : decode cX10_lay 6 = .ok (.ifCond .ne 5, 3) := by decide +kernel
theorem dX10_lay_9 : decode cX10_lay 9 = .ok (.iconst (-1), 1) := by decide +kernel
theorem dX10_lay_10 : decode cX10_lay 10 = .ok (.ireturn, 1) := by decide +kernel
theorem dX10_lay_11 : decode cX10_lay 11 = .ok (.aload_n 0, 1) := by decide +kernel
theorem dX10_lay_12 : decode cX10_lay 12 = .ok (.getfield 94, 3) := by decide +kernel
theorem dX10_lay_15 : decode cX10_lay 15 = .ok (.iload_n 1, 1) := by decide +kernel
theorem dX10_lay_16 : decode cX10_lay 16 = .ok (.aaload, 1) := by decide +kernel
theorem dX10_lay_17 : decode cX10_lay 17 = .ok (.iload_n 2, 1) := by decide +kernel
theorem dX10_lay_18 : decode cX10_lay 18 = .ok (.invokevirtual 280, 3) := by decide +kernel
theorem dX10_lay_21 : decode cX10_lay 21 = .ok (.istore 4, 2) := by decide +kernel
theorem dX10_lay_23 : decode cX10_lay 23 = .ok (.iload 4, 2) := by decide +kernel
theorem dX10_lay_25 : decode cX10_lay 25 = .ok (.ifCond .eq 9, 3) := by decide +kernel
theorem dX10_lay_28 : decode cX10_lay 28 = .ok (.bipush (-10), 2) := by decide +kernel
theorem dX10_lay_30 : decode cX10_lay 30 = .ok (.iload 4, 2) := by decide +kernel
theorem dX10_lay_32 : decode cX10_lay 32 = .ok (.isub, 1) := by decide +kernel
theorem dX10_lay_33 : decode cX10_lay 33 = .ok (.ireturn, 1) := by decide +kernel
theorem dX10_lay_34 : decode cX10_lay 34 = .ok (.aload_n 0, 1) := by decide +kernel
theorem dX10_lay_35 : decode cX10_lay 35 = .ok (.getfield 94, 3) := by decide +kernel
theorem dX10_lay_38 : decode cX10_lay 38 = .ok (.iload_n 1, 1) := by decide +kernel
theorem dX10_lay_39 : decode cX10_lay 39 = .ok (.aaload, 1) := by decide +kernel
theorem dX10_lay_40 : decode cX10_lay 40 = .ok (.iload_n 2, 1) := by decide +kernel
theorem dX10_lay_41 : decode cX10_lay 41 = .ok (.iload_n 3, 1) := by decide +kernel
theorem dX10_lay_42 : decode cX10_lay 42 = .ok (.invokevirtual 283, 3) := by decide +kernel
theorem dX10_lay_45 : decode cX10_lay 45 = .ok (.iconst 1, 1) := by decide +kernel
theorem dX10_lay_46 : decode cX10_lay 46 = .ok (.ireturn, 1) := by decide +kernel
set_option maxRecDepth 20000 in
theorem ggX10_read_X10_within : GoodIn wsX10_read wsX10_within := goodIn_r _ [8] (by decide +kernel) (by decide +kernel)
set_option maxRecDepth 20000 in
theorem gX10_read_X10_within : GoodIn wsX10_read (va_wsS RX10 99 yX10_within wsX10_within) := goodIn_app (goodIn_of _ (by decide +kernel)) ggX10_read_X10_within
set_option maxRecDepth 20000 in
theorem ggX10_read_X5_faultOfPair : GoodIn wsX10_read wsX5_faultOfPair := goodIn_r _ [13, 14, 15, 16, 17, 18, 12, 19, 6, 7, 8, 71, 72, 73] (by decide +kernel) (by decide +kernel)
set_option maxRecDepth 20000 in
theorem gX10_read_X5_faultOfPair : GoodIn wsX10_read (wsV RX10 286 RX5 yX5_faultOfPair wsX5_faultOfPair) := goodIn_app (goodIn_of _ (by decide +kernel)) ggX10_read_X5_faultOfPair
set_option maxRecDepth 20000 in
theorem ggX10_read_X10_takeTag : GoodIn wsX10_read wsX10_takeTag := goodIn_r _ [23, 24, 2, 25, 17, 18, 12, 19, 14, 6, 7, 8, 26, 27, 28, 29, 3, 30, 31, 32, 33, 34, 35, 36, 37, 5, 38, 39, 40, 41, 42, 43, 44, 45, 46, 47, 48, 49, 50, 71, 72, 73, 51, 52, 53, 54, 55, 56, 57, 58, 59, 60, 61, 62, 63, 64, 65, 66, 67, 68, 69, 70] (by decide +kernel) (by decide +kernel)
set_option maxRecDepth 20000 in
theorem gX10_read_X10_takeTag : GoodIn wsX10_read (wsV RX10 289 RX10 yX10_takeTag wsX10_takeTag) := goodIn_app (goodIn_of _ (by decide +kernel)) ggX10_read_X10_takeTag
theorem dX10_read_0 : decode cX10_read 0 = .ok (.iload_n 1, 1) := by decide +kernel
theorem dX10_read_1 : decode cX10_read 1 = .ok (.iconst 0, 1) := by decide +kernel
theorem dX10_read_2 : decode cX10_read 2 = .ok (.iconst 3, 1) := by decide +kernel
theorem dX10_read_3 : decode cX10_read 3 = .ok (.invokestatic 99, 3) := by decide +kernel
theorem dX10_read_6 : decode cX10_read 6 = .ok (.ifCond .eq 23, 3) := by decide +kernel
theorem dX10_read_9 : decode cX10_read 9 = .ok (.iload_n 2, 1) := by decide +kernel
theorem dX10_read_10 : decode cX10_read 10 = .ok (.iconst 0, 1) := by decide +kernel
theorem dX10_read_11 : decode cX10_read 11 = .ok (.iconst 2, 1) := by decide +kernel
theorem dX10_read_12 : decode cX10_read 12 = .ok (.invokestatic 99, 3) := by decide +kernel
theorem dX10_read_15 : decode cX10_read 15 = .ok (.ifCond .eq 14, 3) := by decide +kernel
theorem dX10_read_18 : decode cX10_read 18 = .ok (.iload 4, 2) := by decide +kernel
theorem dX10_read_20 : decode cX10_read 20 = .ok (.iconst 0, 1) := by decide +kernel
theorem dX10_read_21 : decode cX10_read 21 = .ok (.bipush 16, 2) := by decide +kernel
theorem dX10_read_23 : decode cX10_read 23 = .ok (.invokestatic 99, 3) := by decide +kernel
theorem dX10_read_26 : decode cX10_read 26 = .ok (.ifCond .ne 5, 3) := by decide +kernel
theorem dX10_read_29 : decode cX10_read 29 = .ok (.iconst (-1), 1) := by decide +kernel
theorem dX10_read_30 : decode cX10_read 30 = .ok (.ireturn, 1) := by decide +kernel
theorem dX10_read_31 : decode cX10_read 31 = .ok (.aload_n 0, 1) := by decide +kernel
theorem dX10_read_32 : decode cX10_read 32 = .ok (.getfield 94, 3) := by decide +kernel
theorem dX10_read_35 : decode cX10_read 35 = .ok (.iload_n 1, 1) := by decide +kernel
theorem dX10_read_36 : decode cX10_read 36 = .ok (.aaload, 1) := by decide +kernel
theorem dX10_read_37 : decode cX10_read 37 = .ok (.astore 5, 2) := by decide +kernel
theorem dX10_read_39 : decode cX10_read 39 = .ok (.aload_n 0, 1) := by decide +kernel
theorem dX10_read_40 : decode cX10_read 40 = .ok (.getfield 25, 3) := by decide +kernel
theorem dX10_read_43 : decode cX10_read 43 = .ok (.getfield 103, 3) := by decide +kernel
theorem dX10_read_46 : decode cX10_read 46 = .ok (.istore 6, 2) := by decide +kernel
theorem dX10_read_48 : decode cX10_read 48 = .ok (.iconst 0, 1) := by decide +kernel
theorem dX10_read_49 : decode cX10_read 49 = .ok (.istore 7, 2) := by decide +kernel
theorem dX10_read_51 : decode cX10_read 51 = .ok (.iconst 0, 1) := by decide +kernel
theorem dX10_read_52 : decode cX10_read 52 = .ok (.istore 8, 2) := by decide +kernel
theorem dX10_read_54 : decode cX10_read 54 = .ok (.iload 8, 2) := by decide +kernel
theorem dX10_read_56 : decode cX10_read 56 = .ok (.iload 4, 2) := by decide +kernel
theorem dX10_read_58 : decode cX10_read 58 = .ok (.if_icmp .ge 78, 3) := by decide +kernel
theorem dX10_read_61 : decode cX10_read 61 = .ok (.iload 7, 2) := by decide +kernel
theorem dX10_read_63 : decode cX10_read 63 = .ok (.ifCond .ne 73, 3) := by decide +kernel
theorem dX10_read_66 : decode cX10_read 66 = .ok (.aload 5, 2) := by decide +kernel
theorem dX10_read_68 : decode cX10_read 68 = .ok (.iload_n 2, 1) := by decide +kernel
theorem dX10_read_69 : decode cX10_read 69 = .ok (.iload_n 3, 1) := by decide +kernel
theorem dX10_read_70 : decode cX10_read 70 = .ok (.iconst 2, 1) := by decide +kernel
theorem dX10_read_71 : decode cX10_read 71 = .ok (.iload 8, 2) := by decide +kernel
theorem dX10_read_73 : decode cX10_read 73 = .ok (.imul, 1) := by decide +kernel
theorem dX10_read_74 : decode cX10_read 74 = .ok (.iadd, 1) := by decide +kernel
theorem dX10_read_75 : decode cX10_read 75 = .ok (.invokevirtual 286, 3) := by decide +kernel
theorem dX10_read_78 : decode cX10_read 78 = .ok (.istore 7, 2) := by decide +kernel
theorem dX10_read_80 : decode cX10_read 80 = .ok (.iload 7, 2) := by decide +kernel
theorem dX10_read_82 : decode cX10_read 82 = .ok (.ifCond .ne 48, 3) := by decide +kernel
theorem dX10_read_85 : decode cX10_read 85 = .ok (.aload_n 0, 1) := by decide +kernel
theorem dX10_read_86 : decode cX10_read 86 = .ok (.aload 5, 2) := by decide +kernel
theorem dX10_read_88 : decode cX10_read 88 = .ok (.iload_n 3, 1) := by decide +kernel
theorem dX10_read_89 : decode cX10_read 89 = .ok (.iconst 2, 1) := by decide +kernel
theorem dX10_read_90 : decode cX10_read 90 = .ok (.iload 8, 2) := by decide +kernel
theorem dX10_read_92 : decode cX10_read 92 = .ok (.imul, 1) := by decide +kernel
theorem dX10_read_93 : decode cX10_read 93 = .ok (.iadd, 1) := by decide +kernel
theorem dX10_read_94 : decode cX10_read 94 = .ok (.invokevirtual 289, 3) := by decide +kernel
theorem dX10_read_97 : decode cX10_read 97 = .ok (.istore 9, 2) := by decide +kernel
theorem dX10_read_99 : decode cX10_read 99 = .ok (.iload 9, 2) := by decide +kernel
theorem dX10_read_101 : decode cX10_read 101 = .ok (.ifCond .eq 29, 3) := by decide +kernel
theorem dX10_read_104 : decode cX10_read 104 = .ok (.aload_n 0, 1) := by decide +kernel
theorem dX10_read_105 : decode cX10_read 105 = .ok (.getfield 25, 3) := by decide +kernel
theorem dX10_read_108 : decode cX10_read 108 = .ok (.iload 6, 2) := by decide +kernel
theorem dX10_read_110 : decode cX10_read 110 = .ok (.putfield 103, 3) := by decide +kernel
theorem dX10_read_113 : decode cX10_read 113 = .ok (.iload 9, 2) := by decide +kernel
theorem dX10_read_115 : decode cX10_read 115 = .ok (.iconst (-1), 1) := by decide +kernel
theorem dX10_read_116 : decode cX10_read 116 = .ok (.if_icmp .ne 11, 3) := by decide +kernel
theorem dX10_read_119 : decode cX10_read 119 = .ok (.bipush (-20), 2) := by decide +kernel
theorem dX10_read_121 : decode cX10_read 121 = .ok (.iload 8, 2) := by decide +kernel
theorem dX10_read_123 : decode cX10_read 123 = .ok (.isub, 1) := by decide +kernel
theorem dX10_read_124 : decode cX10_read 124 = .ok (.goto 5, 3) := by decide +kernel
theorem dX10_read_127 : decode cX10_read 127 = .ok (.iload 9, 2) := by decide +kernel
theorem dX10_read_129 : decode cX10_read 129 = .ok (.ireturn, 1) := by decide +kernel
theorem dX10_read_130 : decode cX10_read 130 = .ok (.iinc 8 1, 3) := by decide +kernel
theorem dX10_read_133 : decode cX10_read 133 = .ok (.goto (-79), 3) := by decide +kernel
theorem dX10_read_136 : decode cX10_read 136 = .ok (.aload_n 0, 1) := by decide +kernel
theorem dX10_read_137 : decode cX10_read 137 = .ok (.iload 7, 2) := by decide +kernel
theorem dX10_read_139 : decode cX10_read 139 = .ok (.putfield 19, 3) := by decide +kernel
theorem dX10_read_142 : decode cX10_read 142 = .ok (.aload_n 0, 1) := by decide +kernel
theorem dX10_read_143 : decode cX10_read 143 = .ok (.getfield 25, 3) := by decide +kernel
theorem dX10_read_146 : decode cX10_read 146 = .ok (.getfield 103, 3) := by decide +kernel
theorem dX10_read_149 : decode cX10_read 149 = .ok (.iload 6, 2) := by decide +kernel
theorem dX10_read_151 : decode cX10_read 151 = .ok (.isub, 1) := by decide +kernel
theorem dX10_read_152 : decode cX10_read 152 = .ok (.ireturn, 1) := by decide +kernel
theorem dX10_torn_0 : decode cX10_torn 0 = .ok (.aload_n 0, 1) := by decide +kernel
theorem dX10_torn_1 : decode cX10_torn 1 = .ok (.getfield 19, 3) := by decide +kernel
theorem dX10_torn_4 : decode cX10_torn 4 = .ok (.ireturn, 1) := by decide +kernel
set_option maxRecDepth 20000 in
theorem ggX10_count_X6_silentOnes : GoodIn wsX10_count wsX6_silentOnes := goodIn_r _ [17, 18, 19, 36, 37, 38, 39] (by decide +kernel) (by decide +kernel)
set_option maxRecDepth 20000 in
theorem gX10_count_X6_silentOnes : GoodIn wsX10_count (wsV RX10 132 RX6 yX6_silentOnes wsX6_silentOnes) := goodIn_app (goodIn_of _ (by decide +kernel)) ggX10_count_X6_silentOnes
theorem dX10_count_0 : decode cX10_count 0 = .ok (.iload_n 1, 1) := by decide +kernel
theorem dX10_count_1 : decode cX10_count 1 = .ok (.tableswitch 136 0 7 #[47, 52, 60, 68, 76, 84, 101, 109], 47) := by decide +kernel
theorem dX10_count_48 : decode cX10_count 48 = .ok (.aload_n 0, 1) := by decide +kernel
theorem dX10_count_49 : decode cX10_count 49 = .ok (.getfield 7, 3) := by decide +kernel
theorem dX10_count_52 : decode cX10_count 52 = .ok (.ireturn, 1) := by decide +kernel
theorem dX10_count_53 : decode cX10_count 53 = .ok (.aload_n 0, 1) := by decide +kernel
theorem dX10_count_54 : decode cX10_count 54 = .ok (.getfield 25, 3) := by decide +kernel
theorem dX10_count_57 : decode cX10_count 57 = .ok (.getfield 103, 3) := by decide +kernel
theorem dX10_count_60 : decode cX10_count 60 = .ok (.ireturn, 1) := by decide +kernel
theorem dX10_count_61 : decode cX10_count 61 = .ok (.aload_n 0, 1) := by decide +kernel
theorem dX10_count_62 : decode cX10_count 62 = .ok (.getfield 25, 3) := by decide +kernel
theorem dX10_count_65 : decode cX10_count 65 = .ok (.invokevirtual 132, 3) := by decide +kernel
theorem dX10_count_68 : decode cX10_count 68 = .ok (.ireturn, 1) := by decide +kernel
theorem dX10_count_69 : decode cX10_count 69 = .ok (.aload_n 0, 1) := by decide +kernel
theorem dX10_count_70 : decode cX10_count 70 = .ok (.getfield 88, 3) := by decide +kernel
theorem dX10_count_73 : decode cX10_count 73 = .ok (.getfield 106, 3) := by decide +kernel
theorem dX10_count_76 : decode cX10_count 76 = .ok (.ireturn, 1) := by decide +kernel
theorem dX10_count_77 : decode cX10_count 77 = .ok (.aload_n 0, 1) := by decide +kernel
theorem dX10_count_78 : decode cX10_count 78 = .ok (.getfield 39, 3) := by decide +kernel
theorem dX10_count_81 : decode cX10_count 81 = .ok (.getfield 176, 3) := by decide +kernel
theorem dX10_count_84 : decode cX10_count 84 = .ok (.ireturn, 1) := by decide +kernel
theorem dX10_count_85 : decode cX10_count 85 = .ok (.aload_n 0, 1) := by decide +kernel
theorem dX10_count_86 : decode cX10_count 86 = .ok (.getfield 16, 3) := by decide +kernel
theorem dX10_count_89 : decode cX10_count 89 = .ok (.ifCond .ge 8, 3) := by decide +kernel
theorem dX10_count_92 : decode cX10_count 92 = .ok (.bipush (-4), 2) := by decide +kernel
theorem dX10_count_94 : decode cX10_count 94 = .ok (.goto 7, 3) := by decide +kernel
theorem dX10_count_97 : decode cX10_count 97 = .ok (.aload_n 0, 1) := by decide +kernel
theorem dX10_count_98 : decode cX10_count 98 = .ok (.getfield 16, 3) := by decide +kernel
theorem dX10_count_101 : decode cX10_count 101 = .ok (.ireturn, 1) := by decide +kernel
theorem dX10_count_102 : decode cX10_count 102 = .ok (.aload_n 0, 1) := by decide +kernel
theorem dX10_count_103 : decode cX10_count 103 = .ok (.getfield 53, 3) := by decide +kernel
theorem dX10_count_106 : decode cX10_count 106 = .ok (.getfield 200, 3) := by decide +kernel
theorem dX10_count_109 : decode cX10_count 109 = .ok (.ireturn, 1) := by decide +kernel
theorem dX10_count_110 : decode cX10_count 110 = .ok (.aload_n 0, 1) := by decide +kernel
theorem dX10_count_111 : decode cX10_count 111 = .ok (.getfield 94, 3) := by decide +kernel
theorem dX10_count_114 : decode cX10_count 114 = .ok (.iconst 0, 1) := by decide +kernel
theorem dX10_count_115 : decode cX10_count 115 = .ok (.aaload, 1) := by decide +kernel
theorem dX10_count_116 : decode cX10_count 116 = .ok (.getfield 293, 3) := by decide +kernel
theorem dX10_count_119 : decode cX10_count 119 = .ok (.ifCond .ge 8, 3) := by decide +kernel
theorem dX10_count_122 : decode cX10_count 122 = .ok (.bipush (-4), 2) := by decide +kernel
theorem dX10_count_124 : decode cX10_count 124 = .ok (.goto 12, 3) := by decide +kernel
theorem dX10_count_127 : decode cX10_count 127 = .ok (.aload_n 0, 1) := by decide +kernel
theorem dX10_count_128 : decode cX10_count 128 = .ok (.getfield 94, 3) := by decide +kernel
theorem dX10_count_131 : decode cX10_count 131 = .ok (.iconst 0, 1) := by decide +kernel
theorem dX10_count_132 : decode cX10_count 132 = .ok (.aaload, 1) := by decide +kernel
theorem dX10_count_133 : decode cX10_count 133 = .ok (.getfield 293, 3) := by decide +kernel
theorem dX10_count_136 : decode cX10_count 136 = .ok (.ireturn, 1) := by decide +kernel
theorem dX10_count_137 : decode cX10_count 137 = .ok (.iconst (-1), 1) := by decide +kernel
theorem dX10_count_138 : decode cX10_count 138 = .ok (.ireturn, 1) := by decide +kernel
theorem dX10_within_0 : decode cX10_within 0 = .ok (.iload_n 0, 1) := by decide +kernel
theorem dX10_within_1 : decode cX10_within 1 = .ok (.iload_n 1, 1) := by decide +kernel
theorem dX10_within_2 : decode cX10_within 2 = .ok (.if_icmp .lt 12, 3) := by decide +kernel
theorem dX10_within_5 : decode cX10_within 5 = .ok (.iload_n 0, 1) := by decide +kernel
theorem dX10_within_6 : decode cX10_within 6 = .ok (.iload_n 2, 1) := by decide +kernel
theorem dX10_within_7 : decode cX10_within 7 = .ok (.if_icmp .gt 7, 3) := by decide +kernel
theorem dX10_within_10 : decode cX10_within 10 = .ok (.iconst 1, 1) := by decide +kernel
theorem dX10_within_11 : decode cX10_within 11 = .ok (.goto 4, 3) := by decide +kernel
theorem dX10_within_14 : decode cX10_within 14 = .ok (.iconst 0, 1) := by decide +kernel
theorem dX10_within_15 : decode cX10_within 15 = .ok (.ireturn, 1) := by decide +kernel
theorem dX10_lowBits_0 : decode cX10_lowBits 0 = .ok (.iconst 1, 1) := by decide +kernel
theorem dX10_lowBits_1 : decode cX10_lowBits 1 = .ok (.iload_n 0, 1) := by decide +kernel
theorem dX10_lowBits_2 : decode cX10_lowBits 2 = .ok (.ishl, 1) := by decide +kernel
theorem dX10_lowBits_3 : decode cX10_lowBits 3 = .ok (.iconst 1, 1) := by decide +kernel
theorem dX10_lowBits_4 : decode cX10_lowBits 4 = .ok (.isub, 1) := by decide +kernel
theorem dX10_lowBits_5 : decode cX10_lowBits 5 = .ok (.ireturn, 1) := by decide +kernel
set_option maxRecDepth 20000 in
theorem ggX10_isNumber_X10_lowBits : GoodIn wsX10_isNumber wsX10_lowBits := goodIn_r _ [5] (by decide +kernel) (by decide +kernel)
set_option maxRecDepth 20000 in
theorem gX10_isNumber_X10_lowBits : GoodIn wsX10_isNumber (va_wsS RX10 140 yX10_lowBits wsX10_lowBits) := goodIn_app (goodIn_of _ (by decide +kernel)) ggX10_isNumber_X10_lowBits
set_option maxRecDepth 20000 in
theorem ggX10_isNumber_X10_within : GoodIn wsX10_isNumber wsX10_within := goodIn_r _ [8] (by decide +kernel) (by decide +kernel)
set_option maxRecDepth 20000 in
theorem gX10_isNumber_X10_within : GoodIn wsX10_isNumber (va_wsS RX10 99 yX10_within wsX10_within) := goodIn_app (goodIn_of _ (by decide +kernel)) ggX10_isNumber_X10_within
theorem dX10_isNumber_0 : decode cX10_isNumber 0 = .ok (.iload_n 1, 1) := by decide +kernel
theorem dX10_isNumber_1 : decode cX10_isNumber 1 = .ok (.iconst 0, 1) := by decide +kernel
theorem dX10_isNumber_2 : decode cX10_isNumber 2 = .ok (.aload_n 0, 1) := by decide +kernel
theorem dX10_isNumber_3 : decode cX10_isNumber 3 = .ok (.getfield 7, 3) := by decide +kernel
theorem dX10_isNumber_6 : decode cX10_isNumber 6 = .ok (.invokestatic 140, 3) := by decide +kernel
theorem dX10_isNumber_9 : decode cX10_isNumber 9 = .ok (.invokestatic 99, 3) := by decide +kernel
theorem dX10_isNumber_12 : decode cX10_isNumber 12 = .ok (.ireturn, 1) := by decide +kernel
set_option maxRecDepth 20000 in
theorem ggX10_refusalOfTag_X10_isNumber : GoodIn wsX10_refusalOfTag wsX10_isNumber := goodIn_r _ [7, 8, 9, 10, 6, 11, 12, 13, 14, 22, 23, 24, 25, 26, 27, 28, 29, 30, 31, 32, 33, 34, 35, 36, 37] (by decide +kernel) (by decide +kernel)
set_option maxRecDepth 20000 in
theorem gX10_refusalOfTag_X10_isNumber : GoodIn wsX10_refusalOfTag (wsV RX10 185 RX10 yX10_isNumber wsX10_isNumber) := goodIn_app (goodIn_of _ (by decide +kernel)) ggX10_refusalOfTag_X10_isNumber
set_option maxRecDepth 20000 in
theorem ggX10_refusalOfTag_X10_within : GoodIn wsX10_refusalOfTag wsX10_within := goodIn_r _ [14] (by decide +kernel) (by decide +kernel)
set_option maxRecDepth 20000 in
theorem gX10_refusalOfTag_X10_within : GoodIn wsX10_refusalOfTag (va_wsS RX10 99 yX10_within wsX10_within) := goodIn_app (goodIn_of _ (by decide +kernel)) ggX10_refusalOfTag_X10_within
set_option maxRecDepth 20000 in
theorem ggX10_refusalOfTag_X6_hasNumber : GoodIn wsX10_refusalOfTag wsX6_hasNumber := goodIn_r _ [19, 20, 21, 38, 39, 40, 41] (by decide +kernel) (by decide +kernel)
set_option maxRecDepth 20000 in
theorem gX10_refusalOfTag_X6_hasNumber : GoodIn wsX10_refusalOfTag (wsV RX10 294 RX6 yX6_hasNumber wsX6_hasNumber) := goodIn_app (goodIn_of _ (by decide +kernel)) ggX10_refusalOfTag_X6_hasNumber
theorem dX10_refusalOfTag_0 : decode cX10_refusalOfTag 0 = .ok (.aload_n 0, 1) := by decide +kernel
theorem dX10_refusalOfTag_1 : decode cX10_refusalOfTag 1 = .ok (.iload_n 1, 1) := by decide +kernel
theorem dX10_refusalOfTag_2 : decode cX10_refusalOfTag 2 = .ok (.invokevirtual 185, 3) := by decide +kernel
theorem dX10_refusalOfTag_5 : decode cX10_refusalOfTag 5 = .ok (.ifCond .eq 24, 3) := by decide +kernel
theorem dX10_refusalOfTag_8 : decode cX10_refusalOfTag 8 = .ok (.iload_n 2, 1) := by decide +kernel
theorem dX10_refusalOfTag_9 : decode cX10_refusalOfTag 9 = .ok (.iconst 1, 1) := by decide +kernel
theorem dX10_refusalOfTag_10 : decode cX10_refusalOfTag 10 = .ok (.bipush 99, 2) := by decide +kernel
theorem dX10_refusalOfTag_12 : decode cX10_refusalOfTag 12 = .ok (.invokestatic 99, 3) := by decide +kernel
theorem dX10_refusalOfTag_15 : decode cX10_refusalOfTag 15 = .ok (.ifCond .eq 14, 3) := by decide +kernel
theorem dX10_refusalOfTag_18 : decode cX10_refusalOfTag 18 = .ok (.aload_n 0, 1) := by decide +kernel
theorem dX10_refusalOfTag_19 : decode cX10_refusalOfTag 19 = .ok (.getfield 25, 3) := by decide +kernel
theorem dX10_refusalOfTag_22 : decode cX10_refusalOfTag 22 = .ok (.iload_n 1, 1) := by decide +kernel
theorem dX10_refusalOfTag_23 : decode cX10_refusalOfTag 23 = .ok (.invokevirtual 294, 3) := by decide +kernel
theorem dX10_refusalOfTag_26 : decode cX10_refusalOfTag 26 = .ok (.ifCond .eq 5, 3) := by decide +kernel
theorem dX10_refusalOfTag_29 : decode cX10_refusalOfTag 29 = .ok (.iconst (-1), 1) := by decide +kernel
theorem dX10_refusalOfTag_30 : decode cX10_refusalOfTag 30 = .ok (.ireturn, 1) := by decide +kernel
theorem dX10_refusalOfTag_31 : decode cX10_refusalOfTag 31 = .ok (.aload_n 0, 1) := by decide +kernel
theorem dX10_refusalOfTag_32 : decode cX10_refusalOfTag 32 = .ok (.getfield 25, 3) := by decide +kernel
theorem dX10_refusalOfTag_35 : decode cX10_refusalOfTag 35 = .ok (.getfield 103, 3) := by decide +kernel
theorem dX10_refusalOfTag_38 : decode cX10_refusalOfTag 38 = .ok (.bipush 16, 2) := by decide +kernel
theorem dX10_refusalOfTag_40 : decode cX10_refusalOfTag 40 = .ok (.if_icmp .lt 8, 3) := by decide +kernel
theorem dX10_refusalOfTag_43 : decode cX10_refusalOfTag 43 = .ok (.bipush (-3), 2) := by decide +kernel
theorem dX10_refusalOfTag_45 : decode cX10_refusalOfTag 45 = .ok (.goto 4, 3) := by decide +kernel
theorem dX10_refusalOfTag_48 : decode cX10_refusalOfTag 48 = .ok (.iconst 0, 1) := by decide +kernel
theorem dX10_refusalOfTag_49 : decode cX10_refusalOfTag 49 = .ok (.ireturn, 1) := by decide +kernel
set_option maxRecDepth 20000 in
theorem ggX10_takeTag_X5_faultOfCell : GoodIn wsX10_takeTag wsX5_faultOfCell := goodIn_r _ [7, 8, 9, 10, 11, 39, 40, 41] (by decide +kernel) (by decide +kernel)
set_option maxRecDepth 20000 in
theorem gX10_takeTag_X5_faultOfCell : GoodIn wsX10_takeTag (wsV RX10 280 RX5 yX5_faultOfCell wsX5_faultOfCell) := goodIn_app (goodIn_of _ (by decide +kernel)) ggX10_takeTag_X5_faultOfCell
set_option maxRecDepth 20000 in
theorem ggX10_takeTag_X10_refusalOfTag : GoodIn wsX10_takeTag wsX10_refusalOfTag := goodIn_r _ [15, 2, 16, 17, 18, 19, 10, 20, 21, 22, 23, 24, 25, 9, 11, 26, 27, 28, 29, 30, 31, 32, 42, 43, 44, 45, 46, 47, 48, 49, 50, 51, 52, 53, 54, 55, 56, 57, 58, 59, 60, 61] (by decide +kernel) (by decide +kernel)
set_option maxRecDepth 20000 in
theorem gX10_takeTag_X10_refusalOfTag : GoodIn wsX10_takeTag (wsV RX10 110 RX10 yX10_refusalOfTag wsX10_refusalOfTag) := goodIn_app (goodIn_of _ (by decide +kernel)) ggX10_takeTag_X10_refusalOfTag
set_option maxRecDepth 20000 in
theorem ggX10_takeTag_X6_add : GoodIn wsX10_takeTag wsX6_add := goodIn_r _ [36, 31, 32, 37, 38, 58, 59, 60, 61] (by decide +kernel) (by decide +kernel)
set_option maxRecDepth 20000 in
theorem gX10_takeTag_X6_add : GoodIn wsX10_takeTag (wsV RX10 114 RX6 yX6_add wsX6_add) := goodIn_app (goodIn_of _ (by decide +kernel)) ggX10_takeTag_X6_add
theorem dX10_takeTag_0 : decode cX10_takeTag 0 = .ok (.aload_n 1, 1) := by decide +kernel
theorem dX10_takeTag_1 : decode cX10_takeTag 1 = .ok (.iload_n 2, 1) := by decide +kernel
theorem dX10_takeTag_2 : decode cX10_takeTag 2 = .ok (.invokevirtual 280, 3) := by decide +kernel
theorem dX10_takeTag_5 : decode cX10_takeTag 5 = .ok (.ifCond .ne 13, 3) := by decide +kernel
theorem dX10_takeTag_8 : decode cX10_takeTag 8 = .ok (.aload_n 1, 1) := by decide +kernel
theorem dX10_takeTag_9 : decode cX10_takeTag 9 = .ok (.iload_n 2, 1) := by decide +kernel
theorem dX10_takeTag_10 : decode cX10_takeTag 10 = .ok (.iconst 1, 1) := by decide +kernel
theorem dX10_takeTag_11 : decode cX10_takeTag 11 = .ok (.iadd, 1) := by decide +kernel
theorem dX10_takeTag_12 : decode cX10_takeTag 12 = .ok (.invokevirtual 280, 3) := by decide +kernel
theorem dX10_takeTag_15 : decode cX10_takeTag 15 = .ok (.ifCond .eq 5, 3) := by decide +kernel
theorem dX10_takeTag_18 : decode cX10_takeTag 18 = .ok (.iconst (-1), 1) := by decide +kernel
theorem dX10_takeTag_19 : decode cX10_takeTag 19 = .ok (.ireturn, 1) := by decide +kernel
theorem dX10_takeTag_20 : decode cX10_takeTag 20 = .ok (.aload_n 1, 1) := by decide +kernel
theorem dX10_takeTag_21 : decode cX10_takeTag 21 = .ok (.getfield 297, 3) := by decide +kernel
theorem dX10_takeTag_24 : decode cX10_takeTag 24 = .ok (.iload_n 2, 1) := by decide +kernel
theorem dX10_takeTag_25 : decode cX10_takeTag 25 = .ok (.iaload, 1) := by decide +kernel
theorem dX10_takeTag_26 : decode cX10_takeTag 26 = .ok (.istore_n 3, 1) := by decide +kernel
theorem dX10_takeTag_27 : decode cX10_takeTag 27 = .ok (.aload_n 1, 1) := by decide +kernel
theorem dX10_takeTag_28 : decode cX10_takeTag 28 = .ok (.getfield 297, 3) := by decide +kernel
theorem dX10_takeTag_31 : decode cX10_takeTag 31 = .ok (.iload_n 2, 1) := by decide +kernel
theorem dX10_takeTag_32 : decode cX10_takeTag 32 = .ok (.iconst 1, 1) := by decide +kernel
theorem dX10_takeTag_33 : decode cX10_takeTag 33 = .ok (.iadd, 1) := by decide +kernel
theorem dX10_takeTag_34 : decode cX10_takeTag 34 = .ok (.iaload, 1) := by decide +kernel
theorem dX10_takeTag_35 : decode cX10_takeTag 35 = .ok (.istore 4, 2) := by decide +kernel
theorem dX10_takeTag_37 : decode cX10_takeTag 37 = .ok (.aload_n 0, 1) := by decide +kernel
theorem dX10_takeTag_38 : decode cX10_takeTag 38 = .ok (.iload_n 3, 1) := by decide +kernel
theorem dX10_takeTag_39 : decode cX10_takeTag 39 = .ok (.iload 4, 2) := by decide +kernel
theorem dX10_takeTag_41 : decode cX10_takeTag 41 = .ok (.invokevirtual 110, 3) := by decide +kernel
theorem dX10_takeTag_44 : decode cX10_takeTag 44 = .ok (.istore 5, 2) := by decide +kernel
theorem dX10_takeTag_46 : decode cX10_takeTag 46 = .ok (.iload 5, 2) := by decide +kernel
theorem dX10_takeTag_48 : decode cX10_takeTag 48 = .ok (.ifCond .ne 13, 3) := by decide +kernel
theorem dX10_takeTag_51 : decode cX10_takeTag 51 = .ok (.aload_n 0, 1) := by decide +kernel
theorem dX10_takeTag_52 : decode cX10_takeTag 52 = .ok (.getfield 25, 3) := by decide +kernel
theorem dX10_takeTag_55 : decode cX10_takeTag 55 = .ok (.iload_n 3, 1) := by decide +kernel
theorem dX10_takeTag_56 : decode cX10_takeTag 56 = .ok (.iload 4, 2) := by decide +kernel
theorem dX10_takeTag_58 : decode cX10_takeTag 58 = .ok (.invokevirtual 114, 3) := by decide +kernel
theorem dX10_takeTag_61 : decode cX10_takeTag 61 = .ok (.iload 5, 2) := by decide +kernel
theorem dX10_takeTag_63 : decode cX10_takeTag 63 = .ok (.ireturn, 1) := by decide +kernel
set_option maxRecDepth 20000 in
theorem ggX10_gatherTags_X0_clear : GoodIn wsX10_gatherTags wsX0_clear := goodIn_r _ [15, 16, 17, 18, 44, 45, 46, 47, 48, 49, 50, 51, 52] (by decide +kernel) (by decide +kernel)
set_option maxRecDepth 20000 in
theorem gX10_gatherTags_X0_clear : GoodIn wsX10_gatherTags (wsV RX10 191 RX0 yX0_clear wsX0_clear) := goodIn_app (goodIn_of _ (by decide +kernel)) ggX10_gatherTags_X0_clear
set_option maxRecDepth 20000 in
theorem ggX10_gatherTags_X0_add : GoodIn wsX10_gatherTags wsX0_add := goodIn_r _ [22, 17, 23, 44, 45, 46, 47, 48, 49, 50, 51, 52] (by decide +kernel) (by decide +kernel)
set_option maxRecDepth 20000 in
theorem gX10_gatherTags_X0_add : GoodIn wsX10_gatherTags (wsV RX10 194 RX0 yX0_add wsX0_add) := goodIn_app (goodIn_of _ (by decide +kernel)) ggX10_gatherTags_X0_add
theorem dX10_gatherTags_0 : decode cX10_gatherTags 0 = .ok (.aload_n 0, 1) := by decide +kernel
theorem dX10_gatherTags_1 : decode cX10_gatherTags 1 = .ok (.getfield 32, 3) := by decide +kernel
theorem dX10_gatherTags_4 : decode cX10_gatherTags 4 = .ok (.aload_n 0, 1) := by decide +kernel
theorem dX10_gatherTags_5 : decode cX10_gatherTags 5 = .ok (.getfield 7, 3) := by decide +kernel
theorem dX10_gatherTags_8 : decode cX10_gatherTags 8 = .ok (.invokevirtual 191, 3) := by decide +kernel
theorem dX10_gatherTags_11 : decode cX10_gatherTags 11 = .ok (.iconst 0, 1) := by decide +kernel
theorem dX10_gatherTags_12 : decode cX10_gatherTags 12 = .ok (.istore_n 1, 1) := by decide +kernel
theorem dX10_gatherTags_13 : decode cX10_gatherTags 13 = .ok (.iload_n 1, 1) := by decide +kernel
theorem dX10_gatherTags_14 : decode cX10_gatherTags 14 = .ok (.aload_n 0, 1) := by decide +kernel
theorem dX10_gatherTags_15 : decode cX10_gatherTags 15 = .ok (.getfield 25, 3) := by decide +kernel
theorem dX10_gatherTags_18 : decode cX10_gatherTags 18 = .ok (.getfield 103, 3) := by decide +kernel
theorem dX10_gatherTags_21 : decode cX10_gatherTags 21 = .ok (.if_icmp .ge 37, 3) := by decide +kernel
theorem dX10_gatherTags_24 : decode cX10_gatherTags 24 = .ok (.aload_n 0, 1) := by decide +kernel
theorem dX10_gatherTags_25 : decode cX10_gatherTags 25 = .ok (.getfield 25, 3) := by decide +kernel
theorem dX10_gatherTags_28 : decode cX10_gatherTags 28 = .ok (.getfield 128, 3) := by decide +kernel
theorem dX10_gatherTags_31 : decode cX10_gatherTags 31 = .ok (.iload_n 1, 1) := by decide +kernel
theorem dX10_gatherTags_32 : decode cX10_gatherTags 32 = .ok (.baload, 1) := by decide +kernel
theorem dX10_gatherTags_33 : decode cX10_gatherTags 33 = .ok (.ifCond .ne 19, 3) := by decide +kernel
theorem dX10_gatherTags_36 : decode cX10_gatherTags 36 = .ok (.aload_n 0, 1) := by decide +kernel
theorem dX10_gatherTags_37 : decode cX10_gatherTags 37 = .ok (.getfield 32, 3) := by decide +kernel
theorem dX10_gatherTags_40 : decode cX10_gatherTags 40 = .ok (.aload_n 0, 1) := by decide +kernel
theorem dX10_gatherTags_41 : decode cX10_gatherTags 41 = .ok (.getfield 25, 3) := by decide +kernel
theorem dX10_gatherTags_44 : decode cX10_gatherTags 44 = .ok (.getfield 122, 3) := by decide +kernel
theorem dX10_gatherTags_47 : decode cX10_gatherTags 47 = .ok (.iload_n 1, 1) := by decide +kernel
theorem dX10_gatherTags_48 : decode cX10_gatherTags 48 = .ok (.iaload, 1) := by decide +kernel
theorem dX10_gatherTags_49 : decode cX10_gatherTags 49 = .ok (.invokevirtual 194, 3) := by decide +kernel
theorem dX10_gatherTags_52 : decode cX10_gatherTags 52 = .ok (.iinc 1 1, 3) := by decide +kernel
theorem dX10_gatherTags_55 : decode cX10_gatherTags 55 = .ok (.goto (-42), 3) := by decide +kernel
theorem dX10_gatherTags_58 : decode cX10_gatherTags 58 = .ok (.aload_n 0, 1) := by decide +kernel
theorem dX10_gatherTags_59 : decode cX10_gatherTags 59 = .ok (.getfield 32, 3) := by decide +kernel
theorem dX10_gatherTags_62 : decode cX10_gatherTags 62 = .ok (.aload_n 0, 1) := by decide +kernel
theorem dX10_gatherTags_63 : decode cX10_gatherTags 63 = .ok (.getfield 16, 3) := by decide +kernel
theorem dX10_gatherTags_66 : decode cX10_gatherTags 66 = .ok (.putfield 300, 3) := by decide +kernel
theorem dX10_gatherTags_69 : decode cX10_gatherTags 69 = .ok (.aload_n 0, 1) := by decide +kernel
theorem dX10_gatherTags_70 : decode cX10_gatherTags 70 = .ok (.getfield 32, 3) := by decide +kernel
theorem dX10_gatherTags_73 : decode cX10_gatherTags 73 = .ok (.aload_n 0, 1) := by decide +kernel
theorem dX10_gatherTags_74 : decode cX10_gatherTags 74 = .ok (.getfield 13, 3) := by decide +kernel
theorem dX10_gatherTags_77 : decode cX10_gatherTags 77 = .ok (.putfield 301, 3) := by decide +kernel
theorem dX10_gatherTags_80 : decode cX10_gatherTags 80 = .ok (.return_, 1) := by decide +kernel
set_option maxRecDepth 20000 in
theorem ggX10_outermostBlind_X10_outermostSplit : GoodIn wsX10_outermostBlind wsX10_outermostSplit := goodIn_r _ [11, 12, 13, 5, 14, 3, 4, 6, 1, 15, 16, 17, 18, 19, 20, 21, 22, 23, 24, 25, 26, 27, 28, 29, 30] (by decide +kernel) (by decide +kernel)
set_option maxRecDepth 20000 in
theorem gX10_outermostBlind_X10_outermostSplit : GoodIn wsX10_outermostBlind (wsV RX10 307 RX10 yX10_outermostSplit wsX10_outermostSplit) := goodIn_app (goodIn_of _ (by decide +kernel)) ggX10_outermostBlind_X10_outermostSplit
theorem dX10_outermostBlind_0 : decode cX10_outermostBlind 0 = .ok (.iconst 0, 1) := by decide +kernel
theorem dX10_outermostBlind_1 : decode cX10_outermostBlind 1 = .ok (.istore_n 3, 1) := by decide +kernel
theorem dX10_outermostBlind_2 : decode cX10_outermostBlind 2 = .ok (.iload_n 3, 1) := by decide +kernel
theorem dX10_outermostBlind_3 : decode cX10_outermostBlind 3 = .ok (.iload_n 1, 1) := by decide +kernel
theorem dX10_outermostBlind_4 : decode cX10_outermostBlind 4 = .ok (.if_icmp .gt 16, 3) := by decide +kernel
theorem dX10_outermostBlind_7 : decode cX10_outermostBlind 7 = .ok (.aload_n 0, 1) := by decide +kernel
theorem dX10_outermostBlind_8 : decode cX10_outermostBlind 8 = .ok (.getfield 46, 3) := by decide +kernel
theorem dX10_outermostBlind_11 : decode cX10_outermostBlind 11 = .ok (.iload_n 3, 1) := by decide +kernel
theorem dX10_outermostBlind_12 : decode cX10_outermostBlind 12 = .ok (.iconst 1, 1) := by decide +kernel
theorem dX10_outermostBlind_13 : decode cX10_outermostBlind 13 = .ok (.iastore, 1) := by decide +kernel
theorem dX10_outermostBlind_14 : decode cX10_outermostBlind 14 = .ok (.iinc 3 1, 3) := by decide +kernel
theorem dX10_outermostBlind_17 : decode cX10_outermostBlind 17 = .ok (.goto (-15), 3) := by decide +kernel
theorem dX10_outermostBlind_20 : decode cX10_outermostBlind 20 = .ok (.iconst 1, 1) := by decide +kernel
theorem dX10_outermostBlind_21 : decode cX10_outermostBlind 21 = .ok (.istore_n 3, 1) := by decide +kernel
theorem dX10_outermostBlind_22 : decode cX10_outermostBlind 22 = .ok (.iload_n 3, 1) := by decide +kernel
theorem dX10_outermostBlind_23 : decode cX10_outermostBlind 23 = .ok (.aload_n 0, 1) := by decide +kernel
theorem dX10_outermostBlind_24 : decode cX10_outermostBlind 24 = .ok (.getfield 7, 3) := by decide +kernel
theorem dX10_outermostBlind_27 : decode cX10_outermostBlind 27 = .ok (.if_icmp .gt 56, 3) := by decide +kernel
theorem dX10_outermostBlind_30 : decode cX10_outermostBlind 30 = .ok (.iconst 1, 1) := by decide +kernel
theorem dX10_outermostBlind_31 : decode cX10_outermostBlind 31 = .ok (.iload_n 3, 1) := by decide +kernel
theorem dX10_outermostBlind_32 : decode cX10_outermostBlind 32 = .ok (.iconst 1, 1) := by decide +kernel
theorem dX10_outermostBlind_33 : decode cX10_outermostBlind 33 = .ok (.isub, 1) := by decide +kernel
theorem dX10_outermostBlind_34 : decode cX10_outermostBlind 34 = .ok (.ishl, 1) := by decide +kernel
theorem dX10_outermostBlind_35 : decode cX10_outermostBlind 35 = .ok (.istore 4, 2) := by decide +kernel
theorem dX10_outermostBlind_37 : decode cX10_outermostBlind 37 = .ok (.iload_n 1, 1) := by decide +kernel
theorem dX10_outermostBlind_38 : decode cX10_outermostBlind 38 = .ok (.iconst 2, 1) := by decide +kernel
theorem dX10_outermostBlind_39 : decode cX10_outermostBlind 39 = .ok (.iload 4, 2) := by decide +kernel
theorem dX10_outermostBlind_41 : decode cX10_outermostBlind 41 = .ok (.imul, 1) := by decide +kernel
theorem dX10_outermostBlind_42 : decode cX10_outermostBlind 42 = .ok (.invokestatic 302, 3) := by decide +kernel
theorem dX10_outermostBlind_45 : decode cX10_outermostBlind 45 = .ok (.istore 5, 2) := by decide +kernel
theorem dX10_outermostBlind_47 : decode cX10_outermostBlind 47 = .ok (.iload 5, 2) := by decide +kernel
theorem dX10_outermostBlind_49 : decode cX10_outermostBlind 49 = .ok (.iconst 2, 1) := by decide +kernel
theorem dX10_outermostBlind_50 : decode cX10_outermostBlind 50 = .ok (.if_icmp .lt 27, 3) := by decide +kernel
theorem dX10_outermostBlind_53 : decode cX10_outermostBlind 53 = .ok (.aload_n 0, 1) := by decide +kernel
theorem dX10_outermostBlind_54 : decode cX10_outermostBlind 54 = .ok (.getfield 46, 3) := by decide +kernel
theorem dX10_outermostBlind_57 : decode cX10_outermostBlind 57 = .ok (.iload 5, 2) := by decide +kernel
theorem dX10_outermostBlind_59 : decode cX10_outermostBlind 59 = .ok (.iconst 1, 1) := by decide +kernel
theorem dX10_outermostBlind_60 : decode cX10_outermostBlind 60 = .ok (.aload_n 0, 1) := by decide +kernel
theorem dX10_outermostBlind_61 : decode cX10_outermostBlind 61 = .ok (.iload 5, 2) := by decide +kernel
theorem dX10_outermostBlind_63 : decode cX10_outermostBlind 63 = .ok (.iload 4, 2) := by decide +kernel
theorem dX10_outermostBlind_65 : decode cX10_outermostBlind 65 = .ok (.iload_n 2, 1) := by decide +kernel
theorem dX10_outermostBlind_66 : decode cX10_outermostBlind 66 = .ok (.invokevirtual 307, 3) := by decide +kernel
theorem dX10_outermostBlind_69 : decode cX10_outermostBlind 69 = .ok (.iadd, 1) := by decide +kernel
theorem dX10_outermostBlind_70 : decode cX10_outermostBlind 70 = .ok (.iastore, 1) := by decide +kernel
theorem dX10_outermostBlind_71 : decode cX10_outermostBlind 71 = .ok (.iinc 5 (-1), 3) := by decide +kernel
theorem dX10_outermostBlind_74 : decode cX10_outermostBlind 74 = .ok (.goto (-27), 3) := by decide +kernel
theorem dX10_outermostBlind_77 : decode cX10_outermostBlind 77 = .ok (.iinc 3 1, 3) := by decide +kernel
theorem dX10_outermostBlind_80 : decode cX10_outermostBlind 80 = .ok (.goto (-58), 3) := by decide +kernel
theorem dX10_outermostBlind_83 : decode cX10_outermostBlind 83 = .ok (.aload_n 0, 1) := by decide +kernel
theorem dX10_outermostBlind_84 : decode cX10_outermostBlind 84 = .ok (.getfield 46, 3) := by decide +kernel
theorem dX10_outermostBlind_87 : decode cX10_outermostBlind 87 = .ok (.iload_n 1, 1) := by decide +kernel
theorem dX10_outermostBlind_88 : decode cX10_outermostBlind 88 = .ok (.iaload, 1) := by decide +kernel
theorem dX10_outermostBlind_89 : decode cX10_outermostBlind 89 = .ok (.ireturn, 1) := by decide +kernel
theorem dX10_outermostSplit_0 : decode cX10_outermostSplit 0 = .ok (.iconst (-1), 1) := by decide +kernel
theorem dX10_outermostSplit_1 : decode cX10_outermostSplit 1 = .ok (.istore 4, 2) := by decide +kernel
theorem dX10_outermostSplit_3 : decode cX10_outermostSplit 3 = .ok (.iconst 0, 1) := by decide +kernel
theorem dX10_outermostSplit_4 : decode cX10_outermostSplit 4 = .ok (.iload_n 1, 1) := by decide +kernel
theorem dX10_outermostSplit_5 : decode cX10_outermostSplit 5 = .ok (.iload_n 2, 1) := by decide +kernel
theorem dX10_outermostSplit_6 : decode cX10_outermostSplit 6 = .ok (.isub, 1) := by decide +kernel
theorem dX10_outermostSplit_7 : decode cX10_outermostSplit 7 = .ok (.invokestatic 311, 3) := by decide +kernel
theorem dX10_outermostSplit_10 : decode cX10_outermostSplit 10 = .ok (.istore 5, 2) := by decide +kernel
theorem dX10_outermostSplit_12 : decode cX10_outermostSplit 12 = .ok (.iload 5, 2) := by decide +kernel
theorem dX10_outermostSplit_14 : decode cX10_outermostSplit 14 = .ok (.iload_n 1, 1) := by decide +kernel
theorem dX10_outermostSplit_15 : decode cX10_outermostSplit 15 = .ok (.iload_n 2, 1) := by decide +kernel
theorem dX10_outermostSplit_16 : decode cX10_outermostSplit 16 = .ok (.invokestatic 302, 3) := by decide +kernel
theorem dX10_outermostSplit_19 : decode cX10_outermostSplit 19 = .ok (.if_icmp .gt 58, 3) := by decide +kernel
theorem dX10_outermostSplit_22 : decode cX10_outermostSplit 22 = .ok (.aload_n 0, 1) := by decide +kernel
theorem dX10_outermostSplit_23 : decode cX10_outermostSplit 23 = .ok (.getfield 46, 3) := by decide +kernel
theorem dX10_outermostSplit_26 : decode cX10_outermostSplit 26 = .ok (.iload 5, 2) := by decide +kernel
theorem dX10_outermostSplit_28 : decode cX10_outermostSplit 28 = .ok (.iaload, 1) := by decide +kernel
theorem dX10_outermostSplit_29 : decode cX10_outermostSplit 29 = .ok (.aload_n 0, 1) := by decide +kernel
theorem dX10_outermostSplit_30 : decode cX10_outermostSplit 30 = .ok (.getfield 46, 3) := by decide +kernel
theorem dX10_outermostSplit_33 : decode cX10_outermostSplit 33 = .ok (.iload_n 1, 1) := by decide +kernel
theorem dX10_outermostSplit_34 : decode cX10_outermostSplit 34 = .ok (.iload 5, 2) := by decide +kernel
theorem dX10_outermostSplit_36 : decode cX10_outermostSplit 36 = .ok (.isub, 1) := by decide +kernel
theorem dX10_outermostSplit_37 : decode cX10_outermostSplit 37 = .ok (.iaload, 1) := by decide +kernel
theorem dX10_outermostSplit_38 : decode cX10_outermostSplit 38 = .ok (.iadd, 1) := by decide +kernel
theorem dX10_outermostSplit_39 : decode cX10_outermostSplit 39 = .ok (.istore 6, 2) := by decide +kernel
theorem dX10_outermostSplit_41 : decode cX10_outermostSplit 41 = .ok (.iload 4, 2) := by decide +kernel
theorem dX10_outermostSplit_43 : decode cX10_outermostSplit 43 = .ok (.ifCond .lt 24, 3) := by decide +kernel
theorem dX10_outermostSplit_46 : decode cX10_outermostSplit 46 = .ok (.iload_n 3, 1) := by decide +kernel
theorem dX10_outermostSplit_47 : decode cX10_outermostSplit 47 = .ok (.ifCond .eq 13, 3) := by decide +kernel
theorem dX10_outermostSplit_50 : decode cX10_outermostSplit 50 = .ok (.iload 6, 2) := by decide +kernel
theorem dX10_outermostSplit_52 : decode cX10_outermostSplit 52 = .ok (.iload 4, 2) := by decide +kernel
theorem dX10_outermostSplit_54 : decode cX10_outermostSplit 54 = .ok (.if_icmp .le 17, 3) := by decide +kernel
theorem dX10_outermostSplit_57 : decode cX10_outermostSplit 57 = .ok (.goto 10, 3) := by decide +kernel
theorem dX10_outermostSplit_60 : decode cX10_outermostSplit 60 = .ok (.iload 6, 2) := by decide +kernel
theorem dX10_outermostSplit_62 : decode cX10_outermostSplit 62 = .ok (.iload 4, 2) := by decide +kernel
theorem dX10_outermostSplit_64 : decode cX10_outermostSplit 64 = .ok (.if_icmp .ge 7, 3) := by decide +kernel
theorem dX10_outermostSplit_67 : decode cX10_outermostSplit 67 = .ok (.iload 6, 2) := by decide +kernel
theorem dX10_outermostSplit_69 : decode cX10_outermostSplit 69 = .ok (.istore 4, 2) := by decide +kernel
theorem dX10_outermostSplit_71 : decode cX10_outermostSplit 71 = .ok (.iinc 5 1, 3) := by decide +kernel
theorem dX10_outermostSplit_74 : decode cX10_outermostSplit 74 = .ok (.goto (-62), 3) := by decide +kernel
theorem dX10_outermostSplit_77 : decode cX10_outermostSplit 77 = .ok (.iload 4, 2) := by decide +kernel
theorem dX10_outermostSplit_79 : decode cX10_outermostSplit 79 = .ok (.ireturn, 1) := by decide +kernel
theorem dX10_slotOf_0 : decode cX10_slotOf 0 = .ok (.iload_n 1, 1) := by decide +kernel
theorem dX10_slotOf_1 : decode cX10_slotOf 1 = .ok (.iconst 1, 1) := by decide +kernel
theorem dX10_slotOf_2 : decode cX10_slotOf 2 = .ok (.if_icmp .ge 5, 3) := by decide +kernel
theorem dX10_slotOf_5 : decode cX10_slotOf 5 = .ok (.iconst 0, 1) := by decide +kernel
theorem dX10_slotOf_6 : decode cX10_slotOf 6 = .ok (.ireturn, 1) := by decide +kernel
theorem dX10_slotOf_7 : decode cX10_slotOf 7 = .ok (.iload_n 2, 1) := by decide +kernel
theorem dX10_slotOf_8 : decode cX10_slotOf 8 = .ok (.ldc_w 314, 3) := by decide +kernel
theorem dX10_slotOf_11 : decode cX10_slotOf 11 = .ok (.iload_n 0, 1) := by decide +kernel
theorem dX10_slotOf_12 : decode cX10_slotOf 12 = .ok (.imul, 1) := by decide +kernel
theorem dX10_slotOf_13 : decode cX10_slotOf 13 = .ok (.iadd, 1) := by decide +kernel
theorem dX10_slotOf_14 : decode cX10_slotOf 14 = .ok (.istore_n 3, 1) := by decide +kernel
theorem dX10_slotOf_15 : decode cX10_slotOf 15 = .ok (.iload_n 3, 1) := by decide +kernel
theorem dX10_slotOf_16 : decode cX10_slotOf 16 = .ok (.ldc_w 315, 3) := by decide +kernel
theorem dX10_slotOf_19 : decode cX10_slotOf 19 = .ok (.imul, 1) := by decide +kernel
theorem dX10_slotOf_20 : decode cX10_slotOf 20 = .ok (.sipush 12345, 3) := by decide +kernel
theorem dX10_slotOf_23 : decode cX10_slotOf 23 = .ok (.iadd, 1) := by decide +kernel
theorem dX10_slotOf_24 : decode cX10_slotOf 24 = .ok (.istore_n 3, 1) := by decide +kernel
theorem dX10_slotOf_25 : decode cX10_slotOf 25 = .ok (.iload_n 3, 1) := by decide +kernel
theorem dX10_slotOf_26 : decode cX10_slotOf 26 = .ok (.bipush 16, 2) := by decide +kernel
theorem dX10_slotOf_28 : decode cX10_slotOf 28 = .ok (.iushr, 1) := by decide +kernel
theorem dX10_slotOf_29 : decode cX10_slotOf 29 = .ok (.sipush 32767, 3) := by decide +kernel
theorem dX10_slotOf_32 : decode cX10_slotOf 32 = .ok (.iand, 1) := by decide +kernel
theorem dX10_slotOf_33 : decode cX10_slotOf 33 = .ok (.iload_n 1, 1) := by decide +kernel
theorem dX10_slotOf_34 : decode cX10_slotOf 34 = .ok (.irem, 1) := by decide +kernel
theorem dX10_slotOf_35 : decode cX10_slotOf 35 = .ok (.ireturn, 1) := by decide +kernel
set_option maxRecDepth 20000 in
theorem ggX10_isShow_X10_within : GoodIn wsX10_isShow wsX10_within := goodIn_r _ [4] (by decide +kernel) (by decide +kernel)
set_option maxRecDepth 20000 in
theorem gX10_isShow_X10_within : GoodIn wsX10_isShow (va_wsS RX10 99 yX10_within wsX10_within) := goodIn_app (goodIn_of _ (by decide +kernel)) ggX10_isShow_X10_within
theorem dX10_isShow_0 : decode cX10_isShow 0 = .ok (.iload_n 0, 1) := by decide +kernel
theorem dX10_isShow_1 : decode cX10_isShow 1 = .ok (.iconst 0, 1) := by decide +kernel
theorem dX10_isShow_2 : decode cX10_isShow 2 = .ok (.bipush 8, 2) := by decide +kernel
theorem dX10_isShow_4 : decode cX10_isShow 4 = .ok (.invokestatic 99, 3) := by decide +kernel
theorem dX10_isShow_7 : decode cX10_isShow 7 = .ok (.ifCond .eq 41, 3) := by decide +kernel
theorem dX10_isShow_10 : decode cX10_isShow 10 = .ok (.iload_n 1, 1) := by decide +kernel
theorem dX10_isShow_11 : decode cX10_isShow 11 = .ok (.iconst 0, 1) := by decide +kernel
theorem dX10_isShow_12 : decode cX10_isShow 12 = .ok (.bipush 8, 2) := by decide +kernel
theorem dX10_isShow_14 : decode cX10_isShow 14 = .ok (.invokestatic 99, 3) := by decide +kernel
theorem dX10_isShow_17 : decode cX10_isShow 17 = .ok (.ifCond .eq 31, 3) := by decide +kernel
theorem dX10_isShow_20 : decode cX10_isShow 20 = .ok (.iload_n 2, 1) := by decide +kernel
theorem dX10_isShow_21 : decode cX10_isShow 21 = .ok (.iconst 0, 1) := by decide +kernel
theorem dX10_isShow_22 : decode cX10_isShow 22 = .ok (.bipush 8, 2) := by decide +kernel
theorem dX10_isShow_24 : decode cX10_isShow 24 = .ok (.invokestatic 99, 3) := by decide +kernel
theorem dX10_isShow_27 : decode cX10_isShow 27 = .ok (.ifCond .eq 21, 3) := by decide +kernel
theorem dX10_isShow_30 : decode cX10_isShow 30 = .ok (.iload_n 0, 1) := by decide +kernel
theorem dX10_isShow_31 : decode cX10_isShow 31 = .ok (.iload_n 1, 1) := by decide +kernel
theorem dX10_isShow_32 : decode cX10_isShow 32 = .ok (.iadd, 1) := by decide +kernel
theorem dX10_isShow_33 : decode cX10_isShow 33 = .ok (.iload_n 2, 1) := by decide +kernel
theorem dX10_isShow_34 : decode cX10_isShow 34 = .ok (.iadd, 1) := by decide +kernel
theorem dX10_isShow_35 : decode cX10_isShow 35 = .ok (.iconst 1, 1) := by decide +kernel
theorem dX10_isShow_36 : decode cX10_isShow 36 = .ok (.bipush 8, 2) := by decide +kernel
theorem dX10_isShow_38 : decode cX10_isShow 38 = .ok (.invokestatic 99, 3) := by decide +kernel
theorem dX10_isShow_41 : decode cX10_isShow 41 = .ok (.ifCond .eq 7, 3) := by decide +kernel
theorem dX10_isShow_44 : decode cX10_isShow 44 = .ok (.iconst 1, 1) := by decide +kernel
theorem dX10_isShow_45 : decode cX10_isShow 45 = .ok (.goto 4, 3) := by decide +kernel
theorem dX10_isShow_48 : decode cX10_isShow 48 = .ok (.iconst 0, 1) := by decide +kernel
theorem dX10_isShow_49 : decode cX10_isShow 49 = .ok (.ireturn, 1) := by decide +kernel
theorem dX10_power_0 : decode cX10_power 0 = .ok (.lconst 1, 1) := by decide +kernel
theorem dX10_power_1 : decode cX10_power 1 = .ok (.lstore_n 3, 1) := by decide +kernel
theorem dX10_power_2 : decode cX10_power 2 = .ok (.iconst 0, 1) := by decide +kernel
theorem dX10_power_3 : decode cX10_power 3 = .ok (.istore 5, 2) := by decide +kernel
theorem dX10_power_5 : decode cX10_power 5 = .ok (.iload 5, 2) := by decide +kernel
theorem dX10_power_7 : decode cX10_power 7 = .ok (.iload_n 2, 1) := by decide +kernel
theorem dX10_power_8 : decode cX10_power 8 = .ok (.if_icmp .ge 13, 3) := by decide +kernel
theorem dX10_power_11 : decode cX10_power 11 = .ok (.lload_n 3, 1) := by decide +kernel
theorem dX10_power_12 : decode cX10_power 12 = .ok (.lload_n 0, 1) := by decide +kernel
theorem dX10_power_13 : decode cX10_power 13 = .ok (.lmul, 1) := by decide +kernel
theorem dX10_power_14 : decode cX10_power 14 = .ok (.lstore_n 3, 1) := by decide +kernel
theorem dX10_power_15 : decode cX10_power 15 = .ok (.iinc 5 1, 3) := by decide +kernel
theorem dX10_power_18 : decode cX10_power 18 = .ok (.goto (-13), 3) := by decide +kernel
theorem dX10_power_21 : decode cX10_power 21 = .ok (.lload_n 3, 1) := by decide +kernel
theorem dX10_power_22 : decode cX10_power 22 = .ok (.lreturn, 1) := by decide +kernel
set_option maxRecDepth 20000 in
theorem ggX10_partOfFraction_X10_greatestCommonDivisor : GoodIn wsX10_partOfFraction wsX10_greatestCommonDivisor := goodIn_r _ [4] (by decide +kernel) (by decide +kernel)
set_option maxRecDepth 20000 in
theorem gX10_partOfFraction_X10_greatestCommonDivisor : GoodIn wsX10_partOfFraction (va_wsS RX10 316 yX10_greatestCommonDivisor wsX10_greatestCommonDivisor) := goodIn_app (goodIn_of _ (by decide +kernel)) ggX10_partOfFraction_X10_greatestCommonDivisor
theorem dX10_partOfFraction_0 : decode cX10_partOfFraction 0 = .ok (.lload_n 0, 1) := by decide +kernel
theorem dX10_partOfFraction_1 : decode cX10_partOfFraction 1 = .ok (.lload_n 2, 1) := by decide +kernel
theorem dX10_partOfFraction_2 : decode cX10_partOfFraction 2 = .ok (.invokestatic 316, 3) := by decide +kernel
theorem dX10_partOfFraction_5 : decode cX10_partOfFraction 5 = .ok (.lstore 5, 2) := by decide +kernel
theorem dX10_partOfFraction_7 : decode cX10_partOfFraction 7 = .ok (.lload 5, 2) := by decide +kernel
theorem dX10_partOfFraction_9 : decode cX10_partOfFraction 9 = .ok (.lconst 1, 1) := by decide +kernel
theorem dX10_partOfFraction_10 : decode cX10_partOfFraction 10 = .ok (.lcmp, 1) := by decide +kernel
theorem dX10_partOfFraction_11 : decode cX10_partOfFraction 11 = .ok (.ifCond .ge 5, 3) := by decide +kernel
theorem dX10_partOfFraction_14 : decode cX10_partOfFraction 14 = .ok (.lconst 0, 1) := by decide +kernel
theorem dX10_partOfFraction_15 : decode cX10_partOfFraction 15 = .ok (.lreturn, 1) := by decide +kernel
theorem dX10_partOfFraction_16 : decode cX10_partOfFraction 16 = .ok (.iload 4, 2) := by decide +kernel
theorem dX10_partOfFraction_18 : decode cX10_partOfFraction 18 = .ok (.ifCond .ne 7, 3) := by decide +kernel
theorem dX10_partOfFraction_21 : decode cX10_partOfFraction 21 = .ok (.lload_n 0, 1) := by decide +kernel
theorem dX10_partOfFraction_22 : decode cX10_partOfFraction 22 = .ok (.goto 4, 3) := by decide +kernel
theorem dX10_partOfFraction_25 : decode cX10_partOfFraction 25 = .ok (.lload_n 2, 1) := by decide +kernel
theorem dX10_partOfFraction_26 : decode cX10_partOfFraction 26 = .ok (.lload 5, 2) := by decide +kernel
theorem dX10_partOfFraction_28 : decode cX10_partOfFraction 28 = .ok (.ldiv, 1) := by decide +kernel
theorem dX10_partOfFraction_29 : decode cX10_partOfFraction 29 = .ok (.lreturn, 1) := by decide +kernel
theorem dX10_greatestCommonDivisor_0 : decode cX10_greatestCommonDivisor 0 = .ok (.lload_n 0, 1) := by decide +kernel
theorem dX10_greatestCommonDivisor_1 : decode cX10_greatestCommonDivisor 1 = .ok (.lstore 4, 2) := by decide +kernel
theorem dX10_greatestCommonDivisor_3 : decode cX10_greatestCommonDivisor 3 = .ok (.lload_n 2, 1) := by decide +kernel
theorem dX10_greatestCommonDivisor_4 : decode cX10_greatestCommonDivisor 4 = .ok (.lstore 6, 2) := by decide +kernel
theorem dX10_greatestCommonDivisor_6 : decode cX10_greatestCommonDivisor 6 = .ok (.iconst 0, 1) := by decide +kernel
theorem dX10_greatestCommonDivisor_7 : decode cX10_greatestCommonDivisor 7 = .ok (.istore 8, 2) := by decide +kernel
theorem dX10_greatestCommonDivisor_9 : decode cX10_greatestCommonDivisor 9 = .ok (.iload 8, 2) := by decide +kernel
theorem dX10_greatestCommonDivisor_11 : decode cX10_greatestCommonDivisor 11 = .ok (.bipush 100, 2) := by decide +kernel
theorem dX10_greatestCommonDivisor_13 : decode cX10_greatestCommonDivisor 13 = .ok (.if_icmp .ge 31, 3) := by decide +kernel
theorem dX10_greatestCommonDivisor_16 : decode cX10_greatestCommonDivisor 16 = .ok (.lload 6, 2) := by decide +kernel
theorem dX10_greatestCommonDivisor_18 : decode cX10_greatestCommonDivisor 18 = .ok (.lconst 0, 1) := by decide +kernel
theorem dX10_greatestCommonDivisor_19 : decode cX10_greatestCommonDivisor 19 = .ok (.lcmp, 1) := by decide +kernel
theorem dX10_greatestCommonDivisor_20 : decode cX10_greatestCommonDivisor 20 = .ok (.ifCond .eq 24, 3) := by decide +kernel
theorem dX10_greatestCommonDivisor_23 : decode cX10_greatestCommonDivisor 23 = .ok (.lload 4, 2) := by decide +kernel
theorem dX10_greatestCommonDivisor_25 : decode cX10_greatestCommonDivisor 25 = .ok (.lload 6, 2) := by decide +kernel
theorem dX10_greatestCommonDivisor_27 : decode cX10_greatestCommonDivisor 27 = .ok (.lrem, 1) := by decide +kernel
theorem dX10_greatestCommonDivisor_28 : decode cX10_greatestCommonDivisor 28 = .ok (.lstore 9, 2) := by decide +kernel
theorem dX10_greatestCommonDivisor_30 : decode cX10_greatestCommonDivisor 30 = .ok (.lload 6, 2) := by decide +kernel
theorem dX10_greatestCommonDivisor_32 : decode cX10_greatestCommonDivisor 32 = .ok (.lstore 4, 2) := by decide +kernel
theorem dX10_greatestCommonDivisor_34 : decode cX10_greatestCommonDivisor 34 = .ok (.lload 9, 2) := by decide +kernel
theorem dX10_greatestCommonDivisor_36 : decode cX10_greatestCommonDivisor 36 = .ok (.lstore 6, 2) := by decide +kernel
theorem dX10_greatestCommonDivisor_38 : decode cX10_greatestCommonDivisor 38 = .ok (.iinc 8 1, 3) := by decide +kernel
theorem dX10_greatestCommonDivisor_41 : decode cX10_greatestCommonDivisor 41 = .ok (.goto (-32), 3) := by decide +kernel
theorem dX10_greatestCommonDivisor_44 : decode cX10_greatestCommonDivisor 44 = .ok (.lload 4, 2) := by decide +kernel
theorem dX10_greatestCommonDivisor_46 : decode cX10_greatestCommonDivisor 46 = .ok (.lreturn, 1) := by decide +kernel
set_option maxRecDepth 20000 in
theorem ggX11_init_X11_firstDraft : GoodIn wsX11_init wsX11_firstDraft := goodIn_r _ [39, 24, 23, 44, 45, 46, 47, 48, 49, 50, 51, 52, 53, 54, 55, 56, 57, 58, 59, 60, 61, 62, 63, 64, 65, 66, 67, 68, 69, 70, 71, 72, 73, 74, 75, 76, 77, 78, 79, 80, 81, 82, 83, 84, 85, 86, 87, 88, 89, 90, 91] (by decide +kernel) (by decide +kernel)
set_option maxRecDepth 20000 in
theorem gX11_init_X11_firstDraft : GoodIn wsX11_init (wsV RX11 97 RX11 yX11_firstDraft wsX11_firstDraft) := goodIn_app (goodIn_of _ (by decide +kernel)) ggX11_init_X11_firstDraft
set_option maxRecDepth 20000 in
theorem ggX11_init_X11_keepDraft : GoodIn wsX11_init wsX11_keepDraft := goodIn_r _ [43, 22, 23, 44, 45, 46, 47, 48, 49, 50, 51, 52, 53, 54, 55, 56, 57, 58, 59, 60, 61, 62, 63, 64, 65, 66, 67, 68, 69, 70, 71, 72, 73, 74, 75, 76, 77, 78, 79, 80, 81, 82, 83, 84, 85, 86, 87, 88, 89, 90, 91] (by decide +kernel) (by decide +kernel)
set_option maxRecDepth 20000 in
theorem gX11_init_X11_keepDraft : GoodIn wsX11_init (wsV RX11 100 RX11 yX11_keepDraft wsX11_keepDraft) := goodIn_app (goodIn_of _ (by decide +kernel)) ggX11_init_X11_keepDraft
theorem dX11_init_0 : decode cX11_init 0 = .ok (.aload_n 0, 1) := by decide +kernel
theorem dX11_init_1 : decode cX11_init 1 = .ok (.invokespecial 1, 3) := by decide +kernel
theorem dX11_init_4 : decode cX11_init 4 = .ok (.aload_n 0, 1) := by decide +kernel
theorem dX11_init_5 : decode cX11_init 5 = .ok (.bipush 6, 2) := by decide +kernel
theorem dX11_init_7 : decode cX11_init 7 = .ok (.putfield 7, 3) := by decide +kernel
theorem dX11_init_10 : decode cX11_init 10 = .ok (.aload_n 0, 1) := by decide +kernel
theorem dX11_init_11 : decode cX11_init 11 = .ok (.bipush 16, 2) := by decide +kernel
theorem dX11_init_13 : decode cX11_init 13 = .ok (.newarray .int, 2) := by decide +kernel
theorem dX11_init_15 : decode cX11_init 15 = .ok (.putfield 13, 3) := by decide +kernel
theorem dX11_init_18 : decode cX11_init 18 = .ok (.aload_n 0, 1) := by decide +kernel
theorem dX11_init_19 : decode cX11_init 19 = .ok (.bipush 16, 2) := by decide +kernel
theorem dX11_init_21 : decode cX11_init 21 = .ok (.newarray .int, 2) := by decide +kernel
theorem dX11_init_23 : decode cX11_init 23 = .ok (.putfield 17, 3) := by decide +kernel
theorem dX11_init_26 : decode cX11_init 26 = .ok (.aload_n 0, 1) := by decide +kernel
theorem dX11_init_27 : decode cX11_init 27 = .ok (.bipush 16, 2) := by decide +kernel
theorem dX11_init_29 : decode cX11_init 29 = .ok (.newarray .boolean, 2) := by decide +kernel
theorem dX11_init_31 : decode cX11_init 31 = .ok (.putfield 20, 3) := by decide +kernel
theorem dX11_init_34 : decode cX11_init 34 = .ok (.aload_n 0, 1) := by decide +kernel
theorem dX11_init_35 : decode cX11_init 35 = .ok (.iconst (-1), 1) := by decide +kernel
theorem dX11_init_36 : decode cX11_init 36 = .ok (.putfield 24, 3) := by decide +kernel
theorem dX11_init_39 : decode cX11_init 39 = .ok (.aload_n 0, 1) := by decide +kernel
theorem dX11_init_40 : decode cX11_init 40 = .ok (.bipush 64, 2) := by decide +kernel
theorem dX11_init_42 : decode cX11_init 42 = .ok (.newarray .int, 2) := by decide +kernel
theorem dX11_init_44 : decode cX11_init 44 = .ok (.putfield 27, 3) := by decide +kernel
theorem dX11_init_47 : decode cX11_init 47 = .ok (.aload_n 0, 1) := by decide +kernel
theorem dX11_init_48 : decode cX11_init 48 = .ok (.bipush 64, 2) := by decide +kernel
theorem dX11_init_50 : decode cX11_init 50 = .ok (.newarray .int, 2) := by decide +kernel
theorem dX11_init_52 : decode cX11_init 52 = .ok (.putfield 30, 3) := by decide +kernel
theorem dX11_init_55 : decode cX11_init 55 = .ok (.aload_n 0, 1) := by decide +kernel
theorem dX11_init_56 : decode cX11_init 56 = .ok (.iconst 5, 1) := by decide +kernel
theorem dX11_init_57 : decode cX11_init 57 = .ok (.newarray .int, 2) := by decide +kernel
theorem dX11_init_59 : decode cX11_init 59 = .ok (.putfield 33, 3) := by decide +kernel
theorem dX11_init_62 : decode cX11_init 62 = .ok (.aload_n 0, 1) := by decide +kernel
theorem dX11_init_63 : decode cX11_init 63 = .ok (.bipush 32, 2) := by decide +kernel
theorem dX11_init_65 : decode cX11_init 65 = .ok (.newarray .int, 2) := by decide +kernel
theorem dX11_init_67 : decode cX11_init 67 = .ok (.putfield 36, 3) := by decide +kernel
theorem dX11_init_70 : decode cX11_init 70 = .ok (.aload_n 0, 1) := by decide +kernel
theorem dX11_init_71 : decode cX11_init 71 = .ok (.bipush 32, 2) := by decide +kernel
theorem dX11_init_73 : decode cX11_init 73 = .ok (.newarray .int, 2) := by decide +kernel
theorem dX11_init_75 : decode cX11_init 75 = .ok (.putfield 39, 3) := by decide +kernel
theorem dX11_init_78 : decode cX11_init 78 = .ok (.aload_n 0, 1) := by decide +kernel
theorem dX11_init_79 : decode cX11_init 79 = .ok (.iconst 5, 1) := by decide +kernel
theorem dX11_init_80 : decode cX11_init 80 = .ok (.newarray .int, 2) := by decide +kernel
theorem dX11_init_82 : decode cX11_init 82 = .ok (.putfield 42, 3) := by decide +kernel
theorem dX11_init_85 : decode cX11_init 85 = .ok (.aload_n 0, 1) := by decide +kernel
theorem dX11_init_86 : decode cX11_init 86 = .ok (.bipush 64, 2) := by decide +kernel
theorem dX11_init_88 : decode cX11_init 88 = .ok (.newarray .int, 2) := by decide +kernel
theorem dX11_init_90 : decode cX11_init 90 = .ok (.putfield 45, 3) := by decide +kernel
theorem dX11_init_93 : decode cX11_init 93 = .ok (.aload_n 0, 1) := by decide +kernel
theorem dX11_init_94 : decode cX11_init 94 = .ok (.bipush 64, 2) := by decide +kernel
theorem dX11_init_96 : decode cX11_init 96 = .ok (.newarray .int, 2) := by decide +kernel
theorem dX11_init_98 : decode cX11_init 98 = .ok (.putfield 48, 3) := by decide +kernel
theorem dX11_init_101 : decode cX11_init 101 = .ok (.aload_n 0, 1) := by decide +kernel
theorem dX11_init_102 : decode cX11_init 102 = .ok (.bipush 16, 2) := by decide +kernel
theorem dX11_init_104 : decode cX11_init 104 = .ok (.newarray .boolean, 2) := by decide +kernel
theorem dX11_init_106 : decode cX11_init 106 = .ok (.putfield 51, 3) := by decide +kernel
theorem dX11_init_109 : decode cX11_init 109 = .ok (.aload_n 0, 1) := by decide +kernel
theorem dX11_init_110 : decode cX11_init 110 = .ok (.bipush 64, 2) := by decide +kernel
theorem dX11_init_112 : decode cX11_init 112 = .ok (.newarray .int, 2) := by decide +kernel
theorem dX11_init_114 : decode cX11_init 114 = .ok (.putfield 54, 3) := by decide +kernel
theorem dX11_init_117 : decode cX11_init 117 = .ok (.aload_n 0, 1) := by decide +kernel
theorem dX11_init_118 : decode cX11_init 118 = .ok (.bipush 85, 2) := by decide +kernel
theorem dX11_init_120 : decode cX11_init 120 = .ok (.newarray .int, 2) := by decide +kernel
theorem dX11_init_122 : decode cX11_init 122 = .ok (.putfield 57, 3) := by decide +kernel
theorem dX11_init_125 : decode cX11_init 125 = .ok (.aload_n 0, 1) := by decide +kernel
theorem dX11_init_126 : decode cX11_init 126 = .ok (.bipush 9, 2) := by decide +kernel
theorem dX11_init_128 : decode cX11_init 128 = .ok (.newarray .int, 2) := by decide +kernel
theorem dX11_init_130 : decode cX11_init 130 = .ok (.putfield 60, 3) := by decide +kernel
theorem dX11_init_133 : decode cX11_init 133 = .ok (.aload_n 0, 1) := by decide +kernel
theorem dX11_init_134 : decode cX11_init 134 = .ok (.bipush 9, 2) := by decide +kernel
theorem dX11_init_136 : decode cX11_init 136 = .ok (.newarray .int, 2) := by decide +kernel
theorem dX11_init_138 : decode cX11_init 138 = .ok (.putfield 63, 3) := by decide +kernel
theorem dX11_init_141 : decode cX11_init 141 = .ok (.aload_n 0, 1) := by decide +kernel
theorem dX11_init_142 : decode cX11_init 142 = .ok (.bipush 9, 2) := by decide +kernel
theorem dX11_init_144 : decode cX11_init 144 = .ok (.newarray .boolean, 2) := by decide +kernel
theorem dX11_init_146 : decode cX11_init 146 = .ok (.putfield 66, 3) := by decide +kernel
theorem dX11_init_149 : decode cX11_init 149 = .ok (.aload_n 0, 1) := by decide +kernel
theorem dX11_init_150 : decode cX11_init 150 = .ok (.sipush 200, 3) := by decide +kernel
theorem dX11_init_153 : decode cX11_init 153 = .ok (.newarray .int, 2) := by decide +kernel
theorem dX11_init_155 : decode cX11_init 155 = .ok (.putfield 69, 3) := by decide +kernel
theorem dX11_init_158 : decode cX11_init 158 = .ok (.aload_n 0, 1) := by decide +kernel
theorem dX11_init_159 : decode cX11_init 159 = .ok (.iconst 5, 1) := by decide +kernel
theorem dX11_init_160 : decode cX11_init 160 = .ok (.newarray .int, 2) := by decide +kernel
theorem dX11_init_162 : decode cX11_init 162 = .ok (.putfield 72, 3) := by decide +kernel
theorem dX11_init_165 : decode cX11_init 165 = .ok (.aload_n 0, 1) := by decide +kernel
theorem dX11_init_166 : decode cX11_init 166 = .ok (.iconst 4, 1) := by decide +kernel
theorem dX11_init_167 : decode cX11_init 167 = .ok (.newarray .int, 2) := by decide +kernel
theorem dX11_init_169 : decode cX11_init 169 = .ok (.putfield 75, 3) := by decide +kernel
theorem dX11_init_172 : decode cX11_init 172 = .ok (.aload_n 0, 1) := by decide +kernel
theorem dX11_init_173 : decode cX11_init 173 = .ok (.sipush 289, 3) := by decide +kernel
theorem dX11_init_176 : decode cX11_init 176 = .ok (.newarray .long, 2) := by decide +kernel
theorem dX11_init_178 : decode cX11_init 178 = .ok (.putfield 78, 3) := by decide +kernel
theorem dX11_init_181 : decode cX11_init 181 = .ok (.aload_n 0, 1) := by decide +kernel
theorem dX11_init_182 : decode cX11_init 182 = .ok (.sipush 221, 3) := by decide +kernel
theorem dX11_init_185 : decode cX11_init 185 = .ok (.newarray .long, 2) := by decide +kernel
theorem dX11_init_187 : decode cX11_init 187 = .ok (.putfield 82, 3) := by decide +kernel
theorem dX11_init_190 : decode cX11_init 190 = .ok (.aload_n 0, 1) := by decide +kernel
theorem dX11_init_191 : decode cX11_init 191 = .ok (.bipush 16, 2) := by decide +kernel
theorem dX11_init_193 : decode cX11_init 193 = .ok (.newarray .int, 2) := by decide +kernel
theorem dX11_init_195 : decode cX11_init 195 = .ok (.putfield 85, 3) := by decide +kernel
theorem dX11_init_198 : decode cX11_init 198 = .ok (.aload_n 0, 1) := by decide +kernel
theorem dX11_init_199 : decode cX11_init 199 = .ok (.iconst 4, 1) := by decide +kernel
theorem dX11_init_200 : decode cX11_init 200 = .ok (.newarray .int, 2) := by decide +kernel
theorem dX11_init_202 : decode cX11_init 202 = .ok (.putfield 88, 3) := by decide +kernel
theorem dX11_init_205 : decode cX11_init 205 = .ok (.aload_n 0, 1) := by decide +kernel
theorem dX11_init_206 : decode cX11_init 206 = .ok (.iconst 4, 1) := by decide +kernel
theorem dX11_init_207 : decode cX11_init 207 = .ok (.newarray .int, 2) := by decide +kernel
theorem dX11_init_209 : decode cX11_init 209 = .ok (.putfield 91, 3) := by decide +kernel
theorem dX11_init_212 : decode cX11_init 212 = .ok (.aload_n 0, 1) := by decide +kernel
theorem dX11_init_213 : decode cX11_init 213 = .ok (.sipush 160, 3) := by decide +kernel
theorem dX11_init_216 : decode cX11_init 216 = .ok (.newarray .int, 2) := by decide +kernel
theorem dX11_init_218 : decode cX11_init 218 = .ok (.putfield 94, 3) := by decide +kernel
theorem dX11_init_221 : decode cX11_init 221 = .ok (.iconst 0, 1) := by decide +kernel
theorem dX11_init_222 : decode cX11_init 222 = .ok (.istore_n 1, 1) := by decide +kernel
theorem dX11_init_223 : decode cX11_init 223 = .ok (.iload_n 1, 1) := by decide +kernel
theorem dX11_init_224 : decode cX11_init 224 = .ok (.iconst 4, 1) := by decide +kernel
theorem dX11_init_225 : decode cX11_init 225 = .ok (.if_icmp .ge 17, 3) := by decide +kernel
theorem dX11_init_228 : decode cX11_init 228 = .ok (.aload_n 0, 1) := by decide +kernel
theorem dX11_init_229 : decode cX11_init 229 = .ok (.getfield 88, 3) := by decide +kernel
theorem dX11_init_232 : decode cX11_init 232 = .ok (.iload_n 1, 1) := by decide +kernel
theorem dX11_init_233 : decode cX11_init 233 = .ok (.bipush (-4), 2) := by decide +kernel
theorem dX11_init_235 : decode cX11_init 235 = .ok (.iastore, 1) := by decide +kernel
theorem dX11_init_236 : decode cX11_init 236 = .ok (.iinc 1 1, 3) := by decide +kernel
theorem dX11_init_239 : decode cX11_init 239 = .ok (.goto (-16), 3) := by decide +kernel
theorem dX11_init_242 : decode cX11_init 242 = .ok (.aload_n 0, 1) := by decide +kernel
theorem dX11_init_243 : decode cX11_init 243 = .ok (.invokevirtual 97, 3) := by decide +kernel
theorem dX11_init_246 : decode cX11_init 246 = .ok (.aload_n 0, 1) := by decide +kernel
theorem dX11_init_247 : decode cX11_init 247 = .ok (.invokevirtual 100, 3) := by decide +kernel
theorem dX11_init_250 : decode cX11_init 250 = .ok (.iconst 0, 1) := by decide +kernel
theorem dX11_init_251 : decode cX11_init 251 = .ok (.istore_n 1, 1) := by decide +kernel
theorem dX11_init_252 : decode cX11_init 252 = .ok (.iload_n 1, 1) := by decide +kernel
theorem dX11_init_253 : decode cX11_init 253 = .ok (.bipush 17, 2) := by decide +kernel
theorem dX11_init_255 : decode cX11_init 255 = .ok (.if_icmp .ge 81, 3) := by decide +kernel
theorem dX11_init_258 : decode cX11_init 258 = .ok (.aload_n 0, 1) := by decide +kernel
theorem dX11_init_259 : decode cX11_init 259 = .ok (.getfield 78, 3) := by decide +kernel
theorem dX11_init_262 : decode cX11_init 262 = .ok (.bipush 17, 2) := by decide +kernel
theorem dX11_init_264 : decode cX11_init 264 = .ok (.iload_n 1, 1) := by decide +kernel
theorem dX11_init_265 : decode cX11_init 265 = .ok (.imul, 1) := by decide +kernel
theorem dX11_init_266 : decode cX11_init 266 = .ok (.lconst 1, 1) := by decide +kernel
theorem dX11_init_267 : decode cX11_init 267 = .ok (.lastore, 1) := by decide +kernel
theorem dX11_init_268 : decode cX11_init 268 = .ok (.iconst 1, 1) := by decide +kernel
theorem dX11_init_269 : decode cX11_init 269 = .ok (.istore_n 2, 1) := by decide +kernel
theorem dX11_init_270 : decode cX11_init 270 = .ok (.iload_n 2, 1) := by decide +kernel
theorem dX11_init_271 : decode cX11_init 271 = .ok (.iload_n 1, 1) := by decide +kernel
theorem dX11_init_272 : decode cX11_init 272 = .ok (.if_icmp .gt 58, 3) := by decide +kernel
theorem dX11_init_275 : decode cX11_init 275 = .ok (.aload_n 0, 1) := by decide +kernel
theorem dX11_init_276 : decode cX11_init 276 = .ok (.getfield 78, 3) := by decide +kernel
theorem dX11_init_279 : decode cX11_init 279 = .ok (.bipush 17, 2) := by decide +kernel
theorem dX11_init_281 : decode cX11_init 281 = .ok (.iload_n 1, 1) := by decide +kernel
theorem dX11_init_282 : decode cX11_init 282 = .ok (.imul, 1) := by decide +kernel
theorem dX11_init_283 : decode cX11_init 283 = .ok (.iload_n 2, 1) := by decide +kernel
theorem dX11_init_284 : decode cX11_init 284 = .ok (.iadd, 1) := by decide +kernel
theorem dX11_init_285 : decode cX11_init 285 = .ok (.aload_n 0, 1) := by decide +kernel
theorem dX11_init_286 : decode cX11_init 286 = .ok (.getfield 78, 3) := by decide +kernel
theorem dX11_init_289 : decode cX11_init 289 = .ok (.bipush 17, 2) := by decide +kernel
theorem dX11_init_291 : decode cX11_init 291 = .ok (.iload_n 1, 1) := by decide +kernel
theorem dX11_init_292 : decode cX11_init 292 = .ok (.iconst 1, 1) := by decide +kernel
theorem dX11_init_293 : decode cX11_init 293 = .ok (.isub, 1) := by decide +kernel
theorem dX11_init_294 : decode cX11_init 294 = .ok (.imul, 1) := by decide +kernel
theorem dX11_init_295 : decode cX11_init 295 = .ok (.iload_n 2, 1) := by decide +kernel
theorem dX11_init_296 : decode cX11_init 296 = .ok (.iadd, 1) := by decide +kernel
theorem dX11_init_297 : decode cX11_init 297 = .ok (.iconst 1, 1) := by decide +kernel
theorem dX11_init_298 : decode cX11_init 298 = .ok (.isub, 1) := by decide +kernel
theorem dX11_init_299 : decode cX11_init 299 = .ok (.laload, 1) := by decide +kernel
theorem dX11_init_300 : decode cX11_init 300 = .ok (.iload_n 2, 1) := by decide +kernel
theorem dX11_init_301 : decode cX11_init 301 = .ok (.iload_n 1, 1) := by decide +kernel
theorem dX11_init_302 : decode cX11_init 302 = .ok (.if_icmp .ge 19, 3) := by decide +kernel
theorem dX11_init_305 : decode cX11_init 305 = .ok (.aload_n 0, 1) := by decide +kernel
theorem dX11_init_306 : decode cX11_init 306 = .ok (.getfield 78, 3) := by decide +kernel
theorem dX11_init_309 : decode cX11_init 309 = .ok (.bipush 17, 2) := by decide +kernel
theorem dX11_init_311 : decode cX11_init 311 = .ok (.iload_n 1, 1) := by decide +kernel
theorem dX11_init_312 : decode cX11_init 312 = .ok (.iconst 1, 1) := by decide +kernel
theorem dX11_init_313 : decode cX11_init 313 = .ok (.isub, 1) := by decide +kernel
theorem dX11_init_314 : decode cX11_init 314 = .ok (.imul, 1) := by decide +kernel
theorem dX11_init_315 : decode cX11_init 315 = .ok (.iload_n 2, 1) := by decide +kernel
theorem dX11_init_316 : decode cX11_init 316 = .ok (.iadd, 1) := by decide +kernel
theorem dX11_init_317 : decode cX11_init 317 = .ok (.laload, 1) := by decide +kernel
theorem dX11_init_318 : decode cX11_init 318 = .ok (.goto 4, 3) := by decide +kernel
theorem dX11_init_321 : decode cX11_init 321 = .ok (.lconst 0, 1) := by decide +kernel
theorem dX11_init_322 : decode cX11_init 322 = .ok (.ladd, 1) := by decide +kernel
theorem dX11_init_323 : decode cX11_init 323 = .ok (.lastore, 1) := by decide +kernel
theorem dX11_init_324 : decode cX11_init 324 = .ok (.iinc 2 1, 3) := by decide +kernel
theorem dX11_init_327 : decode cX11_init 327 = .ok (.goto (-57), 3) := by decide +kernel
theorem dX11_init_330 : decode cX11_init 330 = .ok (.iinc 1 1, 3) := by decide +kernel
theorem dX11_init_333 : decode cX11_init 333 = .ok (.goto (-81), 3) := by decide +kernel
