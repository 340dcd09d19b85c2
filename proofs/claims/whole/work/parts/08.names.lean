theorem dX11_init_336 : decode cX11_init 336 = .ok (.return_, 1) := by decide +kernel
theorem dX11_in_0 : decode cX11_in 0 = .ok (.lload_n 0, 1) := by decide +kernel
theorem dX11_in_1 : decode cX11_in 1 = .ok (.lload_n 2, 1) := by decide +kernel
theorem dX11_in_2 : decode cX11_in 2 = .ok (.lcmp, 1) := by decide +kernel
theorem dX11_in_3 : decode cX11_in 3 = .ok (.ifCond .lt 14, 3) := by decide +kernel
theorem dX11_in_6 : decode cX11_in 6 = .ok (.lload_n 0, 1) := by decide +kernel
theorem dX11_in_7 : decode cX11_in 7 = .ok (.lload 4, 2) := by decide +kernel
theorem dX11_in_9 : decode cX11_in 9 = .ok (.lcmp, 1) := by decide +kernel
theorem dX11_in_10 : decode cX11_in 10 = .ok (.ifCond .gt 7, 3) := by decide +kernel
theorem dX11_in_13 : decode cX11_in 13 = .ok (.iconst 1, 1) := by decide +kernel
theorem dX11_in_14 : decode cX11_in 14 = .ok (.goto 4, 3) := by decide +kernel
theorem dX11_in_17 : decode cX11_in 17 = .ok (.iconst 0, 1) := by decide +kernel
theorem dX11_in_18 : decode cX11_in 18 = .ok (.ireturn, 1) := by decide +kernel
theorem dX11_flag_0 : decode cX11_flag 0 = .ok (.iload_n 0, 1) := by decide +kernel
theorem dX11_flag_1 : decode cX11_flag 1 = .ok (.ifCond .eq 7, 3) := by decide +kernel
theorem dX11_flag_4 : decode cX11_flag 4 = .ok (.iconst 1, 1) := by decide +kernel
theorem dX11_flag_5 : decode cX11_flag 5 = .ok (.goto 4, 3) := by decide +kernel
theorem dX11_flag_8 : decode cX11_flag 8 = .ok (.iconst 0, 1) := by decide +kernel
theorem dX11_flag_9 : decode cX11_flag 9 = .ok (.ireturn, 1) := by decide +kernel
set_option maxRecDepth 20000 in
theorem ggX11_isNumber_X11_in : GoodIn wsX11_isNumber wsX11_in := goodIn_r _ [5] (by decide +kernel) (by decide +kernel)
set_option maxRecDepth 20000 in
theorem gX11_isNumber_X11_in : GoodIn wsX11_isNumber (va_wsS RX11 103 yX11_in wsX11_in) := goodIn_app (goodIn_of _ (by decide +kernel)) ggX11_isNumber_X11_in
theorem dX11_isNumber_0 : decode cX11_isNumber 0 = .ok (.iload_n 1, 1) := by decide +kernel
theorem dX11_isNumber_1 : decode cX11_isNumber 1 = .ok (.i2l, 1) := by decide +kernel
theorem dX11_isNumber_2 : decode cX11_isNumber 2 = .ok (.lconst 0, 1) := by decide +kernel
theorem dX11_isNumber_3 : decode cX11_isNumber 3 = .ok (.iconst 1, 1) := by decide +kernel
theorem dX11_isNumber_4 : decode cX11_isNumber 4 = .ok (.aload_n 0, 1) := by decide +kernel
theorem dX11_isNumber_5 : decode cX11_isNumber 5 = .ok (.getfield 7, 3) := by decide +kernel
theorem dX11_isNumber_8 : decode cX11_isNumber 8 = .ok (.ishl, 1) := by decide +kernel
theorem dX11_isNumber_9 : decode cX11_isNumber 9 = .ok (.iconst 1, 1) := by decide +kernel
theorem dX11_isNumber_10 : decode cX11_isNumber 10 = .ok (.isub, 1) := by decide +kernel
theorem dX11_isNumber_11 : decode cX11_isNumber 11 = .ok (.i2l, 1) := by decide +kernel
theorem dX11_isNumber_12 : decode cX11_isNumber 12 = .ok (.invokestatic 103, 3) := by decide +kernel
theorem dX11_isNumber_15 : decode cX11_isNumber 15 = .ok (.ireturn, 1) := by decide +kernel
set_option maxRecDepth 20000 in
theorem ggX11_isTag_X11_in : GoodIn wsX11_isTag wsX11_in := goodIn_r _ [5] (by decide +kernel) (by decide +kernel)
set_option maxRecDepth 20000 in
theorem gX11_isTag_X11_in : GoodIn wsX11_isTag (va_wsS RX11 103 yX11_in wsX11_in) := goodIn_app (goodIn_of _ (by decide +kernel)) ggX11_isTag_X11_in
theorem dX11_isTag_0 : decode cX11_isTag 0 = .ok (.iload_n 1, 1) := by decide +kernel
theorem dX11_isTag_1 : decode cX11_isTag 1 = .ok (.i2l, 1) := by decide +kernel
theorem dX11_isTag_2 : decode cX11_isTag 2 = .ok (.lconst 0, 1) := by decide +kernel
theorem dX11_isTag_3 : decode cX11_isTag 3 = .ok (.aload_n 0, 1) := by decide +kernel
theorem dX11_isTag_4 : decode cX11_isTag 4 = .ok (.getfield 107, 3) := by decide +kernel
theorem dX11_isTag_7 : decode cX11_isTag 7 = .ok (.iconst 1, 1) := by decide +kernel
theorem dX11_isTag_8 : decode cX11_isTag 8 = .ok (.isub, 1) := by decide +kernel
theorem dX11_isTag_9 : decode cX11_isTag 9 = .ok (.i2l, 1) := by decide +kernel
theorem dX11_isTag_10 : decode cX11_isTag 10 = .ok (.invokestatic 103, 3) := by decide +kernel
theorem dX11_isTag_13 : decode cX11_isTag 13 = .ok (.ireturn, 1) := by decide +kernel
set_option maxRecDepth 20000 in
theorem ggX11_bits_X11_in : GoodIn wsX11_bits wsX11_in := goodIn_r _ [12] (by decide +kernel) (by decide +kernel)
set_option maxRecDepth 20000 in
theorem gX11_bits_X11_in : GoodIn wsX11_bits (va_wsS RX11 103 yX11_in wsX11_in) := goodIn_app (goodIn_of _ (by decide +kernel)) ggX11_bits_X11_in
theorem dX11_bits_0 : decode cX11_bits 0 = .ok (.iload_n 1, 1) := by decide +kernel
theorem dX11_bits_1 : decode cX11_bits 1 = .ok (.i2l, 1) := by decide +kernel
theorem dX11_bits_2 : decode cX11_bits 2 = .ok (.ldc2_w 110, 3) := by decide +kernel
theorem dX11_bits_5 : decode cX11_bits 5 = .ok (.ldc2_w 112, 3) := by decide +kernel
theorem dX11_bits_8 : decode cX11_bits 8 = .ok (.invokestatic 103, 3) := by decide +kernel
theorem dX11_bits_11 : decode cX11_bits 11 = .ok (.ifCond .ne 5, 3) := by decide +kernel
theorem dX11_bits_14 : decode cX11_bits 14 = .ok (.iconst (-1), 1) := by decide +kernel
theorem dX11_bits_15 : decode cX11_bits 15 = .ok (.ireturn, 1) := by decide +kernel
theorem dX11_bits_16 : decode cX11_bits 16 = .ok (.aload_n 0, 1) := by decide +kernel
theorem dX11_bits_17 : decode cX11_bits 17 = .ok (.getfield 7, 3) := by decide +kernel
theorem dX11_bits_20 : decode cX11_bits 20 = .ok (.istore_n 2, 1) := by decide +kernel
theorem dX11_bits_21 : decode cX11_bits 21 = .ok (.aload_n 0, 1) := by decide +kernel
theorem dX11_bits_22 : decode cX11_bits 22 = .ok (.iload_n 1, 1) := by decide +kernel
theorem dX11_bits_23 : decode cX11_bits 23 = .ok (.putfield 7, 3) := by decide +kernel
theorem dX11_bits_26 : decode cX11_bits 26 = .ok (.aload_n 0, 1) := by decide +kernel
theorem dX11_bits_27 : decode cX11_bits 27 = .ok (.iconst 0, 1) := by decide +kernel
theorem dX11_bits_28 : decode cX11_bits 28 = .ok (.putfield 107, 3) := by decide +kernel
theorem dX11_bits_31 : decode cX11_bits 31 = .ok (.aload_n 0, 1) := by decide +kernel
theorem dX11_bits_32 : decode cX11_bits 32 = .ok (.iconst 0, 1) := by decide +kernel
theorem dX11_bits_33 : decode cX11_bits 33 = .ok (.putfield 114, 3) := by decide +kernel
theorem dX11_bits_36 : decode cX11_bits 36 = .ok (.aload_n 0, 1) := by decide +kernel
theorem dX11_bits_37 : decode cX11_bits 37 = .ok (.iconst (-1), 1) := by decide +kernel
theorem dX11_bits_38 : decode cX11_bits 38 = .ok (.putfield 24, 3) := by decide +kernel
theorem dX11_bits_41 : decode cX11_bits 41 = .ok (.aload_n 0, 1) := by decide +kernel
theorem dX11_bits_42 : decode cX11_bits 42 = .ok (.iconst 0, 1) := by decide +kernel
theorem dX11_bits_43 : decode cX11_bits 43 = .ok (.putfield 117, 3) := by decide +kernel
theorem dX11_bits_46 : decode cX11_bits 46 = .ok (.aload_n 0, 1) := by decide +kernel
theorem dX11_bits_47 : decode cX11_bits 47 = .ok (.iconst 0, 1) := by decide +kernel
theorem dX11_bits_48 : decode cX11_bits 48 = .ok (.putfield 121, 3) := by decide +kernel
theorem dX11_bits_51 : decode cX11_bits 51 = .ok (.iload_n 2, 1) := by decide +kernel
theorem dX11_bits_52 : decode cX11_bits 52 = .ok (.ireturn, 1) := by decide +kernel
theorem dX11_isThere_0 : decode cX11_isThere 0 = .ok (.iconst 0, 1) := by decide +kernel
theorem dX11_isThere_1 : decode cX11_isThere 1 = .ok (.istore_n 2, 1) := by decide +kernel
theorem dX11_isThere_2 : decode cX11_isThere 2 = .ok (.iconst 0, 1) := by decide +kernel
theorem dX11_isThere_3 : decode cX11_isThere 3 = .ok (.istore_n 3, 1) := by decide +kernel
theorem dX11_isThere_4 : decode cX11_isThere 4 = .ok (.iload_n 3, 1) := by decide +kernel
theorem dX11_isThere_5 : decode cX11_isThere 5 = .ok (.aload_n 0, 1) := by decide +kernel
theorem dX11_isThere_6 : decode cX11_isThere 6 = .ok (.getfield 107, 3) := by decide +kernel
theorem dX11_isThere_9 : decode cX11_isThere 9 = .ok (.if_icmp .ge 29, 3) := by decide +kernel
theorem dX11_isThere_12 : decode cX11_isThere 12 = .ok (.iload_n 2, 1) := by decide +kernel
theorem dX11_isThere_13 : decode cX11_isThere 13 = .ok (.ifCond .ne 13, 3) := by decide +kernel
theorem dX11_isThere_16 : decode cX11_isThere 16 = .ok (.aload_n 0, 1) := by decide +kernel
theorem dX11_isThere_17 : decode cX11_isThere 17 = .ok (.getfield 13, 3) := by decide +kernel
theorem dX11_isThere_20 : decode cX11_isThere 20 = .ok (.iload_n 3, 1) := by decide +kernel
theorem dX11_isThere_21 : decode cX11_isThere 21 = .ok (.iaload, 1) := by decide +kernel
theorem dX11_isThere_22 : decode cX11_isThere 22 = .ok (.iload_n 1, 1) := by decide +kernel
theorem dX11_isThere_23 : decode cX11_isThere 23 = .ok (.if_icmp .ne 7, 3) := by decide +kernel
theorem dX11_isThere_26 : decode cX11_isThere 26 = .ok (.iconst 1, 1) := by decide +kernel
theorem dX11_isThere_27 : decode cX11_isThere 27 = .ok (.goto 4, 3) := by decide +kernel
theorem dX11_isThere_30 : decode cX11_isThere 30 = .ok (.iconst 0, 1) := by decide +kernel
theorem dX11_isThere_31 : decode cX11_isThere 31 = .ok (.istore_n 2, 1) := by decide +kernel
theorem dX11_isThere_32 : decode cX11_isThere 32 = .ok (.iinc 3 1, 3) := by decide +kernel
theorem dX11_isThere_35 : decode cX11_isThere 35 = .ok (.goto (-31), 3) := by decide +kernel
theorem dX11_isThere_38 : decode cX11_isThere 38 = .ok (.iload_n 2, 1) := by decide +kernel
theorem dX11_isThere_39 : decode cX11_isThere 39 = .ok (.ireturn, 1) := by decide +kernel
theorem dX11_adds_0 : decode cX11_adds 0 = .ok (.aload_n 0, 1) := by decide +kernel
theorem dX11_adds_1 : decode cX11_adds 1 = .ok (.getfield 13, 3) := by decide +kernel
theorem dX11_adds_4 : decode cX11_adds 4 = .ok (.aload_n 0, 1) := by decide +kernel
theorem dX11_adds_5 : decode cX11_adds 5 = .ok (.getfield 107, 3) := by decide +kernel
theorem dX11_adds_8 : decode cX11_adds 8 = .ok (.iload_n 1, 1) := by decide +kernel
theorem dX11_adds_9 : decode cX11_adds 9 = .ok (.iastore, 1) := by decide +kernel
theorem dX11_adds_10 : decode cX11_adds 10 = .ok (.aload_n 0, 1) := by decide +kernel
theorem dX11_adds_11 : decode cX11_adds 11 = .ok (.getfield 17, 3) := by decide +kernel
theorem dX11_adds_14 : decode cX11_adds 14 = .ok (.aload_n 0, 1) := by decide +kernel
theorem dX11_adds_15 : decode cX11_adds 15 = .ok (.getfield 107, 3) := by decide +kernel
theorem dX11_adds_18 : decode cX11_adds 18 = .ok (.iload_n 2, 1) := by decide +kernel
theorem dX11_adds_19 : decode cX11_adds 19 = .ok (.iastore, 1) := by decide +kernel
theorem dX11_adds_20 : decode cX11_adds 20 = .ok (.aload_n 0, 1) := by decide +kernel
theorem dX11_adds_21 : decode cX11_adds 21 = .ok (.getfield 20, 3) := by decide +kernel
theorem dX11_adds_24 : decode cX11_adds 24 = .ok (.aload_n 0, 1) := by decide +kernel
theorem dX11_adds_25 : decode cX11_adds 25 = .ok (.getfield 107, 3) := by decide +kernel
theorem dX11_adds_28 : decode cX11_adds 28 = .ok (.iconst 0, 1) := by decide +kernel
theorem dX11_adds_29 : decode cX11_adds 29 = .ok (.bastore, 1) := by decide +kernel
theorem dX11_adds_30 : decode cX11_adds 30 = .ok (.aload_n 0, 1) := by decide +kernel
theorem dX11_adds_31 : decode cX11_adds 31 = .ok (.dup, 1) := by decide +kernel
theorem dX11_adds_32 : decode cX11_adds 32 = .ok (.getfield 107, 3) := by decide +kernel
theorem dX11_adds_35 : decode cX11_adds 35 = .ok (.iconst 1, 1) := by decide +kernel
theorem dX11_adds_36 : decode cX11_adds 36 = .ok (.iadd, 1) := by decide +kernel
theorem dX11_adds_37 : decode cX11_adds 37 = .ok (.putfield 107, 3) := by decide +kernel
theorem dX11_adds_40 : decode cX11_adds 40 = .ok (.return_, 1) := by decide +kernel
set_option maxRecDepth 20000 in
theorem ggX11_tag_X11_isNumber : GoodIn wsX11_tag wsX11_isNumber := goodIn_r _ [7, 8, 9, 10, 6, 11, 23, 24, 25, 26, 27, 28, 29, 30, 31, 32, 33, 34, 35, 36, 37, 38, 39, 40, 41, 42, 43, 44, 45, 46, 47, 48, 49, 50, 51, 52, 53, 54, 55, 56, 57, 58, 59, 60, 61, 62, 63, 64, 65, 66, 67, 68, 69, 70] (by decide +kernel) (by decide +kernel)
set_option maxRecDepth 20000 in
theorem gX11_tag_X11_isNumber : GoodIn wsX11_tag (wsV RX11 124 RX11 yX11_isNumber wsX11_isNumber) := goodIn_app (goodIn_of _ (by decide +kernel)) ggX11_tag_X11_isNumber
set_option maxRecDepth 20000 in
theorem ggX11_tag_X11_isThere : GoodIn wsX11_tag wsX11_isThere := goodIn_r _ [15, 2, 16, 23, 24, 25, 26, 27, 28, 29, 30, 31, 32, 33, 34, 35, 36, 37, 38, 39, 40, 41, 42, 43, 44, 45, 46, 47, 48, 49, 50, 51, 52, 53, 54, 55, 56, 57, 58, 59, 60, 61, 62, 63, 64, 65, 66, 67, 68, 69, 70] (by decide +kernel) (by decide +kernel)
set_option maxRecDepth 20000 in
theorem gX11_tag_X11_isThere : GoodIn wsX11_tag (wsV RX11 128 RX11 yX11_isThere wsX11_isThere) := goodIn_app (goodIn_of _ (by decide +kernel)) ggX11_tag_X11_isThere
set_option maxRecDepth 20000 in
theorem ggX11_tag_X11_in : GoodIn wsX11_tag wsX11_in := goodIn_r _ [11] (by decide +kernel) (by decide +kernel)
set_option maxRecDepth 20000 in
theorem gX11_tag_X11_in : GoodIn wsX11_tag (va_wsS RX11 103 yX11_in wsX11_in) := goodIn_app (goodIn_of _ (by decide +kernel)) ggX11_tag_X11_in
set_option maxRecDepth 20000 in
theorem ggX11_tag_X11_adds : GoodIn wsX11_tag wsX11_adds := goodIn_r _ [20, 16, 2, 21, 22, 23, 24, 25, 26, 27, 28, 29, 30, 31, 32, 33, 34, 35, 36, 37, 38, 39, 40, 41, 42, 43, 44, 45, 46, 47, 48, 49, 50, 51, 52, 53, 54, 55, 56, 57, 58, 59, 60, 61, 62, 63, 64, 65, 66, 67, 68, 69, 70] (by decide +kernel) (by decide +kernel)
set_option maxRecDepth 20000 in
theorem gX11_tag_X11_adds : GoodIn wsX11_tag (wsV RX11 133 RX11 yX11_adds wsX11_adds) := goodIn_app (goodIn_of _ (by decide +kernel)) ggX11_tag_X11_adds
theorem dX11_tag_0 : decode cX11_tag 0 = .ok (.aload_n 0, 1) := by decide +kernel
theorem dX11_tag_1 : decode cX11_tag 1 = .ok (.iload_n 1, 1) := by decide +kernel
theorem dX11_tag_2 : decode cX11_tag 2 = .ok (.invokevirtual 124, 3) := by decide +kernel
theorem dX11_tag_5 : decode cX11_tag 5 = .ok (.ifCond .eq 23, 3) := by decide +kernel
theorem dX11_tag_8 : decode cX11_tag 8 = .ok (.aload_n 0, 1) := by decide +kernel
theorem dX11_tag_9 : decode cX11_tag 9 = .ok (.iload_n 1, 1) := by decide +kernel
theorem dX11_tag_10 : decode cX11_tag 10 = .ok (.invokevirtual 128, 3) := by decide +kernel
theorem dX11_tag_13 : decode cX11_tag 13 = .ok (.ifCond .ne 15, 3) := by decide +kernel
theorem dX11_tag_16 : decode cX11_tag 16 = .ok (.iload_n 2, 1) := by decide +kernel
theorem dX11_tag_17 : decode cX11_tag 17 = .ok (.i2l, 1) := by decide +kernel
theorem dX11_tag_18 : decode cX11_tag 18 = .ok (.lconst 1, 1) := by decide +kernel
theorem dX11_tag_19 : decode cX11_tag 19 = .ok (.ldc2_w 131, 3) := by decide +kernel
theorem dX11_tag_22 : decode cX11_tag 22 = .ok (.invokestatic 103, 3) := by decide +kernel
theorem dX11_tag_25 : decode cX11_tag 25 = .ok (.ifCond .ne 5, 3) := by decide +kernel
theorem dX11_tag_28 : decode cX11_tag 28 = .ok (.iconst (-1), 1) := by decide +kernel
theorem dX11_tag_29 : decode cX11_tag 29 = .ok (.ireturn, 1) := by decide +kernel
theorem dX11_tag_30 : decode cX11_tag 30 = .ok (.aload_n 0, 1) := by decide +kernel
theorem dX11_tag_31 : decode cX11_tag 31 = .ok (.getfield 107, 3) := by decide +kernel
theorem dX11_tag_34 : decode cX11_tag 34 = .ok (.bipush 16, 2) := by decide +kernel
theorem dX11_tag_36 : decode cX11_tag 36 = .ok (.if_icmp .ne 6, 3) := by decide +kernel
theorem dX11_tag_39 : decode cX11_tag 39 = .ok (.bipush (-3), 2) := by decide +kernel
theorem dX11_tag_41 : decode cX11_tag 41 = .ok (.ireturn, 1) := by decide +kernel
theorem dX11_tag_42 : decode cX11_tag 42 = .ok (.aload_n 0, 1) := by decide +kernel
theorem dX11_tag_43 : decode cX11_tag 43 = .ok (.iload_n 1, 1) := by decide +kernel
theorem dX11_tag_44 : decode cX11_tag 44 = .ok (.iload_n 2, 1) := by decide +kernel
theorem dX11_tag_45 : decode cX11_tag 45 = .ok (.invokevirtual 133, 3) := by decide +kernel
theorem dX11_tag_48 : decode cX11_tag 48 = .ok (.aload_n 0, 1) := by decide +kernel
theorem dX11_tag_49 : decode cX11_tag 49 = .ok (.getfield 107, 3) := by decide +kernel
theorem dX11_tag_52 : decode cX11_tag 52 = .ok (.iconst 1, 1) := by decide +kernel
theorem dX11_tag_53 : decode cX11_tag 53 = .ok (.isub, 1) := by decide +kernel
theorem dX11_tag_54 : decode cX11_tag 54 = .ok (.ireturn, 1) := by decide +kernel
set_option maxRecDepth 20000 in
theorem ggX11_of_X11_isTag : GoodIn wsX11_of wsX11_isTag := goodIn_r _ [9, 10, 11, 12, 8, 13, 17, 18, 19, 20, 21, 22, 23, 24, 25, 26, 27, 28, 29, 30, 31, 32, 33, 34, 35, 36, 37, 38, 39, 40, 41, 42, 43, 44, 45, 46, 47, 48, 49, 50, 51, 52, 53, 54, 55, 56, 57, 58, 59, 60, 61, 62, 63, 64] (by decide +kernel) (by decide +kernel)
set_option maxRecDepth 20000 in
theorem gX11_of_X11_isTag : GoodIn wsX11_of (wsV RX11 137 RX11 yX11_isTag wsX11_isTag) := goodIn_app (goodIn_of _ (by decide +kernel)) ggX11_of_X11_isTag
set_option maxRecDepth 20000 in
theorem ggX11_of_X11_in : GoodIn wsX11_of wsX11_in := goodIn_r _ [13] (by decide +kernel) (by decide +kernel)
set_option maxRecDepth 20000 in
theorem gX11_of_X11_in : GoodIn wsX11_of (va_wsS RX11 103 yX11_in wsX11_in) := goodIn_app (goodIn_of _ (by decide +kernel)) ggX11_of_X11_in
set_option maxRecDepth 20000 in
theorem ggX11_of_X11_flag : GoodIn wsX11_of wsX11_flag := goodIn_r _ [16] (by decide +kernel) (by decide +kernel)
set_option maxRecDepth 20000 in
theorem gX11_of_X11_flag : GoodIn wsX11_of (va_wsS RX11 140 yX11_flag wsX11_flag) := goodIn_app (goodIn_of _ (by decide +kernel)) ggX11_of_X11_flag
theorem dX11_of_0 : decode cX11_of 0 = .ok (.aload_n 0, 1) := by decide +kernel
theorem dX11_of_1 : decode cX11_of 1 = .ok (.iload_n 1, 1) := by decide +kernel
theorem dX11_of_2 : decode cX11_of 2 = .ok (.invokevirtual 137, 3) := by decide +kernel
theorem dX11_of_5 : decode cX11_of 5 = .ok (.ifCond .eq 15, 3) := by decide +kernel
theorem dX11_of_8 : decode cX11_of 8 = .ok (.iload_n 2, 1) := by decide +kernel
theorem dX11_of_9 : decode cX11_of 9 = .ok (.i2l, 1) := by decide +kernel
theorem dX11_of_10 : decode cX11_of 10 = .ok (.lconst 0, 1) := by decide +kernel
theorem dX11_of_11 : decode cX11_of 11 = .ok (.ldc2_w 110, 3) := by decide +kernel
theorem dX11_of_14 : decode cX11_of 14 = .ok (.invokestatic 103, 3) := by decide +kernel
theorem dX11_of_17 : decode cX11_of 17 = .ok (.ifCond .ne 5, 3) := by decide +kernel
theorem dX11_of_20 : decode cX11_of 20 = .ok (.iconst (-1), 1) := by decide +kernel
theorem dX11_of_21 : decode cX11_of 21 = .ok (.ireturn, 1) := by decide +kernel
theorem dX11_of_22 : decode cX11_of 22 = .ok (.iload_n 2, 1) := by decide +kernel
theorem dX11_of_23 : decode cX11_of 23 = .ok (.ifCond .ne 12, 3) := by decide +kernel
theorem dX11_of_26 : decode cX11_of 26 = .ok (.aload_n 0, 1) := by decide +kernel
theorem dX11_of_27 : decode cX11_of 27 = .ok (.getfield 13, 3) := by decide +kernel
theorem dX11_of_30 : decode cX11_of 30 = .ok (.iload_n 1, 1) := by decide +kernel
theorem dX11_of_31 : decode cX11_of 31 = .ok (.iaload, 1) := by decide +kernel
theorem dX11_of_32 : decode cX11_of 32 = .ok (.goto 26, 3) := by decide +kernel
theorem dX11_of_35 : decode cX11_of 35 = .ok (.iload_n 2, 1) := by decide +kernel
theorem dX11_of_36 : decode cX11_of 36 = .ok (.iconst 1, 1) := by decide +kernel
theorem dX11_of_37 : decode cX11_of 37 = .ok (.if_icmp .ne 12, 3) := by decide +kernel
theorem dX11_of_40 : decode cX11_of 40 = .ok (.aload_n 0, 1) := by decide +kernel
theorem dX11_of_41 : decode cX11_of 41 = .ok (.getfield 17, 3) := by decide +kernel
theorem dX11_of_44 : decode cX11_of 44 = .ok (.iload_n 1, 1) := by decide +kernel
theorem dX11_of_45 : decode cX11_of 45 = .ok (.iaload, 1) := by decide +kernel
theorem dX11_of_46 : decode cX11_of 46 = .ok (.goto 12, 3) := by decide +kernel
theorem dX11_of_49 : decode cX11_of 49 = .ok (.aload_n 0, 1) := by decide +kernel
theorem dX11_of_50 : decode cX11_of 50 = .ok (.getfield 20, 3) := by decide +kernel
theorem dX11_of_53 : decode cX11_of 53 = .ok (.iload_n 1, 1) := by decide +kernel
theorem dX11_of_54 : decode cX11_of 54 = .ok (.baload, 1) := by decide +kernel
theorem dX11_of_55 : decode cX11_of 55 = .ok (.invokestatic 140, 3) := by decide +kernel
theorem dX11_of_58 : decode cX11_of 58 = .ok (.ireturn, 1) := by decide +kernel
set_option maxRecDepth 20000 in
theorem ggX11_hush_X11_isTag : GoodIn wsX11_hush wsX11_isTag := goodIn_r _ [6, 7, 8, 9, 5, 10, 14, 15, 16, 17, 18, 19, 20, 21, 22, 23, 24, 25, 26, 27, 28, 29, 30, 31, 32, 33, 34, 35, 36, 37, 38, 39, 40, 41, 42, 43, 44, 45, 46, 47, 48, 49, 50, 51, 52, 53, 54, 55, 56, 57, 58, 59, 60, 61] (by decide +kernel) (by decide +kernel)
set_option maxRecDepth 20000 in
theorem gX11_hush_X11_isTag : GoodIn wsX11_hush (wsV RX11 137 RX11 yX11_isTag wsX11_isTag) := goodIn_app (goodIn_of _ (by decide +kernel)) ggX11_hush_X11_isTag
set_option maxRecDepth 20000 in
theorem ggX11_hush_X11_flag : GoodIn wsX11_hush wsX11_flag := goodIn_r _ [13] (by decide +kernel) (by decide +kernel)
set_option maxRecDepth 20000 in
theorem gX11_hush_X11_flag : GoodIn wsX11_hush (va_wsS RX11 140 yX11_flag wsX11_flag) := goodIn_app (goodIn_of _ (by decide +kernel)) ggX11_hush_X11_flag
theorem dX11_hush_0 : decode cX11_hush 0 = .ok (.aload_n 0, 1) := by decide +kernel
theorem dX11_hush_1 : decode cX11_hush 1 = .ok (.iload_n 1, 1) := by decide +kernel
theorem dX11_hush_2 : decode cX11_hush 2 = .ok (.invokevirtual 137, 3) := by decide +kernel
theorem dX11_hush_5 : decode cX11_hush 5 = .ok (.ifCond .ne 5, 3) := by decide +kernel
theorem dX11_hush_8 : decode cX11_hush 8 = .ok (.iconst (-1), 1) := by decide +kernel
theorem dX11_hush_9 : decode cX11_hush 9 = .ok (.ireturn, 1) := by decide +kernel
theorem dX11_hush_10 : decode cX11_hush 10 = .ok (.aload_n 0, 1) := by decide +kernel
theorem dX11_hush_11 : decode cX11_hush 11 = .ok (.getfield 20, 3) := by decide +kernel
theorem dX11_hush_14 : decode cX11_hush 14 = .ok (.iload_n 1, 1) := by decide +kernel
theorem dX11_hush_15 : decode cX11_hush 15 = .ok (.baload, 1) := by decide +kernel
theorem dX11_hush_16 : decode cX11_hush 16 = .ok (.invokestatic 140, 3) := by decide +kernel
theorem dX11_hush_19 : decode cX11_hush 19 = .ok (.istore_n 3, 1) := by decide +kernel
theorem dX11_hush_20 : decode cX11_hush 20 = .ok (.aload_n 0, 1) := by decide +kernel
theorem dX11_hush_21 : decode cX11_hush 21 = .ok (.getfield 20, 3) := by decide +kernel
theorem dX11_hush_24 : decode cX11_hush 24 = .ok (.iload_n 1, 1) := by decide +kernel
theorem dX11_hush_25 : decode cX11_hush 25 = .ok (.iload_n 2, 1) := by decide +kernel
theorem dX11_hush_26 : decode cX11_hush 26 = .ok (.bastore, 1) := by decide +kernel
theorem dX11_hush_27 : decode cX11_hush 27 = .ok (.iload_n 3, 1) := by decide +kernel
theorem dX11_hush_28 : decode cX11_hush 28 = .ok (.ireturn, 1) := by decide +kernel
set_option maxRecDepth 20000 in
theorem ggX11_silentNow_X11_flag : GoodIn wsX11_silentNow wsX11_flag := goodIn_r _ [6] (by decide +kernel) (by decide +kernel)
set_option maxRecDepth 20000 in
theorem gX11_silentNow_X11_flag : GoodIn wsX11_silentNow (va_wsS RX11 140 yX11_flag wsX11_flag) := goodIn_app (goodIn_of _ (by decide +kernel)) ggX11_silentNow_X11_flag
theorem dX11_silentNow_0 : decode cX11_silentNow 0 = .ok (.iconst 0, 1) := by decide +kernel
theorem dX11_silentNow_1 : decode cX11_silentNow 1 = .ok (.istore_n 1, 1) := by decide +kernel
theorem dX11_silentNow_2 : decode cX11_silentNow 2 = .ok (.iconst 0, 1) := by decide +kernel
theorem dX11_silentNow_3 : decode cX11_silentNow 3 = .ok (.istore_n 2, 1) := by decide +kernel
theorem dX11_silentNow_4 : decode cX11_silentNow 4 = .ok (.iload_n 2, 1) := by decide +kernel
theorem dX11_silentNow_5 : decode cX11_silentNow 5 = .ok (.aload_n 0, 1) := by decide +kernel
theorem dX11_silentNow_6 : decode cX11_silentNow 6 = .ok (.getfield 107, 3) := by decide +kernel
theorem dX11_silentNow_9 : decode cX11_silentNow 9 = .ok (.if_icmp .ge 21, 3) := by decide +kernel
theorem dX11_silentNow_12 : decode cX11_silentNow 12 = .ok (.iload_n 1, 1) := by decide +kernel
theorem dX11_silentNow_13 : decode cX11_silentNow 13 = .ok (.aload_n 0, 1) := by decide +kernel
theorem dX11_silentNow_14 : decode cX11_silentNow 14 = .ok (.getfield 20, 3) := by decide +kernel
theorem dX11_silentNow_17 : decode cX11_silentNow 17 = .ok (.iload_n 2, 1) := by decide +kernel
theorem dX11_silentNow_18 : decode cX11_silentNow 18 = .ok (.baload, 1) := by decide +kernel
theorem dX11_silentNow_19 : decode cX11_silentNow 19 = .ok (.invokestatic 140, 3) := by decide +kernel
theorem dX11_silentNow_22 : decode cX11_silentNow 22 = .ok (.iadd, 1) := by decide +kernel
theorem dX11_silentNow_23 : decode cX11_silentNow 23 = .ok (.istore_n 1, 1) := by decide +kernel
theorem dX11_silentNow_24 : decode cX11_silentNow 24 = .ok (.iinc 2 1, 3) := by decide +kernel
theorem dX11_silentNow_27 : decode cX11_silentNow 27 = .ok (.goto (-23), 3) := by decide +kernel
theorem dX11_silentNow_30 : decode cX11_silentNow 30 = .ok (.iload_n 1, 1) := by decide +kernel
theorem dX11_silentNow_31 : decode cX11_silentNow 31 = .ok (.ireturn, 1) := by decide +kernel
set_option maxRecDepth 20000 in
theorem ggX11_wake_X11_silentNow : GoodIn wsX11_wake wsX11_silentNow := goodIn_r _ [7, 1, 2, 8, 9, 6, 10, 11, 12, 13, 14, 15, 16, 17, 18, 19, 20, 21, 22, 23, 24, 25, 26, 27, 28, 29, 30, 31, 32, 33, 34, 35, 36, 37, 38, 39, 40, 41, 42, 43, 44, 45, 46, 47, 48, 49, 50, 51, 52, 53, 54, 55, 56, 57, 58] (by decide +kernel) (by decide +kernel)
set_option maxRecDepth 20000 in
theorem gX11_wake_X11_silentNow : GoodIn wsX11_wake (wsV RX11 144 RX11 yX11_silentNow wsX11_silentNow) := goodIn_app (goodIn_of _ (by decide +kernel)) ggX11_wake_X11_silentNow
theorem dX11_wake_0 : decode cX11_wake 0 = .ok (.aload_n 0, 1) := by decide +kernel
theorem dX11_wake_1 : decode cX11_wake 1 = .ok (.invokevirtual 144, 3) := by decide +kernel
theorem dX11_wake_4 : decode cX11_wake 4 = .ok (.istore_n 1, 1) := by decide +kernel
theorem dX11_wake_5 : decode cX11_wake 5 = .ok (.iconst 0, 1) := by decide +kernel
theorem dX11_wake_6 : decode cX11_wake 6 = .ok (.istore_n 2, 1) := by decide +kernel
theorem dX11_wake_7 : decode cX11_wake 7 = .ok (.iload_n 2, 1) := by decide +kernel
theorem dX11_wake_8 : decode cX11_wake 8 = .ok (.aload_n 0, 1) := by decide +kernel
theorem dX11_wake_9 : decode cX11_wake 9 = .ok (.getfield 107, 3) := by decide +kernel
theorem dX11_wake_12 : decode cX11_wake 12 = .ok (.if_icmp .ge 16, 3) := by decide +kernel
theorem dX11_wake_15 : decode cX11_wake 15 = .ok (.aload_n 0, 1) := by decide +kernel
theorem dX11_wake_16 : decode cX11_wake 16 = .ok (.getfield 20, 3) := by decide +kernel
theorem dX11_wake_19 : decode cX11_wake 19 = .ok (.iload_n 2, 1) := by decide +kernel
theorem dX11_wake_20 : decode cX11_wake 20 = .ok (.iconst 0, 1) := by decide +kernel
theorem dX11_wake_21 : decode cX11_wake 21 = .ok (.bastore, 1) := by decide +kernel
theorem dX11_wake_22 : decode cX11_wake 22 = .ok (.iinc 2 1, 3) := by decide +kernel
theorem dX11_wake_25 : decode cX11_wake 25 = .ok (.goto (-18), 3) := by decide +kernel
theorem dX11_wake_28 : decode cX11_wake 28 = .ok (.iload_n 1, 1) := by decide +kernel
theorem dX11_wake_29 : decode cX11_wake 29 = .ok (.ireturn, 1) := by decide +kernel
set_option maxRecDepth 20000 in
theorem ggX11_block_X11_in : GoodIn wsX11_block wsX11_in := goodIn_r _ [8] (by decide +kernel) (by decide +kernel)
set_option maxRecDepth 20000 in
theorem gX11_block_X11_in : GoodIn wsX11_block (va_wsS RX11 103 yX11_in wsX11_in) := goodIn_app (goodIn_of _ (by decide +kernel)) ggX11_block_X11_in
theorem dX11_block_0 : decode cX11_block 0 = .ok (.iload_n 2, 1) := by decide +kernel
theorem dX11_block_1 : decode cX11_block 1 = .ok (.i2l, 1) := by decide +kernel
theorem dX11_block_2 : decode cX11_block 2 = .ok (.ldc2_w 148, 3) := by decide +kernel
theorem dX11_block_5 : decode cX11_block 5 = .ok (.aload_n 0, 1) := by decide +kernel
theorem dX11_block_6 : decode cX11_block 6 = .ok (.getfield 7, 3) := by decide +kernel
theorem dX11_block_9 : decode cX11_block 9 = .ok (.i2l, 1) := by decide +kernel
theorem dX11_block_10 : decode cX11_block 10 = .ok (.invokestatic 103, 3) := by decide +kernel
theorem dX11_block_13 : decode cX11_block 13 = .ok (.ifCond .ne 5, 3) := by decide +kernel
theorem dX11_block_16 : decode cX11_block 16 = .ok (.iconst (-1), 1) := by decide +kernel
theorem dX11_block_17 : decode cX11_block 17 = .ok (.ireturn, 1) := by decide +kernel
theorem dX11_block_18 : decode cX11_block 18 = .ok (.aload_n 0, 1) := by decide +kernel
theorem dX11_block_19 : decode cX11_block 19 = .ok (.iload_n 2, 1) := by decide +kernel
theorem dX11_block_20 : decode cX11_block 20 = .ok (.putfield 24, 3) := by decide +kernel
theorem dX11_block_23 : decode cX11_block 23 = .ok (.aload_n 0, 1) := by decide +kernel
theorem dX11_block_24 : decode cX11_block 24 = .ok (.iload_n 2, 1) := by decide +kernel
theorem dX11_block_25 : decode cX11_block 25 = .ok (.ifCond .le 13, 3) := by decide +kernel
theorem dX11_block_28 : decode cX11_block 28 = .ok (.iload_n 1, 1) := by decide +kernel
theorem dX11_block_29 : decode cX11_block 29 = .ok (.iconst 1, 1) := by decide +kernel
theorem dX11_block_30 : decode cX11_block 30 = .ok (.iload_n 2, 1) := by decide +kernel
theorem dX11_block_31 : decode cX11_block 31 = .ok (.ishl, 1) := by decide +kernel
theorem dX11_block_32 : decode cX11_block 32 = .ok (.iconst 1, 1) := by decide +kernel
theorem dX11_block_33 : decode cX11_block 33 = .ok (.isub, 1) := by decide +kernel
theorem dX11_block_34 : decode cX11_block 34 = .ok (.iand, 1) := by decide +kernel
theorem dX11_block_35 : decode cX11_block 35 = .ok (.goto 4, 3) := by decide +kernel
theorem dX11_block_38 : decode cX11_block 38 = .ok (.iconst 0, 1) := by decide +kernel
theorem dX11_block_39 : decode cX11_block 39 = .ok (.putfield 150, 3) := by decide +kernel
theorem dX11_block_42 : decode cX11_block 42 = .ok (.iload_n 2, 1) := by decide +kernel
theorem dX11_block_43 : decode cX11_block 43 = .ok (.ifCond .ge 7, 3) := by decide +kernel
theorem dX11_block_46 : decode cX11_block 46 = .ok (.iconst 0, 1) := by decide +kernel
theorem dX11_block_47 : decode cX11_block 47 = .ok (.goto 11, 3) := by decide +kernel
theorem dX11_block_50 : decode cX11_block 50 = .ok (.iconst 1, 1) := by decide +kernel
theorem dX11_block_51 : decode cX11_block 51 = .ok (.aload_n 0, 1) := by decide +kernel
theorem dX11_block_52 : decode cX11_block 52 = .ok (.getfield 7, 3) := by decide +kernel
theorem dX11_block_55 : decode cX11_block 55 = .ok (.iload_n 2, 1) := by decide +kernel
theorem dX11_block_56 : decode cX11_block 56 = .ok (.isub, 1) := by decide +kernel
theorem dX11_block_57 : decode cX11_block 57 = .ok (.ishl, 1) := by decide +kernel
theorem dX11_block_58 : decode cX11_block 58 = .ok (.ireturn, 1) := by decide +kernel
theorem dX11_asks_0 : decode cX11_asks 0 = .ok (.aload_n 0, 1) := by decide +kernel
theorem dX11_asks_1 : decode cX11_asks 1 = .ok (.iconst 0, 1) := by decide +kernel
theorem dX11_asks_2 : decode cX11_asks 2 = .ok (.putfield 153, 3) := by decide +kernel
theorem dX11_asks_5 : decode cX11_asks 5 = .ok (.aload_n 0, 1) := by decide +kernel
theorem dX11_asks_6 : decode cX11_asks 6 = .ok (.iconst 0, 1) := by decide +kernel
theorem dX11_asks_7 : decode cX11_asks 7 = .ok (.putfield 156, 3) := by decide +kernel
theorem dX11_asks_10 : decode cX11_asks 10 = .ok (.aload_n 0, 1) := by decide +kernel
theorem dX11_asks_11 : decode cX11_asks 11 = .ok (.iconst 0, 1) := by decide +kernel
theorem dX11_asks_12 : decode cX11_asks 12 = .ok (.putfield 159, 3) := by decide +kernel
theorem dX11_asks_15 : decode cX11_asks 15 = .ok (.aload_n 0, 1) := by decide +kernel
theorem dX11_asks_16 : decode cX11_asks 16 = .ok (.iconst 0, 1) := by decide +kernel
theorem dX11_asks_17 : decode cX11_asks 17 = .ok (.putfield 162, 3) := by decide +kernel
theorem dX11_asks_20 : decode cX11_asks 20 = .ok (.aload_n 0, 1) := by decide +kernel
theorem dX11_asks_21 : decode cX11_asks 21 = .ok (.bipush (-4), 2) := by decide +kernel
theorem dX11_asks_23 : decode cX11_asks 23 = .ok (.putfield 165, 3) := by decide +kernel
theorem dX11_asks_26 : decode cX11_asks 26 = .ok (.iconst 0, 1) := by decide +kernel
theorem dX11_asks_27 : decode cX11_asks 27 = .ok (.istore_n 3, 1) := by decide +kernel
theorem dX11_asks_28 : decode cX11_asks 28 = .ok (.iload_n 3, 1) := by decide +kernel
theorem dX11_asks_29 : decode cX11_asks 29 = .ok (.aload_n 0, 1) := by decide +kernel
theorem dX11_asks_30 : decode cX11_asks 30 = .ok (.getfield 107, 3) := by decide +kernel
theorem dX11_asks_33 : decode cX11_asks 33 = .ok (.if_icmp .ge 82, 3) := by decide +kernel
theorem dX11_asks_36 : decode cX11_asks 36 = .ok (.aload_n 0, 1) := by decide +kernel
theorem dX11_asks_37 : decode cX11_asks 37 = .ok (.getfield 20, 3) := by decide +kernel
theorem dX11_asks_40 : decode cX11_asks 40 = .ok (.iload_n 3, 1) := by decide +kernel
theorem dX11_asks_41 : decode cX11_asks 41 = .ok (.baload, 1) := by decide +kernel
theorem dX11_asks_42 : decode cX11_asks 42 = .ok (.ifCond .ne 67, 3) := by decide +kernel
theorem dX11_asks_45 : decode cX11_asks 45 = .ok (.aload_n 0, 1) := by decide +kernel
theorem dX11_asks_46 : decode cX11_asks 46 = .ok (.getfield 13, 3) := by decide +kernel
theorem dX11_asks_49 : decode cX11_asks 49 = .ok (.iload_n 3, 1) := by decide +kernel
theorem dX11_asks_50 : decode cX11_asks 50 = .ok (.iaload, 1) := by decide +kernel
theorem dX11_asks_51 : decode cX11_asks 51 = .ok (.aload_n 0, 1) := by decide +kernel
theorem dX11_asks_52 : decode cX11_asks 52 = .ok (.getfield 7, 3) := by decide +kernel
theorem dX11_asks_55 : decode cX11_asks 55 = .ok (.iload_n 1, 1) := by decide +kernel
theorem dX11_asks_56 : decode cX11_asks 56 = .ok (.isub, 1) := by decide +kernel
theorem dX11_asks_57 : decode cX11_asks 57 = .ok (.ishr, 1) := by decide +kernel
theorem dX11_asks_58 : decode cX11_asks 58 = .ok (.iload_n 2, 1) := by decide +kernel
theorem dX11_asks_59 : decode cX11_asks 59 = .ok (.if_icmp .ne 50, 3) := by decide +kernel
theorem dX11_asks_62 : decode cX11_asks 62 = .ok (.aload_n 0, 1) := by decide +kernel
theorem dX11_asks_63 : decode cX11_asks 63 = .ok (.dup, 1) := by decide +kernel
theorem dX11_asks_64 : decode cX11_asks 64 = .ok (.getfield 153, 3) := by decide +kernel
theorem dX11_asks_67 : decode cX11_asks 67 = .ok (.iconst 1, 1) := by decide +kernel
theorem dX11_asks_68 : decode cX11_asks 68 = .ok (.iadd, 1) := by decide +kernel
theorem dX11_asks_69 : decode cX11_asks 69 = .ok (.putfield 153, 3) := by decide +kernel
theorem dX11_asks_72 : decode cX11_asks 72 = .ok (.aload_n 0, 1) := by decide +kernel
theorem dX11_asks_73 : decode cX11_asks 73 = .ok (.dup, 1) := by decide +kernel
theorem dX11_asks_74 : decode cX11_asks 74 = .ok (.getfield 159, 3) := by decide +kernel
theorem dX11_asks_77 : decode cX11_asks 77 = .ok (.aload_n 0, 1) := by decide +kernel
theorem dX11_asks_78 : decode cX11_asks 78 = .ok (.getfield 13, 3) := by decide +kernel
theorem dX11_asks_81 : decode cX11_asks 81 = .ok (.iload_n 3, 1) := by decide +kernel
theorem dX11_asks_82 : decode cX11_asks 82 = .ok (.iaload, 1) := by decide +kernel
theorem dX11_asks_83 : decode cX11_asks 83 = .ok (.ior, 1) := by decide +kernel
theorem dX11_asks_84 : decode cX11_asks 84 = .ok (.putfield 159, 3) := by decide +kernel
theorem dX11_asks_87 : decode cX11_asks 87 = .ok (.aload_n 0, 1) := by decide +kernel
theorem dX11_asks_88 : decode cX11_asks 88 = .ok (.dup, 1) := by decide +kernel
theorem dX11_asks_89 : decode cX11_asks 89 = .ok (.getfield 162, 3) := by decide +kernel
theorem dX11_asks_92 : decode cX11_asks 92 = .ok (.aload_n 0, 1) := by decide +kernel
theorem dX11_asks_93 : decode cX11_asks 93 = .ok (.getfield 13, 3) := by decide +kernel
theorem dX11_asks_96 : decode cX11_asks 96 = .ok (.iload_n 3, 1) := by decide +kernel
theorem dX11_asks_97 : decode cX11_asks 97 = .ok (.iaload, 1) := by decide +kernel
theorem dX11_asks_98 : decode cX11_asks 98 = .ok (.iconst (-1), 1) := by decide +kernel
theorem dX11_asks_99 : decode cX11_asks 99 = .ok (.ixor, 1) := by decide +kernel
theorem dX11_asks_100 : decode cX11_asks 100 = .ok (.ior, 1) := by decide +kernel
theorem dX11_asks_101 : decode cX11_asks 101 = .ok (.putfield 162, 3) := by decide +kernel
theorem dX11_asks_104 : decode cX11_asks 104 = .ok (.aload_n 0, 1) := by decide +kernel
theorem dX11_asks_105 : decode cX11_asks 105 = .ok (.iload_n 3, 1) := by decide +kernel
theorem dX11_asks_106 : decode cX11_asks 106 = .ok (.putfield 165, 3) := by decide +kernel
theorem dX11_asks_109 : decode cX11_asks 109 = .ok (.iinc 3 1, 3) := by decide +kernel
theorem dX11_asks_112 : decode cX11_asks 112 = .ok (.goto (-84), 3) := by decide +kernel
theorem dX11_asks_115 : decode cX11_asks 115 = .ok (.aload_n 0, 1) := by decide +kernel
theorem dX11_asks_116 : decode cX11_asks 116 = .ok (.getfield 24, 3) := by decide +kernel
theorem dX11_asks_119 : decode cX11_asks 119 = .ok (.iload_n 1, 1) := by decide +kernel
theorem dX11_asks_120 : decode cX11_asks 120 = .ok (.if_icmp .ge 10, 3) := by decide +kernel
theorem dX11_asks_123 : decode cX11_asks 123 = .ok (.aload_n 0, 1) := by decide +kernel
theorem dX11_asks_124 : decode cX11_asks 124 = .ok (.getfield 24, 3) := by decide +kernel
theorem dX11_asks_127 : decode cX11_asks 127 = .ok (.goto 4, 3) := by decide +kernel
theorem dX11_asks_130 : decode cX11_asks 130 = .ok (.iload_n 1, 1) := by decide +kernel
theorem dX11_asks_131 : decode cX11_asks 131 = .ok (.istore_n 3, 1) := by decide +kernel
theorem dX11_asks_132 : decode cX11_asks 132 = .ok (.aload_n 0, 1) := by decide +kernel
theorem dX11_asks_133 : decode cX11_asks 133 = .ok (.getfield 24, 3) := by decide +kernel
theorem dX11_asks_136 : decode cX11_asks 136 = .ok (.ifCond .lt 127, 3) := by decide +kernel
theorem dX11_asks_139 : decode cX11_asks 139 = .ok (.aload_n 0, 1) := by decide +kernel
theorem dX11_asks_140 : decode cX11_asks 140 = .ok (.getfield 150, 3) := by decide +kernel
theorem dX11_asks_143 : decode cX11_asks 143 = .ok (.aload_n 0, 1) := by decide +kernel
theorem dX11_asks_144 : decode cX11_asks 144 = .ok (.getfield 24, 3) := by decide +kernel
theorem dX11_asks_147 : decode cX11_asks 147 = .ok (.iload_n 3, 1) := by decide +kernel
theorem dX11_asks_148 : decode cX11_asks 148 = .ok (.isub, 1) := by decide +kernel
theorem dX11_asks_149 : decode cX11_asks 149 = .ok (.ishr, 1) := by decide +kernel
theorem dX11_asks_150 : decode cX11_asks 150 = .ok (.iload_n 2, 1) := by decide +kernel
theorem dX11_asks_151 : decode cX11_asks 151 = .ok (.iload_n 1, 1) := by decide +kernel
theorem dX11_asks_152 : decode cX11_asks 152 = .ok (.iload_n 3, 1) := by decide +kernel
theorem dX11_asks_153 : decode cX11_asks 153 = .ok (.isub, 1) := by decide +kernel
theorem dX11_asks_154 : decode cX11_asks 154 = .ok (.ishr, 1) := by decide +kernel
theorem dX11_asks_155 : decode cX11_asks 155 = .ok (.if_icmp .ne 108, 3) := by decide +kernel
theorem dX11_asks_158 : decode cX11_asks 158 = .ok (.aload_n 0, 1) := by decide +kernel
theorem dX11_asks_159 : decode cX11_asks 159 = .ok (.getfield 24, 3) := by decide +kernel
theorem dX11_asks_162 : decode cX11_asks 162 = .ok (.iload_n 1, 1) := by decide +kernel
theorem dX11_asks_163 : decode cX11_asks 163 = .ok (.if_icmp .le 10, 3) := by decide +kernel
theorem dX11_asks_166 : decode cX11_asks 166 = .ok (.aload_n 0, 1) := by decide +kernel
theorem dX11_asks_167 : decode cX11_asks 167 = .ok (.getfield 24, 3) := by decide +kernel
theorem dX11_asks_170 : decode cX11_asks 170 = .ok (.goto 4, 3) := by decide +kernel
theorem dX11_asks_173 : decode cX11_asks 173 = .ok (.iload_n 1, 1) := by decide +kernel
theorem dX11_asks_174 : decode cX11_asks 174 = .ok (.istore 4, 2) := by decide +kernel
theorem dX11_asks_176 : decode cX11_asks 176 = .ok (.aload_n 0, 1) := by decide +kernel
theorem dX11_asks_177 : decode cX11_asks 177 = .ok (.getfield 24, 3) := by decide +kernel
theorem dX11_asks_180 : decode cX11_asks 180 = .ok (.iload_n 1, 1) := by decide +kernel
theorem dX11_asks_181 : decode cX11_asks 181 = .ok (.if_icmp .le 10, 3) := by decide +kernel
theorem dX11_asks_184 : decode cX11_asks 184 = .ok (.aload_n 0, 1) := by decide +kernel
theorem dX11_asks_185 : decode cX11_asks 185 = .ok (.getfield 150, 3) := by decide +kernel
theorem dX11_asks_188 : decode cX11_asks 188 = .ok (.goto 4, 3) := by decide +kernel
theorem dX11_asks_191 : decode cX11_asks 191 = .ok (.iload_n 2, 1) := by decide +kernel
theorem dX11_asks_192 : decode cX11_asks 192 = .ok (.istore 5, 2) := by decide +kernel
theorem dX11_asks_194 : decode cX11_asks 194 = .ok (.iconst 1, 1) := by decide +kernel
theorem dX11_asks_195 : decode cX11_asks 195 = .ok (.aload_n 0, 1) := by decide +kernel
theorem dX11_asks_196 : decode cX11_asks 196 = .ok (.getfield 7, 3) := by decide +kernel
theorem dX11_asks_199 : decode cX11_asks 199 = .ok (.iload 4, 2) := by decide +kernel
theorem dX11_asks_201 : decode cX11_asks 201 = .ok (.isub, 1) := by decide +kernel
theorem dX11_asks_202 : decode cX11_asks 202 = .ok (.ishl, 1) := by decide +kernel
theorem dX11_asks_203 : decode cX11_asks 203 = .ok (.iconst 1, 1) := by decide +kernel
theorem dX11_asks_204 : decode cX11_asks 204 = .ok (.isub, 1) := by decide +kernel
theorem dX11_asks_205 : decode cX11_asks 205 = .ok (.istore 6, 2) := by decide +kernel
theorem dX11_asks_207 : decode cX11_asks 207 = .ok (.aload_n 0, 1) := by decide +kernel
theorem dX11_asks_208 : decode cX11_asks 208 = .ok (.iconst 1, 1) := by decide +kernel
theorem dX11_asks_209 : decode cX11_asks 209 = .ok (.aload_n 0, 1) := by decide +kernel
theorem dX11_asks_210 : decode cX11_asks 210 = .ok (.getfield 7, 3) := by decide +kernel
theorem dX11_asks_213 : decode cX11_asks 213 = .ok (.iload 4, 2) := by decide +kernel
theorem dX11_asks_215 : decode cX11_asks 215 = .ok (.isub, 1) := by decide +kernel
theorem dX11_asks_216 : decode cX11_asks 216 = .ok (.ishl, 1) := by decide +kernel
theorem dX11_asks_217 : decode cX11_asks 217 = .ok (.putfield 156, 3) := by decide +kernel
theorem dX11_asks_220 : decode cX11_asks 220 = .ok (.aload_n 0, 1) := by decide +kernel
theorem dX11_asks_221 : decode cX11_asks 221 = .ok (.dup, 1) := by decide +kernel
theorem dX11_asks_222 : decode cX11_asks 222 = .ok (.getfield 159, 3) := by decide +kernel
theorem dX11_asks_225 : decode cX11_asks 225 = .ok (.iload 5, 2) := by decide +kernel
theorem dX11_asks_227 : decode cX11_asks 227 = .ok (.aload_n 0, 1) := by decide +kernel
theorem dX11_asks_228 : decode cX11_asks 228 = .ok (.getfield 7, 3) := by decide +kernel
theorem dX11_asks_231 : decode cX11_asks 231 = .ok (.iload 4, 2) := by decide +kernel
theorem dX11_asks_233 : decode cX11_asks 233 = .ok (.isub, 1) := by decide +kernel
theorem dX11_asks_234 : decode cX11_asks 234 = .ok (.ishl, 1) := by decide +kernel
theorem dX11_asks_235 : decode cX11_asks 235 = .ok (.iload 6, 2) := by decide +kernel
theorem dX11_asks_237 : decode cX11_asks 237 = .ok (.ior, 1) := by decide +kernel
theorem dX11_asks_238 : decode cX11_asks 238 = .ok (.ior, 1) := by decide +kernel
theorem dX11_asks_239 : decode cX11_asks 239 = .ok (.putfield 159, 3) := by decide +kernel
theorem dX11_asks_242 : decode cX11_asks 242 = .ok (.aload_n 0, 1) := by decide +kernel
theorem dX11_asks_243 : decode cX11_asks 243 = .ok (.dup, 1) := by decide +kernel
theorem dX11_asks_244 : decode cX11_asks 244 = .ok (.getfield 162, 3) := by decide +kernel
theorem dX11_asks_247 : decode cX11_asks 247 = .ok (.iload 5, 2) := by decide +kernel
theorem dX11_asks_249 : decode cX11_asks 249 = .ok (.aload_n 0, 1) := by decide +kernel
theorem dX11_asks_250 : decode cX11_asks 250 = .ok (.getfield 7, 3) := by decide +kernel
theorem dX11_asks_253 : decode cX11_asks 253 = .ok (.iload 4, 2) := by decide +kernel
theorem dX11_asks_255 : decode cX11_asks 255 = .ok (.isub, 1) := by decide +kernel
theorem dX11_asks_256 : decode cX11_asks 256 = .ok (.ishl, 1) := by decide +kernel
theorem dX11_asks_257 : decode cX11_asks 257 = .ok (.iconst (-1), 1) := by decide +kernel
theorem dX11_asks_258 : decode cX11_asks 258 = .ok (.ixor, 1) := by decide +kernel
theorem dX11_asks_259 : decode cX11_asks 259 = .ok (.ior, 1) := by decide +kernel
theorem dX11_asks_260 : decode cX11_asks 260 = .ok (.putfield 162, 3) := by decide +kernel
theorem dX11_asks_263 : decode cX11_asks 263 = .ok (.iconst 1, 1) := by decide +kernel
theorem dX11_asks_264 : decode cX11_asks 264 = .ok (.aload_n 0, 1) := by decide +kernel
theorem dX11_asks_265 : decode cX11_asks 265 = .ok (.getfield 7, 3) := by decide +kernel
theorem dX11_asks_268 : decode cX11_asks 268 = .ok (.iload_n 1, 1) := by decide +kernel
theorem dX11_asks_269 : decode cX11_asks 269 = .ok (.isub, 1) := by decide +kernel
theorem dX11_asks_270 : decode cX11_asks 270 = .ok (.ishl, 1) := by decide +kernel
theorem dX11_asks_271 : decode cX11_asks 271 = .ok (.iconst 1, 1) := by decide +kernel
theorem dX11_asks_272 : decode cX11_asks 272 = .ok (.isub, 1) := by decide +kernel
theorem dX11_asks_273 : decode cX11_asks 273 = .ok (.istore 4, 2) := by decide +kernel
theorem dX11_asks_275 : decode cX11_asks 275 = .ok (.aload_n 0, 1) := by decide +kernel
theorem dX11_asks_276 : decode cX11_asks 276 = .ok (.dup, 1) := by decide +kernel
theorem dX11_asks_277 : decode cX11_asks 277 = .ok (.getfield 159, 3) := by decide +kernel
theorem dX11_asks_280 : decode cX11_asks 280 = .ok (.iload 4, 2) := by decide +kernel
theorem dX11_asks_282 : decode cX11_asks 282 = .ok (.iand, 1) := by decide +kernel
theorem dX11_asks_283 : decode cX11_asks 283 = .ok (.putfield 159, 3) := by decide +kernel
theorem dX11_asks_286 : decode cX11_asks 286 = .ok (.aload_n 0, 1) := by decide +kernel
theorem dX11_asks_287 : decode cX11_asks 287 = .ok (.dup, 1) := by decide +kernel
theorem dX11_asks_288 : decode cX11_asks 288 = .ok (.getfield 162, 3) := by decide +kernel
theorem dX11_asks_291 : decode cX11_asks 291 = .ok (.iload 4, 2) := by decide +kernel
theorem dX11_asks_293 : decode cX11_asks 293 = .ok (.iand, 1) := by decide +kernel
theorem dX11_asks_294 : decode cX11_asks 294 = .ok (.putfield 162, 3) := by decide +kernel
theorem dX11_asks_297 : decode cX11_asks 297 = .ok (.return_, 1) := by decide +kernel
set_option maxRecDepth 20000 in
theorem ggX11_ask_X11_in : GoodIn wsX11_ask wsX11_in := goodIn_r _ [10] (by decide +kernel) (by decide +kernel)
set_option maxRecDepth 20000 in
theorem gX11_ask_X11_in : GoodIn wsX11_ask (va_wsS RX11 103 yX11_in wsX11_in) := goodIn_app (goodIn_of _ (by decide +kernel)) ggX11_ask_X11_in
set_option maxRecDepth 20000 in
theorem ggX11_ask_X11_asks : GoodIn wsX11_ask wsX11_asks := goodIn_r _ [14, 3, 4, 5, 6, 15, 16, 17, 18, 1, 19, 20, 21, 22, 23, 24, 25, 26, 27, 28, 29, 30, 31, 32, 33, 34, 35, 36, 37, 38, 39, 40, 41, 42, 43, 44, 45, 46, 47, 48, 49, 50, 51, 52, 53, 54, 55, 56, 57, 58, 59, 60, 61, 62, 63, 64, 65, 66, 67, 68] (by decide +kernel) (by decide +kernel)
set_option maxRecDepth 20000 in
theorem gX11_ask_X11_asks : GoodIn wsX11_ask (wsV RX11 168 RX11 yX11_asks wsX11_asks) := goodIn_app (goodIn_of _ (by decide +kernel)) ggX11_ask_X11_asks
theorem dX11_ask_0 : decode cX11_ask 0 = .ok (.iload_n 1, 1) := by decide +kernel
theorem dX11_ask_1 : decode cX11_ask 1 = .ok (.i2l, 1) := by decide +kernel
theorem dX11_ask_2 : decode cX11_ask 2 = .ok (.lconst 0, 1) := by decide +kernel
theorem dX11_ask_3 : decode cX11_ask 3 = .ok (.aload_n 0, 1) := by decide +kernel
theorem dX11_ask_4 : decode cX11_ask 4 = .ok (.getfield 7, 3) := by decide +kernel
theorem dX11_ask_7 : decode cX11_ask 7 = .ok (.i2l, 1) := by decide +kernel
theorem dX11_ask_8 : decode cX11_ask 8 = .ok (.invokestatic 103, 3) := by decide +kernel
theorem dX11_ask_11 : decode cX11_ask 11 = .ok (.ifCond .eq 30, 3) := by decide +kernel
theorem dX11_ask_14 : decode cX11_ask 14 = .ok (.iload_n 2, 1) := by decide +kernel
theorem dX11_ask_15 : decode cX11_ask 15 = .ok (.i2l, 1) := by decide +kernel
theorem dX11_ask_16 : decode cX11_ask 16 = .ok (.lconst 0, 1) := by decide +kernel
theorem dX11_ask_17 : decode cX11_ask 17 = .ok (.iconst 1, 1) := by decide +kernel
theorem dX11_ask_18 : decode cX11_ask 18 = .ok (.iload_n 1, 1) := by decide +kernel
theorem dX11_ask_19 : decode cX11_ask 19 = .ok (.ishl, 1) := by decide +kernel
theorem dX11_ask_20 : decode cX11_ask 20 = .ok (.iconst 1, 1) := by decide +kernel
theorem dX11_ask_21 : decode cX11_ask 21 = .ok (.isub, 1) := by decide +kernel
theorem dX11_ask_22 : decode cX11_ask 22 = .ok (.i2l, 1) := by decide +kernel
theorem dX11_ask_23 : decode cX11_ask 23 = .ok (.invokestatic 103, 3) := by decide +kernel
theorem dX11_ask_26 : decode cX11_ask 26 = .ok (.ifCond .eq 15, 3) := by decide +kernel
theorem dX11_ask_29 : decode cX11_ask 29 = .ok (.iload_n 3, 1) := by decide +kernel
theorem dX11_ask_30 : decode cX11_ask 30 = .ok (.i2l, 1) := by decide +kernel
theorem dX11_ask_31 : decode cX11_ask 31 = .ok (.lconst 0, 1) := by decide +kernel
theorem dX11_ask_32 : decode cX11_ask 32 = .ok (.ldc2_w 110, 3) := by decide +kernel
theorem dX11_ask_35 : decode cX11_ask 35 = .ok (.invokestatic 103, 3) := by decide +kernel
theorem dX11_ask_38 : decode cX11_ask 38 = .ok (.ifCond .ne 5, 3) := by decide +kernel
theorem dX11_ask_41 : decode cX11_ask 41 = .ok (.iconst (-1), 1) := by decide +kernel
theorem dX11_ask_42 : decode cX11_ask 42 = .ok (.ireturn, 1) := by decide +kernel
theorem dX11_ask_43 : decode cX11_ask 43 = .ok (.aload_n 0, 1) := by decide +kernel
theorem dX11_ask_44 : decode cX11_ask 44 = .ok (.iload_n 1, 1) := by decide +kernel
theorem dX11_ask_45 : decode cX11_ask 45 = .ok (.iload_n 2, 1) := by decide +kernel
theorem dX11_ask_46 : decode cX11_ask 46 = .ok (.invokevirtual 168, 3) := by decide +kernel
theorem dX11_ask_49 : decode cX11_ask 49 = .ok (.iload_n 3, 1) := by decide +kernel
theorem dX11_ask_50 : decode cX11_ask 50 = .ok (.ifCond .ne 15, 3) := by decide +kernel
theorem dX11_ask_53 : decode cX11_ask 53 = .ok (.aload_n 0, 1) := by decide +kernel
theorem dX11_ask_54 : decode cX11_ask 54 = .ok (.getfield 153, 3) := by decide +kernel
theorem dX11_ask_57 : decode cX11_ask 57 = .ok (.aload_n 0, 1) := by decide +kernel
theorem dX11_ask_58 : decode cX11_ask 58 = .ok (.getfield 156, 3) := by decide +kernel
theorem dX11_ask_61 : decode cX11_ask 61 = .ok (.iadd, 1) := by decide +kernel
theorem dX11_ask_62 : decode cX11_ask 62 = .ok (.goto 31, 3) := by decide +kernel
theorem dX11_ask_65 : decode cX11_ask 65 = .ok (.iload_n 3, 1) := by decide +kernel
theorem dX11_ask_66 : decode cX11_ask 66 = .ok (.iconst 1, 1) := by decide +kernel
theorem dX11_ask_67 : decode cX11_ask 67 = .ok (.if_icmp .ne 17, 3) := by decide +kernel
theorem dX11_ask_70 : decode cX11_ask 70 = .ok (.aload_n 0, 1) := by decide +kernel
theorem dX11_ask_71 : decode cX11_ask 71 = .ok (.getfield 159, 3) := by decide +kernel
theorem dX11_ask_74 : decode cX11_ask 74 = .ok (.aload_n 0, 1) := by decide +kernel
theorem dX11_ask_75 : decode cX11_ask 75 = .ok (.getfield 162, 3) := by decide +kernel
theorem dX11_ask_78 : decode cX11_ask 78 = .ok (.iconst (-1), 1) := by decide +kernel
theorem dX11_ask_79 : decode cX11_ask 79 = .ok (.ixor, 1) := by decide +kernel
theorem dX11_ask_80 : decode cX11_ask 80 = .ok (.iand, 1) := by decide +kernel
theorem dX11_ask_81 : decode cX11_ask 81 = .ok (.goto 12, 3) := by decide +kernel
theorem dX11_ask_84 : decode cX11_ask 84 = .ok (.aload_n 0, 1) := by decide +kernel
theorem dX11_ask_85 : decode cX11_ask 85 = .ok (.getfield 159, 3) := by decide +kernel
theorem dX11_ask_88 : decode cX11_ask 88 = .ok (.aload_n 0, 1) := by decide +kernel
theorem dX11_ask_89 : decode cX11_ask 89 = .ok (.getfield 162, 3) := by decide +kernel
theorem dX11_ask_92 : decode cX11_ask 92 = .ok (.iand, 1) := by decide +kernel
theorem dX11_ask_93 : decode cX11_ask 93 = .ok (.ireturn, 1) := by decide +kernel
theorem dX11_aheadOfClash_0 : decode cX11_aheadOfClash 0 = .ok (.iconst 0, 1) := by decide +kernel
theorem dX11_aheadOfClash_1 : decode cX11_aheadOfClash 1 = .ok (.istore_n 2, 1) := by decide +kernel
theorem dX11_aheadOfClash_2 : decode cX11_aheadOfClash 2 = .ok (.aload_n 0, 1) := by decide +kernel
theorem dX11_aheadOfClash_3 : decode cX11_aheadOfClash 3 = .ok (.getfield 159, 3) := by decide +kernel
theorem dX11_aheadOfClash_6 : decode cX11_aheadOfClash 6 = .ok (.aload_n 0, 1) := by decide +kernel
theorem dX11_aheadOfClash_7 : decode cX11_aheadOfClash 7 = .ok (.getfield 162, 3) := by decide +kernel
theorem dX11_aheadOfClash_10 : decode cX11_aheadOfClash 10 = .ok (.iand, 1) := by decide +kernel
theorem dX11_aheadOfClash_11 : decode cX11_aheadOfClash 11 = .ok (.aload_n 0, 1) := by decide +kernel
theorem dX11_aheadOfClash_12 : decode cX11_aheadOfClash 12 = .ok (.getfield 7, 3) := by decide +kernel
theorem dX11_aheadOfClash_15 : decode cX11_aheadOfClash 15 = .ok (.iload_n 1, 1) := by decide +kernel
theorem dX11_aheadOfClash_16 : decode cX11_aheadOfClash 16 = .ok (.isub, 1) := by decide +kernel
theorem dX11_aheadOfClash_17 : decode cX11_aheadOfClash 17 = .ok (.iconst 1, 1) := by decide +kernel
theorem dX11_aheadOfClash_18 : decode cX11_aheadOfClash 18 = .ok (.isub, 1) := by decide +kernel
theorem dX11_aheadOfClash_19 : decode cX11_aheadOfClash 19 = .ok (.iload_n 2, 1) := by decide +kernel
theorem dX11_aheadOfClash_20 : decode cX11_aheadOfClash 20 = .ok (.isub, 1) := by decide +kernel
theorem dX11_aheadOfClash_21 : decode cX11_aheadOfClash 21 = .ok (.ishr, 1) := by decide +kernel
theorem dX11_aheadOfClash_22 : decode cX11_aheadOfClash 22 = .ok (.ifCond .ne 9, 3) := by decide +kernel
theorem dX11_aheadOfClash_25 : decode cX11_aheadOfClash 25 = .ok (.iinc 2 1, 3) := by decide +kernel
theorem dX11_aheadOfClash_28 : decode cX11_aheadOfClash 28 = .ok (.goto (-26), 3) := by decide +kernel
theorem dX11_aheadOfClash_31 : decode cX11_aheadOfClash 31 = .ok (.iload_n 2, 1) := by decide +kernel
theorem dX11_aheadOfClash_32 : decode cX11_aheadOfClash 32 = .ok (.ireturn, 1) := by decide +kernel
set_option maxRecDepth 20000 in
theorem ggX11_grows_X11_asks : GoodIn wsX11_grows wsX11_asks := goodIn_r _ [17, 6, 7, 8, 9, 10, 18, 11, 19, 12, 20, 21, 26, 27, 28, 29, 30, 31, 32, 33, 34, 35, 36, 37, 38, 39, 40, 41, 42, 43, 44, 45, 46, 47, 48, 49, 50, 51, 52, 53, 54, 55, 56, 57, 58, 59, 60, 61, 62, 63, 64, 65, 66, 67, 68, 69, 70, 71, 72, 73] (by decide +kernel) (by decide +kernel)
set_option maxRecDepth 20000 in
theorem gX11_grows_X11_asks : GoodIn wsX11_grows (wsV RX11 168 RX11 yX11_asks wsX11_asks) := goodIn_app (goodIn_of _ (by decide +kernel)) ggX11_grows_X11_asks
set_option maxRecDepth 20000 in
theorem ggX11_grows_X11_aheadOfClash : GoodIn wsX11_grows wsX11_aheadOfClash := goodIn_r _ [25, 8, 9, 12, 26, 27, 28, 29, 30, 31, 32, 33, 34, 35, 36, 37, 38, 39, 40, 41, 42, 43, 44, 45, 46, 47, 48, 49, 50, 51, 52, 53, 54, 55, 56, 57, 58, 59, 60, 61, 62, 63, 64, 65, 66, 67, 68, 69, 70, 71, 72, 73] (by decide +kernel) (by decide +kernel)
set_option maxRecDepth 20000 in
theorem gX11_grows_X11_aheadOfClash : GoodIn wsX11_grows (wsV RX11 171 RX11 yX11_aheadOfClash wsX11_aheadOfClash) := goodIn_app (goodIn_of _ (by decide +kernel)) ggX11_grows_X11_aheadOfClash
theorem dX11_grows_0 : decode cX11_grows 0 = .ok (.iconst 1, 1) := by decide +kernel
theorem dX11_grows_1 : decode cX11_grows 1 = .ok (.istore_n 2, 1) := by decide +kernel
theorem dX11_grows_2 : decode cX11_grows 2 = .ok (.aload_n 0, 1) := by decide +kernel
theorem dX11_grows_3 : decode cX11_grows 3 = .ok (.getfield 36, 3) := by decide +kernel
theorem dX11_grows_6 : decode cX11_grows 6 = .ok (.iconst 0, 1) := by decide +kernel
theorem dX11_grows_7 : decode cX11_grows 7 = .ok (.iconst 0, 1) := by decide +kernel
theorem dX11_grows_8 : decode cX11_grows 8 = .ok (.iastore, 1) := by decide +kernel
theorem dX11_grows_9 : decode cX11_grows 9 = .ok (.aload_n 0, 1) := by decide +kernel
theorem dX11_grows_10 : decode cX11_grows 10 = .ok (.getfield 39, 3) := by decide +kernel
theorem dX11_grows_13 : decode cX11_grows 13 = .ok (.iconst 0, 1) := by decide +kernel
theorem dX11_grows_14 : decode cX11_grows 14 = .ok (.iconst 0, 1) := by decide +kernel
theorem dX11_grows_15 : decode cX11_grows 15 = .ok (.iastore, 1) := by decide +kernel
theorem dX11_grows_16 : decode cX11_grows 16 = .ok (.iconst 0, 1) := by decide +kernel
theorem dX11_grows_17 : decode cX11_grows 17 = .ok (.istore_n 3, 1) := by decide +kernel
theorem dX11_grows_18 : decode cX11_grows 18 = .ok (.iload_n 3, 1) := by decide +kernel
theorem dX11_grows_19 : decode cX11_grows 19 = .ok (.iconst 5, 1) := by decide +kernel
theorem dX11_grows_20 : decode cX11_grows 20 = .ok (.if_icmp .ge 16, 3) := by decide +kernel
theorem dX11_grows_23 : decode cX11_grows 23 = .ok (.aload_n 0, 1) := by decide +kernel
theorem dX11_grows_24 : decode cX11_grows 24 = .ok (.getfield 42, 3) := by decide +kernel
theorem dX11_grows_27 : decode cX11_grows 27 = .ok (.iload_n 3, 1) := by decide +kernel
theorem dX11_grows_28 : decode cX11_grows 28 = .ok (.iconst 0, 1) := by decide +kernel
theorem dX11_grows_29 : decode cX11_grows 29 = .ok (.iastore, 1) := by decide +kernel
theorem dX11_grows_30 : decode cX11_grows 30 = .ok (.iinc 3 1, 3) := by decide +kernel
theorem dX11_grows_33 : decode cX11_grows 33 = .ok (.goto (-15), 3) := by decide +kernel
theorem dX11_grows_36 : decode cX11_grows 36 = .ok (.iload_n 2, 1) := by decide +kernel
theorem dX11_grows_37 : decode cX11_grows 37 = .ok (.ifCond .le 296, 3) := by decide +kernel
theorem dX11_grows_40 : decode cX11_grows 40 = .ok (.iinc 2 (-1), 3) := by decide +kernel
theorem dX11_grows_43 : decode cX11_grows 43 = .ok (.aload_n 0, 1) := by decide +kernel
theorem dX11_grows_44 : decode cX11_grows 44 = .ok (.getfield 36, 3) := by decide +kernel
theorem dX11_grows_47 : decode cX11_grows 47 = .ok (.iload_n 2, 1) := by decide +kernel
theorem dX11_grows_48 : decode cX11_grows 48 = .ok (.iaload, 1) := by decide +kernel
theorem dX11_grows_49 : decode cX11_grows 49 = .ok (.istore_n 3, 1) := by decide +kernel
theorem dX11_grows_50 : decode cX11_grows 50 = .ok (.aload_n 0, 1) := by decide +kernel
theorem dX11_grows_51 : decode cX11_grows 51 = .ok (.getfield 39, 3) := by decide +kernel
theorem dX11_grows_54 : decode cX11_grows 54 = .ok (.iload_n 2, 1) := by decide +kernel
theorem dX11_grows_55 : decode cX11_grows 55 = .ok (.iaload, 1) := by decide +kernel
theorem dX11_grows_56 : decode cX11_grows 56 = .ok (.istore 4, 2) := by decide +kernel
theorem dX11_grows_58 : decode cX11_grows 58 = .ok (.aload_n 0, 1) := by decide +kernel
theorem dX11_grows_59 : decode cX11_grows 59 = .ok (.getfield 42, 3) := by decide +kernel
theorem dX11_grows_62 : decode cX11_grows 62 = .ok (.iconst 0, 1) := by decide +kernel
theorem dX11_grows_63 : decode cX11_grows 63 = .ok (.iaload, 1) := by decide +kernel
theorem dX11_grows_64 : decode cX11_grows 64 = .ok (.sipush 2000, 3) := by decide +kernel
theorem dX11_grows_67 : decode cX11_grows 67 = .ok (.if_icmp .ne 5, 3) := by decide +kernel
theorem dX11_grows_70 : decode cX11_grows 70 = .ok (.iconst 0, 1) := by decide +kernel
theorem dX11_grows_71 : decode cX11_grows 71 = .ok (.ireturn, 1) := by decide +kernel
theorem dX11_grows_72 : decode cX11_grows 72 = .ok (.aload_n 0, 1) := by decide +kernel
theorem dX11_grows_73 : decode cX11_grows 73 = .ok (.getfield 42, 3) := by decide +kernel
theorem dX11_grows_76 : decode cX11_grows 76 = .ok (.iconst 0, 1) := by decide +kernel
theorem dX11_grows_77 : decode cX11_grows 77 = .ok (.iaload, 1) := by decide +kernel
theorem dX11_grows_78 : decode cX11_grows 78 = .ok (.bipush 64, 2) := by decide +kernel
theorem dX11_grows_80 : decode cX11_grows 80 = .ok (.if_icmp .ge 28, 3) := by decide +kernel
theorem dX11_grows_83 : decode cX11_grows 83 = .ok (.aload_n 0, 1) := by decide +kernel
theorem dX11_grows_84 : decode cX11_grows 84 = .ok (.getfield 45, 3) := by decide +kernel
theorem dX11_grows_87 : decode cX11_grows 87 = .ok (.aload_n 0, 1) := by decide +kernel
theorem dX11_grows_88 : decode cX11_grows 88 = .ok (.getfield 42, 3) := by decide +kernel
theorem dX11_grows_91 : decode cX11_grows 91 = .ok (.iconst 0, 1) := by decide +kernel
theorem dX11_grows_92 : decode cX11_grows 92 = .ok (.iaload, 1) := by decide +kernel
theorem dX11_grows_93 : decode cX11_grows 93 = .ok (.iload_n 3, 1) := by decide +kernel
theorem dX11_grows_94 : decode cX11_grows 94 = .ok (.iastore, 1) := by decide +kernel
theorem dX11_grows_95 : decode cX11_grows 95 = .ok (.aload_n 0, 1) := by decide +kernel
theorem dX11_grows_96 : decode cX11_grows 96 = .ok (.getfield 48, 3) := by decide +kernel
theorem dX11_grows_99 : decode cX11_grows 99 = .ok (.aload_n 0, 1) := by decide +kernel
theorem dX11_grows_100 : decode cX11_grows 100 = .ok (.getfield 42, 3) := by decide +kernel
theorem dX11_grows_103 : decode cX11_grows 103 = .ok (.iconst 0, 1) := by decide +kernel
theorem dX11_grows_104 : decode cX11_grows 104 = .ok (.iaload, 1) := by decide +kernel
theorem dX11_grows_105 : decode cX11_grows 105 = .ok (.iload 4, 2) := by decide +kernel
theorem dX11_grows_107 : decode cX11_grows 107 = .ok (.iastore, 1) := by decide +kernel
theorem dX11_grows_108 : decode cX11_grows 108 = .ok (.aload_n 0, 1) := by decide +kernel
theorem dX11_grows_109 : decode cX11_grows 109 = .ok (.getfield 42, 3) := by decide +kernel
theorem dX11_grows_112 : decode cX11_grows 112 = .ok (.iconst 0, 1) := by decide +kernel
theorem dX11_grows_113 : decode cX11_grows 113 = .ok (.dup2, 1) := by decide +kernel
theorem dX11_grows_114 : decode cX11_grows 114 = .ok (.iaload, 1) := by decide +kernel
theorem dX11_grows_115 : decode cX11_grows 115 = .ok (.iconst 1, 1) := by decide +kernel
theorem dX11_grows_116 : decode cX11_grows 116 = .ok (.iadd, 1) := by decide +kernel
theorem dX11_grows_117 : decode cX11_grows 117 = .ok (.iastore, 1) := by decide +kernel
theorem dX11_grows_118 : decode cX11_grows 118 = .ok (.aload_n 0, 1) := by decide +kernel
theorem dX11_grows_119 : decode cX11_grows 119 = .ok (.iload_n 3, 1) := by decide +kernel
theorem dX11_grows_120 : decode cX11_grows 120 = .ok (.iload 4, 2) := by decide +kernel
theorem dX11_grows_122 : decode cX11_grows 122 = .ok (.invokevirtual 168, 3) := by decide +kernel
theorem dX11_grows_125 : decode cX11_grows 125 = .ok (.aload_n 0, 1) := by decide +kernel
theorem dX11_grows_126 : decode cX11_grows 126 = .ok (.getfield 153, 3) := by decide +kernel
theorem dX11_grows_129 : decode cX11_grows 129 = .ok (.aload_n 0, 1) := by decide +kernel
theorem dX11_grows_130 : decode cX11_grows 130 = .ok (.getfield 156, 3) := by decide +kernel
theorem dX11_grows_133 : decode cX11_grows 133 = .ok (.iadd, 1) := by decide +kernel
theorem dX11_grows_134 : decode cX11_grows 134 = .ok (.ifCond .ne 16, 3) := by decide +kernel
theorem dX11_grows_137 : decode cX11_grows 137 = .ok (.aload_n 0, 1) := by decide +kernel
theorem dX11_grows_138 : decode cX11_grows 138 = .ok (.getfield 42, 3) := by decide +kernel
theorem dX11_grows_141 : decode cX11_grows 141 = .ok (.iconst 3, 1) := by decide +kernel
theorem dX11_grows_142 : decode cX11_grows 142 = .ok (.dup2, 1) := by decide +kernel
theorem dX11_grows_143 : decode cX11_grows 143 = .ok (.iaload, 1) := by decide +kernel
theorem dX11_grows_144 : decode cX11_grows 144 = .ok (.iconst 1, 1) := by decide +kernel
theorem dX11_grows_145 : decode cX11_grows 145 = .ok (.iadd, 1) := by decide +kernel
theorem dX11_grows_146 : decode cX11_grows 146 = .ok (.iastore, 1) := by decide +kernel
theorem dX11_grows_147 : decode cX11_grows 147 = .ok (.goto 183, 3) := by decide +kernel
theorem dX11_grows_150 : decode cX11_grows 150 = .ok (.aload_n 0, 1) := by decide +kernel
theorem dX11_grows_151 : decode cX11_grows 151 = .ok (.getfield 159, 3) := by decide +kernel
theorem dX11_grows_154 : decode cX11_grows 154 = .ok (.aload_n 0, 1) := by decide +kernel
theorem dX11_grows_155 : decode cX11_grows 155 = .ok (.getfield 162, 3) := by decide +kernel
theorem dX11_grows_158 : decode cX11_grows 158 = .ok (.iand, 1) := by decide +kernel
theorem dX11_grows_159 : decode cX11_grows 159 = .ok (.ifCond .ne 71, 3) := by decide +kernel
theorem dX11_grows_162 : decode cX11_grows 162 = .ok (.aload_n 0, 1) := by decide +kernel
theorem dX11_grows_163 : decode cX11_grows 163 = .ok (.getfield 42, 3) := by decide +kernel
theorem dX11_grows_166 : decode cX11_grows 166 = .ok (.iconst 1, 1) := by decide +kernel
theorem dX11_grows_167 : decode cX11_grows 167 = .ok (.dup2, 1) := by decide +kernel
theorem dX11_grows_168 : decode cX11_grows 168 = .ok (.iaload, 1) := by decide +kernel
theorem dX11_grows_169 : decode cX11_grows 169 = .ok (.aload_n 0, 1) := by decide +kernel
theorem dX11_grows_170 : decode cX11_grows 170 = .ok (.getfield 165, 3) := by decide +kernel
theorem dX11_grows_173 : decode cX11_grows 173 = .ok (.bipush (-4), 2) := by decide +kernel
theorem dX11_grows_175 : decode cX11_grows 175 = .ok (.if_icmp .ne 7, 3) := by decide +kernel
theorem dX11_grows_178 : decode cX11_grows 178 = .ok (.iconst 0, 1) := by decide +kernel
theorem dX11_grows_179 : decode cX11_grows 179 = .ok (.goto 4, 3) := by decide +kernel
theorem dX11_grows_182 : decode cX11_grows 182 = .ok (.iconst 1, 1) := by decide +kernel
theorem dX11_grows_183 : decode cX11_grows 183 = .ok (.iadd, 1) := by decide +kernel
theorem dX11_grows_184 : decode cX11_grows 184 = .ok (.iastore, 1) := by decide +kernel
theorem dX11_grows_185 : decode cX11_grows 185 = .ok (.aload_n 0, 1) := by decide +kernel
theorem dX11_grows_186 : decode cX11_grows 186 = .ok (.getfield 42, 3) := by decide +kernel
theorem dX11_grows_189 : decode cX11_grows 189 = .ok (.iconst 2, 1) := by decide +kernel
theorem dX11_grows_190 : decode cX11_grows 190 = .ok (.dup2, 1) := by decide +kernel
theorem dX11_grows_191 : decode cX11_grows 191 = .ok (.iaload, 1) := by decide +kernel
theorem dX11_grows_192 : decode cX11_grows 192 = .ok (.aload_n 0, 1) := by decide +kernel
theorem dX11_grows_193 : decode cX11_grows 193 = .ok (.getfield 165, 3) := by decide +kernel
theorem dX11_grows_196 : decode cX11_grows 196 = .ok (.bipush (-4), 2) := by decide +kernel
theorem dX11_grows_198 : decode cX11_grows 198 = .ok (.if_icmp .ne 7, 3) := by decide +kernel
theorem dX11_grows_201 : decode cX11_grows 201 = .ok (.iconst 1, 1) := by decide +kernel
theorem dX11_grows_202 : decode cX11_grows 202 = .ok (.goto 4, 3) := by decide +kernel
theorem dX11_grows_205 : decode cX11_grows 205 = .ok (.iconst 0, 1) := by decide +kernel
theorem dX11_grows_206 : decode cX11_grows 206 = .ok (.iadd, 1) := by decide +kernel
theorem dX11_grows_207 : decode cX11_grows 207 = .ok (.iastore, 1) := by decide +kernel
theorem dX11_grows_208 : decode cX11_grows 208 = .ok (.aload_n 0, 1) := by decide +kernel
theorem dX11_grows_209 : decode cX11_grows 209 = .ok (.getfield 165, 3) := by decide +kernel
theorem dX11_grows_212 : decode cX11_grows 212 = .ok (.bipush (-4), 2) := by decide +kernel
theorem dX11_grows_214 : decode cX11_grows 214 = .ok (.if_icmp .eq 116, 3) := by decide +kernel
theorem dX11_grows_217 : decode cX11_grows 217 = .ok (.aload_n 0, 1) := by decide +kernel
theorem dX11_grows_218 : decode cX11_grows 218 = .ok (.getfield 20, 3) := by decide +kernel
theorem dX11_grows_221 : decode cX11_grows 221 = .ok (.aload_n 0, 1) := by decide +kernel
theorem dX11_grows_222 : decode cX11_grows 222 = .ok (.getfield 165, 3) := by decide +kernel
theorem dX11_grows_225 : decode cX11_grows 225 = .ok (.iconst 1, 1) := by decide +kernel
theorem dX11_grows_226 : decode cX11_grows 226 = .ok (.bastore, 1) := by decide +kernel
theorem dX11_grows_227 : decode cX11_grows 227 = .ok (.goto 103, 3) := by decide +kernel
theorem dX11_grows_230 : decode cX11_grows 230 = .ok (.aload_n 0, 1) := by decide +kernel
theorem dX11_grows_231 : decode cX11_grows 231 = .ok (.getfield 42, 3) := by decide +kernel
theorem dX11_grows_234 : decode cX11_grows 234 = .ok (.iconst 4, 1) := by decide +kernel
theorem dX11_grows_235 : decode cX11_grows 235 = .ok (.dup2, 1) := by decide +kernel
theorem dX11_grows_236 : decode cX11_grows 236 = .ok (.iaload, 1) := by decide +kernel
theorem dX11_grows_237 : decode cX11_grows 237 = .ok (.iconst 1, 1) := by decide +kernel
theorem dX11_grows_238 : decode cX11_grows 238 = .ok (.iadd, 1) := by decide +kernel
theorem dX11_grows_239 : decode cX11_grows 239 = .ok (.iastore, 1) := by decide +kernel
theorem dX11_grows_240 : decode cX11_grows 240 = .ok (.iload_n 1, 1) := by decide +kernel
theorem dX11_grows_241 : decode cX11_grows 241 = .ok (.ifCond .ne 7, 3) := by decide +kernel
theorem dX11_grows_244 : decode cX11_grows 244 = .ok (.iconst 0, 1) := by decide +kernel
theorem dX11_grows_245 : decode cX11_grows 245 = .ok (.goto 8, 3) := by decide +kernel
theorem dX11_grows_248 : decode cX11_grows 248 = .ok (.aload_n 0, 1) := by decide +kernel
theorem dX11_grows_249 : decode cX11_grows 249 = .ok (.iload_n 3, 1) := by decide +kernel
theorem dX11_grows_250 : decode cX11_grows 250 = .ok (.invokevirtual 171, 3) := by decide +kernel
theorem dX11_grows_253 : decode cX11_grows 253 = .ok (.istore 5, 2) := by decide +kernel
theorem dX11_grows_255 : decode cX11_grows 255 = .ok (.iload 4, 2) := by decide +kernel
theorem dX11_grows_257 : decode cX11_grows 257 = .ok (.iload 5, 2) := by decide +kernel
theorem dX11_grows_259 : decode cX11_grows 259 = .ok (.ishl, 1) := by decide +kernel
theorem dX11_grows_260 : decode cX11_grows 260 = .ok (.aload_n 0, 1) := by decide +kernel
theorem dX11_grows_261 : decode cX11_grows 261 = .ok (.getfield 159, 3) := by decide +kernel
theorem dX11_grows_264 : decode cX11_grows 264 = .ok (.aload_n 0, 1) := by decide +kernel
theorem dX11_grows_265 : decode cX11_grows 265 = .ok (.getfield 7, 3) := by decide +kernel
theorem dX11_grows_268 : decode cX11_grows 268 = .ok (.iload_n 3, 1) := by decide +kernel
theorem dX11_grows_269 : decode cX11_grows 269 = .ok (.isub, 1) := by decide +kernel
theorem dX11_grows_270 : decode cX11_grows 270 = .ok (.iload 5, 2) := by decide +kernel
theorem dX11_grows_272 : decode cX11_grows 272 = .ok (.isub, 1) := by decide +kernel
theorem dX11_grows_273 : decode cX11_grows 273 = .ok (.ishr, 1) := by decide +kernel
theorem dX11_grows_274 : decode cX11_grows 274 = .ok (.ior, 1) := by decide +kernel
theorem dX11_grows_275 : decode cX11_grows 275 = .ok (.istore 6, 2) := by decide +kernel
theorem dX11_grows_277 : decode cX11_grows 277 = .ok (.aload_n 0, 1) := by decide +kernel
theorem dX11_grows_278 : decode cX11_grows 278 = .ok (.getfield 36, 3) := by decide +kernel
theorem dX11_grows_281 : decode cX11_grows 281 = .ok (.iload_n 2, 1) := by decide +kernel
theorem dX11_grows_282 : decode cX11_grows 282 = .ok (.iload_n 3, 1) := by decide +kernel
theorem dX11_grows_283 : decode cX11_grows 283 = .ok (.iload 5, 2) := by decide +kernel
theorem dX11_grows_285 : decode cX11_grows 285 = .ok (.iadd, 1) := by decide +kernel
theorem dX11_grows_286 : decode cX11_grows 286 = .ok (.iconst 1, 1) := by decide +kernel
theorem dX11_grows_287 : decode cX11_grows 287 = .ok (.iadd, 1) := by decide +kernel
theorem dX11_grows_288 : decode cX11_grows 288 = .ok (.iastore, 1) := by decide +kernel
theorem dX11_grows_289 : decode cX11_grows 289 = .ok (.aload_n 0, 1) := by decide +kernel
theorem dX11_grows_290 : decode cX11_grows 290 = .ok (.getfield 39, 3) := by decide +kernel
theorem dX11_grows_293 : decode cX11_grows 293 = .ok (.iload_n 2, 1) := by decide +kernel
theorem dX11_grows_294 : decode cX11_grows 294 = .ok (.iload 6, 2) := by decide +kernel
theorem dX11_grows_296 : decode cX11_grows 296 = .ok (.iconst 1, 1) := by decide +kernel
theorem dX11_grows_297 : decode cX11_grows 297 = .ok (.ishl, 1) := by decide +kernel
theorem dX11_grows_298 : decode cX11_grows 298 = .ok (.iconst 1, 1) := by decide +kernel
theorem dX11_grows_299 : decode cX11_grows 299 = .ok (.ior, 1) := by decide +kernel
theorem dX11_grows_300 : decode cX11_grows 300 = .ok (.iastore, 1) := by decide +kernel
theorem dX11_grows_301 : decode cX11_grows 301 = .ok (.aload_n 0, 1) := by decide +kernel
theorem dX11_grows_302 : decode cX11_grows 302 = .ok (.getfield 36, 3) := by decide +kernel
theorem dX11_grows_305 : decode cX11_grows 305 = .ok (.iload_n 2, 1) := by decide +kernel
theorem dX11_grows_306 : decode cX11_grows 306 = .ok (.iconst 1, 1) := by decide +kernel
theorem dX11_grows_307 : decode cX11_grows 307 = .ok (.iadd, 1) := by decide +kernel
theorem dX11_grows_308 : decode cX11_grows 308 = .ok (.iload_n 3, 1) := by decide +kernel
theorem dX11_grows_309 : decode cX11_grows 309 = .ok (.iload 5, 2) := by decide +kernel
theorem dX11_grows_311 : decode cX11_grows 311 = .ok (.iadd, 1) := by decide +kernel
theorem dX11_grows_312 : decode cX11_grows 312 = .ok (.iconst 1, 1) := by decide +kernel
theorem dX11_grows_313 : decode cX11_grows 313 = .ok (.iadd, 1) := by decide +kernel
theorem dX11_grows_314 : decode cX11_grows 314 = .ok (.iastore, 1) := by decide +kernel
theorem dX11_grows_315 : decode cX11_grows 315 = .ok (.aload_n 0, 1) := by decide +kernel
theorem dX11_grows_316 : decode cX11_grows 316 = .ok (.getfield 39, 3) := by decide +kernel
theorem dX11_grows_319 : decode cX11_grows 319 = .ok (.iload_n 2, 1) := by decide +kernel
theorem dX11_grows_320 : decode cX11_grows 320 = .ok (.iconst 1, 1) := by decide +kernel
theorem dX11_grows_321 : decode cX11_grows 321 = .ok (.iadd, 1) := by decide +kernel
theorem dX11_grows_322 : decode cX11_grows 322 = .ok (.iload 6, 2) := by decide +kernel
theorem dX11_grows_324 : decode cX11_grows 324 = .ok (.iconst 1, 1) := by decide +kernel
theorem dX11_grows_325 : decode cX11_grows 325 = .ok (.ishl, 1) := by decide +kernel
theorem dX11_grows_326 : decode cX11_grows 326 = .ok (.iastore, 1) := by decide +kernel
theorem dX11_grows_327 : decode cX11_grows 327 = .ok (.iinc 2 2, 3) := by decide +kernel
theorem dX11_grows_330 : decode cX11_grows 330 = .ok (.goto (-294), 3) := by decide +kernel
theorem dX11_grows_333 : decode cX11_grows 333 = .ok (.iconst 1, 1) := by decide +kernel
theorem dX11_grows_334 : decode cX11_grows 334 = .ok (.ireturn, 1) := by decide +kernel
set_option maxRecDepth 20000 in
theorem ggX11_tree_X11_in : GoodIn wsX11_tree wsX11_in := goodIn_r _ [15] (by decide +kernel) (by decide +kernel)
set_option maxRecDepth 20000 in
theorem gX11_tree_X11_in : GoodIn wsX11_tree (va_wsS RX11 103 yX11_in wsX11_in) := goodIn_app (goodIn_of _ (by decide +kernel)) ggX11_tree_X11_in
set_option maxRecDepth 20000 in
theorem ggX11_tree_X11_grows : GoodIn wsX11_tree wsX11_grows := goodIn_r _ [19, 20, 21, 5, 9, 11, 22, 23, 24, 25, 26, 3, 27, 28, 29, 30, 14, 31, 1, 32, 33, 34, 35, 36, 37, 38, 39, 40, 41, 42, 43, 44, 45, 46, 47, 48, 49, 50, 51, 52, 53, 54, 55, 56, 57, 58, 59, 60, 61, 62, 63, 64, 65, 66, 67, 68, 69, 70, 71, 72, 73, 74, 75, 76, 77, 78, 79, 80, 81, 82, 83, 84, 85, 86] (by decide +kernel) (by decide +kernel)
set_option maxRecDepth 20000 in
theorem gX11_tree_X11_grows : GoodIn wsX11_tree (wsV RX11 175 RX11 yX11_grows wsX11_grows) := goodIn_app (goodIn_of _ (by decide +kernel)) ggX11_tree_X11_grows
theorem dX11_tree_0 : decode cX11_tree 0 = .ok (.iload_n 1, 1) := by decide +kernel
theorem dX11_tree_1 : decode cX11_tree 1 = .ok (.i2l, 1) := by decide +kernel
theorem dX11_tree_2 : decode cX11_tree 2 = .ok (.lconst 0, 1) := by decide +kernel
theorem dX11_tree_3 : decode cX11_tree 3 = .ok (.lconst 1, 1) := by decide +kernel
theorem dX11_tree_4 : decode cX11_tree 4 = .ok (.invokestatic 103, 3) := by decide +kernel
theorem dX11_tree_7 : decode cX11_tree 7 = .ok (.ifCond .ne 5, 3) := by decide +kernel
theorem dX11_tree_10 : decode cX11_tree 10 = .ok (.iconst (-1), 1) := by decide +kernel
theorem dX11_tree_11 : decode cX11_tree 11 = .ok (.ireturn, 1) := by decide +kernel
theorem dX11_tree_12 : decode cX11_tree 12 = .ok (.iconst 0, 1) := by decide +kernel
theorem dX11_tree_13 : decode cX11_tree 13 = .ok (.istore_n 2, 1) := by decide +kernel
theorem dX11_tree_14 : decode cX11_tree 14 = .ok (.iload_n 2, 1) := by decide +kernel
theorem dX11_tree_15 : decode cX11_tree 15 = .ok (.aload_n 0, 1) := by decide +kernel
theorem dX11_tree_16 : decode cX11_tree 16 = .ok (.getfield 107, 3) := by decide +kernel
theorem dX11_tree_19 : decode cX11_tree 19 = .ok (.if_icmp .ge 21, 3) := by decide +kernel
theorem dX11_tree_22 : decode cX11_tree 22 = .ok (.aload_n 0, 1) := by decide +kernel
theorem dX11_tree_23 : decode cX11_tree 23 = .ok (.getfield 51, 3) := by decide +kernel
theorem dX11_tree_26 : decode cX11_tree 26 = .ok (.iload_n 2, 1) := by decide +kernel
theorem dX11_tree_27 : decode cX11_tree 27 = .ok (.aload_n 0, 1) := by decide +kernel
theorem dX11_tree_28 : decode cX11_tree 28 = .ok (.getfield 20, 3) := by decide +kernel
theorem dX11_tree_31 : decode cX11_tree 31 = .ok (.iload_n 2, 1) := by decide +kernel
theorem dX11_tree_32 : decode cX11_tree 32 = .ok (.baload, 1) := by decide +kernel
theorem dX11_tree_33 : decode cX11_tree 33 = .ok (.bastore, 1) := by decide +kernel
theorem dX11_tree_34 : decode cX11_tree 34 = .ok (.iinc 2 1, 3) := by decide +kernel
theorem dX11_tree_37 : decode cX11_tree 37 = .ok (.goto (-23), 3) := by decide +kernel
theorem dX11_tree_40 : decode cX11_tree 40 = .ok (.aload_n 0, 1) := by decide +kernel
theorem dX11_tree_41 : decode cX11_tree 41 = .ok (.iload_n 1, 1) := by decide +kernel
theorem dX11_tree_42 : decode cX11_tree 42 = .ok (.invokevirtual 175, 3) := by decide +kernel
theorem dX11_tree_45 : decode cX11_tree 45 = .ok (.ifCond .ne 34, 3) := by decide +kernel
theorem dX11_tree_48 : decode cX11_tree 48 = .ok (.iconst 0, 1) := by decide +kernel
theorem dX11_tree_49 : decode cX11_tree 49 = .ok (.istore_n 2, 1) := by decide +kernel
theorem dX11_tree_50 : decode cX11_tree 50 = .ok (.iload_n 2, 1) := by decide +kernel
theorem dX11_tree_51 : decode cX11_tree 51 = .ok (.aload_n 0, 1) := by decide +kernel
theorem dX11_tree_52 : decode cX11_tree 52 = .ok (.getfield 107, 3) := by decide +kernel
theorem dX11_tree_55 : decode cX11_tree 55 = .ok (.if_icmp .ge 21, 3) := by decide +kernel
theorem dX11_tree_58 : decode cX11_tree 58 = .ok (.aload_n 0, 1) := by decide +kernel
theorem dX11_tree_59 : decode cX11_tree 59 = .ok (.getfield 20, 3) := by decide +kernel
theorem dX11_tree_62 : decode cX11_tree 62 = .ok (.iload_n 2, 1) := by decide +kernel
theorem dX11_tree_63 : decode cX11_tree 63 = .ok (.aload_n 0, 1) := by decide +kernel
theorem dX11_tree_64 : decode cX11_tree 64 = .ok (.getfield 51, 3) := by decide +kernel
theorem dX11_tree_67 : decode cX11_tree 67 = .ok (.iload_n 2, 1) := by decide +kernel
theorem dX11_tree_68 : decode cX11_tree 68 = .ok (.baload, 1) := by decide +kernel
theorem dX11_tree_69 : decode cX11_tree 69 = .ok (.bastore, 1) := by decide +kernel
theorem dX11_tree_70 : decode cX11_tree 70 = .ok (.iinc 2 1, 3) := by decide +kernel
theorem dX11_tree_73 : decode cX11_tree 73 = .ok (.goto (-23), 3) := by decide +kernel
theorem dX11_tree_76 : decode cX11_tree 76 = .ok (.bipush (-6), 2) := by decide +kernel
theorem dX11_tree_78 : decode cX11_tree 78 = .ok (.ireturn, 1) := by decide +kernel
theorem dX11_tree_79 : decode cX11_tree 79 = .ok (.aload_n 0, 1) := by decide +kernel
theorem dX11_tree_80 : decode cX11_tree 80 = .ok (.iconst 1, 1) := by decide +kernel
theorem dX11_tree_81 : decode cX11_tree 81 = .ok (.putfield 117, 3) := by decide +kernel
theorem dX11_tree_84 : decode cX11_tree 84 = .ok (.aload_n 0, 1) := by decide +kernel
theorem dX11_tree_85 : decode cX11_tree 85 = .ok (.aload_n 0, 1) := by decide +kernel
theorem dX11_tree_86 : decode cX11_tree 86 = .ok (.getfield 42, 3) := by decide +kernel
theorem dX11_tree_89 : decode cX11_tree 89 = .ok (.iconst 0, 1) := by decide +kernel
theorem dX11_tree_90 : decode cX11_tree 90 = .ok (.iaload, 1) := by decide +kernel
theorem dX11_tree_91 : decode cX11_tree 91 = .ok (.bipush 64, 2) := by decide +kernel
theorem dX11_tree_93 : decode cX11_tree 93 = .ok (.if_icmp .ge 12, 3) := by decide +kernel
theorem dX11_tree_96 : decode cX11_tree 96 = .ok (.aload_n 0, 1) := by decide +kernel
theorem dX11_tree_97 : decode cX11_tree 97 = .ok (.getfield 42, 3) := by decide +kernel
theorem dX11_tree_100 : decode cX11_tree 100 = .ok (.iconst 0, 1) := by decide +kernel
theorem dX11_tree_101 : decode cX11_tree 101 = .ok (.iaload, 1) := by decide +kernel
theorem dX11_tree_102 : decode cX11_tree 102 = .ok (.goto 5, 3) := by decide +kernel
theorem dX11_tree_105 : decode cX11_tree 105 = .ok (.bipush 64, 2) := by decide +kernel
theorem dX11_tree_107 : decode cX11_tree 107 = .ok (.putfield 121, 3) := by decide +kernel
theorem dX11_tree_110 : decode cX11_tree 110 = .ok (.iconst 0, 1) := by decide +kernel
theorem dX11_tree_111 : decode cX11_tree 111 = .ok (.istore_n 2, 1) := by decide +kernel
theorem dX11_tree_112 : decode cX11_tree 112 = .ok (.iload_n 2, 1) := by decide +kernel
theorem dX11_tree_113 : decode cX11_tree 113 = .ok (.iconst 5, 1) := by decide +kernel
theorem dX11_tree_114 : decode cX11_tree 114 = .ok (.if_icmp .ge 21, 3) := by decide +kernel
theorem dX11_tree_117 : decode cX11_tree 117 = .ok (.aload_n 0, 1) := by decide +kernel
theorem dX11_tree_118 : decode cX11_tree 118 = .ok (.getfield 33, 3) := by decide +kernel
theorem dX11_tree_121 : decode cX11_tree 121 = .ok (.iload_n 2, 1) := by decide +kernel
theorem dX11_tree_122 : decode cX11_tree 122 = .ok (.aload_n 0, 1) := by decide +kernel
theorem dX11_tree_123 : decode cX11_tree 123 = .ok (.getfield 42, 3) := by decide +kernel
theorem dX11_tree_126 : decode cX11_tree 126 = .ok (.iload_n 2, 1) := by decide +kernel
