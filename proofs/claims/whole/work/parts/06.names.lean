set_option maxRecDepth 20000 in
theorem ggX10_wake_X6_silentOnes : GoodIn wsX10_wake wsX6_silentOnes := goodIn_r _ [6, 7, 8, 29, 30, 31, 32] (by decide +kernel) (by decide +kernel)
set_option maxRecDepth 20000 in
theorem gX10_wake_X6_silentOnes : GoodIn wsX10_wake (wsV RX10 132 RX6 yX6_silentOnes wsX6_silentOnes) := goodIn_app (goodIn_of _ (by decide +kernel)) ggX10_wake_X6_silentOnes
set_option maxRecDepth 20000 in
theorem ggX10_wake_X6_silenceAll : GoodIn wsX10_wake wsX6_silenceAll := goodIn_r _ [12, 7, 8, 29, 30, 31, 32] (by decide +kernel) (by decide +kernel)
set_option maxRecDepth 20000 in
theorem gX10_wake_X6_silenceAll : GoodIn wsX10_wake (wsV RX10 136 RX6 yX6_silenceAll wsX6_silenceAll) := goodIn_app (goodIn_of _ (by decide +kernel)) ggX10_wake_X6_silenceAll
theorem dX10_wake_0 : decode cX10_wake 0 = .ok (.aload_n 0, 1) := by decide +kernel
theorem dX10_wake_1 : decode cX10_wake 1 = .ok (.getfield 25, 3) := by decide +kernel
theorem dX10_wake_4 : decode cX10_wake 4 = .ok (.invokevirtual 132, 3) := by decide +kernel
theorem dX10_wake_7 : decode cX10_wake 7 = .ok (.istore_n 1, 1) := by decide +kernel
theorem dX10_wake_8 : decode cX10_wake 8 = .ok (.aload_n 0, 1) := by decide +kernel
theorem dX10_wake_9 : decode cX10_wake 9 = .ok (.getfield 25, 3) := by decide +kernel
theorem dX10_wake_12 : decode cX10_wake 12 = .ok (.iconst 0, 1) := by decide +kernel
theorem dX10_wake_13 : decode cX10_wake 13 = .ok (.invokevirtual 136, 3) := by decide +kernel
theorem dX10_wake_16 : decode cX10_wake 16 = .ok (.iload_n 1, 1) := by decide +kernel
theorem dX10_wake_17 : decode cX10_wake 17 = .ok (.ireturn, 1) := by decide +kernel
set_option maxRecDepth 20000 in
theorem ggX10_block_X10_within : GoodIn wsX10_block wsX10_within := goodIn_r _ [7] (by decide +kernel) (by decide +kernel)
set_option maxRecDepth 20000 in
theorem gX10_block_X10_within : GoodIn wsX10_block (va_wsS RX10 99 yX10_within wsX10_within) := goodIn_app (goodIn_of _ (by decide +kernel)) ggX10_block_X10_within
set_option maxRecDepth 20000 in
theorem ggX10_block_X10_lowBits : GoodIn wsX10_block wsX10_lowBits := goodIn_r _ [10] (by decide +kernel) (by decide +kernel)
set_option maxRecDepth 20000 in
theorem gX10_block_X10_lowBits : GoodIn wsX10_block (va_wsS RX10 140 yX10_lowBits wsX10_lowBits) := goodIn_app (goodIn_of _ (by decide +kernel)) ggX10_block_X10_lowBits
theorem dX10_block_0 : decode cX10_block 0 = .ok (.iload_n 2, 1) := by decide +kernel
theorem dX10_block_1 : decode cX10_block 1 = .ok (.iconst (-1), 1) := by decide +kernel
theorem dX10_block_2 : decode cX10_block 2 = .ok (.aload_n 0, 1) := by decide +kernel
theorem dX10_block_3 : decode cX10_block 3 = .ok (.getfield 7, 3) := by decide +kernel
theorem dX10_block_6 : decode cX10_block 6 = .ok (.invokestatic 99, 3) := by decide +kernel
theorem dX10_block_9 : decode cX10_block 9 = .ok (.ifCond .ne 5, 3) := by decide +kernel
theorem dX10_block_12 : decode cX10_block 12 = .ok (.iconst (-1), 1) := by decide +kernel
theorem dX10_block_13 : decode cX10_block 13 = .ok (.ireturn, 1) := by decide +kernel
theorem dX10_block_14 : decode cX10_block 14 = .ok (.aload_n 0, 1) := by decide +kernel
theorem dX10_block_15 : decode cX10_block 15 = .ok (.iload_n 2, 1) := by decide +kernel
theorem dX10_block_16 : decode cX10_block 16 = .ok (.putfield 16, 3) := by decide +kernel
theorem dX10_block_19 : decode cX10_block 19 = .ok (.iload_n 2, 1) := by decide +kernel
theorem dX10_block_20 : decode cX10_block 20 = .ok (.ifCond .ge 5, 3) := by decide +kernel
theorem dX10_block_23 : decode cX10_block 23 = .ok (.iconst 0, 1) := by decide +kernel
theorem dX10_block_24 : decode cX10_block 24 = .ok (.ireturn, 1) := by decide +kernel
theorem dX10_block_25 : decode cX10_block 25 = .ok (.aload_n 0, 1) := by decide +kernel
theorem dX10_block_26 : decode cX10_block 26 = .ok (.iload_n 1, 1) := by decide +kernel
theorem dX10_block_27 : decode cX10_block 27 = .ok (.iload_n 2, 1) := by decide +kernel
theorem dX10_block_28 : decode cX10_block 28 = .ok (.invokestatic 140, 3) := by decide +kernel
theorem dX10_block_31 : decode cX10_block 31 = .ok (.iand, 1) := by decide +kernel
theorem dX10_block_32 : decode cX10_block 32 = .ok (.putfield 13, 3) := by decide +kernel
theorem dX10_block_35 : decode cX10_block 35 = .ok (.iconst 1, 1) := by decide +kernel
theorem dX10_block_36 : decode cX10_block 36 = .ok (.aload_n 0, 1) := by decide +kernel
theorem dX10_block_37 : decode cX10_block 37 = .ok (.getfield 7, 3) := by decide +kernel
theorem dX10_block_40 : decode cX10_block 40 = .ok (.iload_n 2, 1) := by decide +kernel
theorem dX10_block_41 : decode cX10_block 41 = .ok (.isub, 1) := by decide +kernel
theorem dX10_block_42 : decode cX10_block 42 = .ok (.ishl, 1) := by decide +kernel
theorem dX10_block_43 : decode cX10_block 43 = .ok (.ireturn, 1) := by decide +kernel
set_option maxRecDepth 20000 in
theorem ggX10_ask_X10_within : GoodIn wsX10_ask wsX10_within := goodIn_r _ [10] (by decide +kernel) (by decide +kernel)
set_option maxRecDepth 20000 in
theorem gX10_ask_X10_within : GoodIn wsX10_ask (va_wsS RX10 99 yX10_within wsX10_within) := goodIn_app (goodIn_of _ (by decide +kernel)) ggX10_ask_X10_within
set_option maxRecDepth 20000 in
theorem ggX10_ask_X10_lowBits : GoodIn wsX10_ask wsX10_lowBits := goodIn_r _ [13] (by decide +kernel) (by decide +kernel)
set_option maxRecDepth 20000 in
theorem gX10_ask_X10_lowBits : GoodIn wsX10_ask (va_wsS RX10 140 yX10_lowBits wsX10_lowBits) := goodIn_app (goodIn_of _ (by decide +kernel)) ggX10_ask_X10_lowBits
set_option maxRecDepth 20000 in
theorem ggX10_ask_X10_gatherTags : GoodIn wsX10_ask wsX10_gatherTags := goodIn_r _ [17, 2, 1, 18, 19, 20, 21, 22, 23, 24, 25, 26, 27, 28, 29, 30, 31, 32, 33, 34, 35, 36, 37, 38, 63, 64, 65, 66, 67, 68, 69, 70, 71, 72, 73, 74, 75, 76, 77, 78, 88, 89, 90, 91, 79, 80, 81, 82, 83, 84, 85, 86, 87] (by decide +kernel) (by decide +kernel)
set_option maxRecDepth 20000 in
theorem gX10_ask_X10_gatherTags : GoodIn wsX10_ask (wsV RX10 144 RX10 yX10_gatherTags wsX10_gatherTags) := goodIn_app (goodIn_of _ (by decide +kernel)) ggX10_ask_X10_gatherTags
set_option maxRecDepth 20000 in
theorem ggX10_ask_X0_listen : GoodIn wsX10_ask wsX0_listen := goodIn_r _ [42, 31, 43, 44, 45, 32, 38, 12, 9, 13, 46, 47, 48, 29, 49, 50, 33, 51, 52, 53, 54, 55, 56, 57, 58, 79, 80, 81, 82, 83, 84, 85, 86, 87] (by decide +kernel) (by decide +kernel)
set_option maxRecDepth 20000 in
theorem gX10_ask_X0_listen : GoodIn wsX10_ask (wsV RX10 147 RX0 yX0_listen wsX0_listen) := goodIn_app (goodIn_of _ (by decide +kernel)) ggX10_ask_X0_listen
set_option maxRecDepth 20000 in
theorem ggX10_ask_X0_clashes : GoodIn wsX10_ask wsX0_clashes := goodIn_r _ [62, 44, 45, 79, 80, 81, 82, 83, 84, 85, 86, 87] (by decide +kernel) (by decide +kernel)
set_option maxRecDepth 20000 in
theorem gX10_ask_X0_clashes : GoodIn wsX10_ask (wsV RX10 162 RX0 yX0_clashes wsX0_clashes) := goodIn_app (goodIn_of _ (by decide +kernel)) ggX10_ask_X0_clashes
theorem dX10_ask_0 : decode cX10_ask 0 = .ok (.iload_n 1, 1) := by decide +kernel
theorem dX10_ask_1 : decode cX10_ask 1 = .ok (.iconst 0, 1) := by decide +kernel
theorem dX10_ask_2 : decode cX10_ask 2 = .ok (.aload_n 0, 1) := by decide +kernel
theorem dX10_ask_3 : decode cX10_ask 3 = .ok (.getfield 7, 3) := by decide +kernel
theorem dX10_ask_6 : decode cX10_ask 6 = .ok (.invokestatic 99, 3) := by decide +kernel
theorem dX10_ask_9 : decode cX10_ask 9 = .ok (.ifCond .eq 24, 3) := by decide +kernel
theorem dX10_ask_12 : decode cX10_ask 12 = .ok (.iload_n 2, 1) := by decide +kernel
theorem dX10_ask_13 : decode cX10_ask 13 = .ok (.iconst 0, 1) := by decide +kernel
theorem dX10_ask_14 : decode cX10_ask 14 = .ok (.iload_n 1, 1) := by decide +kernel
theorem dX10_ask_15 : decode cX10_ask 15 = .ok (.invokestatic 140, 3) := by decide +kernel
theorem dX10_ask_18 : decode cX10_ask 18 = .ok (.invokestatic 99, 3) := by decide +kernel
theorem dX10_ask_21 : decode cX10_ask 21 = .ok (.ifCond .eq 12, 3) := by decide +kernel
theorem dX10_ask_24 : decode cX10_ask 24 = .ok (.iload_n 3, 1) := by decide +kernel
theorem dX10_ask_25 : decode cX10_ask 25 = .ok (.iconst 0, 1) := by decide +kernel
theorem dX10_ask_26 : decode cX10_ask 26 = .ok (.iconst 2, 1) := by decide +kernel
theorem dX10_ask_27 : decode cX10_ask 27 = .ok (.invokestatic 99, 3) := by decide +kernel
theorem dX10_ask_30 : decode cX10_ask 30 = .ok (.ifCond .ne 5, 3) := by decide +kernel
theorem dX10_ask_33 : decode cX10_ask 33 = .ok (.iconst (-1), 1) := by decide +kernel
theorem dX10_ask_34 : decode cX10_ask 34 = .ok (.ireturn, 1) := by decide +kernel
theorem dX10_ask_35 : decode cX10_ask 35 = .ok (.aload_n 0, 1) := by decide +kernel
theorem dX10_ask_36 : decode cX10_ask 36 = .ok (.invokevirtual 144, 3) := by decide +kernel
theorem dX10_ask_39 : decode cX10_ask 39 = .ok (.aload_n 0, 1) := by decide +kernel
theorem dX10_ask_40 : decode cX10_ask 40 = .ok (.getfield 32, 3) := by decide +kernel
theorem dX10_ask_43 : decode cX10_ask 43 = .ok (.iload_n 1, 1) := by decide +kernel
theorem dX10_ask_44 : decode cX10_ask 44 = .ok (.iload_n 2, 1) := by decide +kernel
theorem dX10_ask_45 : decode cX10_ask 45 = .ok (.invokevirtual 147, 3) := by decide +kernel
theorem dX10_ask_48 : decode cX10_ask 48 = .ok (.iload_n 3, 1) := by decide +kernel
theorem dX10_ask_49 : decode cX10_ask 49 = .ok (.lookupswitch 61 #[(0, 27), (1, 43)], 27) := by decide +kernel
theorem dX10_ask_76 : decode cX10_ask 76 = .ok (.aload_n 0, 1) := by decide +kernel
theorem dX10_ask_77 : decode cX10_ask 77 = .ok (.getfield 32, 3) := by decide +kernel
theorem dX10_ask_80 : decode cX10_ask 80 = .ok (.getfield 150, 3) := by decide +kernel
theorem dX10_ask_83 : decode cX10_ask 83 = .ok (.aload_n 0, 1) := by decide +kernel
theorem dX10_ask_84 : decode cX10_ask 84 = .ok (.getfield 32, 3) := by decide +kernel
theorem dX10_ask_87 : decode cX10_ask 87 = .ok (.getfield 153, 3) := by decide +kernel
theorem dX10_ask_90 : decode cX10_ask 90 = .ok (.iadd, 1) := by decide +kernel
theorem dX10_ask_91 : decode cX10_ask 91 = .ok (.ireturn, 1) := by decide +kernel
theorem dX10_ask_92 : decode cX10_ask 92 = .ok (.aload_n 0, 1) := by decide +kernel
theorem dX10_ask_93 : decode cX10_ask 93 = .ok (.getfield 32, 3) := by decide +kernel
theorem dX10_ask_96 : decode cX10_ask 96 = .ok (.getfield 156, 3) := by decide +kernel
theorem dX10_ask_99 : decode cX10_ask 99 = .ok (.aload_n 0, 1) := by decide +kernel
theorem dX10_ask_100 : decode cX10_ask 100 = .ok (.getfield 32, 3) := by decide +kernel
theorem dX10_ask_103 : decode cX10_ask 103 = .ok (.getfield 159, 3) := by decide +kernel
theorem dX10_ask_106 : decode cX10_ask 106 = .ok (.iconst (-1), 1) := by decide +kernel
theorem dX10_ask_107 : decode cX10_ask 107 = .ok (.ixor, 1) := by decide +kernel
theorem dX10_ask_108 : decode cX10_ask 108 = .ok (.iand, 1) := by decide +kernel
theorem dX10_ask_109 : decode cX10_ask 109 = .ok (.ireturn, 1) := by decide +kernel
theorem dX10_ask_110 : decode cX10_ask 110 = .ok (.aload_n 0, 1) := by decide +kernel
theorem dX10_ask_111 : decode cX10_ask 111 = .ok (.getfield 32, 3) := by decide +kernel
theorem dX10_ask_114 : decode cX10_ask 114 = .ok (.invokevirtual 162, 3) := by decide +kernel
theorem dX10_ask_117 : decode cX10_ask 117 = .ok (.ireturn, 1) := by decide +kernel
set_option maxRecDepth 20000 in
theorem ggX10_tree_X10_within : GoodIn wsX10_tree wsX10_within := goodIn_r _ [9] (by decide +kernel) (by decide +kernel)
set_option maxRecDepth 20000 in
theorem gX10_tree_X10_within : GoodIn wsX10_tree (va_wsS RX10 99 yX10_within wsX10_within) := goodIn_app (goodIn_of _ (by decide +kernel)) ggX10_tree_X10_within
set_option maxRecDepth 20000 in
theorem ggX10_tree_X10_gatherTags : GoodIn wsX10_tree wsX10_gatherTags := goodIn_r _ [13, 2, 14, 4, 15, 16, 17, 18, 19, 20, 21, 22, 23, 24, 25, 26, 27, 28, 29, 30, 31, 32, 33, 34, 107, 108, 109, 110, 111, 112, 113, 114, 115, 116, 117, 118, 119, 120, 121, 122, 130, 131, 132, 133, 134, 135, 136, 137, 138, 139, 140, 141, 142] (by decide +kernel) (by decide +kernel)
set_option maxRecDepth 20000 in
theorem gX10_tree_X10_gatherTags : GoodIn wsX10_tree (wsV RX10 144 RX10 yX10_gatherTags wsX10_gatherTags) := goodIn_app (goodIn_of _ (by decide +kernel)) ggX10_tree_X10_gatherTags
set_option maxRecDepth 20000 in
theorem ggX10_tree_X9_walk : GoodIn wsX10_tree wsX9_walk := goodIn_r _ [39, 40, 41, 42, 43, 44, 45, 38, 46, 47, 48, 49, 50, 51, 52, 53, 54, 55, 56, 57, 58, 59, 60, 61, 62, 63, 64, 65, 66, 67, 25, 68, 27, 69, 70, 71, 28, 34, 72, 8, 73, 74, 75, 76, 77, 78, 29, 79, 80, 81, 82, 83, 84, 85, 86, 87, 88, 89, 90, 91, 92, 93, 94, 95, 96, 97, 98, 99, 123, 124, 125, 126, 127, 128, 129, 134, 135, 136, 137, 138, 139, 140, 141, 142] (by decide +kernel) (by decide +kernel)
set_option maxRecDepth 20000 in
theorem gX10_tree_X9_walk : GoodIn wsX10_tree (wsV RX10 165 RX9 yX9_walk wsX9_walk) := goodIn_app (goodIn_of _ (by decide +kernel)) ggX10_tree_X9_walk
set_option maxRecDepth 20000 in
theorem ggX10_tree_X6_silenceAll : GoodIn wsX10_tree wsX6_silenceAll := goodIn_r _ [104, 105, 106, 130, 131, 132, 133] (by decide +kernel) (by decide +kernel)
set_option maxRecDepth 20000 in
theorem gX10_tree_X6_silenceAll : GoodIn wsX10_tree (wsV RX10 136 RX6 yX6_silenceAll wsX6_silenceAll) := goodIn_app (goodIn_of _ (by decide +kernel)) ggX10_tree_X6_silenceAll
theorem dX10_tree_0 : decode cX10_tree 0 = .ok (.iload_n 1, 1) := by decide +kernel
theorem dX10_tree_1 : decode cX10_tree 1 = .ok (.iconst 0, 1) := by decide +kernel
theorem dX10_tree_2 : decode cX10_tree 2 = .ok (.iconst 1, 1) := by decide +kernel
theorem dX10_tree_3 : decode cX10_tree 3 = .ok (.invokestatic 99, 3) := by decide +kernel
theorem dX10_tree_6 : decode cX10_tree 6 = .ok (.ifCond .ne 5, 3) := by decide +kernel
theorem dX10_tree_9 : decode cX10_tree 9 = .ok (.iconst (-1), 1) := by decide +kernel
theorem dX10_tree_10 : decode cX10_tree 10 = .ok (.ireturn, 1) := by decide +kernel
theorem dX10_tree_11 : decode cX10_tree 11 = .ok (.aload_n 0, 1) := by decide +kernel
theorem dX10_tree_12 : decode cX10_tree 12 = .ok (.invokevirtual 144, 3) := by decide +kernel
theorem dX10_tree_15 : decode cX10_tree 15 = .ok (.aload_n 0, 1) := by decide +kernel
theorem dX10_tree_16 : decode cX10_tree 16 = .ok (.getfield 43, 3) := by decide +kernel
theorem dX10_tree_19 : decode cX10_tree 19 = .ok (.aload_n 0, 1) := by decide +kernel
theorem dX10_tree_20 : decode cX10_tree 20 = .ok (.getfield 32, 3) := by decide +kernel
theorem dX10_tree_23 : decode cX10_tree 23 = .ok (.iload_n 1, 1) := by decide +kernel
theorem dX10_tree_24 : decode cX10_tree 24 = .ok (.invokevirtual 165, 3) := by decide +kernel
theorem dX10_tree_27 : decode cX10_tree 27 = .ok (.ifCond .ne 6, 3) := by decide +kernel
theorem dX10_tree_30 : decode cX10_tree 30 = .ok (.bipush (-6), 2) := by decide +kernel
theorem dX10_tree_32 : decode cX10_tree 32 = .ok (.ireturn, 1) := by decide +kernel
theorem dX10_tree_33 : decode cX10_tree 33 = .ok (.aload_n 0, 1) := by decide +kernel
theorem dX10_tree_34 : decode cX10_tree 34 = .ok (.getfield 39, 3) := by decide +kernel
theorem dX10_tree_37 : decode cX10_tree 37 = .ok (.astore_n 2, 1) := by decide +kernel
theorem dX10_tree_38 : decode cX10_tree 38 = .ok (.aload_n 0, 1) := by decide +kernel
theorem dX10_tree_39 : decode cX10_tree 39 = .ok (.aload_n 0, 1) := by decide +kernel
theorem dX10_tree_40 : decode cX10_tree 40 = .ok (.getfield 43, 3) := by decide +kernel
theorem dX10_tree_43 : decode cX10_tree 43 = .ok (.putfield 39, 3) := by decide +kernel
theorem dX10_tree_46 : decode cX10_tree 46 = .ok (.aload_n 0, 1) := by decide +kernel
theorem dX10_tree_47 : decode cX10_tree 47 = .ok (.aload_n 2, 1) := by decide +kernel
theorem dX10_tree_48 : decode cX10_tree 48 = .ok (.putfield 43, 3) := by decide +kernel
theorem dX10_tree_51 : decode cX10_tree 51 = .ok (.aload_n 0, 1) := by decide +kernel
theorem dX10_tree_52 : decode cX10_tree 52 = .ok (.getfield 25, 3) := by decide +kernel
theorem dX10_tree_55 : decode cX10_tree 55 = .ok (.iconst 1, 1) := by decide +kernel
theorem dX10_tree_56 : decode cX10_tree 56 = .ok (.invokevirtual 136, 3) := by decide +kernel
theorem dX10_tree_59 : decode cX10_tree 59 = .ok (.aload_n 0, 1) := by decide +kernel
theorem dX10_tree_60 : decode cX10_tree 60 = .ok (.getfield 39, 3) := by decide +kernel
theorem dX10_tree_63 : decode cX10_tree 63 = .ok (.getfield 169, 3) := by decide +kernel
theorem dX10_tree_66 : decode cX10_tree 66 = .ok (.iconst 0, 1) := by decide +kernel
theorem dX10_tree_67 : decode cX10_tree 67 = .ok (.iaload, 1) := by decide +kernel
theorem dX10_tree_68 : decode cX10_tree 68 = .ok (.ireturn, 1) := by decide +kernel
set_option maxRecDepth 20000 in
theorem ggX10_grown_X10_within : GoodIn wsX10_grown wsX10_within := goodIn_r _ [6] (by decide +kernel) (by decide +kernel)
set_option maxRecDepth 20000 in
theorem gX10_grown_X10_within : GoodIn wsX10_grown (va_wsS RX10 99 yX10_within wsX10_within) := goodIn_app (goodIn_of _ (by decide +kernel)) ggX10_grown_X10_within
set_option maxRecDepth 20000 in
theorem ggX10_grown_X9_wasWalked : GoodIn wsX10_grown wsX9_wasWalked := goodIn_r _ [11, 12, 29, 30, 31, 32, 33, 34, 35] (by decide +kernel) (by decide +kernel)
set_option maxRecDepth 20000 in
theorem gX10_grown_X9_wasWalked : GoodIn wsX10_grown (wsV RX10 172 RX9 yX9_wasWalked wsX9_wasWalked) := goodIn_app (goodIn_of _ (by decide +kernel)) ggX10_grown_X9_wasWalked
theorem dX10_grown_0 : decode cX10_grown 0 = .ok (.iload_n 1, 1) := by decide +kernel
theorem dX10_grown_1 : decode cX10_grown 1 = .ok (.iconst 0, 1) := by decide +kernel
theorem dX10_grown_2 : decode cX10_grown 2 = .ok (.iconst 4, 1) := by decide +kernel
theorem dX10_grown_3 : decode cX10_grown 3 = .ok (.invokestatic 99, 3) := by decide +kernel
theorem dX10_grown_6 : decode cX10_grown 6 = .ok (.ifCond .ne 5, 3) := by decide +kernel
theorem dX10_grown_9 : decode cX10_grown 9 = .ok (.iconst (-1), 1) := by decide +kernel
theorem dX10_grown_10 : decode cX10_grown 10 = .ok (.ireturn, 1) := by decide +kernel
theorem dX10_grown_11 : decode cX10_grown 11 = .ok (.aload_n 0, 1) := by decide +kernel
theorem dX10_grown_12 : decode cX10_grown 12 = .ok (.getfield 39, 3) := by decide +kernel
theorem dX10_grown_15 : decode cX10_grown 15 = .ok (.invokevirtual 172, 3) := by decide +kernel
theorem dX10_grown_18 : decode cX10_grown 18 = .ok (.ifCond .eq 15, 3) := by decide +kernel
theorem dX10_grown_21 : decode cX10_grown 21 = .ok (.aload_n 0, 1) := by decide +kernel
theorem dX10_grown_22 : decode cX10_grown 22 = .ok (.getfield 39, 3) := by decide +kernel
theorem dX10_grown_25 : decode cX10_grown 25 = .ok (.getfield 169, 3) := by decide +kernel
theorem dX10_grown_28 : decode cX10_grown 28 = .ok (.iload_n 1, 1) := by decide +kernel
theorem dX10_grown_29 : decode cX10_grown 29 = .ok (.iaload, 1) := by decide +kernel
theorem dX10_grown_30 : decode cX10_grown 30 = .ok (.goto 5, 3) := by decide +kernel
theorem dX10_grown_33 : decode cX10_grown 33 = .ok (.bipush (-2), 2) := by decide +kernel
theorem dX10_grown_35 : decode cX10_grown 35 = .ok (.ireturn, 1) := by decide +kernel
set_option maxRecDepth 20000 in
theorem ggX10_heard_X10_within : GoodIn wsX10_heard wsX10_within := goodIn_r _ [8] (by decide +kernel) (by decide +kernel)
set_option maxRecDepth 20000 in
theorem gX10_heard_X10_within : GoodIn wsX10_heard (va_wsS RX10 99 yX10_within wsX10_within) := goodIn_app (goodIn_of _ (by decide +kernel)) ggX10_heard_X10_within
theorem dX10_heard_0 : decode cX10_heard 0 = .ok (.iload_n 1, 1) := by decide +kernel
theorem dX10_heard_1 : decode cX10_heard 1 = .ok (.iconst 0, 1) := by decide +kernel
theorem dX10_heard_2 : decode cX10_heard 2 = .ok (.aload_n 0, 1) := by decide +kernel
theorem dX10_heard_3 : decode cX10_heard 3 = .ok (.getfield 39, 3) := by decide +kernel
theorem dX10_heard_6 : decode cX10_heard 6 = .ok (.getfield 176, 3) := by decide +kernel
theorem dX10_heard_9 : decode cX10_heard 9 = .ok (.iconst 1, 1) := by decide +kernel
theorem dX10_heard_10 : decode cX10_heard 10 = .ok (.isub, 1) := by decide +kernel
theorem dX10_heard_11 : decode cX10_heard 11 = .ok (.invokestatic 99, 3) := by decide +kernel
theorem dX10_heard_14 : decode cX10_heard 14 = .ok (.ifCond .eq 12, 3) := by decide +kernel
theorem dX10_heard_17 : decode cX10_heard 17 = .ok (.iload_n 2, 1) := by decide +kernel
theorem dX10_heard_18 : decode cX10_heard 18 = .ok (.iconst 0, 1) := by decide +kernel
theorem dX10_heard_19 : decode cX10_heard 19 = .ok (.iconst 1, 1) := by decide +kernel
theorem dX10_heard_20 : decode cX10_heard 20 = .ok (.invokestatic 99, 3) := by decide +kernel
theorem dX10_heard_23 : decode cX10_heard 23 = .ok (.ifCond .ne 5, 3) := by decide +kernel
theorem dX10_heard_26 : decode cX10_heard 26 = .ok (.iconst (-1), 1) := by decide +kernel
theorem dX10_heard_27 : decode cX10_heard 27 = .ok (.ireturn, 1) := by decide +kernel
theorem dX10_heard_28 : decode cX10_heard 28 = .ok (.iload_n 2, 1) := by decide +kernel
theorem dX10_heard_29 : decode cX10_heard 29 = .ok (.ifCond .ne 15, 3) := by decide +kernel
theorem dX10_heard_32 : decode cX10_heard 32 = .ok (.aload_n 0, 1) := by decide +kernel
theorem dX10_heard_33 : decode cX10_heard 33 = .ok (.getfield 39, 3) := by decide +kernel
theorem dX10_heard_36 : decode cX10_heard 36 = .ok (.getfield 179, 3) := by decide +kernel
theorem dX10_heard_39 : decode cX10_heard 39 = .ok (.iload_n 1, 1) := by decide +kernel
theorem dX10_heard_40 : decode cX10_heard 40 = .ok (.iaload, 1) := by decide +kernel
theorem dX10_heard_41 : decode cX10_heard 41 = .ok (.goto 12, 3) := by decide +kernel
theorem dX10_heard_44 : decode cX10_heard 44 = .ok (.aload_n 0, 1) := by decide +kernel
theorem dX10_heard_45 : decode cX10_heard 45 = .ok (.getfield 39, 3) := by decide +kernel
theorem dX10_heard_48 : decode cX10_heard 48 = .ok (.getfield 182, 3) := by decide +kernel
theorem dX10_heard_51 : decode cX10_heard 51 = .ok (.iload_n 1, 1) := by decide +kernel
theorem dX10_heard_52 : decode cX10_heard 52 = .ok (.iaload, 1) := by decide +kernel
theorem dX10_heard_53 : decode cX10_heard 53 = .ok (.ireturn, 1) := by decide +kernel
set_option maxRecDepth 20000 in
theorem ggX10_learns_X10_isNumber : GoodIn wsX10_learns wsX10_isNumber := goodIn_r _ [7, 2, 8, 9, 6, 10, 11, 12, 13, 27, 28, 29, 30, 31, 32, 33, 34, 35, 36, 37, 38, 39, 40, 41, 42] (by decide +kernel) (by decide +kernel)
set_option maxRecDepth 20000 in
theorem gX10_learns_X10_isNumber : GoodIn wsX10_learns (wsV RX10 185 RX10 yX10_isNumber wsX10_isNumber) := goodIn_app (goodIn_of _ (by decide +kernel)) ggX10_learns_X10_isNumber
set_option maxRecDepth 20000 in
theorem ggX10_learns_X9_wasWalked : GoodIn wsX10_learns wsX9_wasWalked := goodIn_r _ [18, 19, 43, 44, 45, 46, 47, 48, 49] (by decide +kernel) (by decide +kernel)
set_option maxRecDepth 20000 in
theorem gX10_learns_X9_wasWalked : GoodIn wsX10_learns (wsV RX10 172 RX9 yX9_wasWalked wsX9_wasWalked) := goodIn_app (goodIn_of _ (by decide +kernel)) ggX10_learns_X9_wasWalked
set_option maxRecDepth 20000 in
theorem ggX10_learns_X9_longestOf : GoodIn wsX10_learns wsX9_longestOf := goodIn_r _ [23, 24, 25, 26, 43, 44, 45, 46, 47, 48, 49] (by decide +kernel) (by decide +kernel)
set_option maxRecDepth 20000 in
theorem gX10_learns_X9_longestOf : GoodIn wsX10_learns (wsV RX10 188 RX9 yX9_longestOf wsX9_longestOf) := goodIn_app (goodIn_of _ (by decide +kernel)) ggX10_learns_X9_longestOf
theorem dX10_learns_0 : decode cX10_learns 0 = .ok (.aload_n 0, 1) := by decide +kernel
theorem dX10_learns_1 : decode cX10_learns 1 = .ok (.iload_n 1, 1) := by decide +kernel
theorem dX10_learns_2 : decode cX10_learns 2 = .ok (.invokevirtual 185, 3) := by decide +kernel
theorem dX10_learns_5 : decode cX10_learns 5 = .ok (.ifCond .ne 5, 3) := by decide +kernel
theorem dX10_learns_8 : decode cX10_learns 8 = .ok (.iconst (-1), 1) := by decide +kernel
theorem dX10_learns_9 : decode cX10_learns 9 = .ok (.ireturn, 1) := by decide +kernel
theorem dX10_learns_10 : decode cX10_learns 10 = .ok (.aload_n 0, 1) := by decide +kernel
theorem dX10_learns_11 : decode cX10_learns 11 = .ok (.getfield 39, 3) := by decide +kernel
theorem dX10_learns_14 : decode cX10_learns 14 = .ok (.invokevirtual 172, 3) := by decide +kernel
theorem dX10_learns_17 : decode cX10_learns 17 = .ok (.ifCond .eq 18, 3) := by decide +kernel
theorem dX10_learns_20 : decode cX10_learns 20 = .ok (.aload_n 0, 1) := by decide +kernel
theorem dX10_learns_21 : decode cX10_learns 21 = .ok (.getfield 39, 3) := by decide +kernel
theorem dX10_learns_24 : decode cX10_learns 24 = .ok (.iload_n 1, 1) := by decide +kernel
theorem dX10_learns_25 : decode cX10_learns 25 = .ok (.aload_n 0, 1) := by decide +kernel
theorem dX10_learns_26 : decode cX10_learns 26 = .ok (.getfield 7, 3) := by decide +kernel
theorem dX10_learns_29 : decode cX10_learns 29 = .ok (.invokevirtual 188, 3) := by decide +kernel
theorem dX10_learns_32 : decode cX10_learns 32 = .ok (.goto 5, 3) := by decide +kernel
theorem dX10_learns_35 : decode cX10_learns 35 = .ok (.bipush (-2), 2) := by decide +kernel
theorem dX10_learns_37 : decode cX10_learns 37 = .ok (.ireturn, 1) := by decide +kernel
set_option maxRecDepth 20000 in
theorem ggX10_would_X10_within : GoodIn wsX10_would wsX10_within := goodIn_r _ [8] (by decide +kernel) (by decide +kernel)
set_option maxRecDepth 20000 in
theorem gX10_would_X10_within : GoodIn wsX10_would (va_wsS RX10 99 yX10_within wsX10_within) := goodIn_app (goodIn_of _ (by decide +kernel)) ggX10_would_X10_within
set_option maxRecDepth 20000 in
theorem ggX10_would_X0_clear : GoodIn wsX10_would wsX0_clear := goodIn_r _ [13, 14, 15, 16, 110, 111, 112, 113, 114, 115, 116, 117, 118] (by decide +kernel) (by decide +kernel)
set_option maxRecDepth 20000 in
theorem gX10_would_X0_clear : GoodIn wsX10_would (wsV RX10 191 RX0 yX0_clear wsX0_clear) := goodIn_app (goodIn_of _ (by decide +kernel)) ggX10_would_X0_clear
set_option maxRecDepth 20000 in
theorem ggX10_would_X0_add : GoodIn wsX10_would wsX0_add := goodIn_r _ [20, 15, 21, 110, 111, 112, 113, 114, 115, 116, 117, 118] (by decide +kernel) (by decide +kernel)
set_option maxRecDepth 20000 in
theorem gX10_would_X0_add : GoodIn wsX10_would (wsV RX10 194 RX0 yX0_add wsX0_add) := goodIn_app (goodIn_of _ (by decide +kernel)) ggX10_would_X0_add
set_option maxRecDepth 20000 in
theorem ggX10_would_X9_walk : GoodIn wsX10_would wsX9_walk := goodIn_r _ [26, 27, 28, 29, 30, 31, 32, 25, 33, 34, 35, 36, 37, 38, 39, 40, 41, 42, 43, 44, 45, 46, 47, 48, 49, 50, 51, 52, 53, 54, 12, 55, 14, 56, 57, 58, 15, 21, 59, 7, 60, 61, 62, 63, 64, 65, 16, 66, 67, 68, 69, 70, 71, 72, 73, 74, 75, 76, 77, 78, 79, 80, 81, 82, 83, 84, 85, 86, 103, 104, 105, 106, 107, 108, 109, 110, 111, 112, 113, 114, 115, 116, 117, 118] (by decide +kernel) (by decide +kernel)
set_option maxRecDepth 20000 in
theorem gX10_would_X9_walk : GoodIn wsX10_would (wsV RX10 165 RX9 yX9_walk wsX9_walk) := goodIn_app (goodIn_of _ (by decide +kernel)) ggX10_would_X9_walk
theorem dX10_would_0 : decode cX10_would 0 = .ok (.iload_n 1, 1) := by decide +kernel
theorem dX10_would_1 : decode cX10_would 1 = .ok (.iconst 0, 1) := by decide +kernel
theorem dX10_would_2 : decode cX10_would 2 = .ok (.iconst 1, 1) := by decide +kernel
theorem dX10_would_3 : decode cX10_would 3 = .ok (.invokestatic 99, 3) := by decide +kernel
theorem dX10_would_6 : decode cX10_would 6 = .ok (.ifCond .eq 11, 3) := by decide +kernel
theorem dX10_would_9 : decode cX10_would 9 = .ok (.aload_n 0, 1) := by decide +kernel
theorem dX10_would_10 : decode cX10_would 10 = .ok (.getfield 7, 3) := by decide +kernel
theorem dX10_would_13 : decode cX10_would 13 = .ok (.iconst 5, 1) := by decide +kernel
theorem dX10_would_14 : decode cX10_would 14 = .ok (.if_icmp .le 5, 3) := by decide +kernel
theorem dX10_would_17 : decode cX10_would 17 = .ok (.iconst (-1), 1) := by decide +kernel
theorem dX10_would_18 : decode cX10_would 18 = .ok (.ireturn, 1) := by decide +kernel
theorem dX10_would_19 : decode cX10_would 19 = .ok (.aload_n 0, 1) := by decide +kernel
theorem dX10_would_20 : decode cX10_would 20 = .ok (.getfield 7, 3) := by decide +kernel
theorem dX10_would_23 : decode cX10_would 23 = .ok (.iconst 5, 1) := by decide +kernel
theorem dX10_would_24 : decode cX10_would 24 = .ok (.if_icmp .ge 16, 3) := by decide +kernel
theorem dX10_would_27 : decode cX10_would 27 = .ok (.iload_n 2, 1) := by decide +kernel
theorem dX10_would_28 : decode cX10_would 28 = .ok (.iconst 1, 1) := by decide +kernel
theorem dX10_would_29 : decode cX10_would 29 = .ok (.aload_n 0, 1) := by decide +kernel
theorem dX10_would_30 : decode cX10_would 30 = .ok (.getfield 7, 3) := by decide +kernel
theorem dX10_would_33 : decode cX10_would 33 = .ok (.ishl, 1) := by decide +kernel
theorem dX10_would_34 : decode cX10_would 34 = .ok (.iushr, 1) := by decide +kernel
theorem dX10_would_35 : decode cX10_would 35 = .ok (.ifCond .eq 5, 3) := by decide +kernel
theorem dX10_would_38 : decode cX10_would 38 = .ok (.iconst (-1), 1) := by decide +kernel
theorem dX10_would_39 : decode cX10_would 39 = .ok (.ireturn, 1) := by decide +kernel
theorem dX10_would_40 : decode cX10_would 40 = .ok (.aload_n 0, 1) := by decide +kernel
theorem dX10_would_41 : decode cX10_would 41 = .ok (.getfield 32, 3) := by decide +kernel
theorem dX10_would_44 : decode cX10_would 44 = .ok (.aload_n 0, 1) := by decide +kernel
theorem dX10_would_45 : decode cX10_would 45 = .ok (.getfield 7, 3) := by decide +kernel
theorem dX10_would_48 : decode cX10_would 48 = .ok (.invokevirtual 191, 3) := by decide +kernel
theorem dX10_would_51 : decode cX10_would 51 = .ok (.iconst 0, 1) := by decide +kernel
theorem dX10_would_52 : decode cX10_would 52 = .ok (.istore_n 3, 1) := by decide +kernel
theorem dX10_would_53 : decode cX10_would 53 = .ok (.iload_n 3, 1) := by decide +kernel
theorem dX10_would_54 : decode cX10_would 54 = .ok (.iconst 1, 1) := by decide +kernel
theorem dX10_would_55 : decode cX10_would 55 = .ok (.aload_n 0, 1) := by decide +kernel
theorem dX10_would_56 : decode cX10_would 56 = .ok (.getfield 7, 3) := by decide +kernel
theorem dX10_would_59 : decode cX10_would 59 = .ok (.ishl, 1) := by decide +kernel
theorem dX10_would_60 : decode cX10_would 60 = .ok (.if_icmp .ge 25, 3) := by decide +kernel
theorem dX10_would_63 : decode cX10_would 63 = .ok (.iload_n 2, 1) := by decide +kernel
theorem dX10_would_64 : decode cX10_would 64 = .ok (.iload_n 3, 1) := by decide +kernel
theorem dX10_would_65 : decode cX10_would 65 = .ok (.iushr, 1) := by decide +kernel
theorem dX10_would_66 : decode cX10_would 66 = .ok (.iconst 1, 1) := by decide +kernel
theorem dX10_would_67 : decode cX10_would 67 = .ok (.iand, 1) := by decide +kernel
theorem dX10_would_68 : decode cX10_would 68 = .ok (.ifCond .eq 11, 3) := by decide +kernel
theorem dX10_would_71 : decode cX10_would 71 = .ok (.aload_n 0, 1) := by decide +kernel
theorem dX10_would_72 : decode cX10_would 72 = .ok (.getfield 32, 3) := by decide +kernel
theorem dX10_would_75 : decode cX10_would 75 = .ok (.iload_n 3, 1) := by decide +kernel
theorem dX10_would_76 : decode cX10_would 76 = .ok (.invokevirtual 194, 3) := by decide +kernel
theorem dX10_would_79 : decode cX10_would 79 = .ok (.iinc 3 1, 3) := by decide +kernel
theorem dX10_would_82 : decode cX10_would 82 = .ok (.goto (-29), 3) := by decide +kernel
theorem dX10_would_85 : decode cX10_would 85 = .ok (.aload_n 0, 1) := by decide +kernel
theorem dX10_would_86 : decode cX10_would 86 = .ok (.getfield 43, 3) := by decide +kernel
theorem dX10_would_89 : decode cX10_would 89 = .ok (.aload_n 0, 1) := by decide +kernel
theorem dX10_would_90 : decode cX10_would 90 = .ok (.getfield 32, 3) := by decide +kernel
theorem dX10_would_93 : decode cX10_would 93 = .ok (.iload_n 1, 1) := by decide +kernel
theorem dX10_would_94 : decode cX10_would 94 = .ok (.invokevirtual 165, 3) := by decide +kernel
theorem dX10_would_97 : decode cX10_would 97 = .ok (.ifCond .eq 15, 3) := by decide +kernel
theorem dX10_would_100 : decode cX10_would 100 = .ok (.aload_n 0, 1) := by decide +kernel
theorem dX10_would_101 : decode cX10_would 101 = .ok (.getfield 43, 3) := by decide +kernel
theorem dX10_would_104 : decode cX10_would 104 = .ok (.getfield 169, 3) := by decide +kernel
theorem dX10_would_107 : decode cX10_would 107 = .ok (.iconst 0, 1) := by decide +kernel
theorem dX10_would_108 : decode cX10_would 108 = .ok (.iaload, 1) := by decide +kernel
theorem dX10_would_109 : decode cX10_would 109 = .ok (.goto 4, 3) := by decide +kernel
theorem dX10_would_112 : decode cX10_would 112 = .ok (.iconst (-1), 1) := by decide +kernel
theorem dX10_would_113 : decode cX10_would 113 = .ok (.ireturn, 1) := by decide +kernel
set_option maxRecDepth 20000 in
theorem ggX10_most_X10_within : GoodIn wsX10_most wsX10_within := goodIn_r _ [5] (by decide +kernel) (by decide +kernel)
set_option maxRecDepth 20000 in
theorem gX10_most_X10_within : GoodIn wsX10_most (va_wsS RX10 99 yX10_within wsX10_within) := goodIn_app (goodIn_of _ (by decide +kernel)) ggX10_most_X10_within
set_option maxRecDepth 20000 in
theorem ggX10_most_X10_outermostBlind : GoodIn wsX10_most wsX10_outermostBlind := goodIn_r _ [9, 10, 1, 11, 12, 13, 14, 15, 16, 17, 4, 18, 19, 20, 21, 22, 23, 24, 25, 26, 27, 28, 29, 30, 31, 32, 33, 34, 35, 36, 37] (by decide +kernel) (by decide +kernel)
set_option maxRecDepth 20000 in
theorem gX10_most_X10_outermostBlind : GoodIn wsX10_most (wsV RX10 196 RX10 yX10_outermostBlind wsX10_outermostBlind) := goodIn_app (goodIn_of _ (by decide +kernel)) ggX10_most_X10_outermostBlind
theorem dX10_most_0 : decode cX10_most 0 = .ok (.iload_n 1, 1) := by decide +kernel
theorem dX10_most_1 : decode cX10_most 1 = .ok (.iconst 0, 1) := by decide +kernel
theorem dX10_most_2 : decode cX10_most 2 = .ok (.iconst 1, 1) := by decide +kernel
theorem dX10_most_3 : decode cX10_most 3 = .ok (.invokestatic 99, 3) := by decide +kernel
theorem dX10_most_6 : decode cX10_most 6 = .ok (.ifCond .eq 34, 3) := by decide +kernel
theorem dX10_most_9 : decode cX10_most 9 = .ok (.iload_n 3, 1) := by decide +kernel
theorem dX10_most_10 : decode cX10_most 10 = .ok (.iconst 0, 1) := by decide +kernel
theorem dX10_most_11 : decode cX10_most 11 = .ok (.iconst 1, 1) := by decide +kernel
theorem dX10_most_12 : decode cX10_most 12 = .ok (.invokestatic 99, 3) := by decide +kernel
theorem dX10_most_15 : decode cX10_most 15 = .ok (.ifCond .eq 25, 3) := by decide +kernel
theorem dX10_most_18 : decode cX10_most 18 = .ok (.aload_n 0, 1) := by decide +kernel
theorem dX10_most_19 : decode cX10_most 19 = .ok (.getfield 7, 3) := by decide +kernel
theorem dX10_most_22 : decode cX10_most 22 = .ok (.iconst 4, 1) := by decide +kernel
theorem dX10_most_23 : decode cX10_most 23 = .ok (.if_icmp .gt 17, 3) := by decide +kernel
theorem dX10_most_26 : decode cX10_most 26 = .ok (.iload_n 2, 1) := by decide +kernel
theorem dX10_most_27 : decode cX10_most 27 = .ok (.iconst 0, 1) := by decide +kernel
theorem dX10_most_28 : decode cX10_most 28 = .ok (.iconst 1, 1) := by decide +kernel
theorem dX10_most_29 : decode cX10_most 29 = .ok (.aload_n 0, 1) := by decide +kernel
theorem dX10_most_30 : decode cX10_most 30 = .ok (.getfield 7, 3) := by decide +kernel
theorem dX10_most_33 : decode cX10_most 33 = .ok (.ishl, 1) := by decide +kernel
theorem dX10_most_34 : decode cX10_most 34 = .ok (.invokestatic 99, 3) := by decide +kernel
theorem dX10_most_37 : decode cX10_most 37 = .ok (.ifCond .ne 5, 3) := by decide +kernel
theorem dX10_most_40 : decode cX10_most 40 = .ok (.iconst (-1), 1) := by decide +kernel
theorem dX10_most_41 : decode cX10_most 41 = .ok (.ireturn, 1) := by decide +kernel
theorem dX10_most_42 : decode cX10_most 42 = .ok (.iload_n 1, 1) := by decide +kernel
theorem dX10_most_43 : decode cX10_most 43 = .ok (.iconst 1, 1) := by decide +kernel
theorem dX10_most_44 : decode cX10_most 44 = .ok (.if_icmp .ne 17, 3) := by decide +kernel
theorem dX10_most_47 : decode cX10_most 47 = .ok (.iload_n 2, 1) := by decide +kernel
theorem dX10_most_48 : decode cX10_most 48 = .ok (.ifCond .ne 7, 3) := by decide +kernel
theorem dX10_most_51 : decode cX10_most 51 = .ok (.iconst 1, 1) := by decide +kernel
theorem dX10_most_52 : decode cX10_most 52 = .ok (.goto 8, 3) := by decide +kernel
theorem dX10_most_55 : decode cX10_most 55 = .ok (.iconst 2, 1) := by decide +kernel
theorem dX10_most_56 : decode cX10_most 56 = .ok (.iload_n 2, 1) := by decide +kernel
theorem dX10_most_57 : decode cX10_most 57 = .ok (.imul, 1) := by decide +kernel
theorem dX10_most_58 : decode cX10_most 58 = .ok (.iconst 1, 1) := by decide +kernel
theorem dX10_most_59 : decode cX10_most 59 = .ok (.isub, 1) := by decide +kernel
theorem dX10_most_60 : decode cX10_most 60 = .ok (.ireturn, 1) := by decide +kernel
theorem dX10_most_61 : decode cX10_most 61 = .ok (.aload_n 0, 1) := by decide +kernel
theorem dX10_most_62 : decode cX10_most 62 = .ok (.iload_n 2, 1) := by decide +kernel
theorem dX10_most_63 : decode cX10_most 63 = .ok (.iload_n 3, 1) := by decide +kernel
theorem dX10_most_64 : decode cX10_most 64 = .ok (.ifCond .ne 7, 3) := by decide +kernel
theorem dX10_most_67 : decode cX10_most 67 = .ok (.iconst 1, 1) := by decide +kernel
theorem dX10_most_68 : decode cX10_most 68 = .ok (.goto 4, 3) := by decide +kernel
theorem dX10_most_71 : decode cX10_most 71 = .ok (.iconst 0, 1) := by decide +kernel
theorem dX10_most_72 : decode cX10_most 72 = .ok (.invokevirtual 196, 3) := by decide +kernel
theorem dX10_most_75 : decode cX10_most 75 = .ok (.ireturn, 1) := by decide +kernel
set_option maxRecDepth 20000 in
theorem ggX10_feed_X7_add : GoodIn wsX10_feed wsX7_add := goodIn_r _ [7, 8, 9, 26, 27, 28, 29, 30, 31] (by decide +kernel) (by decide +kernel)
set_option maxRecDepth 20000 in
theorem gX10_feed_X7_add : GoodIn wsX10_feed (wsV RX10 203 RX7 yX7_add wsX7_add) := goodIn_app (goodIn_of _ (by decide +kernel)) ggX10_feed_X7_add
theorem dX10_feed_0 : decode cX10_feed 0 = .ok (.aload_n 0, 1) := by decide +kernel
theorem dX10_feed_1 : decode cX10_feed 1 = .ok (.getfield 53, 3) := by decide +kernel
theorem dX10_feed_4 : decode cX10_feed 4 = .ok (.getfield 200, 3) := by decide +kernel
theorem dX10_feed_7 : decode cX10_feed 7 = .ok (.bipush 8, 2) := by decide +kernel
theorem dX10_feed_9 : decode cX10_feed 9 = .ok (.iadd, 1) := by decide +kernel
theorem dX10_feed_10 : decode cX10_feed 10 = .ok (.sipush 200, 3) := by decide +kernel
theorem dX10_feed_13 : decode cX10_feed 13 = .ok (.if_icmp .le 6, 3) := by decide +kernel
theorem dX10_feed_16 : decode cX10_feed 16 = .ok (.bipush (-3), 2) := by decide +kernel
theorem dX10_feed_18 : decode cX10_feed 18 = .ok (.ireturn, 1) := by decide +kernel
theorem dX10_feed_19 : decode cX10_feed 19 = .ok (.aload_n 0, 1) := by decide +kernel
theorem dX10_feed_20 : decode cX10_feed 20 = .ok (.getfield 53, 3) := by decide +kernel
theorem dX10_feed_23 : decode cX10_feed 23 = .ok (.lload_n 1, 1) := by decide +kernel
theorem dX10_feed_24 : decode cX10_feed 24 = .ok (.invokevirtual 203, 3) := by decide +kernel
theorem dX10_feed_27 : decode cX10_feed 27 = .ok (.aload_n 0, 1) := by decide +kernel
theorem dX10_feed_28 : decode cX10_feed 28 = .ok (.getfield 53, 3) := by decide +kernel
theorem dX10_feed_31 : decode cX10_feed 31 = .ok (.getfield 200, 3) := by decide +kernel
theorem dX10_feed_34 : decode cX10_feed 34 = .ok (.ireturn, 1) := by decide +kernel
set_option maxRecDepth 20000 in
theorem ggX10_end_X10_within : GoodIn wsX10_end wsX10_within := goodIn_r _ [6] (by decide +kernel) (by decide +kernel)
set_option maxRecDepth 20000 in
theorem gX10_end_X10_within : GoodIn wsX10_end (va_wsS RX10 99 yX10_within wsX10_within) := goodIn_app (goodIn_of _ (by decide +kernel)) ggX10_end_X10_within
theorem dX10_end_0 : decode cX10_end 0 = .ok (.iload_n 1, 1) := by decide +kernel
theorem dX10_end_1 : decode cX10_end 1 = .ok (.iconst 0, 1) := by decide +kernel
theorem dX10_end_2 : decode cX10_end 2 = .ok (.aload_n 0, 1) := by decide +kernel
theorem dX10_end_3 : decode cX10_end 3 = .ok (.getfield 53, 3) := by decide +kernel
theorem dX10_end_6 : decode cX10_end 6 = .ok (.getfield 200, 3) := by decide +kernel
theorem dX10_end_9 : decode cX10_end 9 = .ok (.invokestatic 99, 3) := by decide +kernel
theorem dX10_end_12 : decode cX10_end 12 = .ok (.ifCond .ne 5, 3) := by decide +kernel
theorem dX10_end_15 : decode cX10_end 15 = .ok (.iconst (-1), 1) := by decide +kernel
theorem dX10_end_16 : decode cX10_end 16 = .ok (.ireturn, 1) := by decide +kernel
theorem dX10_end_17 : decode cX10_end 17 = .ok (.aload_n 0, 1) := by decide +kernel
theorem dX10_end_18 : decode cX10_end 18 = .ok (.getfield 53, 3) := by decide +kernel
theorem dX10_end_21 : decode cX10_end 21 = .ok (.getfield 200, 3) := by decide +kernel
theorem dX10_end_24 : decode cX10_end 24 = .ok (.istore_n 2, 1) := by decide +kernel
theorem dX10_end_25 : decode cX10_end 25 = .ok (.aload_n 0, 1) := by decide +kernel
theorem dX10_end_26 : decode cX10_end 26 = .ok (.getfield 53, 3) := by decide +kernel
theorem dX10_end_29 : decode cX10_end 29 = .ok (.iload_n 1, 1) := by decide +kernel
theorem dX10_end_30 : decode cX10_end 30 = .ok (.putfield 200, 3) := by decide +kernel
theorem dX10_end_33 : decode cX10_end 33 = .ok (.iload_n 2, 1) := by decide +kernel
theorem dX10_end_34 : decode cX10_end 34 = .ok (.ireturn, 1) := by decide +kernel
set_option maxRecDepth 20000 in
theorem ggX10_rules_X8_parse : GoodIn wsX10_rules wsX8_parse := goodIn_r _ [8, 9, 10, 11, 12, 13, 14, 15, 16, 17, 18, 19, 20, 21, 22, 7, 23, 24, 25, 26, 27, 28, 29, 30, 31, 32, 33, 34, 35, 36, 37, 38, 39, 40, 41, 42, 43, 44, 45, 46, 47, 48, 49, 50, 51, 52, 53, 54, 55, 56, 57, 58, 59, 60, 61, 62, 63, 64, 65, 66, 67, 68, 69, 70, 71, 72, 73, 74, 75, 76, 77, 78, 79, 80, 81, 82, 83, 84, 85, 86, 87, 88, 89, 90, 91, 92, 93, 94, 95, 96, 97, 98, 99, 100, 101, 102, 103, 104, 105, 106, 107, 108, 109, 110, 111, 112, 113, 114, 115, 116, 117, 118, 119, 120, 121, 122, 123, 124, 125, 126, 127, 128, 129, 130, 131, 132, 133, 134, 135, 136, 137, 138, 139, 140, 141, 142, 143, 144, 167, 168, 169, 170, 171, 172, 161, 162, 163, 164, 165, 166] (by decide +kernel) (by decide +kernel)
set_option maxRecDepth 20000 in
theorem gX10_rules_X8_parse : GoodIn wsX10_rules (wsV RX10 206 RX8 yX8_parse wsX8_parse) := goodIn_app (goodIn_of _ (by decide +kernel)) ggX10_rules_X8_parse
theorem dX10_rules_0 : decode cX10_rules 0 = .ok (.aload_n 0, 1) := by decide +kernel
theorem dX10_rules_1 : decode cX10_rules 1 = .ok (.getfield 60, 3) := by decide +kernel
theorem dX10_rules_4 : decode cX10_rules 4 = .ok (.aload_n 0, 1) := by decide +kernel
theorem dX10_rules_5 : decode cX10_rules 5 = .ok (.getfield 53, 3) := by decide +kernel
theorem dX10_rules_8 : decode cX10_rules 8 = .ok (.invokevirtual 206, 3) := by decide +kernel
theorem dX10_rules_11 : decode cX10_rules 11 = .ok (.istore_n 1, 1) := by decide +kernel
theorem dX10_rules_12 : decode cX10_rules 12 = .ok (.aload_n 0, 1) := by decide +kernel
theorem dX10_rules_13 : decode cX10_rules 13 = .ok (.getfield 53, 3) := by decide +kernel
theorem dX10_rules_16 : decode cX10_rules 16 = .ok (.iconst 0, 1) := by decide +kernel
theorem dX10_rules_17 : decode cX10_rules 17 = .ok (.putfield 200, 3) := by decide +kernel
theorem dX10_rules_20 : decode cX10_rules 20 = .ok (.iload_n 1, 1) := by decide +kernel
theorem dX10_rules_21 : decode cX10_rules 21 = .ok (.ireturn, 1) := by decide +kernel
theorem dX10_fault_0 : decode cX10_fault 0 = .ok (.aload_n 0, 1) := by decide +kernel
theorem dX10_fault_1 : decode cX10_fault 1 = .ok (.getfield 60, 3) := by decide +kernel
theorem dX10_fault_4 : decode cX10_fault 4 = .ok (.getfield 210, 3) := by decide +kernel
theorem dX10_fault_7 : decode cX10_fault 7 = .ok (.ireturn, 1) := by decide +kernel
set_option maxRecDepth 20000 in
theorem ggX10_rule_X10_within : GoodIn wsX10_rule wsX10_within := goodIn_r _ [6] (by decide +kernel) (by decide +kernel)
set_option maxRecDepth 20000 in
theorem gX10_rule_X10_within : GoodIn wsX10_rule (va_wsS RX10 99 yX10_within wsX10_within) := goodIn_app (goodIn_of _ (by decide +kernel)) ggX10_rule_X10_within
theorem dX10_rule_0 : decode cX10_rule 0 = .ok (.iload_n 1, 1) := by decide +kernel
theorem dX10_rule_1 : decode cX10_rule 1 = .ok (.iconst 0, 1) := by decide +kernel
theorem dX10_rule_2 : decode cX10_rule 2 = .ok (.aload_n 0, 1) := by decide +kernel
theorem dX10_rule_3 : decode cX10_rule 3 = .ok (.getfield 60, 3) := by decide +kernel
theorem dX10_rule_6 : decode cX10_rule 6 = .ok (.getfield 213, 3) := by decide +kernel
theorem dX10_rule_9 : decode cX10_rule 9 = .ok (.arraylength, 1) := by decide +kernel
theorem dX10_rule_10 : decode cX10_rule 10 = .ok (.iconst 1, 1) := by decide +kernel
theorem dX10_rule_11 : decode cX10_rule 11 = .ok (.isub, 1) := by decide +kernel
theorem dX10_rule_12 : decode cX10_rule 12 = .ok (.invokestatic 99, 3) := by decide +kernel
theorem dX10_rule_15 : decode cX10_rule 15 = .ok (.ifCond .eq 15, 3) := by decide +kernel
theorem dX10_rule_18 : decode cX10_rule 18 = .ok (.aload_n 0, 1) := by decide +kernel
theorem dX10_rule_19 : decode cX10_rule 19 = .ok (.getfield 60, 3) := by decide +kernel
theorem dX10_rule_22 : decode cX10_rule 22 = .ok (.getfield 213, 3) := by decide +kernel
theorem dX10_rule_25 : decode cX10_rule 25 = .ok (.iload_n 1, 1) := by decide +kernel
theorem dX10_rule_26 : decode cX10_rule 26 = .ok (.iaload, 1) := by decide +kernel
theorem dX10_rule_27 : decode cX10_rule 27 = .ok (.goto 4, 3) := by decide +kernel
theorem dX10_rule_30 : decode cX10_rule 30 = .ok (.iconst (-1), 1) := by decide +kernel
theorem dX10_rule_31 : decode cX10_rule 31 = .ok (.ireturn, 1) := by decide +kernel
set_option maxRecDepth 20000 in
theorem ggX10_slot_X10_isNumber : GoodIn wsX10_slot wsX10_isNumber := goodIn_r _ [5, 6, 7, 8, 4, 9, 10, 11, 12, 18, 19, 20, 21, 22, 23, 24, 25, 26, 27, 28, 29, 30, 31, 32, 33] (by decide +kernel) (by decide +kernel)
set_option maxRecDepth 20000 in
theorem gX10_slot_X10_isNumber : GoodIn wsX10_slot (wsV RX10 185 RX10 yX10_isNumber wsX10_isNumber) := goodIn_app (goodIn_of _ (by decide +kernel)) ggX10_slot_X10_isNumber
set_option maxRecDepth 20000 in
theorem ggX10_slot_X10_within : GoodIn wsX10_slot wsX10_within := goodIn_r _ [12] (by decide +kernel) (by decide +kernel)
set_option maxRecDepth 20000 in
theorem gX10_slot_X10_within : GoodIn wsX10_slot (va_wsS RX10 99 yX10_within wsX10_within) := goodIn_app (goodIn_of _ (by decide +kernel)) ggX10_slot_X10_within
set_option maxRecDepth 20000 in
theorem ggX10_slot_X10_slotOf : GoodIn wsX10_slot wsX10_slotOf := goodIn_r _ [15, 16, 17] (by decide +kernel) (by decide +kernel)
set_option maxRecDepth 20000 in
theorem gX10_slot_X10_slotOf : GoodIn wsX10_slot (va_wsS RX10 216 yX10_slotOf wsX10_slotOf) := goodIn_app (goodIn_of _ (by decide +kernel)) ggX10_slot_X10_slotOf
theorem dX10_slot_0 : decode cX10_slot 0 = .ok (.aload_n 0, 1) := by decide +kernel
theorem dX10_slot_1 : decode cX10_slot 1 = .ok (.iload_n 1, 1) := by decide +kernel
theorem dX10_slot_2 : decode cX10_slot 2 = .ok (.invokevirtual 185, 3) := by decide +kernel
theorem dX10_slot_5 : decode cX10_slot 5 = .ok (.ifCond .eq 13, 3) := by decide +kernel
theorem dX10_slot_8 : decode cX10_slot 8 = .ok (.iload_n 2, 1) := by decide +kernel
theorem dX10_slot_9 : decode cX10_slot 9 = .ok (.iconst 1, 1) := by decide +kernel
theorem dX10_slot_10 : decode cX10_slot 10 = .ok (.bipush 64, 2) := by decide +kernel
theorem dX10_slot_12 : decode cX10_slot 12 = .ok (.invokestatic 99, 3) := by decide +kernel
theorem dX10_slot_15 : decode cX10_slot 15 = .ok (.ifCond .ne 5, 3) := by decide +kernel
theorem dX10_slot_18 : decode cX10_slot 18 = .ok (.iconst (-1), 1) := by decide +kernel
theorem dX10_slot_19 : decode cX10_slot 19 = .ok (.ireturn, 1) := by decide +kernel
theorem dX10_slot_20 : decode cX10_slot 20 = .ok (.iload_n 1, 1) := by decide +kernel
theorem dX10_slot_21 : decode cX10_slot 21 = .ok (.iload_n 2, 1) := by decide +kernel
theorem dX10_slot_22 : decode cX10_slot 22 = .ok (.iload_n 3, 1) := by decide +kernel
theorem dX10_slot_23 : decode cX10_slot 23 = .ok (.invokestatic 216, 3) := by decide +kernel
theorem dX10_slot_26 : decode cX10_slot 26 = .ok (.ireturn, 1) := by decide +kernel
set_option maxRecDepth 20000 in
theorem ggX10_frame_X10_within : GoodIn wsX10_frame wsX10_within := goodIn_r _ [8] (by decide +kernel) (by decide +kernel)
set_option maxRecDepth 20000 in
theorem gX10_frame_X10_within : GoodIn wsX10_frame (va_wsS RX10 99 yX10_within wsX10_within) := goodIn_app (goodIn_of _ (by decide +kernel)) ggX10_frame_X10_within
set_option maxRecDepth 20000 in
theorem ggX10_frame_X1_hold : GoodIn wsX10_frame wsX1_hold := goodIn_r _ [13, 14, 15, 16, 17, 18, 6, 7, 8, 19, 20, 21, 12, 22, 23, 24, 25, 26, 27, 28, 29, 30, 31, 32, 33, 34, 35, 36, 37, 38, 39, 40, 41, 64, 65, 66, 67, 68, 69, 70, 71] (by decide +kernel) (by decide +kernel)
set_option maxRecDepth 20000 in
theorem gX10_frame_X1_hold : GoodIn wsX10_frame (wsV RX10 220 RX1 yX1_hold wsX1_hold) := goodIn_app (goodIn_of _ (by decide +kernel)) ggX10_frame_X1_hold
theorem dX10_frame_0 : decode cX10_frame 0 = .ok (.iload_n 1, 1) := by decide +kernel
theorem dX10_frame_1 : decode cX10_frame 1 = .ok (.iconst 1, 1) := by decide +kernel
theorem dX10_frame_2 : decode cX10_frame 2 = .ok (.bipush 64, 2) := by decide +kernel
theorem dX10_frame_4 : decode cX10_frame 4 = .ok (.invokestatic 99, 3) := by decide +kernel
theorem dX10_frame_7 : decode cX10_frame 7 = .ok (.ifCond .ne 5, 3) := by decide +kernel
theorem dX10_frame_10 : decode cX10_frame 10 = .ok (.iconst (-1), 1) := by decide +kernel
theorem dX10_frame_11 : decode cX10_frame 11 = .ok (.ireturn, 1) := by decide +kernel
theorem dX10_frame_12 : decode cX10_frame 12 = .ok (.aload_n 0, 1) := by decide +kernel
theorem dX10_frame_13 : decode cX10_frame 13 = .ok (.getfield 67, 3) := by decide +kernel
theorem dX10_frame_16 : decode cX10_frame 16 = .ok (.aload_n 0, 1) := by decide +kernel
theorem dX10_frame_17 : decode cX10_frame 17 = .ok (.getfield 25, 3) := by decide +kernel
theorem dX10_frame_20 : decode cX10_frame 20 = .ok (.iload_n 1, 1) := by decide +kernel
theorem dX10_frame_21 : decode cX10_frame 21 = .ok (.iload_n 2, 1) := by decide +kernel
theorem dX10_frame_22 : decode cX10_frame 22 = .ok (.aload_n 0, 1) := by decide +kernel
theorem dX10_frame_23 : decode cX10_frame 23 = .ok (.getfield 60, 3) := by decide +kernel
theorem dX10_frame_26 : decode cX10_frame 26 = .ok (.getfield 213, 3) := by decide +kernel
theorem dX10_frame_29 : decode cX10_frame 29 = .ok (.bipush 7, 2) := by decide +kernel
theorem dX10_frame_31 : decode cX10_frame 31 = .ok (.iaload, 1) := by decide +kernel
theorem dX10_frame_32 : decode cX10_frame 32 = .ok (.invokevirtual 220, 3) := by decide +kernel
theorem dX10_frame_35 : decode cX10_frame 35 = .ok (.ireturn, 1) := by decide +kernel
set_option maxRecDepth 20000 in
theorem ggX10_shown_X10_within : GoodIn wsX10_shown wsX10_within := goodIn_r _ [6] (by decide +kernel) (by decide +kernel)
set_option maxRecDepth 20000 in
theorem gX10_shown_X10_within : GoodIn wsX10_shown (va_wsS RX10 99 yX10_within wsX10_within) := goodIn_app (goodIn_of _ (by decide +kernel)) ggX10_shown_X10_within
set_option maxRecDepth 20000 in
theorem ggX10_shown_X1_wasHeld : GoodIn wsX10_shown wsX1_wasHeld := goodIn_r _ [11, 12, 29, 30, 31, 32] (by decide +kernel) (by decide +kernel)
set_option maxRecDepth 20000 in
theorem gX10_shown_X1_wasHeld : GoodIn wsX10_shown (wsV RX10 224 RX1 yX1_wasHeld wsX1_wasHeld) := goodIn_app (goodIn_of _ (by decide +kernel)) ggX10_shown_X1_wasHeld
theorem dX10_shown_0 : decode cX10_shown 0 = .ok (.iload_n 1, 1) := by decide +kernel
theorem dX10_shown_1 : decode cX10_shown 1 = .ok (.iconst 0, 1) := by decide +kernel
theorem dX10_shown_2 : decode cX10_shown 2 = .ok (.iconst 4, 1) := by decide +kernel
theorem dX10_shown_3 : decode cX10_shown 3 = .ok (.invokestatic 99, 3) := by decide +kernel
theorem dX10_shown_6 : decode cX10_shown 6 = .ok (.ifCond .ne 5, 3) := by decide +kernel
theorem dX10_shown_9 : decode cX10_shown 9 = .ok (.iconst (-1), 1) := by decide +kernel
theorem dX10_shown_10 : decode cX10_shown 10 = .ok (.ireturn, 1) := by decide +kernel
theorem dX10_shown_11 : decode cX10_shown 11 = .ok (.aload_n 0, 1) := by decide +kernel
theorem dX10_shown_12 : decode cX10_shown 12 = .ok (.getfield 67, 3) := by decide +kernel
theorem dX10_shown_15 : decode cX10_shown 15 = .ok (.invokevirtual 224, 3) := by decide +kernel
theorem dX10_shown_18 : decode cX10_shown 18 = .ok (.ifCond .eq 15, 3) := by decide +kernel
theorem dX10_shown_21 : decode cX10_shown 21 = .ok (.aload_n 0, 1) := by decide +kernel
theorem dX10_shown_22 : decode cX10_shown 22 = .ok (.getfield 67, 3) := by decide +kernel
theorem dX10_shown_25 : decode cX10_shown 25 = .ok (.getfield 227, 3) := by decide +kernel
theorem dX10_shown_28 : decode cX10_shown 28 = .ok (.iload_n 1, 1) := by decide +kernel
theorem dX10_shown_29 : decode cX10_shown 29 = .ok (.iaload, 1) := by decide +kernel
theorem dX10_shown_30 : decode cX10_shown 30 = .ok (.goto 5, 3) := by decide +kernel
theorem dX10_shown_33 : decode cX10_shown 33 = .ok (.bipush (-2), 2) := by decide +kernel
theorem dX10_shown_35 : decode cX10_shown 35 = .ok (.ireturn, 1) := by decide +kernel
set_option maxRecDepth 20000 in
theorem ggX10_all_X4_run : GoodIn wsX10_all wsX4_run := goodIn_r _ [11, 12, 13, 14, 15, 10, 16, 17, 18, 19, 20, 21, 22, 23, 24, 25, 26, 27, 28, 29, 30, 31, 32, 33, 34, 35, 36, 37, 38, 39, 40, 41, 42, 43, 44, 45, 46, 47, 48, 49, 50, 51, 52, 53, 54, 55, 56, 57, 58, 59, 82, 83, 84, 85, 86, 87, 88, 89, 90] (by decide +kernel) (by decide +kernel)
set_option maxRecDepth 20000 in
theorem gX10_all_X4_run : GoodIn wsX10_all (wsV RX10 228 RX4 yX4_run wsX4_run) := goodIn_app (goodIn_of _ (by decide +kernel)) ggX10_all_X4_run
theorem dX10_all_0 : decode cX10_all 0 = .ok (.aload_n 0, 1) := by decide +kernel
theorem dX10_all_1 : decode cX10_all 1 = .ok (.getfield 74, 3) := by decide +kernel
theorem dX10_all_4 : decode cX10_all 4 = .ok (.aload_n 0, 1) := by decide +kernel
theorem dX10_all_5 : decode cX10_all 5 = .ok (.getfield 67, 3) := by decide +kernel
theorem dX10_all_8 : decode cX10_all 8 = .ok (.aload_n 0, 1) := by decide +kernel
theorem dX10_all_9 : decode cX10_all 9 = .ok (.getfield 25, 3) := by decide +kernel
theorem dX10_all_12 : decode cX10_all 12 = .ok (.aload_n 0, 1) := by decide +kernel
theorem dX10_all_13 : decode cX10_all 13 = .ok (.getfield 60, 3) := by decide +kernel
theorem dX10_all_16 : decode cX10_all 16 = .ok (.getfield 213, 3) := by decide +kernel
theorem dX10_all_19 : decode cX10_all 19 = .ok (.iload_n 1, 1) := by decide +kernel
theorem dX10_all_20 : decode cX10_all 20 = .ok (.invokevirtual 228, 3) := by decide +kernel
theorem dX10_all_23 : decode cX10_all 23 = .ok (.istore_n 2, 1) := by decide +kernel
theorem dX10_all_24 : decode cX10_all 24 = .ok (.iload_n 2, 1) := by decide +kernel
theorem dX10_all_25 : decode cX10_all 25 = .ok (.ifCond .eq 15, 3) := by decide +kernel
theorem dX10_all_28 : decode cX10_all 28 = .ok (.aload_n 0, 1) := by decide +kernel
theorem dX10_all_29 : decode cX10_all 29 = .ok (.getfield 74, 3) := by decide +kernel
theorem dX10_all_32 : decode cX10_all 32 = .ok (.getfield 232, 3) := by decide +kernel
theorem dX10_all_35 : decode cX10_all 35 = .ok (.iconst 0, 1) := by decide +kernel
theorem dX10_all_36 : decode cX10_all 36 = .ok (.iaload, 1) := by decide +kernel
theorem dX10_all_37 : decode cX10_all 37 = .ok (.goto 5, 3) := by decide +kernel
theorem dX10_all_40 : decode cX10_all 40 = .ok (.bipush (-6), 2) := by decide +kernel
theorem dX10_all_42 : decode cX10_all 42 = .ok (.ireturn, 1) := by decide +kernel
set_option maxRecDepth 20000 in
theorem ggX10_went_X10_within : GoodIn wsX10_went wsX10_within := goodIn_r _ [6] (by decide +kernel) (by decide +kernel)
set_option maxRecDepth 20000 in
theorem gX10_went_X10_within : GoodIn wsX10_went (va_wsS RX10 99 yX10_within wsX10_within) := goodIn_app (goodIn_of _ (by decide +kernel)) ggX10_went_X10_within
set_option maxRecDepth 20000 in
theorem ggX10_went_X4_wasRun : GoodIn wsX10_went wsX4_wasRun := goodIn_r _ [11, 12, 29] (by decide +kernel) (by decide +kernel)
set_option maxRecDepth 20000 in
theorem gX10_went_X4_wasRun : GoodIn wsX10_went (wsV RX10 233 RX4 yX4_wasRun wsX4_wasRun) := goodIn_app (goodIn_of _ (by decide +kernel)) ggX10_went_X4_wasRun
theorem dX10_went_0 : decode cX10_went 0 = .ok (.iload_n 1, 1) := by decide +kernel
theorem dX10_went_1 : decode cX10_went 1 = .ok (.iconst 0, 1) := by decide +kernel
theorem dX10_went_2 : decode cX10_went 2 = .ok (.iconst 3, 1) := by decide +kernel
theorem dX10_went_3 : decode cX10_went 3 = .ok (.invokestatic 99, 3) := by decide +kernel
theorem dX10_went_6 : decode cX10_went 6 = .ok (.ifCond .ne 5, 3) := by decide +kernel
theorem dX10_went_9 : decode cX10_went 9 = .ok (.iconst (-1), 1) := by decide +kernel
theorem dX10_went_10 : decode cX10_went 10 = .ok (.ireturn, 1) := by decide +kernel
theorem dX10_went_11 : decode cX10_went 11 = .ok (.aload_n 0, 1) := by decide +kernel
theorem dX10_went_12 : decode cX10_went 12 = .ok (.getfield 74, 3) := by decide +kernel
theorem dX10_went_15 : decode cX10_went 15 = .ok (.invokevirtual 233, 3) := by decide +kernel
theorem dX10_went_18 : decode cX10_went 18 = .ok (.ifCond .eq 15, 3) := by decide +kernel
theorem dX10_went_21 : decode cX10_went 21 = .ok (.aload_n 0, 1) := by decide +kernel
theorem dX10_went_22 : decode cX10_went 22 = .ok (.getfield 74, 3) := by decide +kernel
theorem dX10_went_25 : decode cX10_went 25 = .ok (.getfield 232, 3) := by decide +kernel
theorem dX10_went_28 : decode cX10_went 28 = .ok (.iload_n 1, 1) := by decide +kernel
theorem dX10_went_29 : decode cX10_went 29 = .ok (.iaload, 1) := by decide +kernel
theorem dX10_went_30 : decode cX10_went 30 = .ok (.goto 5, 3) := by decide +kernel
theorem dX10_went_33 : decode cX10_went 33 = .ok (.bipush (-2), 2) := by decide +kernel
theorem dX10_went_35 : decode cX10_went 35 = .ok (.ireturn, 1) := by decide +kernel
set_option maxRecDepth 20000 in
theorem ggX10_alone_X10_within : GoodIn wsX10_alone wsX10_within := goodIn_r _ [6] (by decide +kernel) (by decide +kernel)
set_option maxRecDepth 20000 in
theorem gX10_alone_X10_within : GoodIn wsX10_alone (va_wsS RX10 99 yX10_within wsX10_within) := goodIn_app (goodIn_of _ (by decide +kernel)) ggX10_alone_X10_within
set_option maxRecDepth 20000 in
theorem ggX10_alone_X3_waysWithAlone : GoodIn wsX10_alone wsX3_waysWithAlone := goodIn_r _ [11, 12, 13, 14, 10, 15, 16, 17, 18, 19, 20, 21, 22, 23, 24, 25, 26, 27, 28, 29, 30, 31, 32, 33, 34, 60] (by decide +kernel) (by decide +kernel)
set_option maxRecDepth 20000 in
theorem gX10_alone_X3_waysWithAlone : GoodIn wsX10_alone (wsV RX10 238 RX3 yX3_waysWithAlone wsX3_waysWithAlone) := goodIn_app (goodIn_of _ (by decide +kernel)) ggX10_alone_X3_waysWithAlone
set_option maxRecDepth 20000 in
theorem ggX10_alone_X10_power : GoodIn wsX10_alone wsX10_power := goodIn_r _ [37] (by decide +kernel) (by decide +kernel)
set_option maxRecDepth 20000 in
theorem gX10_alone_X10_power : GoodIn wsX10_alone (va_wsS RX10 242 yX10_power wsX10_power) := goodIn_app (goodIn_of _ (by decide +kernel)) ggX10_alone_X10_power
set_option maxRecDepth 20000 in
theorem ggX10_alone_X10_partOfFraction : GoodIn wsX10_alone wsX10_partOfFraction := goodIn_r _ [40, 41, 42, 5, 43] (by decide +kernel) (by decide +kernel)
set_option maxRecDepth 20000 in
theorem gX10_alone_X10_partOfFraction : GoodIn wsX10_alone (va_wsS RX10 246 yX10_partOfFraction wsX10_partOfFraction) := goodIn_app (goodIn_of _ (by decide +kernel)) ggX10_alone_X10_partOfFraction
theorem dX10_alone_0 : decode cX10_alone 0 = .ok (.iload_n 1, 1) := by decide +kernel
theorem dX10_alone_1 : decode cX10_alone 1 = .ok (.iconst 1, 1) := by decide +kernel
theorem dX10_alone_2 : decode cX10_alone 2 = .ok (.bipush 12, 2) := by decide +kernel
theorem dX10_alone_4 : decode cX10_alone 4 = .ok (.invokestatic 99, 3) := by decide +kernel
theorem dX10_alone_7 : decode cX10_alone 7 = .ok (.ifCond .eq 33, 3) := by decide +kernel
theorem dX10_alone_10 : decode cX10_alone 10 = .ok (.iload_n 2, 1) := by decide +kernel
theorem dX10_alone_11 : decode cX10_alone 11 = .ok (.iconst 1, 1) := by decide +kernel
theorem dX10_alone_12 : decode cX10_alone 12 = .ok (.bipush 12, 2) := by decide +kernel
theorem dX10_alone_14 : decode cX10_alone 14 = .ok (.invokestatic 99, 3) := by decide +kernel
theorem dX10_alone_17 : decode cX10_alone 17 = .ok (.ifCond .eq 23, 3) := by decide +kernel
theorem dX10_alone_20 : decode cX10_alone 20 = .ok (.iload_n 3, 1) := by decide +kernel
theorem dX10_alone_21 : decode cX10_alone 21 = .ok (.iconst 0, 1) := by decide +kernel
theorem dX10_alone_22 : decode cX10_alone 22 = .ok (.bipush 12, 2) := by decide +kernel
theorem dX10_alone_24 : decode cX10_alone 24 = .ok (.invokestatic 99, 3) := by decide +kernel
theorem dX10_alone_27 : decode cX10_alone 27 = .ok (.ifCond .eq 13, 3) := by decide +kernel
theorem dX10_alone_30 : decode cX10_alone 30 = .ok (.iload 4, 2) := by decide +kernel
theorem dX10_alone_32 : decode cX10_alone 32 = .ok (.iconst 0, 1) := by decide +kernel
theorem dX10_alone_33 : decode cX10_alone 33 = .ok (.iconst 1, 1) := by decide +kernel
theorem dX10_alone_34 : decode cX10_alone 34 = .ok (.invokestatic 99, 3) := by decide +kernel
theorem dX10_alone_37 : decode cX10_alone 37 = .ok (.ifCond .ne 7, 3) := by decide +kernel
theorem dX10_alone_40 : decode cX10_alone 40 = .ok (.ldc2_w 236, 3) := by decide +kernel
theorem dX10_alone_43 : decode cX10_alone 43 = .ok (.lreturn, 1) := by decide +kernel
theorem dX10_alone_44 : decode cX10_alone 44 = .ok (.aload_n 0, 1) := by decide +kernel
theorem dX10_alone_45 : decode cX10_alone 45 = .ok (.getfield 81, 3) := by decide +kernel
theorem dX10_alone_48 : decode cX10_alone 48 = .ok (.iload_n 1, 1) := by decide +kernel
theorem dX10_alone_49 : decode cX10_alone 49 = .ok (.iload_n 2, 1) := by decide +kernel
theorem dX10_alone_50 : decode cX10_alone 50 = .ok (.iload_n 3, 1) := by decide +kernel
theorem dX10_alone_51 : decode cX10_alone 51 = .ok (.invokevirtual 238, 3) := by decide +kernel
theorem dX10_alone_54 : decode cX10_alone 54 = .ok (.iload_n 1, 1) := by decide +kernel
theorem dX10_alone_55 : decode cX10_alone 55 = .ok (.i2l, 1) := by decide +kernel
theorem dX10_alone_56 : decode cX10_alone 56 = .ok (.iload_n 2, 1) := by decide +kernel
theorem dX10_alone_57 : decode cX10_alone 57 = .ok (.invokestatic 242, 3) := by decide +kernel
theorem dX10_alone_60 : decode cX10_alone 60 = .ok (.iload 4, 2) := by decide +kernel
theorem dX10_alone_62 : decode cX10_alone 62 = .ok (.invokestatic 246, 3) := by decide +kernel
theorem dX10_alone_65 : decode cX10_alone 65 = .ok (.lreturn, 1) := by decide +kernel
set_option maxRecDepth 20000 in
theorem ggX10_mean_X10_within : GoodIn wsX10_mean wsX10_within := goodIn_r _ [5] (by decide +kernel) (by decide +kernel)
set_option maxRecDepth 20000 in
theorem gX10_mean_X10_within : GoodIn wsX10_mean (va_wsS RX10 99 yX10_within wsX10_within) := goodIn_app (goodIn_of _ (by decide +kernel)) ggX10_mean_X10_within
set_option maxRecDepth 20000 in
theorem ggX10_mean_X10_power : GoodIn wsX10_mean wsX10_power := goodIn_r _ [8] (by decide +kernel) (by decide +kernel)
set_option maxRecDepth 20000 in
theorem gX10_mean_X10_power : GoodIn wsX10_mean (va_wsS RX10 242 yX10_power wsX10_power) := goodIn_app (goodIn_of _ (by decide +kernel)) ggX10_mean_X10_power
set_option maxRecDepth 20000 in
theorem ggX10_mean_X10_partOfFraction : GoodIn wsX10_mean wsX10_partOfFraction := goodIn_r _ [11, 12, 13, 4, 14] (by decide +kernel) (by decide +kernel)
set_option maxRecDepth 20000 in
theorem gX10_mean_X10_partOfFraction : GoodIn wsX10_mean (va_wsS RX10 246 yX10_partOfFraction wsX10_partOfFraction) := goodIn_app (goodIn_of _ (by decide +kernel)) ggX10_mean_X10_partOfFraction
theorem dX10_mean_0 : decode cX10_mean 0 = .ok (.iload_n 1, 1) := by decide +kernel
theorem dX10_mean_1 : decode cX10_mean 1 = .ok (.iconst 1, 1) := by decide +kernel
theorem dX10_mean_2 : decode cX10_mean 2 = .ok (.bipush 12, 2) := by decide +kernel
theorem dX10_mean_4 : decode cX10_mean 4 = .ok (.invokestatic 99, 3) := by decide +kernel
theorem dX10_mean_7 : decode cX10_mean 7 = .ok (.ifCond .eq 22, 3) := by decide +kernel
theorem dX10_mean_10 : decode cX10_mean 10 = .ok (.iload_n 2, 1) := by decide +kernel
theorem dX10_mean_11 : decode cX10_mean 11 = .ok (.iconst 1, 1) := by decide +kernel
theorem dX10_mean_12 : decode cX10_mean 12 = .ok (.bipush 12, 2) := by decide +kernel
theorem dX10_mean_14 : decode cX10_mean 14 = .ok (.invokestatic 99, 3) := by decide +kernel
theorem dX10_mean_17 : decode cX10_mean 17 = .ok (.ifCond .eq 12, 3) := by decide +kernel
theorem dX10_mean_20 : decode cX10_mean 20 = .ok (.iload_n 3, 1) := by decide +kernel
theorem dX10_mean_21 : decode cX10_mean 21 = .ok (.iconst 0, 1) := by decide +kernel
theorem dX10_mean_22 : decode cX10_mean 22 = .ok (.iconst 1, 1) := by decide +kernel
theorem dX10_mean_23 : decode cX10_mean 23 = .ok (.invokestatic 99, 3) := by decide +kernel
theorem dX10_mean_26 : decode cX10_mean 26 = .ok (.ifCond .ne 7, 3) := by decide +kernel
theorem dX10_mean_29 : decode cX10_mean 29 = .ok (.ldc2_w 236, 3) := by decide +kernel
theorem dX10_mean_32 : decode cX10_mean 32 = .ok (.lreturn, 1) := by decide +kernel
theorem dX10_mean_33 : decode cX10_mean 33 = .ok (.iload_n 2, 1) := by decide +kernel
theorem dX10_mean_34 : decode cX10_mean 34 = .ok (.i2l, 1) := by decide +kernel
theorem dX10_mean_35 : decode cX10_mean 35 = .ok (.iload_n 1, 1) := by decide +kernel
theorem dX10_mean_36 : decode cX10_mean 36 = .ok (.iconst 1, 1) := by decide +kernel
theorem dX10_mean_37 : decode cX10_mean 37 = .ok (.isub, 1) := by decide +kernel
theorem dX10_mean_38 : decode cX10_mean 38 = .ok (.i2l, 1) := by decide +kernel
theorem dX10_mean_39 : decode cX10_mean 39 = .ok (.iload_n 2, 1) := by decide +kernel
theorem dX10_mean_40 : decode cX10_mean 40 = .ok (.iconst 1, 1) := by decide +kernel
theorem dX10_mean_41 : decode cX10_mean 41 = .ok (.isub, 1) := by decide +kernel
theorem dX10_mean_42 : decode cX10_mean 42 = .ok (.invokestatic 242, 3) := by decide +kernel
theorem dX10_mean_45 : decode cX10_mean 45 = .ok (.lmul, 1) := by decide +kernel
theorem dX10_mean_46 : decode cX10_mean 46 = .ok (.iload_n 1, 1) := by decide +kernel
theorem dX10_mean_47 : decode cX10_mean 47 = .ok (.i2l, 1) := by decide +kernel
theorem dX10_mean_48 : decode cX10_mean 48 = .ok (.iload_n 2, 1) := by decide +kernel
theorem dX10_mean_49 : decode cX10_mean 49 = .ok (.iconst 1, 1) := by decide +kernel
theorem dX10_mean_50 : decode cX10_mean 50 = .ok (.isub, 1) := by decide +kernel
theorem dX10_mean_51 : decode cX10_mean 51 = .ok (.invokestatic 242, 3) := by decide +kernel
theorem dX10_mean_54 : decode cX10_mean 54 = .ok (.iload_n 3, 1) := by decide +kernel
theorem dX10_mean_55 : decode cX10_mean 55 = .ok (.invokestatic 246, 3) := by decide +kernel
theorem dX10_mean_58 : decode cX10_mean 58 = .ok (.lreturn, 1) := by decide +kernel
set_option maxRecDepth 20000 in
theorem ggX10_best_X10_within : GoodIn wsX10_best wsX10_within := goodIn_r _ [4] (by decide +kernel) (by decide +kernel)
set_option maxRecDepth 20000 in
theorem gX10_best_X10_within : GoodIn wsX10_best (va_wsS RX10 99 yX10_within wsX10_within) := goodIn_app (goodIn_of _ (by decide +kernel)) ggX10_best_X10_within
set_option maxRecDepth 20000 in
theorem ggX10_best_X10_power : GoodIn wsX10_best wsX10_power := goodIn_r _ [7] (by decide +kernel) (by decide +kernel)
set_option maxRecDepth 20000 in
theorem gX10_best_X10_power : GoodIn wsX10_best (va_wsS RX10 242 yX10_power wsX10_power) := goodIn_app (goodIn_of _ (by decide +kernel)) ggX10_best_X10_power
theorem dX10_best_0 : decode cX10_best 0 = .ok (.iload_n 1, 1) := by decide +kernel
theorem dX10_best_1 : decode cX10_best 1 = .ok (.iconst 1, 1) := by decide +kernel
theorem dX10_best_2 : decode cX10_best 2 = .ok (.iconst 5, 1) := by decide +kernel
theorem dX10_best_3 : decode cX10_best 3 = .ok (.invokestatic 99, 3) := by decide +kernel
theorem dX10_best_6 : decode cX10_best 6 = .ok (.ifCond .ne 5, 3) := by decide +kernel
theorem dX10_best_9 : decode cX10_best 9 = .ok (.iconst (-1), 1) := by decide +kernel
theorem dX10_best_10 : decode cX10_best 10 = .ok (.ireturn, 1) := by decide +kernel
theorem dX10_best_11 : decode cX10_best 11 = .ok (.iconst 1, 1) := by decide +kernel
theorem dX10_best_12 : decode cX10_best 12 = .ok (.istore_n 2, 1) := by decide +kernel
theorem dX10_best_13 : decode cX10_best 13 = .ok (.iconst 2, 1) := by decide +kernel
theorem dX10_best_14 : decode cX10_best 14 = .ok (.istore_n 3, 1) := by decide +kernel
theorem dX10_best_15 : decode cX10_best 15 = .ok (.iload_n 3, 1) := by decide +kernel
theorem dX10_best_16 : decode cX10_best 16 = .ok (.bipush 64, 2) := by decide +kernel
theorem dX10_best_18 : decode cX10_best 18 = .ok (.if_icmp .gt 57, 3) := by decide +kernel
theorem dX10_best_21 : decode cX10_best 21 = .ok (.iload_n 3, 1) := by decide +kernel
theorem dX10_best_22 : decode cX10_best 22 = .ok (.iconst 1, 1) := by decide +kernel
theorem dX10_best_23 : decode cX10_best 23 = .ok (.isub, 1) := by decide +kernel
theorem dX10_best_24 : decode cX10_best 24 = .ok (.i2l, 1) := by decide +kernel
theorem dX10_best_25 : decode cX10_best 25 = .ok (.iload_n 1, 1) := by decide +kernel
theorem dX10_best_26 : decode cX10_best 26 = .ok (.iconst 1, 1) := by decide +kernel
theorem dX10_best_27 : decode cX10_best 27 = .ok (.isub, 1) := by decide +kernel
theorem dX10_best_28 : decode cX10_best 28 = .ok (.invokestatic 242, 3) := by decide +kernel
theorem dX10_best_31 : decode cX10_best 31 = .ok (.iload_n 2, 1) := by decide +kernel
theorem dX10_best_32 : decode cX10_best 32 = .ok (.i2l, 1) := by decide +kernel
theorem dX10_best_33 : decode cX10_best 33 = .ok (.iload_n 1, 1) := by decide +kernel
theorem dX10_best_34 : decode cX10_best 34 = .ok (.invokestatic 242, 3) := by decide +kernel
theorem dX10_best_37 : decode cX10_best 37 = .ok (.lmul, 1) := by decide +kernel
theorem dX10_best_38 : decode cX10_best 38 = .ok (.lstore 4, 2) := by decide +kernel
theorem dX10_best_40 : decode cX10_best 40 = .ok (.iload_n 2, 1) := by decide +kernel
theorem dX10_best_41 : decode cX10_best 41 = .ok (.iconst 1, 1) := by decide +kernel
theorem dX10_best_42 : decode cX10_best 42 = .ok (.isub, 1) := by decide +kernel
theorem dX10_best_43 : decode cX10_best 43 = .ok (.i2l, 1) := by decide +kernel
theorem dX10_best_44 : decode cX10_best 44 = .ok (.iload_n 1, 1) := by decide +kernel
theorem dX10_best_45 : decode cX10_best 45 = .ok (.iconst 1, 1) := by decide +kernel
theorem dX10_best_46 : decode cX10_best 46 = .ok (.isub, 1) := by decide +kernel
theorem dX10_best_47 : decode cX10_best 47 = .ok (.invokestatic 242, 3) := by decide +kernel
theorem dX10_best_50 : decode cX10_best 50 = .ok (.iload_n 3, 1) := by decide +kernel
theorem dX10_best_51 : decode cX10_best 51 = .ok (.i2l, 1) := by decide +kernel
theorem dX10_best_52 : decode cX10_best 52 = .ok (.iload_n 1, 1) := by decide +kernel
theorem dX10_best_53 : decode cX10_best 53 = .ok (.invokestatic 242, 3) := by decide +kernel
theorem dX10_best_56 : decode cX10_best 56 = .ok (.lmul, 1) := by decide +kernel
theorem dX10_best_57 : decode cX10_best 57 = .ok (.lstore 6, 2) := by decide +kernel
theorem dX10_best_59 : decode cX10_best 59 = .ok (.lload 4, 2) := by decide +kernel
theorem dX10_best_61 : decode cX10_best 61 = .ok (.lload 6, 2) := by decide +kernel
theorem dX10_best_63 : decode cX10_best 63 = .ok (.lcmp, 1) := by decide +kernel
theorem dX10_best_64 : decode cX10_best 64 = .ok (.ifCond .le 5, 3) := by decide +kernel
theorem dX10_best_67 : decode cX10_best 67 = .ok (.iload_n 3, 1) := by decide +kernel
theorem dX10_best_68 : decode cX10_best 68 = .ok (.istore_n 2, 1) := by decide +kernel
theorem dX10_best_69 : decode cX10_best 69 = .ok (.iinc 3 1, 3) := by decide +kernel
theorem dX10_best_72 : decode cX10_best 72 = .ok (.goto (-57), 3) := by decide +kernel
theorem dX10_best_75 : decode cX10_best 75 = .ok (.iload_n 2, 1) := by decide +kernel
theorem dX10_best_76 : decode cX10_best 76 = .ok (.ireturn, 1) := by decide +kernel
set_option maxRecDepth 20000 in
theorem ggX10_guess_X10_isShow : GoodIn wsX10_guess wsX10_isShow := goodIn_r _ [5, 6, 7, 4, 8] (by decide +kernel) (by decide +kernel)
set_option maxRecDepth 20000 in
theorem gX10_guess_X10_isShow : GoodIn wsX10_guess (va_wsS RX10 250 yX10_isShow wsX10_isShow) := goodIn_app (goodIn_of _ (by decide +kernel)) ggX10_guess_X10_isShow
set_option maxRecDepth 20000 in
theorem ggX10_guess_X3_likeliest : GoodIn wsX10_guess wsX3_likeliest := goodIn_r _ [13, 14, 15, 16, 12, 17, 18, 19, 20, 21, 22, 23, 24, 25, 26, 27, 28, 29, 30, 31, 32, 33, 34, 35, 36, 37, 38, 39, 40, 57] (by decide +kernel) (by decide +kernel)
set_option maxRecDepth 20000 in
theorem gX10_guess_X3_likeliest : GoodIn wsX10_guess (wsV RX10 253 RX3 yX3_likeliest wsX3_likeliest) := goodIn_app (goodIn_of _ (by decide +kernel)) ggX10_guess_X3_likeliest
theorem dX10_guess_0 : decode cX10_guess 0 = .ok (.iload_n 1, 1) := by decide +kernel
theorem dX10_guess_1 : decode cX10_guess 1 = .ok (.iload_n 2, 1) := by decide +kernel
theorem dX10_guess_2 : decode cX10_guess 2 = .ok (.iload_n 3, 1) := by decide +kernel
theorem dX10_guess_3 : decode cX10_guess 3 = .ok (.invokestatic 250, 3) := by decide +kernel
theorem dX10_guess_6 : decode cX10_guess 6 = .ok (.ifCond .eq 16, 3) := by decide +kernel
theorem dX10_guess_9 : decode cX10_guess 9 = .ok (.aload_n 0, 1) := by decide +kernel
theorem dX10_guess_10 : decode cX10_guess 10 = .ok (.getfield 81, 3) := by decide +kernel
theorem dX10_guess_13 : decode cX10_guess 13 = .ok (.iload_n 1, 1) := by decide +kernel
theorem dX10_guess_14 : decode cX10_guess 14 = .ok (.iload_n 2, 1) := by decide +kernel
theorem dX10_guess_15 : decode cX10_guess 15 = .ok (.iload_n 3, 1) := by decide +kernel
theorem dX10_guess_16 : decode cX10_guess 16 = .ok (.invokevirtual 253, 3) := by decide +kernel
theorem dX10_guess_19 : decode cX10_guess 19 = .ok (.goto 4, 3) := by decide +kernel
theorem dX10_guess_22 : decode cX10_guess 22 = .ok (.iconst (-1), 1) := by decide +kernel
theorem dX10_guess_23 : decode cX10_guess 23 = .ok (.ireturn, 1) := by decide +kernel
set_option maxRecDepth 20000 in
theorem ggX10_ways_X10_within : GoodIn wsX10_ways wsX10_within := goodIn_r _ [6] (by decide +kernel) (by decide +kernel)
set_option maxRecDepth 20000 in
theorem gX10_ways_X10_within : GoodIn wsX10_ways (va_wsS RX10 99 yX10_within wsX10_within) := goodIn_app (goodIn_of _ (by decide +kernel)) ggX10_ways_X10_within
set_option maxRecDepth 20000 in
theorem ggX10_ways_X10_isShow : GoodIn wsX10_ways wsX10_isShow := goodIn_r _ [9, 3, 4, 5, 6] (by decide +kernel) (by decide +kernel)
set_option maxRecDepth 20000 in
theorem gX10_ways_X10_isShow : GoodIn wsX10_ways (va_wsS RX10 250 yX10_isShow wsX10_isShow) := goodIn_app (goodIn_of _ (by decide +kernel)) ggX10_ways_X10_isShow
set_option maxRecDepth 20000 in
theorem ggX10_ways_X3_fillRow : GoodIn wsX10_ways wsX3_fillRow := goodIn_r _ [14, 15, 16, 17, 18, 19, 20, 21, 22, 13, 23, 24, 25, 26, 54] (by decide +kernel) (by decide +kernel)
set_option maxRecDepth 20000 in
theorem gX10_ways_X3_fillRow : GoodIn wsX10_ways (wsV RX10 256 RX3 yX3_fillRow wsX3_fillRow) := goodIn_app (goodIn_of _ (by decide +kernel)) ggX10_ways_X3_fillRow
set_option maxRecDepth 20000 in
theorem ggX10_ways_X3_waysToShow : GoodIn wsX10_ways wsX3_waysToShow := goodIn_r _ [30, 24, 25, 13, 26, 31, 32, 33, 34, 35, 36, 37, 15, 54] (by decide +kernel) (by decide +kernel)
set_option maxRecDepth 20000 in
theorem gX10_ways_X3_waysToShow : GoodIn wsX10_ways (wsV RX10 260 RX3 yX3_waysToShow wsX3_waysToShow) := goodIn_app (goodIn_of _ (by decide +kernel)) ggX10_ways_X3_waysToShow
theorem dX10_ways_0 : decode cX10_ways 0 = .ok (.iload_n 1, 1) := by decide +kernel
theorem dX10_ways_1 : decode cX10_ways 1 = .ok (.iconst 0, 1) := by decide +kernel
theorem dX10_ways_2 : decode cX10_ways 2 = .ok (.bipush 16, 2) := by decide +kernel
theorem dX10_ways_4 : decode cX10_ways 4 = .ok (.invokestatic 99, 3) := by decide +kernel
theorem dX10_ways_7 : decode cX10_ways 7 = .ok (.ifCond .eq 13, 3) := by decide +kernel
theorem dX10_ways_10 : decode cX10_ways 10 = .ok (.iload_n 2, 1) := by decide +kernel
theorem dX10_ways_11 : decode cX10_ways 11 = .ok (.iload_n 3, 1) := by decide +kernel
theorem dX10_ways_12 : decode cX10_ways 12 = .ok (.iload 4, 2) := by decide +kernel
theorem dX10_ways_14 : decode cX10_ways 14 = .ok (.invokestatic 250, 3) := by decide +kernel
theorem dX10_ways_17 : decode cX10_ways 17 = .ok (.ifCond .ne 7, 3) := by decide +kernel
theorem dX10_ways_20 : decode cX10_ways 20 = .ok (.ldc2_w 236, 3) := by decide +kernel
theorem dX10_ways_23 : decode cX10_ways 23 = .ok (.lreturn, 1) := by decide +kernel
theorem dX10_ways_24 : decode cX10_ways 24 = .ok (.aload_n 0, 1) := by decide +kernel
theorem dX10_ways_25 : decode cX10_ways 25 = .ok (.getfield 81, 3) := by decide +kernel
theorem dX10_ways_28 : decode cX10_ways 28 = .ok (.iload 4, 2) := by decide +kernel
theorem dX10_ways_30 : decode cX10_ways 30 = .ok (.iload_n 1, 1) := by decide +kernel
theorem dX10_ways_31 : decode cX10_ways 31 = .ok (.iconst 0, 1) := by decide +kernel
theorem dX10_ways_32 : decode cX10_ways 32 = .ok (.invokevirtual 256, 3) := by decide +kernel
theorem dX10_ways_35 : decode cX10_ways 35 = .ok (.aload_n 0, 1) := by decide +kernel
theorem dX10_ways_36 : decode cX10_ways 36 = .ok (.getfield 81, 3) := by decide +kernel
theorem dX10_ways_39 : decode cX10_ways 39 = .ok (.iload_n 1, 1) := by decide +kernel
theorem dX10_ways_40 : decode cX10_ways 40 = .ok (.iload_n 2, 1) := by decide +kernel
theorem dX10_ways_41 : decode cX10_ways 41 = .ok (.iload_n 3, 1) := by decide +kernel
theorem dX10_ways_42 : decode cX10_ways 42 = .ok (.iload 4, 2) := by decide +kernel
theorem dX10_ways_44 : decode cX10_ways 44 = .ok (.invokevirtual 260, 3) := by decide +kernel
theorem dX10_ways_47 : decode cX10_ways 47 = .ok (.lreturn, 1) := by decide +kernel
set_option maxRecDepth 20000 in
theorem ggX10_know_X10_isNumber : GoodIn wsX10_know wsX10_isNumber := goodIn_r _ [7, 8, 9, 10, 6, 11, 12, 13, 14, 26, 27, 28, 29, 30, 31, 32, 33, 34, 35, 36, 37, 38, 39, 40, 41] (by decide +kernel) (by decide +kernel)
set_option maxRecDepth 20000 in
theorem gX10_know_X10_isNumber : GoodIn wsX10_know (wsV RX10 185 RX10 yX10_isNumber wsX10_isNumber) := goodIn_app (goodIn_of _ (by decide +kernel)) ggX10_know_X10_isNumber
set_option maxRecDepth 20000 in
theorem ggX10_know_X2_has : GoodIn wsX10_know wsX2_has := goodIn_r _ [19, 20, 21, 42, 43, 44] (by decide +kernel) (by decide +kernel)
set_option maxRecDepth 20000 in
theorem gX10_know_X2_has : GoodIn wsX10_know (wsV RX10 264 RX2 yX2_has wsX2_has) := goodIn_app (goodIn_of _ (by decide +kernel)) ggX10_know_X2_has
set_option maxRecDepth 20000 in
theorem ggX10_know_X2_add : GoodIn wsX10_know wsX2_add := goodIn_r _ [25, 20, 21, 42, 43, 44] (by decide +kernel) (by decide +kernel)
set_option maxRecDepth 20000 in
theorem gX10_know_X2_add : GoodIn wsX10_know (wsV RX10 265 RX2 yX2_add wsX2_add) := goodIn_app (goodIn_of _ (by decide +kernel)) ggX10_know_X2_add
theorem dX10_know_0 : decode cX10_know 0 = .ok (.aload_n 0, 1) := by decide +kernel
theorem dX10_know_1 : decode cX10_know 1 = .ok (.iload_n 1, 1) := by decide +kernel
theorem dX10_know_2 : decode cX10_know 2 = .ok (.invokevirtual 185, 3) := by decide +kernel
theorem dX10_know_5 : decode cX10_know 5 = .ok (.ifCond .eq 14, 3) := by decide +kernel
theorem dX10_know_8 : decode cX10_know 8 = .ok (.aload_n 0, 1) := by decide +kernel
theorem dX10_know_9 : decode cX10_know 9 = .ok (.getfield 88, 3) := by decide +kernel
theorem dX10_know_12 : decode cX10_know 12 = .ok (.iload_n 1, 1) := by decide +kernel
theorem dX10_know_13 : decode cX10_know 13 = .ok (.invokevirtual 264, 3) := by decide +kernel
theorem dX10_know_16 : decode cX10_know 16 = .ok (.ifCond .eq 5, 3) := by decide +kernel
theorem dX10_know_19 : decode cX10_know 19 = .ok (.iconst (-1), 1) := by decide +kernel
theorem dX10_know_20 : decode cX10_know 20 = .ok (.ireturn, 1) := by decide +kernel
theorem dX10_know_21 : decode cX10_know 21 = .ok (.aload_n 0, 1) := by decide +kernel
theorem dX10_know_22 : decode cX10_know 22 = .ok (.getfield 88, 3) := by decide +kernel
theorem dX10_know_25 : decode cX10_know 25 = .ok (.getfield 106, 3) := by decide +kernel
theorem dX10_know_28 : decode cX10_know 28 = .ok (.bipush 16, 2) := by decide +kernel
theorem dX10_know_30 : decode cX10_know 30 = .ok (.if_icmp .lt 6, 3) := by decide +kernel
theorem dX10_know_33 : decode cX10_know 33 = .ok (.bipush (-3), 2) := by decide +kernel
theorem dX10_know_35 : decode cX10_know 35 = .ok (.ireturn, 1) := by decide +kernel
theorem dX10_know_36 : decode cX10_know 36 = .ok (.aload_n 0, 1) := by decide +kernel
theorem dX10_know_37 : decode cX10_know 37 = .ok (.getfield 88, 3) := by decide +kernel
theorem dX10_know_40 : decode cX10_know 40 = .ok (.iload_n 1, 1) := by decide +kernel
theorem dX10_know_41 : decode cX10_know 41 = .ok (.invokevirtual 265, 3) := by decide +kernel
theorem dX10_know_44 : decode cX10_know 44 = .ok (.aload_n 0, 1) := by decide +kernel
theorem dX10_know_45 : decode cX10_know 45 = .ok (.getfield 88, 3) := by decide +kernel
theorem dX10_know_48 : decode cX10_know 48 = .ok (.getfield 106, 3) := by decide +kernel
theorem dX10_know_51 : decode cX10_know 51 = .ok (.ireturn, 1) := by decide +kernel
theorem dX10_forget_0 : decode cX10_forget 0 = .ok (.aload_n 0, 1) := by decide +kernel
theorem dX10_forget_1 : decode cX10_forget 1 = .ok (.getfield 88, 3) := by decide +kernel
theorem dX10_forget_4 : decode cX10_forget 4 = .ok (.getfield 106, 3) := by decide +kernel
theorem dX10_forget_7 : decode cX10_forget 7 = .ok (.istore_n 1, 1) := by decide +kernel
theorem dX10_forget_8 : decode cX10_forget 8 = .ok (.aload_n 0, 1) := by decide +kernel
theorem dX10_forget_9 : decode cX10_forget 9 = .ok (.getfield 88, 3) := by decide +kernel
theorem dX10_forget_12 : decode cX10_forget 12 = .ok (.iconst 0, 1) := by decide +kernel
theorem dX10_forget_13 : decode cX10_forget 13 = .ok (.putfield 106, 3) := by decide +kernel
theorem dX10_forget_16 : decode cX10_forget 16 = .ok (.iload_n 1, 1) := by decide +kernel
theorem dX10_forget_17 : decode cX10_forget 17 = .ok (.ireturn, 1) := by decide +kernel
set_option maxRecDepth 20000 in
theorem ggX10_missing_X10_within : GoodIn wsX10_missing wsX10_within := goodIn_r _ [5] (by decide +kernel) (by decide +kernel)
set_option maxRecDepth 20000 in
theorem gX10_missing_X10_within : GoodIn wsX10_missing (va_wsS RX10 99 yX10_within wsX10_within) := goodIn_app (goodIn_of _ (by decide +kernel)) ggX10_missing_X10_within
