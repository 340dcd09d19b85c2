theorem nmJx8e188 : ∀ a, a < 0 → ∀ b, b < 0 → a ≠ b → (TJx8e188 a).2.1 ≠ (TJx8e188 b).2.1 := by decide +kernel
theorem tyJx8e188_ok : ∀ k, k < 0 → parseFieldDescriptor (TJx8e188 k).2.2.1 = some (tyJx8e188 k) := by decide +kernel
theorem nmJ6 : ∀ a, a < 0 → ∀ b, b < 0 → a ≠ b → (TJ6 a).2.1 ≠ (TJ6 b).2.1 := by decide +kernel
theorem tyJ6_ok : ∀ k, k < 0 → parseFieldDescriptor (TJ6 k).2.2.1 = some (tyJ6 k) := by decide +kernel
theorem nmJ9 : ∀ a, a < 0 → ∀ b, b < 0 → a ≠ b → (TJ9 a).2.1 ≠ (TJ9 b).2.1 := by decide +kernel
theorem tyJ9_ok : ∀ k, k < 0 → parseFieldDescriptor (TJ9 k).2.2.1 = some (tyJ9 k) := by decide +kernel
theorem nmJ0 : ∀ a, a < 0 → ∀ b, b < 0 → a ≠ b → (TJ0 a).2.1 ≠ (TJ0 b).2.1 := by decide +kernel
theorem tyJ0_ok : ∀ k, k < 0 → parseFieldDescriptor (TJ0 k).2.2.1 = some (tyJ0 k) := by decide +kernel
theorem nmJ1 : ∀ a, a < 0 → ∀ b, b < 0 → a ≠ b → (TJ1 a).2.1 ≠ (TJ1 b).2.1 := by decide +kernel
theorem tyJ1_ok : ∀ k, k < 0 → parseFieldDescriptor (TJ1 k).2.2.1 = some (tyJ1 k) := by decide +kernel
theorem nmJ2 : ∀ a, a < 0 → ∀ b, b < 0 → a ≠ b → (TJ2 a).2.1 ≠ (TJ2 b).2.1 := by decide +kernel
theorem tyJ2_ok : ∀ k, k < 0 → parseFieldDescriptor (TJ2 k).2.2.1 = some (tyJ2 k) := by decide +kernel
theorem nmJ10 : ∀ a, a < 0 → ∀ b, b < 0 → a ≠ b → (TJ10 a).2.1 ≠ (TJ10 b).2.1 := by decide +kernel
theorem tyJ10_ok : ∀ k, k < 0 → parseFieldDescriptor (TJ10 k).2.2.1 = some (tyJ10 k) := by decide +kernel
theorem nmJ3 : ∀ a, a < 0 → ∀ b, b < 0 → a ≠ b → (TJ3 a).2.1 ≠ (TJ3 b).2.1 := by decide +kernel
theorem tyJ3_ok : ∀ k, k < 0 → parseFieldDescriptor (TJ3 k).2.2.1 = some (tyJ3 k) := by decide +kernel
theorem inJx8e188 : ∀ w ∈ wsJx8e1880, w ∈ lw_tbl := by decide +kernel
theorem inJ6 : ∀ w ∈ wsJ60, w ∈ lw_tbl := by decide +kernel
theorem inJ9 : ∀ w ∈ wsJ90, w ∈ lw_tbl := by decide +kernel
theorem inJ0 : ∀ w ∈ wsJ00, w ∈ lw_tbl := by decide +kernel
theorem inJ1 : ∀ w ∈ wsJ10, w ∈ lw_tbl := by decide +kernel
theorem inJ2 : ∀ w ∈ wsJ20, w ∈ lw_tbl := by decide +kernel
theorem inJ10 : ∀ w ∈ wsJ100, w ∈ lw_tbl := by decide +kernel
theorem inJ3 : ∀ w ∈ wsJ30, w ∈ lw_tbl := by decide +kernel
theorem dX0_init_0 : decode cX0_init 0 = .ok (.aload_n 0, 1) := by decide +kernel
theorem dX0_init_1 : decode cX0_init 1 = .ok (.invokespecial 1, 3) := by decide +kernel
theorem dX0_init_4 : decode cX0_init 4 = .ok (.aload_n 0, 1) := by decide +kernel
theorem dX0_init_5 : decode cX0_init 5 = .ok (.bipush 32, 2) := by decide +kernel
theorem dX0_init_7 : decode cX0_init 7 = .ok (.newarray .int, 2) := by decide +kernel
theorem dX0_init_9 : decode cX0_init 9 = .ok (.putfield 7, 3) := by decide +kernel
theorem dX0_init_12 : decode cX0_init 12 = .ok (.aload_n 0, 1) := by decide +kernel
theorem dX0_init_13 : decode cX0_init 13 = .ok (.iconst 0, 1) := by decide +kernel
theorem dX0_init_14 : decode cX0_init 14 = .ok (.putfield 13, 3) := by decide +kernel
theorem dX0_init_17 : decode cX0_init 17 = .ok (.aload_n 0, 1) := by decide +kernel
theorem dX0_init_18 : decode cX0_init 18 = .ok (.iconst 0, 1) := by decide +kernel
theorem dX0_init_19 : decode cX0_init 19 = .ok (.putfield 17, 3) := by decide +kernel
theorem dX0_init_22 : decode cX0_init 22 = .ok (.aload_n 0, 1) := by decide +kernel
theorem dX0_init_23 : decode cX0_init 23 = .ok (.iconst (-1), 1) := by decide +kernel
theorem dX0_init_24 : decode cX0_init 24 = .ok (.putfield 20, 3) := by decide +kernel
theorem dX0_init_27 : decode cX0_init 27 = .ok (.aload_n 0, 1) := by decide +kernel
theorem dX0_init_28 : decode cX0_init 28 = .ok (.iconst 0, 1) := by decide +kernel
theorem dX0_init_29 : decode cX0_init 29 = .ok (.putfield 23, 3) := by decide +kernel
theorem dX0_init_32 : decode cX0_init 32 = .ok (.aload_n 0, 1) := by decide +kernel
theorem dX0_init_33 : decode cX0_init 33 = .ok (.iconst 0, 1) := by decide +kernel
theorem dX0_init_34 : decode cX0_init 34 = .ok (.putfield 26, 3) := by decide +kernel
theorem dX0_init_37 : decode cX0_init 37 = .ok (.aload_n 0, 1) := by decide +kernel
theorem dX0_init_38 : decode cX0_init 38 = .ok (.iconst 0, 1) := by decide +kernel
theorem dX0_init_39 : decode cX0_init 39 = .ok (.putfield 29, 3) := by decide +kernel
theorem dX0_init_42 : decode cX0_init 42 = .ok (.aload_n 0, 1) := by decide +kernel
theorem dX0_init_43 : decode cX0_init 43 = .ok (.iconst 0, 1) := by decide +kernel
theorem dX0_init_44 : decode cX0_init 44 = .ok (.putfield 32, 3) := by decide +kernel
theorem dX0_init_47 : decode cX0_init 47 = .ok (.aload_n 0, 1) := by decide +kernel
theorem dX0_init_48 : decode cX0_init 48 = .ok (.iconst 0, 1) := by decide +kernel
theorem dX0_init_49 : decode cX0_init 49 = .ok (.putfield 35, 3) := by decide +kernel
theorem dX0_init_52 : decode cX0_init 52 = .ok (.return_, 1) := by decide +kernel
theorem dX0_clear_0 : decode cX0_clear 0 = .ok (.aload_n 0, 1) := by decide +kernel
theorem dX0_clear_1 : decode cX0_clear 1 = .ok (.iload_n 1, 1) := by decide +kernel
theorem dX0_clear_2 : decode cX0_clear 2 = .ok (.putfield 17, 3) := by decide +kernel
theorem dX0_clear_5 : decode cX0_clear 5 = .ok (.aload_n 0, 1) := by decide +kernel
theorem dX0_clear_6 : decode cX0_clear 6 = .ok (.iconst 0, 1) := by decide +kernel
theorem dX0_clear_7 : decode cX0_clear 7 = .ok (.putfield 13, 3) := by decide +kernel
theorem dX0_clear_10 : decode cX0_clear 10 = .ok (.aload_n 0, 1) := by decide +kernel
theorem dX0_clear_11 : decode cX0_clear 11 = .ok (.iconst (-1), 1) := by decide +kernel
theorem dX0_clear_12 : decode cX0_clear 12 = .ok (.putfield 20, 3) := by decide +kernel
theorem dX0_clear_15 : decode cX0_clear 15 = .ok (.return_, 1) := by decide +kernel
theorem dX0_add_0 : decode cX0_add 0 = .ok (.aload_n 0, 1) := by decide +kernel
theorem dX0_add_1 : decode cX0_add 1 = .ok (.getfield 13, 3) := by decide +kernel
theorem dX0_add_4 : decode cX0_add 4 = .ok (.aload_n 0, 1) := by decide +kernel
theorem dX0_add_5 : decode cX0_add 5 = .ok (.getfield 7, 3) := by decide +kernel
theorem dX0_add_8 : decode cX0_add 8 = .ok (.arraylength, 1) := by decide +kernel
theorem dX0_add_9 : decode cX0_add 9 = .ok (.if_icmp .ge 23, 3) := by decide +kernel
theorem dX0_add_12 : decode cX0_add 12 = .ok (.aload_n 0, 1) := by decide +kernel
theorem dX0_add_13 : decode cX0_add 13 = .ok (.getfield 7, 3) := by decide +kernel
theorem dX0_add_16 : decode cX0_add 16 = .ok (.aload_n 0, 1) := by decide +kernel
theorem dX0_add_17 : decode cX0_add 17 = .ok (.getfield 13, 3) := by decide +kernel
theorem dX0_add_20 : decode cX0_add 20 = .ok (.iload_n 1, 1) := by decide +kernel
theorem dX0_add_21 : decode cX0_add 21 = .ok (.iastore, 1) := by decide +kernel
theorem dX0_add_22 : decode cX0_add 22 = .ok (.aload_n 0, 1) := by decide +kernel
theorem dX0_add_23 : decode cX0_add 23 = .ok (.dup, 1) := by decide +kernel
theorem dX0_add_24 : decode cX0_add 24 = .ok (.getfield 13, 3) := by decide +kernel
theorem dX0_add_27 : decode cX0_add 27 = .ok (.iconst 1, 1) := by decide +kernel
theorem dX0_add_28 : decode cX0_add 28 = .ok (.iadd, 1) := by decide +kernel
theorem dX0_add_29 : decode cX0_add 29 = .ok (.putfield 13, 3) := by decide +kernel
theorem dX0_add_32 : decode cX0_add 32 = .ok (.return_, 1) := by decide +kernel
set_option maxRecDepth 20000 in
theorem ggX0_listen_X10_lowBits : GoodIn wsX0_listen wsX10_lowBits := goodIn_r _ [9] (by decide +kernel) (by decide +kernel)
set_option maxRecDepth 20000 in
theorem gX0_listen_X10_lowBits_n38 : GoodIn wsX0_listen (wsX10_lowBits) := ggX0_listen_X10_lowBits
set_option maxRecDepth 20000 in
theorem ggX0_listen_X0_listenToBlocker : GoodIn wsX0_listen wsX0_listenToBlocker := goodIn_r _ [14, 15, 16, 17, 18, 19, 20, 21, 1, 22, 23, 24, 3, 4, 7, 8, 9, 25, 26, 27, 28, 29, 30, 31, 32, 33] (by decide +kernel) (by decide +kernel)
set_option maxRecDepth 20000 in
theorem gX0_listen_X0_listenToBlocker : GoodIn wsX0_listen (wsV RX0 44 RX0 yX0_listenToBlocker wsX0_listenToBlocker) := goodIn_app (goodIn_of _ (by decide +kernel)) ggX0_listen_X0_listenToBlocker
theorem dX0_listen_0 : decode cX0_listen 0 = .ok (.aload_n 0, 1) := by decide +kernel
theorem dX0_listen_1 : decode cX0_listen 1 = .ok (.getfield 17, 3) := by decide +kernel
theorem dX0_listen_4 : decode cX0_listen 4 = .ok (.iload_n 1, 1) := by decide +kernel
theorem dX0_listen_5 : decode cX0_listen 5 = .ok (.isub, 1) := by decide +kernel
theorem dX0_listen_6 : decode cX0_listen 6 = .ok (.istore_n 3, 1) := by decide +kernel
theorem dX0_listen_7 : decode cX0_listen 7 = .ok (.iload_n 3, 1) := by decide +kernel
theorem dX0_listen_8 : decode cX0_listen 8 = .ok (.invokestatic 38, 3) := by decide +kernel
theorem dX0_listen_11 : decode cX0_listen 11 = .ok (.istore 4, 2) := by decide +kernel
theorem dX0_listen_13 : decode cX0_listen 13 = .ok (.aload_n 0, 1) := by decide +kernel
theorem dX0_listen_14 : decode cX0_listen 14 = .ok (.iconst 0, 1) := by decide +kernel
theorem dX0_listen_15 : decode cX0_listen 15 = .ok (.putfield 26, 3) := by decide +kernel
theorem dX0_listen_18 : decode cX0_listen 18 = .ok (.aload_n 0, 1) := by decide +kernel
theorem dX0_listen_19 : decode cX0_listen 19 = .ok (.iconst 0, 1) := by decide +kernel
theorem dX0_listen_20 : decode cX0_listen 20 = .ok (.putfield 32, 3) := by decide +kernel
theorem dX0_listen_23 : decode cX0_listen 23 = .ok (.aload_n 0, 1) := by decide +kernel
theorem dX0_listen_24 : decode cX0_listen 24 = .ok (.iconst 0, 1) := by decide +kernel
theorem dX0_listen_25 : decode cX0_listen 25 = .ok (.putfield 35, 3) := by decide +kernel
theorem dX0_listen_28 : decode cX0_listen 28 = .ok (.iconst 0, 1) := by decide +kernel
theorem dX0_listen_29 : decode cX0_listen 29 = .ok (.istore 5, 2) := by decide +kernel
theorem dX0_listen_31 : decode cX0_listen 31 = .ok (.iload 5, 2) := by decide +kernel
theorem dX0_listen_33 : decode cX0_listen 33 = .ok (.aload_n 0, 1) := by decide +kernel
theorem dX0_listen_34 : decode cX0_listen 34 = .ok (.getfield 13, 3) := by decide +kernel
theorem dX0_listen_37 : decode cX0_listen 37 = .ok (.if_icmp .ge 72, 3) := by decide +kernel
theorem dX0_listen_40 : decode cX0_listen 40 = .ok (.aload_n 0, 1) := by decide +kernel
theorem dX0_listen_41 : decode cX0_listen 41 = .ok (.getfield 7, 3) := by decide +kernel
theorem dX0_listen_44 : decode cX0_listen 44 = .ok (.iload 5, 2) := by decide +kernel
theorem dX0_listen_46 : decode cX0_listen 46 = .ok (.iaload, 1) := by decide +kernel
theorem dX0_listen_47 : decode cX0_listen 47 = .ok (.iload_n 3, 1) := by decide +kernel
theorem dX0_listen_48 : decode cX0_listen 48 = .ok (.ishr, 1) := by decide +kernel
theorem dX0_listen_49 : decode cX0_listen 49 = .ok (.iload_n 2, 1) := by decide +kernel
theorem dX0_listen_50 : decode cX0_listen 50 = .ok (.if_icmp .ne 53, 3) := by decide +kernel
theorem dX0_listen_53 : decode cX0_listen 53 = .ok (.aload_n 0, 1) := by decide +kernel
theorem dX0_listen_54 : decode cX0_listen 54 = .ok (.dup, 1) := by decide +kernel
theorem dX0_listen_55 : decode cX0_listen 55 = .ok (.getfield 26, 3) := by decide +kernel
theorem dX0_listen_58 : decode cX0_listen 58 = .ok (.iconst 1, 1) := by decide +kernel
theorem dX0_listen_59 : decode cX0_listen 59 = .ok (.iadd, 1) := by decide +kernel
theorem dX0_listen_60 : decode cX0_listen 60 = .ok (.putfield 26, 3) := by decide +kernel
theorem dX0_listen_63 : decode cX0_listen 63 = .ok (.aload_n 0, 1) := by decide +kernel
theorem dX0_listen_64 : decode cX0_listen 64 = .ok (.dup, 1) := by decide +kernel
theorem dX0_listen_65 : decode cX0_listen 65 = .ok (.getfield 32, 3) := by decide +kernel
theorem dX0_listen_68 : decode cX0_listen 68 = .ok (.aload_n 0, 1) := by decide +kernel
theorem dX0_listen_69 : decode cX0_listen 69 = .ok (.getfield 7, 3) := by decide +kernel
theorem dX0_listen_72 : decode cX0_listen 72 = .ok (.iload 5, 2) := by decide +kernel
theorem dX0_listen_74 : decode cX0_listen 74 = .ok (.iaload, 1) := by decide +kernel
theorem dX0_listen_75 : decode cX0_listen 75 = .ok (.iload 4, 2) := by decide +kernel
theorem dX0_listen_77 : decode cX0_listen 77 = .ok (.iand, 1) := by decide +kernel
theorem dX0_listen_78 : decode cX0_listen 78 = .ok (.ior, 1) := by decide +kernel
theorem dX0_listen_79 : decode cX0_listen 79 = .ok (.putfield 32, 3) := by decide +kernel
theorem dX0_listen_82 : decode cX0_listen 82 = .ok (.aload_n 0, 1) := by decide +kernel
theorem dX0_listen_83 : decode cX0_listen 83 = .ok (.dup, 1) := by decide +kernel
theorem dX0_listen_84 : decode cX0_listen 84 = .ok (.getfield 35, 3) := by decide +kernel
theorem dX0_listen_87 : decode cX0_listen 87 = .ok (.aload_n 0, 1) := by decide +kernel
theorem dX0_listen_88 : decode cX0_listen 88 = .ok (.getfield 7, 3) := by decide +kernel
theorem dX0_listen_91 : decode cX0_listen 91 = .ok (.iload 5, 2) := by decide +kernel
theorem dX0_listen_93 : decode cX0_listen 93 = .ok (.iaload, 1) := by decide +kernel
theorem dX0_listen_94 : decode cX0_listen 94 = .ok (.iconst (-1), 1) := by decide +kernel
theorem dX0_listen_95 : decode cX0_listen 95 = .ok (.ixor, 1) := by decide +kernel
theorem dX0_listen_96 : decode cX0_listen 96 = .ok (.iload 4, 2) := by decide +kernel
theorem dX0_listen_98 : decode cX0_listen 98 = .ok (.iand, 1) := by decide +kernel
theorem dX0_listen_99 : decode cX0_listen 99 = .ok (.ior, 1) := by decide +kernel
theorem dX0_listen_100 : decode cX0_listen 100 = .ok (.putfield 35, 3) := by decide +kernel
theorem dX0_listen_103 : decode cX0_listen 103 = .ok (.iinc 5 1, 3) := by decide +kernel
theorem dX0_listen_106 : decode cX0_listen 106 = .ok (.goto (-75), 3) := by decide +kernel
theorem dX0_listen_109 : decode cX0_listen 109 = .ok (.aload_n 0, 1) := by decide +kernel
theorem dX0_listen_110 : decode cX0_listen 110 = .ok (.iload_n 1, 1) := by decide +kernel
theorem dX0_listen_111 : decode cX0_listen 111 = .ok (.iload_n 2, 1) := by decide +kernel
theorem dX0_listen_112 : decode cX0_listen 112 = .ok (.invokevirtual 44, 3) := by decide +kernel
theorem dX0_listen_115 : decode cX0_listen 115 = .ok (.return_, 1) := by decide +kernel
set_option maxRecDepth 20000 in
theorem ggX0_listenToBlocker_X10_lowBits : GoodIn wsX0_listenToBlocker wsX10_lowBits := goodIn_r _ [16] (by decide +kernel) (by decide +kernel)
set_option maxRecDepth 20000 in
theorem gX0_listenToBlocker_X10_lowBits_n38 : GoodIn wsX0_listenToBlocker (wsX10_lowBits) := ggX0_listenToBlocker_X10_lowBits
theorem dX0_listenToBlocker_0 : decode cX0_listenToBlocker 0 = .ok (.aload_n 0, 1) := by decide +kernel
theorem dX0_listenToBlocker_1 : decode cX0_listenToBlocker 1 = .ok (.iconst 0, 1) := by decide +kernel
theorem dX0_listenToBlocker_2 : decode cX0_listenToBlocker 2 = .ok (.putfield 29, 3) := by decide +kernel
theorem dX0_listenToBlocker_5 : decode cX0_listenToBlocker 5 = .ok (.iload_n 1, 1) := by decide +kernel
theorem dX0_listenToBlocker_6 : decode cX0_listenToBlocker 6 = .ok (.aload_n 0, 1) := by decide +kernel
theorem dX0_listenToBlocker_7 : decode cX0_listenToBlocker 7 = .ok (.getfield 20, 3) := by decide +kernel
theorem dX0_listenToBlocker_10 : decode cX0_listenToBlocker 10 = .ok (.invokestatic 48, 3) := by decide +kernel
theorem dX0_listenToBlocker_13 : decode cX0_listenToBlocker 13 = .ok (.istore_n 3, 1) := by decide +kernel
theorem dX0_listenToBlocker_14 : decode cX0_listenToBlocker 14 = .ok (.aload_n 0, 1) := by decide +kernel
theorem dX0_listenToBlocker_15 : decode cX0_listenToBlocker 15 = .ok (.getfield 20, 3) := by decide +kernel
theorem dX0_listenToBlocker_18 : decode cX0_listenToBlocker 18 = .ok (.ifCond .lt 22, 3) := by decide +kernel
theorem dX0_listenToBlocker_21 : decode cX0_listenToBlocker 21 = .ok (.iload_n 2, 1) := by decide +kernel
theorem dX0_listenToBlocker_22 : decode cX0_listenToBlocker 22 = .ok (.iload_n 1, 1) := by decide +kernel
theorem dX0_listenToBlocker_23 : decode cX0_listenToBlocker 23 = .ok (.iload_n 3, 1) := by decide +kernel
theorem dX0_listenToBlocker_24 : decode cX0_listenToBlocker 24 = .ok (.isub, 1) := by decide +kernel
theorem dX0_listenToBlocker_25 : decode cX0_listenToBlocker 25 = .ok (.ishr, 1) := by decide +kernel
theorem dX0_listenToBlocker_26 : decode cX0_listenToBlocker 26 = .ok (.aload_n 0, 1) := by decide +kernel
theorem dX0_listenToBlocker_27 : decode cX0_listenToBlocker 27 = .ok (.getfield 23, 3) := by decide +kernel
theorem dX0_listenToBlocker_30 : decode cX0_listenToBlocker 30 = .ok (.aload_n 0, 1) := by decide +kernel
theorem dX0_listenToBlocker_31 : decode cX0_listenToBlocker 31 = .ok (.getfield 20, 3) := by decide +kernel
theorem dX0_listenToBlocker_34 : decode cX0_listenToBlocker 34 = .ok (.iload_n 3, 1) := by decide +kernel
theorem dX0_listenToBlocker_35 : decode cX0_listenToBlocker 35 = .ok (.isub, 1) := by decide +kernel
theorem dX0_listenToBlocker_36 : decode cX0_listenToBlocker 36 = .ok (.ishr, 1) := by decide +kernel
theorem dX0_listenToBlocker_37 : decode cX0_listenToBlocker 37 = .ok (.if_icmp .eq 4, 3) := by decide +kernel
theorem dX0_listenToBlocker_40 : decode cX0_listenToBlocker 40 = .ok (.return_, 1) := by decide +kernel
theorem dX0_listenToBlocker_41 : decode cX0_listenToBlocker 41 = .ok (.aload_n 0, 1) := by decide +kernel
theorem dX0_listenToBlocker_42 : decode cX0_listenToBlocker 42 = .ok (.getfield 17, 3) := by decide +kernel
theorem dX0_listenToBlocker_45 : decode cX0_listenToBlocker 45 = .ok (.iload_n 1, 1) := by decide +kernel
theorem dX0_listenToBlocker_46 : decode cX0_listenToBlocker 46 = .ok (.isub, 1) := by decide +kernel
theorem dX0_listenToBlocker_47 : decode cX0_listenToBlocker 47 = .ok (.invokestatic 38, 3) := by decide +kernel
theorem dX0_listenToBlocker_50 : decode cX0_listenToBlocker 50 = .ok (.istore 4, 2) := by decide +kernel
theorem dX0_listenToBlocker_52 : decode cX0_listenToBlocker 52 = .ok (.aload_n 0, 1) := by decide +kernel
theorem dX0_listenToBlocker_53 : decode cX0_listenToBlocker 53 = .ok (.getfield 17, 3) := by decide +kernel
theorem dX0_listenToBlocker_56 : decode cX0_listenToBlocker 56 = .ok (.iload_n 1, 1) := by decide +kernel
theorem dX0_listenToBlocker_57 : decode cX0_listenToBlocker 57 = .ok (.aload_n 0, 1) := by decide +kernel
theorem dX0_listenToBlocker_58 : decode cX0_listenToBlocker 58 = .ok (.getfield 20, 3) := by decide +kernel
theorem dX0_listenToBlocker_61 : decode cX0_listenToBlocker 61 = .ok (.invokestatic 54, 3) := by decide +kernel
theorem dX0_listenToBlocker_64 : decode cX0_listenToBlocker 64 = .ok (.isub, 1) := by decide +kernel
theorem dX0_listenToBlocker_65 : decode cX0_listenToBlocker 65 = .ok (.istore 5, 2) := by decide +kernel
theorem dX0_listenToBlocker_67 : decode cX0_listenToBlocker 67 = .ok (.aload_n 0, 1) := by decide +kernel
theorem dX0_listenToBlocker_68 : decode cX0_listenToBlocker 68 = .ok (.getfield 23, 3) := by decide +kernel
theorem dX0_listenToBlocker_71 : decode cX0_listenToBlocker 71 = .ok (.aload_n 0, 1) := by decide +kernel
theorem dX0_listenToBlocker_72 : decode cX0_listenToBlocker 72 = .ok (.getfield 17, 3) := by decide +kernel
theorem dX0_listenToBlocker_75 : decode cX0_listenToBlocker 75 = .ok (.aload_n 0, 1) := by decide +kernel
theorem dX0_listenToBlocker_76 : decode cX0_listenToBlocker 76 = .ok (.getfield 20, 3) := by decide +kernel
theorem dX0_listenToBlocker_79 : decode cX0_listenToBlocker 79 = .ok (.isub, 1) := by decide +kernel
theorem dX0_listenToBlocker_80 : decode cX0_listenToBlocker 80 = .ok (.ishl, 1) := by decide +kernel
theorem dX0_listenToBlocker_81 : decode cX0_listenToBlocker 81 = .ok (.iload 4, 2) := by decide +kernel
theorem dX0_listenToBlocker_83 : decode cX0_listenToBlocker 83 = .ok (.iand, 1) := by decide +kernel
theorem dX0_listenToBlocker_84 : decode cX0_listenToBlocker 84 = .ok (.istore 6, 2) := by decide +kernel
theorem dX0_listenToBlocker_86 : decode cX0_listenToBlocker 86 = .ok (.aload_n 0, 1) := by decide +kernel
theorem dX0_listenToBlocker_87 : decode cX0_listenToBlocker 87 = .ok (.iconst 1, 1) := by decide +kernel
theorem dX0_listenToBlocker_88 : decode cX0_listenToBlocker 88 = .ok (.iload 5, 2) := by decide +kernel
theorem dX0_listenToBlocker_90 : decode cX0_listenToBlocker 90 = .ok (.ishl, 1) := by decide +kernel
theorem dX0_listenToBlocker_91 : decode cX0_listenToBlocker 91 = .ok (.putfield 29, 3) := by decide +kernel
theorem dX0_listenToBlocker_94 : decode cX0_listenToBlocker 94 = .ok (.aload_n 0, 1) := by decide +kernel
theorem dX0_listenToBlocker_95 : decode cX0_listenToBlocker 95 = .ok (.dup, 1) := by decide +kernel
theorem dX0_listenToBlocker_96 : decode cX0_listenToBlocker 96 = .ok (.getfield 32, 3) := by decide +kernel
theorem dX0_listenToBlocker_99 : decode cX0_listenToBlocker 99 = .ok (.iload 6, 2) := by decide +kernel
theorem dX0_listenToBlocker_101 : decode cX0_listenToBlocker 101 = .ok (.iload 5, 2) := by decide +kernel
theorem dX0_listenToBlocker_103 : decode cX0_listenToBlocker 103 = .ok (.invokestatic 38, 3) := by decide +kernel
theorem dX0_listenToBlocker_106 : decode cX0_listenToBlocker 106 = .ok (.ior, 1) := by decide +kernel
theorem dX0_listenToBlocker_107 : decode cX0_listenToBlocker 107 = .ok (.ior, 1) := by decide +kernel
theorem dX0_listenToBlocker_108 : decode cX0_listenToBlocker 108 = .ok (.putfield 32, 3) := by decide +kernel
theorem dX0_listenToBlocker_111 : decode cX0_listenToBlocker 111 = .ok (.aload_n 0, 1) := by decide +kernel
theorem dX0_listenToBlocker_112 : decode cX0_listenToBlocker 112 = .ok (.dup, 1) := by decide +kernel
theorem dX0_listenToBlocker_113 : decode cX0_listenToBlocker 113 = .ok (.getfield 35, 3) := by decide +kernel
theorem dX0_listenToBlocker_116 : decode cX0_listenToBlocker 116 = .ok (.iload 6, 2) := by decide +kernel
theorem dX0_listenToBlocker_118 : decode cX0_listenToBlocker 118 = .ok (.iconst (-1), 1) := by decide +kernel
theorem dX0_listenToBlocker_119 : decode cX0_listenToBlocker 119 = .ok (.ixor, 1) := by decide +kernel
theorem dX0_listenToBlocker_120 : decode cX0_listenToBlocker 120 = .ok (.iload 4, 2) := by decide +kernel
theorem dX0_listenToBlocker_122 : decode cX0_listenToBlocker 122 = .ok (.iand, 1) := by decide +kernel
theorem dX0_listenToBlocker_123 : decode cX0_listenToBlocker 123 = .ok (.ior, 1) := by decide +kernel
theorem dX0_listenToBlocker_124 : decode cX0_listenToBlocker 124 = .ok (.putfield 35, 3) := by decide +kernel
theorem dX0_listenToBlocker_127 : decode cX0_listenToBlocker 127 = .ok (.return_, 1) := by decide +kernel
theorem dX0_clashes_0 : decode cX0_clashes 0 = .ok (.aload_n 0, 1) := by decide +kernel
theorem dX0_clashes_1 : decode cX0_clashes 1 = .ok (.getfield 32, 3) := by decide +kernel
theorem dX0_clashes_4 : decode cX0_clashes 4 = .ok (.aload_n 0, 1) := by decide +kernel
theorem dX0_clashes_5 : decode cX0_clashes 5 = .ok (.getfield 35, 3) := by decide +kernel
theorem dX0_clashes_8 : decode cX0_clashes 8 = .ok (.iand, 1) := by decide +kernel
theorem dX0_clashes_9 : decode cX0_clashes 9 = .ok (.ireturn, 1) := by decide +kernel
theorem dX1_init_0 : decode cX1_init 0 = .ok (.aload_n 0, 1) := by decide +kernel
theorem dX1_init_1 : decode cX1_init 1 = .ok (.invokespecial 3, 3) := by decide +kernel
theorem dX1_init_4 : decode cX1_init 4 = .ok (.aload_n 0, 1) := by decide +kernel
theorem dX1_init_5 : decode cX1_init 5 = .ok (.iconst 5, 1) := by decide +kernel
theorem dX1_init_6 : decode cX1_init 6 = .ok (.newarray .int, 2) := by decide +kernel
theorem dX1_init_8 : decode cX1_init 8 = .ok (.putfield 9, 3) := by decide +kernel
theorem dX1_init_11 : decode cX1_init 11 = .ok (.aload_n 0, 1) := by decide +kernel
theorem dX1_init_12 : decode cX1_init 12 = .ok (.bipush 64, 2) := by decide +kernel
theorem dX1_init_14 : decode cX1_init 14 = .ok (.newarray .int, 2) := by decide +kernel
theorem dX1_init_16 : decode cX1_init 16 = .ok (.putfield 15, 3) := by decide +kernel
theorem dX1_init_19 : decode cX1_init 19 = .ok (.aload_n 0, 1) := by decide +kernel
theorem dX1_init_20 : decode cX1_init 20 = .ok (.bipush 64, 2) := by decide +kernel
theorem dX1_init_22 : decode cX1_init 22 = .ok (.newarray .int, 2) := by decide +kernel
theorem dX1_init_24 : decode cX1_init 24 = .ok (.putfield 18, 3) := by decide +kernel
theorem dX1_init_27 : decode cX1_init 27 = .ok (.aload_n 0, 1) := by decide +kernel
theorem dX1_init_28 : decode cX1_init 28 = .ok (.bipush 64, 2) := by decide +kernel
theorem dX1_init_30 : decode cX1_init 30 = .ok (.newarray .int, 2) := by decide +kernel
theorem dX1_init_32 : decode cX1_init 32 = .ok (.putfield 21, 3) := by decide +kernel
theorem dX1_init_35 : decode cX1_init 35 = .ok (.return_, 1) := by decide +kernel
theorem dX1_wasHeld_0 : decode cX1_wasHeld 0 = .ok (.aload_n 0, 1) := by decide +kernel
theorem dX1_wasHeld_1 : decode cX1_wasHeld 1 = .ok (.getfield 9, 3) := by decide +kernel
theorem dX1_wasHeld_4 : decode cX1_wasHeld 4 = .ok (.iconst 0, 1) := by decide +kernel
theorem dX1_wasHeld_5 : decode cX1_wasHeld 5 = .ok (.iaload, 1) := by decide +kernel
theorem dX1_wasHeld_6 : decode cX1_wasHeld 6 = .ok (.ifCond .le 7, 3) := by decide +kernel
theorem dX1_wasHeld_9 : decode cX1_wasHeld 9 = .ok (.iconst 1, 1) := by decide +kernel
theorem dX1_wasHeld_10 : decode cX1_wasHeld 10 = .ok (.goto 4, 3) := by decide +kernel
theorem dX1_wasHeld_13 : decode cX1_wasHeld 13 = .ok (.iconst 0, 1) := by decide +kernel
theorem dX1_wasHeld_14 : decode cX1_wasHeld 14 = .ok (.ireturn, 1) := by decide +kernel
set_option maxRecDepth 20000 in
theorem ggX1_hold_X10_within : GoodIn wsX1_hold wsX10_within := goodIn_r _ [8] (by decide +kernel) (by decide +kernel)
set_option maxRecDepth 20000 in
theorem gX1_hold_X10_within_n24 : GoodIn wsX1_hold (wsX10_within) := ggX1_hold_X10_within
set_option maxRecDepth 20000 in
theorem ggX1_hold_X1_clear : GoodIn wsX1_hold wsX1_clear := goodIn_r _ [13, 4, 14, 5, 15, 37, 38, 39, 40] (by decide +kernel) (by decide +kernel)
set_option maxRecDepth 20000 in
theorem gX1_hold_X1_clear : GoodIn wsX1_hold (wsV RX1 28 RX1 yX1_clear wsX1_clear) := goodIn_app (goodIn_of _ (by decide +kernel)) ggX1_hold_X1_clear
set_option maxRecDepth 20000 in
theorem ggX1_hold_X10_slotOf : GoodIn wsX1_hold wsX10_slotOf := goodIn_r _ [17, 18, 19] (by decide +kernel) (by decide +kernel)
set_option maxRecDepth 20000 in
theorem gX1_hold_X10_slotOf_n45 : GoodIn wsX1_hold (wsX10_slotOf) := ggX1_hold_X10_slotOf
set_option maxRecDepth 20000 in
theorem ggX1_hold_X1_enter : GoodIn wsX1_hold wsX1_enter := goodIn_r _ [23, 24, 14, 5, 15, 25, 26, 27, 28, 33, 34, 35, 36, 37, 38, 39, 40] (by decide +kernel) (by decide +kernel)
set_option maxRecDepth 20000 in
theorem gX1_hold_X1_enter : GoodIn wsX1_hold (wsV RX1 49 RX1 yX1_enter wsX1_enter) := goodIn_app (goodIn_of _ (by decide +kernel)) ggX1_hold_X1_enter
set_option maxRecDepth 20000 in
theorem ggX1_hold_X1_kindOf : GoodIn wsX1_hold wsX1_kindOf := goodIn_r _ [32, 14, 24, 5, 15, 37, 38, 39, 40, 33, 34, 35, 36] (by decide +kernel) (by decide +kernel)
set_option maxRecDepth 20000 in
theorem gX1_hold_X1_kindOf : GoodIn wsX1_hold (wsV RX1 53 RX1 yX1_kindOf wsX1_kindOf) := goodIn_app (goodIn_of _ (by decide +kernel)) ggX1_hold_X1_kindOf
theorem dX1_hold_0 : decode cX1_hold 0 = .ok (.iload_n 2, 1) := by decide +kernel
theorem dX1_hold_1 : decode cX1_hold 1 = .ok (.iconst 1, 1) := by decide +kernel
theorem dX1_hold_2 : decode cX1_hold 2 = .ok (.bipush 64, 2) := by decide +kernel
theorem dX1_hold_4 : decode cX1_hold 4 = .ok (.invokestatic 24, 3) := by decide +kernel
theorem dX1_hold_7 : decode cX1_hold 7 = .ok (.ifCond .ne 5, 3) := by decide +kernel
theorem dX1_hold_10 : decode cX1_hold 10 = .ok (.iconst 0, 1) := by decide +kernel
theorem dX1_hold_11 : decode cX1_hold 11 = .ok (.ireturn, 1) := by decide +kernel
theorem dX1_hold_12 : decode cX1_hold 12 = .ok (.aload_n 0, 1) := by decide +kernel
theorem dX1_hold_13 : decode cX1_hold 13 = .ok (.iload_n 2, 1) := by decide +kernel
theorem dX1_hold_14 : decode cX1_hold 14 = .ok (.invokevirtual 28, 3) := by decide +kernel
theorem dX1_hold_17 : decode cX1_hold 17 = .ok (.iconst 0, 1) := by decide +kernel
theorem dX1_hold_18 : decode cX1_hold 18 = .ok (.istore 5, 2) := by decide +kernel
theorem dX1_hold_20 : decode cX1_hold 20 = .ok (.iload 5, 2) := by decide +kernel
theorem dX1_hold_22 : decode cX1_hold 22 = .ok (.aload_n 1, 1) := by decide +kernel
theorem dX1_hold_23 : decode cX1_hold 23 = .ok (.getfield 32, 3) := by decide +kernel
theorem dX1_hold_26 : decode cX1_hold 26 = .ok (.if_icmp .ge 38, 3) := by decide +kernel
theorem dX1_hold_29 : decode cX1_hold 29 = .ok (.aload_n 1, 1) := by decide +kernel
theorem dX1_hold_30 : decode cX1_hold 30 = .ok (.getfield 38, 3) := by decide +kernel
theorem dX1_hold_33 : decode cX1_hold 33 = .ok (.iload 5, 2) := by decide +kernel
theorem dX1_hold_35 : decode cX1_hold 35 = .ok (.baload, 1) := by decide +kernel
theorem dX1_hold_36 : decode cX1_hold 36 = .ok (.ifCond .ne 22, 3) := by decide +kernel
theorem dX1_hold_39 : decode cX1_hold 39 = .ok (.aload_n 0, 1) := by decide +kernel
theorem dX1_hold_40 : decode cX1_hold 40 = .ok (.aload_n 1, 1) := by decide +kernel
theorem dX1_hold_41 : decode cX1_hold 41 = .ok (.iload 5, 2) := by decide +kernel
theorem dX1_hold_43 : decode cX1_hold 43 = .ok (.aload_n 1, 1) := by decide +kernel
theorem dX1_hold_44 : decode cX1_hold 44 = .ok (.getfield 42, 3) := by decide +kernel
theorem dX1_hold_47 : decode cX1_hold 47 = .ok (.iload 5, 2) := by decide +kernel
theorem dX1_hold_49 : decode cX1_hold 49 = .ok (.iaload, 1) := by decide +kernel
theorem dX1_hold_50 : decode cX1_hold 50 = .ok (.iload_n 2, 1) := by decide +kernel
theorem dX1_hold_51 : decode cX1_hold 51 = .ok (.iload_n 3, 1) := by decide +kernel
theorem dX1_hold_52 : decode cX1_hold 52 = .ok (.invokestatic 45, 3) := by decide +kernel
theorem dX1_hold_55 : decode cX1_hold 55 = .ok (.invokevirtual 49, 3) := by decide +kernel
theorem dX1_hold_58 : decode cX1_hold 58 = .ok (.iinc 5 1, 3) := by decide +kernel
theorem dX1_hold_61 : decode cX1_hold 61 = .ok (.goto (-41), 3) := by decide +kernel
theorem dX1_hold_64 : decode cX1_hold 64 = .ok (.iconst 0, 1) := by decide +kernel
theorem dX1_hold_65 : decode cX1_hold 65 = .ok (.istore 5, 2) := by decide +kernel
theorem dX1_hold_67 : decode cX1_hold 67 = .ok (.iload 5, 2) := by decide +kernel
theorem dX1_hold_69 : decode cX1_hold 69 = .ok (.iload_n 2, 1) := by decide +kernel
theorem dX1_hold_70 : decode cX1_hold 70 = .ok (.if_icmp .ge 56, 3) := by decide +kernel
theorem dX1_hold_73 : decode cX1_hold 73 = .ok (.aload_n 0, 1) := by decide +kernel
theorem dX1_hold_74 : decode cX1_hold 74 = .ok (.aload_n 1, 1) := by decide +kernel
theorem dX1_hold_75 : decode cX1_hold 75 = .ok (.iload 5, 2) := by decide +kernel
theorem dX1_hold_77 : decode cX1_hold 77 = .ok (.iload 4, 2) := by decide +kernel
theorem dX1_hold_79 : decode cX1_hold 79 = .ok (.invokevirtual 53, 3) := by decide +kernel
theorem dX1_hold_82 : decode cX1_hold 82 = .ok (.istore 6, 2) := by decide +kernel
theorem dX1_hold_84 : decode cX1_hold 84 = .ok (.aload_n 0, 1) := by decide +kernel
theorem dX1_hold_85 : decode cX1_hold 85 = .ok (.getfield 9, 3) := by decide +kernel
theorem dX1_hold_88 : decode cX1_hold 88 = .ok (.iload 6, 2) := by decide +kernel
theorem dX1_hold_90 : decode cX1_hold 90 = .ok (.dup2, 1) := by decide +kernel
theorem dX1_hold_91 : decode cX1_hold 91 = .ok (.iaload, 1) := by decide +kernel
theorem dX1_hold_92 : decode cX1_hold 92 = .ok (.iconst 1, 1) := by decide +kernel
theorem dX1_hold_93 : decode cX1_hold 93 = .ok (.iadd, 1) := by decide +kernel
theorem dX1_hold_94 : decode cX1_hold 94 = .ok (.iastore, 1) := by decide +kernel
theorem dX1_hold_95 : decode cX1_hold 95 = .ok (.iload 6, 2) := by decide +kernel
theorem dX1_hold_97 : decode cX1_hold 97 = .ok (.iconst 2, 1) := by decide +kernel
theorem dX1_hold_98 : decode cX1_hold 98 = .ok (.if_icmp .eq 9, 3) := by decide +kernel
theorem dX1_hold_101 : decode cX1_hold 101 = .ok (.iload 6, 2) := by decide +kernel
theorem dX1_hold_103 : decode cX1_hold 103 = .ok (.iconst 4, 1) := by decide +kernel
theorem dX1_hold_104 : decode cX1_hold 104 = .ok (.if_icmp .ne 16, 3) := by decide +kernel
theorem dX1_hold_107 : decode cX1_hold 107 = .ok (.aload_n 1, 1) := by decide +kernel
theorem dX1_hold_108 : decode cX1_hold 108 = .ok (.getfield 38, 3) := by decide +kernel
theorem dX1_hold_111 : decode cX1_hold 111 = .ok (.aload_n 0, 1) := by decide +kernel
theorem dX1_hold_112 : decode cX1_hold 112 = .ok (.getfield 18, 3) := by decide +kernel
theorem dX1_hold_115 : decode cX1_hold 115 = .ok (.iload 5, 2) := by decide +kernel
theorem dX1_hold_117 : decode cX1_hold 117 = .ok (.iaload, 1) := by decide +kernel
theorem dX1_hold_118 : decode cX1_hold 118 = .ok (.iconst 1, 1) := by decide +kernel
theorem dX1_hold_119 : decode cX1_hold 119 = .ok (.bastore, 1) := by decide +kernel
theorem dX1_hold_120 : decode cX1_hold 120 = .ok (.iinc 5 1, 3) := by decide +kernel
theorem dX1_hold_123 : decode cX1_hold 123 = .ok (.goto (-56), 3) := by decide +kernel
theorem dX1_hold_126 : decode cX1_hold 126 = .ok (.aload_n 0, 1) := by decide +kernel
theorem dX1_hold_127 : decode cX1_hold 127 = .ok (.getfield 9, 3) := by decide +kernel
theorem dX1_hold_130 : decode cX1_hold 130 = .ok (.iconst 2, 1) := by decide +kernel
theorem dX1_hold_131 : decode cX1_hold 131 = .ok (.iaload, 1) := by decide +kernel
theorem dX1_hold_132 : decode cX1_hold 132 = .ok (.aload_n 0, 1) := by decide +kernel
theorem dX1_hold_133 : decode cX1_hold 133 = .ok (.getfield 9, 3) := by decide +kernel
theorem dX1_hold_136 : decode cX1_hold 136 = .ok (.iconst 4, 1) := by decide +kernel
theorem dX1_hold_137 : decode cX1_hold 137 = .ok (.iaload, 1) := by decide +kernel
theorem dX1_hold_138 : decode cX1_hold 138 = .ok (.iadd, 1) := by decide +kernel
theorem dX1_hold_139 : decode cX1_hold 139 = .ok (.ireturn, 1) := by decide +kernel
theorem dX1_clear_0 : decode cX1_clear 0 = .ok (.iconst 0, 1) := by decide +kernel
theorem dX1_clear_1 : decode cX1_clear 1 = .ok (.istore_n 2, 1) := by decide +kernel
theorem dX1_clear_2 : decode cX1_clear 2 = .ok (.iload_n 2, 1) := by decide +kernel
theorem dX1_clear_3 : decode cX1_clear 3 = .ok (.aload_n 0, 1) := by decide +kernel
theorem dX1_clear_4 : decode cX1_clear 4 = .ok (.getfield 9, 3) := by decide +kernel
theorem dX1_clear_7 : decode cX1_clear 7 = .ok (.arraylength, 1) := by decide +kernel
theorem dX1_clear_8 : decode cX1_clear 8 = .ok (.if_icmp .ge 16, 3) := by decide +kernel
theorem dX1_clear_11 : decode cX1_clear 11 = .ok (.aload_n 0, 1) := by decide +kernel
theorem dX1_clear_12 : decode cX1_clear 12 = .ok (.getfield 9, 3) := by decide +kernel
theorem dX1_clear_15 : decode cX1_clear 15 = .ok (.iload_n 2, 1) := by decide +kernel
theorem dX1_clear_16 : decode cX1_clear 16 = .ok (.iconst 0, 1) := by decide +kernel
theorem dX1_clear_17 : decode cX1_clear 17 = .ok (.iastore, 1) := by decide +kernel
theorem dX1_clear_18 : decode cX1_clear 18 = .ok (.iinc 2 1, 3) := by decide +kernel
theorem dX1_clear_21 : decode cX1_clear 21 = .ok (.goto (-19), 3) := by decide +kernel
theorem dX1_clear_24 : decode cX1_clear 24 = .ok (.aload_n 0, 1) := by decide +kernel
theorem dX1_clear_25 : decode cX1_clear 25 = .ok (.getfield 9, 3) := by decide +kernel
theorem dX1_clear_28 : decode cX1_clear 28 = .ok (.iconst 0, 1) := by decide +kernel
theorem dX1_clear_29 : decode cX1_clear 29 = .ok (.iload_n 1, 1) := by decide +kernel
theorem dX1_clear_30 : decode cX1_clear 30 = .ok (.iastore, 1) := by decide +kernel
theorem dX1_clear_31 : decode cX1_clear 31 = .ok (.iconst 0, 1) := by decide +kernel
theorem dX1_clear_32 : decode cX1_clear 32 = .ok (.istore_n 2, 1) := by decide +kernel
theorem dX1_clear_33 : decode cX1_clear 33 = .ok (.iload_n 2, 1) := by decide +kernel
theorem dX1_clear_34 : decode cX1_clear 34 = .ok (.iload_n 1, 1) := by decide +kernel
theorem dX1_clear_35 : decode cX1_clear 35 = .ok (.if_icmp .ge 30, 3) := by decide +kernel
theorem dX1_clear_38 : decode cX1_clear 38 = .ok (.aload_n 0, 1) := by decide +kernel
theorem dX1_clear_39 : decode cX1_clear 39 = .ok (.getfield 15, 3) := by decide +kernel
theorem dX1_clear_42 : decode cX1_clear 42 = .ok (.iload_n 2, 1) := by decide +kernel
theorem dX1_clear_43 : decode cX1_clear 43 = .ok (.iconst 0, 1) := by decide +kernel
theorem dX1_clear_44 : decode cX1_clear 44 = .ok (.iastore, 1) := by decide +kernel
theorem dX1_clear_45 : decode cX1_clear 45 = .ok (.aload_n 0, 1) := by decide +kernel
theorem dX1_clear_46 : decode cX1_clear 46 = .ok (.getfield 18, 3) := by decide +kernel
theorem dX1_clear_49 : decode cX1_clear 49 = .ok (.iload_n 2, 1) := by decide +kernel
theorem dX1_clear_50 : decode cX1_clear 50 = .ok (.iconst 0, 1) := by decide +kernel
theorem dX1_clear_51 : decode cX1_clear 51 = .ok (.iastore, 1) := by decide +kernel
theorem dX1_clear_52 : decode cX1_clear 52 = .ok (.aload_n 0, 1) := by decide +kernel
theorem dX1_clear_53 : decode cX1_clear 53 = .ok (.getfield 21, 3) := by decide +kernel
theorem dX1_clear_56 : decode cX1_clear 56 = .ok (.iload_n 2, 1) := by decide +kernel
theorem dX1_clear_57 : decode cX1_clear 57 = .ok (.iconst 0, 1) := by decide +kernel
theorem dX1_clear_58 : decode cX1_clear 58 = .ok (.iastore, 1) := by decide +kernel
theorem dX1_clear_59 : decode cX1_clear 59 = .ok (.iinc 2 1, 3) := by decide +kernel
theorem dX1_clear_62 : decode cX1_clear 62 = .ok (.goto (-29), 3) := by decide +kernel
theorem dX1_clear_65 : decode cX1_clear 65 = .ok (.return_, 1) := by decide +kernel
theorem dX1_enter_0 : decode cX1_enter 0 = .ok (.aload_n 1, 1) := by decide +kernel
theorem dX1_enter_1 : decode cX1_enter 1 = .ok (.getfield 57, 3) := by decide +kernel
theorem dX1_enter_4 : decode cX1_enter 4 = .ok (.iload_n 2, 1) := by decide +kernel
theorem dX1_enter_5 : decode cX1_enter 5 = .ok (.iaload, 1) := by decide +kernel
theorem dX1_enter_6 : decode cX1_enter 6 = .ok (.istore 4, 2) := by decide +kernel
theorem dX1_enter_8 : decode cX1_enter 8 = .ok (.aload_n 0, 1) := by decide +kernel
theorem dX1_enter_9 : decode cX1_enter 9 = .ok (.getfield 15, 3) := by decide +kernel
theorem dX1_enter_12 : decode cX1_enter 12 = .ok (.iload_n 3, 1) := by decide +kernel
theorem dX1_enter_13 : decode cX1_enter 13 = .ok (.iaload, 1) := by decide +kernel
theorem dX1_enter_14 : decode cX1_enter 14 = .ok (.ifCond .ne 13, 3) := by decide +kernel
theorem dX1_enter_17 : decode cX1_enter 17 = .ok (.aload_n 0, 1) := by decide +kernel
theorem dX1_enter_18 : decode cX1_enter 18 = .ok (.getfield 18, 3) := by decide +kernel
theorem dX1_enter_21 : decode cX1_enter 21 = .ok (.iload_n 3, 1) := by decide +kernel
theorem dX1_enter_22 : decode cX1_enter 22 = .ok (.iload_n 2, 1) := by decide +kernel
theorem dX1_enter_23 : decode cX1_enter 23 = .ok (.iastore, 1) := by decide +kernel
theorem dX1_enter_24 : decode cX1_enter 24 = .ok (.goto 63, 3) := by decide +kernel
theorem dX1_enter_27 : decode cX1_enter 27 = .ok (.iload 4, 2) := by decide +kernel
theorem dX1_enter_29 : decode cX1_enter 29 = .ok (.aload_n 1, 1) := by decide +kernel
theorem dX1_enter_30 : decode cX1_enter 30 = .ok (.getfield 57, 3) := by decide +kernel
theorem dX1_enter_33 : decode cX1_enter 33 = .ok (.aload_n 0, 1) := by decide +kernel
theorem dX1_enter_34 : decode cX1_enter 34 = .ok (.getfield 18, 3) := by decide +kernel
theorem dX1_enter_37 : decode cX1_enter 37 = .ok (.iload_n 3, 1) := by decide +kernel
theorem dX1_enter_38 : decode cX1_enter 38 = .ok (.iaload, 1) := by decide +kernel
theorem dX1_enter_39 : decode cX1_enter 39 = .ok (.iaload, 1) := by decide +kernel
theorem dX1_enter_40 : decode cX1_enter 40 = .ok (.if_icmp .le 30, 3) := by decide +kernel
theorem dX1_enter_43 : decode cX1_enter 43 = .ok (.aload_n 0, 1) := by decide +kernel
theorem dX1_enter_44 : decode cX1_enter 44 = .ok (.getfield 21, 3) := by decide +kernel
theorem dX1_enter_47 : decode cX1_enter 47 = .ok (.iload_n 3, 1) := by decide +kernel
theorem dX1_enter_48 : decode cX1_enter 48 = .ok (.aload_n 1, 1) := by decide +kernel
theorem dX1_enter_49 : decode cX1_enter 49 = .ok (.getfield 57, 3) := by decide +kernel
theorem dX1_enter_52 : decode cX1_enter 52 = .ok (.aload_n 0, 1) := by decide +kernel
theorem dX1_enter_53 : decode cX1_enter 53 = .ok (.getfield 18, 3) := by decide +kernel
theorem dX1_enter_56 : decode cX1_enter 56 = .ok (.iload_n 3, 1) := by decide +kernel
theorem dX1_enter_57 : decode cX1_enter 57 = .ok (.iaload, 1) := by decide +kernel
theorem dX1_enter_58 : decode cX1_enter 58 = .ok (.iaload, 1) := by decide +kernel
theorem dX1_enter_59 : decode cX1_enter 59 = .ok (.iastore, 1) := by decide +kernel
theorem dX1_enter_60 : decode cX1_enter 60 = .ok (.aload_n 0, 1) := by decide +kernel
theorem dX1_enter_61 : decode cX1_enter 61 = .ok (.getfield 18, 3) := by decide +kernel
theorem dX1_enter_64 : decode cX1_enter 64 = .ok (.iload_n 3, 1) := by decide +kernel
theorem dX1_enter_65 : decode cX1_enter 65 = .ok (.iload_n 2, 1) := by decide +kernel
theorem dX1_enter_66 : decode cX1_enter 66 = .ok (.iastore, 1) := by decide +kernel
theorem dX1_enter_67 : decode cX1_enter 67 = .ok (.goto 20, 3) := by decide +kernel
theorem dX1_enter_70 : decode cX1_enter 70 = .ok (.aload_n 0, 1) := by decide +kernel
theorem dX1_enter_71 : decode cX1_enter 71 = .ok (.getfield 21, 3) := by decide +kernel
theorem dX1_enter_74 : decode cX1_enter 74 = .ok (.iload_n 3, 1) := by decide +kernel
theorem dX1_enter_75 : decode cX1_enter 75 = .ok (.aload_n 0, 1) := by decide +kernel
theorem dX1_enter_76 : decode cX1_enter 76 = .ok (.getfield 21, 3) := by decide +kernel
theorem dX1_enter_79 : decode cX1_enter 79 = .ok (.iload_n 3, 1) := by decide +kernel
theorem dX1_enter_80 : decode cX1_enter 80 = .ok (.iaload, 1) := by decide +kernel
theorem dX1_enter_81 : decode cX1_enter 81 = .ok (.iload 4, 2) := by decide +kernel
theorem dX1_enter_83 : decode cX1_enter 83 = .ok (.invokestatic 60, 3) := by decide +kernel
theorem dX1_enter_86 : decode cX1_enter 86 = .ok (.iastore, 1) := by decide +kernel
theorem dX1_enter_87 : decode cX1_enter 87 = .ok (.aload_n 0, 1) := by decide +kernel
theorem dX1_enter_88 : decode cX1_enter 88 = .ok (.getfield 15, 3) := by decide +kernel
theorem dX1_enter_91 : decode cX1_enter 91 = .ok (.iload_n 3, 1) := by decide +kernel
theorem dX1_enter_92 : decode cX1_enter 92 = .ok (.dup2, 1) := by decide +kernel
theorem dX1_enter_93 : decode cX1_enter 93 = .ok (.iaload, 1) := by decide +kernel
theorem dX1_enter_94 : decode cX1_enter 94 = .ok (.iconst 1, 1) := by decide +kernel
theorem dX1_enter_95 : decode cX1_enter 95 = .ok (.iadd, 1) := by decide +kernel
theorem dX1_enter_96 : decode cX1_enter 96 = .ok (.iastore, 1) := by decide +kernel
theorem dX1_enter_97 : decode cX1_enter 97 = .ok (.return_, 1) := by decide +kernel
theorem dX1_kindOf_0 : decode cX1_kindOf 0 = .ok (.aload_n 0, 1) := by decide +kernel
theorem dX1_kindOf_1 : decode cX1_kindOf 1 = .ok (.getfield 15, 3) := by decide +kernel
theorem dX1_kindOf_4 : decode cX1_kindOf 4 = .ok (.iload_n 2, 1) := by decide +kernel
theorem dX1_kindOf_5 : decode cX1_kindOf 5 = .ok (.iaload, 1) := by decide +kernel
theorem dX1_kindOf_6 : decode cX1_kindOf 6 = .ok (.ifCond .ne 5, 3) := by decide +kernel
theorem dX1_kindOf_9 : decode cX1_kindOf 9 = .ok (.iconst 1, 1) := by decide +kernel
theorem dX1_kindOf_10 : decode cX1_kindOf 10 = .ok (.ireturn, 1) := by decide +kernel
theorem dX1_kindOf_11 : decode cX1_kindOf 11 = .ok (.aload_n 0, 1) := by decide +kernel
theorem dX1_kindOf_12 : decode cX1_kindOf 12 = .ok (.getfield 15, 3) := by decide +kernel
theorem dX1_kindOf_15 : decode cX1_kindOf 15 = .ok (.iload_n 2, 1) := by decide +kernel
theorem dX1_kindOf_16 : decode cX1_kindOf 16 = .ok (.iaload, 1) := by decide +kernel
theorem dX1_kindOf_17 : decode cX1_kindOf 17 = .ok (.iconst 1, 1) := by decide +kernel
theorem dX1_kindOf_18 : decode cX1_kindOf 18 = .ok (.if_icmp .ne 5, 3) := by decide +kernel
theorem dX1_kindOf_21 : decode cX1_kindOf 21 = .ok (.iconst 2, 1) := by decide +kernel
theorem dX1_kindOf_22 : decode cX1_kindOf 22 = .ok (.ireturn, 1) := by decide +kernel
theorem dX1_kindOf_23 : decode cX1_kindOf 23 = .ok (.aload_n 1, 1) := by decide +kernel
theorem dX1_kindOf_24 : decode cX1_kindOf 24 = .ok (.getfield 57, 3) := by decide +kernel
theorem dX1_kindOf_27 : decode cX1_kindOf 27 = .ok (.aload_n 0, 1) := by decide +kernel
theorem dX1_kindOf_28 : decode cX1_kindOf 28 = .ok (.getfield 18, 3) := by decide +kernel
theorem dX1_kindOf_31 : decode cX1_kindOf 31 = .ok (.iload_n 2, 1) := by decide +kernel
theorem dX1_kindOf_32 : decode cX1_kindOf 32 = .ok (.iaload, 1) := by decide +kernel
theorem dX1_kindOf_33 : decode cX1_kindOf 33 = .ok (.iaload, 1) := by decide +kernel
theorem dX1_kindOf_34 : decode cX1_kindOf 34 = .ok (.aload_n 0, 1) := by decide +kernel
theorem dX1_kindOf_35 : decode cX1_kindOf 35 = .ok (.getfield 21, 3) := by decide +kernel
theorem dX1_kindOf_38 : decode cX1_kindOf 38 = .ok (.iload_n 2, 1) := by decide +kernel
theorem dX1_kindOf_39 : decode cX1_kindOf 39 = .ok (.iaload, 1) := by decide +kernel
theorem dX1_kindOf_40 : decode cX1_kindOf 40 = .ok (.isub, 1) := by decide +kernel
theorem dX1_kindOf_41 : decode cX1_kindOf 41 = .ok (.istore 4, 2) := by decide +kernel
theorem dX1_kindOf_43 : decode cX1_kindOf 43 = .ok (.iload_n 3, 1) := by decide +kernel
theorem dX1_kindOf_44 : decode cX1_kindOf 44 = .ok (.ifCond .le 13, 3) := by decide +kernel
theorem dX1_kindOf_47 : decode cX1_kindOf 47 = .ok (.iload 4, 2) := by decide +kernel
theorem dX1_kindOf_49 : decode cX1_kindOf 49 = .ok (.iload_n 3, 1) := by decide +kernel
theorem dX1_kindOf_50 : decode cX1_kindOf 50 = .ok (.if_icmp .lt 7, 3) := by decide +kernel
theorem dX1_kindOf_53 : decode cX1_kindOf 53 = .ok (.iconst 4, 1) := by decide +kernel
theorem dX1_kindOf_54 : decode cX1_kindOf 54 = .ok (.goto 4, 3) := by decide +kernel
theorem dX1_kindOf_57 : decode cX1_kindOf 57 = .ok (.iconst 3, 1) := by decide +kernel
theorem dX1_kindOf_58 : decode cX1_kindOf 58 = .ok (.ireturn, 1) := by decide +kernel
theorem dX2_init_0 : decode cX2_init 0 = .ok (.aload_n 0, 1) := by decide +kernel
theorem dX2_init_1 : decode cX2_init 1 = .ok (.invokespecial 3, 3) := by decide +kernel
theorem dX2_init_4 : decode cX2_init 4 = .ok (.aload_n 0, 1) := by decide +kernel
theorem dX2_init_5 : decode cX2_init 5 = .ok (.bipush 16, 2) := by decide +kernel
theorem dX2_init_7 : decode cX2_init 7 = .ok (.newarray .int, 2) := by decide +kernel
theorem dX2_init_9 : decode cX2_init 9 = .ok (.putfield 9, 3) := by decide +kernel
theorem dX2_init_12 : decode cX2_init 12 = .ok (.aload_n 0, 1) := by decide +kernel
theorem dX2_init_13 : decode cX2_init 13 = .ok (.bipush 16, 2) := by decide +kernel
theorem dX2_init_15 : decode cX2_init 15 = .ok (.newarray .int, 2) := by decide +kernel
theorem dX2_init_17 : decode cX2_init 17 = .ok (.putfield 15, 3) := by decide +kernel
theorem dX2_init_20 : decode cX2_init 20 = .ok (.aload_n 0, 1) := by decide +kernel
theorem dX2_init_21 : decode cX2_init 21 = .ok (.iconst 0, 1) := by decide +kernel
theorem dX2_init_22 : decode cX2_init 22 = .ok (.putfield 18, 3) := by decide +kernel
theorem dX2_init_25 : decode cX2_init 25 = .ok (.return_, 1) := by decide +kernel
theorem dX2_has_0 : decode cX2_has 0 = .ok (.iconst 0, 1) := by decide +kernel
theorem dX2_has_1 : decode cX2_has 1 = .ok (.istore_n 2, 1) := by decide +kernel
theorem dX2_has_2 : decode cX2_has 2 = .ok (.iload_n 2, 1) := by decide +kernel
theorem dX2_has_3 : decode cX2_has 3 = .ok (.aload_n 0, 1) := by decide +kernel
theorem dX2_has_4 : decode cX2_has 4 = .ok (.getfield 18, 3) := by decide +kernel
theorem dX2_has_7 : decode cX2_has 7 = .ok (.if_icmp .ge 21, 3) := by decide +kernel
theorem dX2_has_10 : decode cX2_has 10 = .ok (.aload_n 0, 1) := by decide +kernel
theorem dX2_has_11 : decode cX2_has 11 = .ok (.getfield 9, 3) := by decide +kernel
theorem dX2_has_14 : decode cX2_has 14 = .ok (.iload_n 2, 1) := by decide +kernel
theorem dX2_has_15 : decode cX2_has 15 = .ok (.iaload, 1) := by decide +kernel
theorem dX2_has_16 : decode cX2_has 16 = .ok (.iload_n 1, 1) := by decide +kernel
theorem dX2_has_17 : decode cX2_has 17 = .ok (.if_icmp .ne 5, 3) := by decide +kernel
theorem dX2_has_20 : decode cX2_has 20 = .ok (.iconst 1, 1) := by decide +kernel
theorem dX2_has_21 : decode cX2_has 21 = .ok (.ireturn, 1) := by decide +kernel
theorem dX2_has_22 : decode cX2_has 22 = .ok (.iinc 2 1, 3) := by decide +kernel
theorem dX2_has_25 : decode cX2_has 25 = .ok (.goto (-23), 3) := by decide +kernel
theorem dX2_has_28 : decode cX2_has 28 = .ok (.iconst 0, 1) := by decide +kernel
theorem dX2_has_29 : decode cX2_has 29 = .ok (.ireturn, 1) := by decide +kernel
theorem dX2_add_0 : decode cX2_add 0 = .ok (.aload_n 0, 1) := by decide +kernel
theorem dX2_add_1 : decode cX2_add 1 = .ok (.getfield 18, 3) := by decide +kernel
theorem dX2_add_4 : decode cX2_add 4 = .ok (.bipush 16, 2) := by decide +kernel
theorem dX2_add_6 : decode cX2_add 6 = .ok (.if_icmp .ge 23, 3) := by decide +kernel
theorem dX2_add_9 : decode cX2_add 9 = .ok (.aload_n 0, 1) := by decide +kernel
theorem dX2_add_10 : decode cX2_add 10 = .ok (.getfield 9, 3) := by decide +kernel
theorem dX2_add_13 : decode cX2_add 13 = .ok (.aload_n 0, 1) := by decide +kernel
theorem dX2_add_14 : decode cX2_add 14 = .ok (.getfield 18, 3) := by decide +kernel
theorem dX2_add_17 : decode cX2_add 17 = .ok (.iload_n 1, 1) := by decide +kernel
theorem dX2_add_18 : decode cX2_add 18 = .ok (.iastore, 1) := by decide +kernel
theorem dX2_add_19 : decode cX2_add 19 = .ok (.aload_n 0, 1) := by decide +kernel
theorem dX2_add_20 : decode cX2_add 20 = .ok (.dup, 1) := by decide +kernel
theorem dX2_add_21 : decode cX2_add 21 = .ok (.getfield 18, 3) := by decide +kernel
theorem dX2_add_24 : decode cX2_add 24 = .ok (.iconst 1, 1) := by decide +kernel
theorem dX2_add_25 : decode cX2_add 25 = .ok (.iadd, 1) := by decide +kernel
theorem dX2_add_26 : decode cX2_add 26 = .ok (.putfield 18, 3) := by decide +kernel
theorem dX2_add_29 : decode cX2_add 29 = .ok (.return_, 1) := by decide +kernel
set_option maxRecDepth 20000 in
theorem ggX2_notIn_X10_slotOf : GoodIn wsX2_notIn wsX10_slotOf := goodIn_r _ [5, 6, 7] (by decide +kernel) (by decide +kernel)
set_option maxRecDepth 20000 in
theorem gX2_notIn_X10_slotOf_n22 : GoodIn wsX2_notIn (wsX10_slotOf) := ggX2_notIn_X10_slotOf
theorem dX2_notIn_0 : decode cX2_notIn 0 = .ok (.iconst 0, 1) := by decide +kernel
theorem dX2_notIn_1 : decode cX2_notIn 1 = .ok (.istore 4, 2) := by decide +kernel
theorem dX2_notIn_3 : decode cX2_notIn 3 = .ok (.iconst 0, 1) := by decide +kernel
theorem dX2_notIn_4 : decode cX2_notIn 4 = .ok (.istore 5, 2) := by decide +kernel
theorem dX2_notIn_6 : decode cX2_notIn 6 = .ok (.iload 5, 2) := by decide +kernel
theorem dX2_notIn_8 : decode cX2_notIn 8 = .ok (.aload_n 0, 1) := by decide +kernel
theorem dX2_notIn_9 : decode cX2_notIn 9 = .ok (.getfield 18, 3) := by decide +kernel
theorem dX2_notIn_12 : decode cX2_notIn 12 = .ok (.if_icmp .ge 37, 3) := by decide +kernel
theorem dX2_notIn_15 : decode cX2_notIn 15 = .ok (.iload_n 1, 1) := by decide +kernel
theorem dX2_notIn_16 : decode cX2_notIn 16 = .ok (.aload_n 0, 1) := by decide +kernel
theorem dX2_notIn_17 : decode cX2_notIn 17 = .ok (.getfield 9, 3) := by decide +kernel
theorem dX2_notIn_20 : decode cX2_notIn 20 = .ok (.iload 5, 2) := by decide +kernel
theorem dX2_notIn_22 : decode cX2_notIn 22 = .ok (.iaload, 1) := by decide +kernel
theorem dX2_notIn_23 : decode cX2_notIn 23 = .ok (.iload_n 2, 1) := by decide +kernel
theorem dX2_notIn_24 : decode cX2_notIn 24 = .ok (.iload_n 3, 1) := by decide +kernel
theorem dX2_notIn_25 : decode cX2_notIn 25 = .ok (.invokestatic 22, 3) := by decide +kernel
theorem dX2_notIn_28 : decode cX2_notIn 28 = .ok (.ishr, 1) := by decide +kernel
theorem dX2_notIn_29 : decode cX2_notIn 29 = .ok (.iconst 1, 1) := by decide +kernel
theorem dX2_notIn_30 : decode cX2_notIn 30 = .ok (.iand, 1) := by decide +kernel
theorem dX2_notIn_31 : decode cX2_notIn 31 = .ok (.ifCond .ne 12, 3) := by decide +kernel
theorem dX2_notIn_34 : decode cX2_notIn 34 = .ok (.iload 4, 2) := by decide +kernel
theorem dX2_notIn_36 : decode cX2_notIn 36 = .ok (.iconst 1, 1) := by decide +kernel
theorem dX2_notIn_37 : decode cX2_notIn 37 = .ok (.iload 5, 2) := by decide +kernel
theorem dX2_notIn_39 : decode cX2_notIn 39 = .ok (.ishl, 1) := by decide +kernel
theorem dX2_notIn_40 : decode cX2_notIn 40 = .ok (.ior, 1) := by decide +kernel
theorem dX2_notIn_41 : decode cX2_notIn 41 = .ok (.istore 4, 2) := by decide +kernel
theorem dX2_notIn_43 : decode cX2_notIn 43 = .ok (.iinc 5 1, 3) := by decide +kernel
theorem dX2_notIn_46 : decode cX2_notIn 46 = .ok (.goto (-40), 3) := by decide +kernel
theorem dX2_notIn_49 : decode cX2_notIn 49 = .ok (.iload 4, 2) := by decide +kernel
theorem dX2_notIn_51 : decode cX2_notIn 51 = .ok (.ireturn, 1) := by decide +kernel
set_option maxRecDepth 20000 in
theorem ggX2_aloneOnes_X10_slotOf : GoodIn wsX2_aloneOnes wsX10_slotOf := goodIn_r _ [6, 7, 8] (by decide +kernel) (by decide +kernel)
set_option maxRecDepth 20000 in
theorem gX2_aloneOnes_X10_slotOf_n22 : GoodIn wsX2_aloneOnes (wsX10_slotOf) := ggX2_aloneOnes_X10_slotOf
set_option maxRecDepth 20000 in
theorem ggX2_aloneOnes_X2_isAlone : GoodIn wsX2_aloneOnes wsX2_isAlone := goodIn_r _ [13, 1, 2, 14, 15, 16] (by decide +kernel) (by decide +kernel)
set_option maxRecDepth 20000 in
theorem gX2_aloneOnes_X2_isAlone : GoodIn wsX2_aloneOnes (wsV RX2 26 RX2 yX2_isAlone wsX2_isAlone) := goodIn_app (goodIn_of _ (by decide +kernel)) ggX2_aloneOnes_X2_isAlone
theorem dX2_aloneOnes_0 : decode cX2_aloneOnes 0 = .ok (.iconst 0, 1) := by decide +kernel
theorem dX2_aloneOnes_1 : decode cX2_aloneOnes 1 = .ok (.istore_n 3, 1) := by decide +kernel
theorem dX2_aloneOnes_2 : decode cX2_aloneOnes 2 = .ok (.iload_n 3, 1) := by decide +kernel
theorem dX2_aloneOnes_3 : decode cX2_aloneOnes 3 = .ok (.aload_n 0, 1) := by decide +kernel
theorem dX2_aloneOnes_4 : decode cX2_aloneOnes 4 = .ok (.getfield 18, 3) := by decide +kernel
theorem dX2_aloneOnes_7 : decode cX2_aloneOnes 7 = .ok (.if_icmp .ge 26, 3) := by decide +kernel
theorem dX2_aloneOnes_10 : decode cX2_aloneOnes 10 = .ok (.aload_n 0, 1) := by decide +kernel
theorem dX2_aloneOnes_11 : decode cX2_aloneOnes 11 = .ok (.getfield 15, 3) := by decide +kernel
theorem dX2_aloneOnes_14 : decode cX2_aloneOnes 14 = .ok (.iload_n 3, 1) := by decide +kernel
theorem dX2_aloneOnes_15 : decode cX2_aloneOnes 15 = .ok (.aload_n 0, 1) := by decide +kernel
theorem dX2_aloneOnes_16 : decode cX2_aloneOnes 16 = .ok (.getfield 9, 3) := by decide +kernel
theorem dX2_aloneOnes_19 : decode cX2_aloneOnes 19 = .ok (.iload_n 3, 1) := by decide +kernel
theorem dX2_aloneOnes_20 : decode cX2_aloneOnes 20 = .ok (.iaload, 1) := by decide +kernel
theorem dX2_aloneOnes_21 : decode cX2_aloneOnes 21 = .ok (.iload_n 1, 1) := by decide +kernel
theorem dX2_aloneOnes_22 : decode cX2_aloneOnes 22 = .ok (.iload_n 2, 1) := by decide +kernel
theorem dX2_aloneOnes_23 : decode cX2_aloneOnes 23 = .ok (.invokestatic 22, 3) := by decide +kernel
theorem dX2_aloneOnes_26 : decode cX2_aloneOnes 26 = .ok (.iastore, 1) := by decide +kernel
theorem dX2_aloneOnes_27 : decode cX2_aloneOnes 27 = .ok (.iinc 3 1, 3) := by decide +kernel
theorem dX2_aloneOnes_30 : decode cX2_aloneOnes 30 = .ok (.goto (-28), 3) := by decide +kernel
theorem dX2_aloneOnes_33 : decode cX2_aloneOnes 33 = .ok (.iconst 0, 1) := by decide +kernel
theorem dX2_aloneOnes_34 : decode cX2_aloneOnes 34 = .ok (.istore_n 3, 1) := by decide +kernel
theorem dX2_aloneOnes_35 : decode cX2_aloneOnes 35 = .ok (.iconst 0, 1) := by decide +kernel
theorem dX2_aloneOnes_36 : decode cX2_aloneOnes 36 = .ok (.istore 4, 2) := by decide +kernel
theorem dX2_aloneOnes_38 : decode cX2_aloneOnes 38 = .ok (.iload 4, 2) := by decide +kernel
theorem dX2_aloneOnes_40 : decode cX2_aloneOnes 40 = .ok (.aload_n 0, 1) := by decide +kernel
theorem dX2_aloneOnes_41 : decode cX2_aloneOnes 41 = .ok (.getfield 18, 3) := by decide +kernel
theorem dX2_aloneOnes_44 : decode cX2_aloneOnes 44 = .ok (.if_icmp .ge 25, 3) := by decide +kernel
theorem dX2_aloneOnes_47 : decode cX2_aloneOnes 47 = .ok (.aload_n 0, 1) := by decide +kernel
theorem dX2_aloneOnes_48 : decode cX2_aloneOnes 48 = .ok (.iload 4, 2) := by decide +kernel
theorem dX2_aloneOnes_50 : decode cX2_aloneOnes 50 = .ok (.invokevirtual 26, 3) := by decide +kernel
theorem dX2_aloneOnes_53 : decode cX2_aloneOnes 53 = .ok (.ifCond .eq 10, 3) := by decide +kernel
theorem dX2_aloneOnes_56 : decode cX2_aloneOnes 56 = .ok (.iload_n 3, 1) := by decide +kernel
theorem dX2_aloneOnes_57 : decode cX2_aloneOnes 57 = .ok (.iconst 1, 1) := by decide +kernel
theorem dX2_aloneOnes_58 : decode cX2_aloneOnes 58 = .ok (.iload 4, 2) := by decide +kernel
theorem dX2_aloneOnes_60 : decode cX2_aloneOnes 60 = .ok (.ishl, 1) := by decide +kernel
theorem dX2_aloneOnes_61 : decode cX2_aloneOnes 61 = .ok (.ior, 1) := by decide +kernel
theorem dX2_aloneOnes_62 : decode cX2_aloneOnes 62 = .ok (.istore_n 3, 1) := by decide +kernel
theorem dX2_aloneOnes_63 : decode cX2_aloneOnes 63 = .ok (.iinc 4 1, 3) := by decide +kernel
theorem dX2_aloneOnes_66 : decode cX2_aloneOnes 66 = .ok (.goto (-28), 3) := by decide +kernel
theorem dX2_aloneOnes_69 : decode cX2_aloneOnes 69 = .ok (.iload_n 3, 1) := by decide +kernel
theorem dX2_aloneOnes_70 : decode cX2_aloneOnes 70 = .ok (.ireturn, 1) := by decide +kernel
theorem dX2_isAlone_0 : decode cX2_isAlone 0 = .ok (.iconst 0, 1) := by decide +kernel
theorem dX2_isAlone_1 : decode cX2_isAlone 1 = .ok (.istore_n 2, 1) := by decide +kernel
theorem dX2_isAlone_2 : decode cX2_isAlone 2 = .ok (.iload_n 2, 1) := by decide +kernel
theorem dX2_isAlone_3 : decode cX2_isAlone 3 = .ok (.aload_n 0, 1) := by decide +kernel
theorem dX2_isAlone_4 : decode cX2_isAlone 4 = .ok (.getfield 18, 3) := by decide +kernel
theorem dX2_isAlone_7 : decode cX2_isAlone 7 = .ok (.if_icmp .ge 31, 3) := by decide +kernel
theorem dX2_isAlone_10 : decode cX2_isAlone 10 = .ok (.iload_n 2, 1) := by decide +kernel
theorem dX2_isAlone_11 : decode cX2_isAlone 11 = .ok (.iload_n 1, 1) := by decide +kernel
theorem dX2_isAlone_12 : decode cX2_isAlone 12 = .ok (.if_icmp .eq 20, 3) := by decide +kernel
theorem dX2_isAlone_15 : decode cX2_isAlone 15 = .ok (.aload_n 0, 1) := by decide +kernel
theorem dX2_isAlone_16 : decode cX2_isAlone 16 = .ok (.getfield 15, 3) := by decide +kernel
theorem dX2_isAlone_19 : decode cX2_isAlone 19 = .ok (.iload_n 2, 1) := by decide +kernel
theorem dX2_isAlone_20 : decode cX2_isAlone 20 = .ok (.iaload, 1) := by decide +kernel
theorem dX2_isAlone_21 : decode cX2_isAlone 21 = .ok (.aload_n 0, 1) := by decide +kernel
theorem dX2_isAlone_22 : decode cX2_isAlone 22 = .ok (.getfield 15, 3) := by decide +kernel
theorem dX2_isAlone_25 : decode cX2_isAlone 25 = .ok (.iload_n 1, 1) := by decide +kernel
theorem dX2_isAlone_26 : decode cX2_isAlone 26 = .ok (.iaload, 1) := by decide +kernel
theorem dX2_isAlone_27 : decode cX2_isAlone 27 = .ok (.if_icmp .ne 5, 3) := by decide +kernel
theorem dX2_isAlone_30 : decode cX2_isAlone 30 = .ok (.iconst 0, 1) := by decide +kernel
theorem dX2_isAlone_31 : decode cX2_isAlone 31 = .ok (.ireturn, 1) := by decide +kernel
theorem dX2_isAlone_32 : decode cX2_isAlone 32 = .ok (.iinc 2 1, 3) := by decide +kernel
theorem dX2_isAlone_35 : decode cX2_isAlone 35 = .ok (.goto (-33), 3) := by decide +kernel
theorem dX2_isAlone_38 : decode cX2_isAlone 38 = .ok (.iconst 1, 1) := by decide +kernel
theorem dX2_isAlone_39 : decode cX2_isAlone 39 = .ok (.ireturn, 1) := by decide +kernel
theorem dX3_init_0 : decode cX3_init 0 = .ok (.aload_n 0, 1) := by decide +kernel
theorem dX3_init_1 : decode cX3_init 1 = .ok (.invokespecial 3, 3) := by decide +kernel
theorem dX3_init_4 : decode cX3_init 4 = .ok (.aload_n 0, 1) := by decide +kernel
theorem dX3_init_5 : decode cX3_init 5 = .ok (.bipush 17, 2) := by decide +kernel
theorem dX3_init_7 : decode cX3_init 7 = .ok (.newarray .long, 2) := by decide +kernel
theorem dX3_init_9 : decode cX3_init 9 = .ok (.putfield 9, 3) := by decide +kernel
theorem dX3_init_12 : decode cX3_init 12 = .ok (.return_, 1) := by decide +kernel
set_option maxRecDepth 20000 in
theorem ggX3_fillRow_X3_withOneSlotMore : GoodIn wsX3_fillRow wsX3_withOneSlotMore := goodIn_r _ [10, 1, 11, 12, 9, 13, 14] (by decide +kernel) (by decide +kernel)
set_option maxRecDepth 20000 in
theorem gX3_fillRow_X3_withOneSlotMore : GoodIn wsX3_fillRow (wsV RX3 21 RX3 yX3_withOneSlotMore wsX3_withOneSlotMore) := goodIn_app (goodIn_of _ (by decide +kernel)) ggX3_fillRow_X3_withOneSlotMore
theorem dX3_fillRow_0 : decode cX3_fillRow 0 = .ok (.iconst 0, 1) := by decide +kernel
theorem dX3_fillRow_1 : decode cX3_fillRow 1 = .ok (.istore 4, 2) := by decide +kernel
theorem dX3_fillRow_3 : decode cX3_fillRow 3 = .ok (.iload 4, 2) := by decide +kernel
theorem dX3_fillRow_5 : decode cX3_fillRow 5 = .ok (.iload_n 2, 1) := by decide +kernel
theorem dX3_fillRow_6 : decode cX3_fillRow 6 = .ok (.if_icmp .gt 36, 3) := by decide +kernel
theorem dX3_fillRow_9 : decode cX3_fillRow 9 = .ok (.iload 4, 2) := by decide +kernel
theorem dX3_fillRow_11 : decode cX3_fillRow 11 = .ok (.aload_n 0, 1) := by decide +kernel
theorem dX3_fillRow_12 : decode cX3_fillRow 12 = .ok (.getfield 9, 3) := by decide +kernel
theorem dX3_fillRow_15 : decode cX3_fillRow 15 = .ok (.arraylength, 1) := by decide +kernel
theorem dX3_fillRow_16 : decode cX3_fillRow 16 = .ok (.if_icmp .ge 26, 3) := by decide +kernel
theorem dX3_fillRow_19 : decode cX3_fillRow 19 = .ok (.aload_n 0, 1) := by decide +kernel
theorem dX3_fillRow_20 : decode cX3_fillRow 20 = .ok (.getfield 9, 3) := by decide +kernel
theorem dX3_fillRow_23 : decode cX3_fillRow 23 = .ok (.iload 4, 2) := by decide +kernel
theorem dX3_fillRow_25 : decode cX3_fillRow 25 = .ok (.iload 4, 2) := by decide +kernel
theorem dX3_fillRow_27 : decode cX3_fillRow 27 = .ok (.ifCond .ne 7, 3) := by decide +kernel
theorem dX3_fillRow_30 : decode cX3_fillRow 30 = .ok (.lconst 1, 1) := by decide +kernel
theorem dX3_fillRow_31 : decode cX3_fillRow 31 = .ok (.goto 4, 3) := by decide +kernel
theorem dX3_fillRow_34 : decode cX3_fillRow 34 = .ok (.lconst 0, 1) := by decide +kernel
theorem dX3_fillRow_35 : decode cX3_fillRow 35 = .ok (.lastore, 1) := by decide +kernel
theorem dX3_fillRow_36 : decode cX3_fillRow 36 = .ok (.iinc 4 1, 3) := by decide +kernel
theorem dX3_fillRow_39 : decode cX3_fillRow 39 = .ok (.goto (-36), 3) := by decide +kernel
theorem dX3_fillRow_42 : decode cX3_fillRow 42 = .ok (.iconst 0, 1) := by decide +kernel
theorem dX3_fillRow_43 : decode cX3_fillRow 43 = .ok (.istore 4, 2) := by decide +kernel
theorem dX3_fillRow_45 : decode cX3_fillRow 45 = .ok (.iload 4, 2) := by decide +kernel
theorem dX3_fillRow_47 : decode cX3_fillRow 47 = .ok (.iload_n 1, 1) := by decide +kernel
theorem dX3_fillRow_48 : decode cX3_fillRow 48 = .ok (.if_icmp .ge 47, 3) := by decide +kernel
theorem dX3_fillRow_51 : decode cX3_fillRow 51 = .ok (.iload_n 2, 1) := by decide +kernel
theorem dX3_fillRow_52 : decode cX3_fillRow 52 = .ok (.aload_n 0, 1) := by decide +kernel
theorem dX3_fillRow_53 : decode cX3_fillRow 53 = .ok (.getfield 9, 3) := by decide +kernel
theorem dX3_fillRow_56 : decode cX3_fillRow 56 = .ok (.arraylength, 1) := by decide +kernel
theorem dX3_fillRow_57 : decode cX3_fillRow 57 = .ok (.iconst 1, 1) := by decide +kernel
theorem dX3_fillRow_58 : decode cX3_fillRow 58 = .ok (.isub, 1) := by decide +kernel
theorem dX3_fillRow_59 : decode cX3_fillRow 59 = .ok (.invokestatic 15, 3) := by decide +kernel
theorem dX3_fillRow_62 : decode cX3_fillRow 62 = .ok (.istore 5, 2) := by decide +kernel
theorem dX3_fillRow_64 : decode cX3_fillRow 64 = .ok (.iload 5, 2) := by decide +kernel
theorem dX3_fillRow_66 : decode cX3_fillRow 66 = .ok (.ifCond .lt 23, 3) := by decide +kernel
theorem dX3_fillRow_69 : decode cX3_fillRow 69 = .ok (.aload_n 0, 1) := by decide +kernel
theorem dX3_fillRow_70 : decode cX3_fillRow 70 = .ok (.getfield 9, 3) := by decide +kernel
theorem dX3_fillRow_73 : decode cX3_fillRow 73 = .ok (.iload 5, 2) := by decide +kernel
theorem dX3_fillRow_75 : decode cX3_fillRow 75 = .ok (.aload_n 0, 1) := by decide +kernel
theorem dX3_fillRow_76 : decode cX3_fillRow 76 = .ok (.iload 5, 2) := by decide +kernel
theorem dX3_fillRow_78 : decode cX3_fillRow 78 = .ok (.iload_n 3, 1) := by decide +kernel
theorem dX3_fillRow_79 : decode cX3_fillRow 79 = .ok (.invokevirtual 21, 3) := by decide +kernel
theorem dX3_fillRow_82 : decode cX3_fillRow 82 = .ok (.lastore, 1) := by decide +kernel
theorem dX3_fillRow_83 : decode cX3_fillRow 83 = .ok (.iinc 5 (-1), 3) := by decide +kernel
theorem dX3_fillRow_86 : decode cX3_fillRow 86 = .ok (.goto (-22), 3) := by decide +kernel
theorem dX3_fillRow_89 : decode cX3_fillRow 89 = .ok (.iinc 4 1, 3) := by decide +kernel
theorem dX3_fillRow_92 : decode cX3_fillRow 92 = .ok (.goto (-47), 3) := by decide +kernel
theorem dX3_fillRow_95 : decode cX3_fillRow 95 = .ok (.return_, 1) := by decide +kernel
set_option maxRecDepth 20000 in
theorem ggX3_withOneSlotMore_X3_choose : GoodIn wsX3_withOneSlotMore wsX3_choose := goodIn_r _ [5] (by decide +kernel) (by decide +kernel)
set_option maxRecDepth 20000 in
theorem gX3_withOneSlotMore_X3_choose : GoodIn wsX3_withOneSlotMore (va_wsS RX3 25 yX3_choose wsX3_choose) := goodIn_app (goodIn_of _ (by decide +kernel)) ggX3_withOneSlotMore_X3_choose
theorem dX3_withOneSlotMore_0 : decode cX3_withOneSlotMore 0 = .ok (.iload_n 2, 1) := by decide +kernel
theorem dX3_withOneSlotMore_1 : decode cX3_withOneSlotMore 1 = .ok (.ifCond .eq 12, 3) := by decide +kernel
theorem dX3_withOneSlotMore_4 : decode cX3_withOneSlotMore 4 = .ok (.aload_n 0, 1) := by decide +kernel
theorem dX3_withOneSlotMore_5 : decode cX3_withOneSlotMore 5 = .ok (.getfield 9, 3) := by decide +kernel
theorem dX3_withOneSlotMore_8 : decode cX3_withOneSlotMore 8 = .ok (.iload_n 1, 1) := by decide +kernel
theorem dX3_withOneSlotMore_9 : decode cX3_withOneSlotMore 9 = .ok (.laload, 1) := by decide +kernel
theorem dX3_withOneSlotMore_10 : decode cX3_withOneSlotMore 10 = .ok (.goto 4, 3) := by decide +kernel
theorem dX3_withOneSlotMore_13 : decode cX3_withOneSlotMore 13 = .ok (.lconst 0, 1) := by decide +kernel
theorem dX3_withOneSlotMore_14 : decode cX3_withOneSlotMore 14 = .ok (.lstore_n 3, 1) := by decide +kernel
theorem dX3_withOneSlotMore_15 : decode cX3_withOneSlotMore 15 = .ok (.iconst 2, 1) := by decide +kernel
theorem dX3_withOneSlotMore_16 : decode cX3_withOneSlotMore 16 = .ok (.istore 5, 2) := by decide +kernel
theorem dX3_withOneSlotMore_18 : decode cX3_withOneSlotMore 18 = .ok (.iload 5, 2) := by decide +kernel
theorem dX3_withOneSlotMore_20 : decode cX3_withOneSlotMore 20 = .ok (.iload_n 1, 1) := by decide +kernel
theorem dX3_withOneSlotMore_21 : decode cX3_withOneSlotMore 21 = .ok (.if_icmp .gt 28, 3) := by decide +kernel
theorem dX3_withOneSlotMore_24 : decode cX3_withOneSlotMore 24 = .ok (.lload_n 3, 1) := by decide +kernel
theorem dX3_withOneSlotMore_25 : decode cX3_withOneSlotMore 25 = .ok (.iload_n 1, 1) := by decide +kernel
theorem dX3_withOneSlotMore_26 : decode cX3_withOneSlotMore 26 = .ok (.iload 5, 2) := by decide +kernel
theorem dX3_withOneSlotMore_28 : decode cX3_withOneSlotMore 28 = .ok (.invokestatic 25, 3) := by decide +kernel
theorem dX3_withOneSlotMore_31 : decode cX3_withOneSlotMore 31 = .ok (.aload_n 0, 1) := by decide +kernel
theorem dX3_withOneSlotMore_32 : decode cX3_withOneSlotMore 32 = .ok (.getfield 9, 3) := by decide +kernel
theorem dX3_withOneSlotMore_35 : decode cX3_withOneSlotMore 35 = .ok (.iload_n 1, 1) := by decide +kernel
theorem dX3_withOneSlotMore_36 : decode cX3_withOneSlotMore 36 = .ok (.iload 5, 2) := by decide +kernel
theorem dX3_withOneSlotMore_38 : decode cX3_withOneSlotMore 38 = .ok (.isub, 1) := by decide +kernel
theorem dX3_withOneSlotMore_39 : decode cX3_withOneSlotMore 39 = .ok (.laload, 1) := by decide +kernel
theorem dX3_withOneSlotMore_40 : decode cX3_withOneSlotMore 40 = .ok (.lmul, 1) := by decide +kernel
theorem dX3_withOneSlotMore_41 : decode cX3_withOneSlotMore 41 = .ok (.ladd, 1) := by decide +kernel
theorem dX3_withOneSlotMore_42 : decode cX3_withOneSlotMore 42 = .ok (.lstore_n 3, 1) := by decide +kernel
theorem dX3_withOneSlotMore_43 : decode cX3_withOneSlotMore 43 = .ok (.iinc 5 1, 3) := by decide +kernel
theorem dX3_withOneSlotMore_46 : decode cX3_withOneSlotMore 46 = .ok (.goto (-28), 3) := by decide +kernel
theorem dX3_withOneSlotMore_49 : decode cX3_withOneSlotMore 49 = .ok (.lload_n 3, 1) := by decide +kernel
theorem dX3_withOneSlotMore_50 : decode cX3_withOneSlotMore 50 = .ok (.lreturn, 1) := by decide +kernel
theorem dX3_waysAt_0 : decode cX3_waysAt 0 = .ok (.iload_n 1, 1) := by decide +kernel
theorem dX3_waysAt_1 : decode cX3_waysAt 1 = .ok (.ifCond .lt 21, 3) := by decide +kernel
theorem dX3_waysAt_4 : decode cX3_waysAt 4 = .ok (.iload_n 1, 1) := by decide +kernel
theorem dX3_waysAt_5 : decode cX3_waysAt 5 = .ok (.aload_n 0, 1) := by decide +kernel
theorem dX3_waysAt_6 : decode cX3_waysAt 6 = .ok (.getfield 9, 3) := by decide +kernel
theorem dX3_waysAt_9 : decode cX3_waysAt 9 = .ok (.arraylength, 1) := by decide +kernel
theorem dX3_waysAt_10 : decode cX3_waysAt 10 = .ok (.if_icmp .ge 12, 3) := by decide +kernel
theorem dX3_waysAt_13 : decode cX3_waysAt 13 = .ok (.aload_n 0, 1) := by decide +kernel
theorem dX3_waysAt_14 : decode cX3_waysAt 14 = .ok (.getfield 9, 3) := by decide +kernel
theorem dX3_waysAt_17 : decode cX3_waysAt 17 = .ok (.iload_n 1, 1) := by decide +kernel
theorem dX3_waysAt_18 : decode cX3_waysAt 18 = .ok (.laload, 1) := by decide +kernel
theorem dX3_waysAt_19 : decode cX3_waysAt 19 = .ok (.goto 4, 3) := by decide +kernel
theorem dX3_waysAt_22 : decode cX3_waysAt 22 = .ok (.lconst 0, 1) := by decide +kernel
theorem dX3_waysAt_23 : decode cX3_waysAt 23 = .ok (.lreturn, 1) := by decide +kernel
set_option maxRecDepth 20000 in
theorem ggX3_waysWithAlone_X3_fillRow : GoodIn wsX3_waysWithAlone wsX3_fillRow := goodIn_r _ [5, 6, 7, 8, 9, 10, 11, 12, 13, 4, 14, 15, 16, 17, 25] (by decide +kernel) (by decide +kernel)
set_option maxRecDepth 20000 in
theorem gX3_waysWithAlone_X3_fillRow : GoodIn wsX3_waysWithAlone (wsV RX3 29 RX3 yX3_fillRow wsX3_fillRow) := goodIn_app (goodIn_of _ (by decide +kernel)) ggX3_waysWithAlone_X3_fillRow
set_option maxRecDepth 20000 in
theorem ggX3_waysWithAlone_X3_choose : GoodIn wsX3_waysWithAlone wsX3_choose := goodIn_r _ [17] (by decide +kernel) (by decide +kernel)
set_option maxRecDepth 20000 in
theorem gX3_waysWithAlone_X3_choose : GoodIn wsX3_waysWithAlone (va_wsS RX3 25 yX3_choose wsX3_choose) := goodIn_app (goodIn_of _ (by decide +kernel)) ggX3_waysWithAlone_X3_choose
set_option maxRecDepth 20000 in
theorem ggX3_waysWithAlone_X3_arranged : GoodIn wsX3_waysWithAlone wsX3_arranged := goodIn_r _ [20] (by decide +kernel) (by decide +kernel)
set_option maxRecDepth 20000 in
theorem gX3_waysWithAlone_X3_arranged : GoodIn wsX3_waysWithAlone (va_wsS RX3 33 yX3_arranged wsX3_arranged) := goodIn_app (goodIn_of _ (by decide +kernel)) ggX3_waysWithAlone_X3_arranged
set_option maxRecDepth 20000 in
theorem ggX3_waysWithAlone_X3_waysAt : GoodIn wsX3_waysWithAlone wsX3_waysAt := goodIn_r _ [24, 6, 25] (by decide +kernel) (by decide +kernel)
set_option maxRecDepth 20000 in
theorem gX3_waysWithAlone_X3_waysAt : GoodIn wsX3_waysWithAlone (wsV RX3 36 RX3 yX3_waysAt wsX3_waysAt) := goodIn_app (goodIn_of _ (by decide +kernel)) ggX3_waysWithAlone_X3_waysAt
theorem dX3_waysWithAlone_0 : decode cX3_waysWithAlone 0 = .ok (.iload_n 3, 1) := by decide +kernel
theorem dX3_waysWithAlone_1 : decode cX3_waysWithAlone 1 = .ok (.iload_n 1, 1) := by decide +kernel
theorem dX3_waysWithAlone_2 : decode cX3_waysWithAlone 2 = .ok (.if_icmp .gt 8, 3) := by decide +kernel
theorem dX3_waysWithAlone_5 : decode cX3_waysWithAlone 5 = .ok (.iload_n 3, 1) := by decide +kernel
theorem dX3_waysWithAlone_6 : decode cX3_waysWithAlone 6 = .ok (.iload_n 2, 1) := by decide +kernel
theorem dX3_waysWithAlone_7 : decode cX3_waysWithAlone 7 = .ok (.if_icmp .le 5, 3) := by decide +kernel
theorem dX3_waysWithAlone_10 : decode cX3_waysWithAlone 10 = .ok (.lconst 0, 1) := by decide +kernel
theorem dX3_waysWithAlone_11 : decode cX3_waysWithAlone 11 = .ok (.lreturn, 1) := by decide +kernel
theorem dX3_waysWithAlone_12 : decode cX3_waysWithAlone 12 = .ok (.aload_n 0, 1) := by decide +kernel
theorem dX3_waysWithAlone_13 : decode cX3_waysWithAlone 13 = .ok (.iload_n 1, 1) := by decide +kernel
theorem dX3_waysWithAlone_14 : decode cX3_waysWithAlone 14 = .ok (.iload_n 3, 1) := by decide +kernel
theorem dX3_waysWithAlone_15 : decode cX3_waysWithAlone 15 = .ok (.isub, 1) := by decide +kernel
theorem dX3_waysWithAlone_16 : decode cX3_waysWithAlone 16 = .ok (.iload_n 2, 1) := by decide +kernel
theorem dX3_waysWithAlone_17 : decode cX3_waysWithAlone 17 = .ok (.iload_n 3, 1) := by decide +kernel
theorem dX3_waysWithAlone_18 : decode cX3_waysWithAlone 18 = .ok (.isub, 1) := by decide +kernel
theorem dX3_waysWithAlone_19 : decode cX3_waysWithAlone 19 = .ok (.iconst 1, 1) := by decide +kernel
theorem dX3_waysWithAlone_20 : decode cX3_waysWithAlone 20 = .ok (.invokevirtual 29, 3) := by decide +kernel
theorem dX3_waysWithAlone_23 : decode cX3_waysWithAlone 23 = .ok (.iload_n 1, 1) := by decide +kernel
theorem dX3_waysWithAlone_24 : decode cX3_waysWithAlone 24 = .ok (.iload_n 3, 1) := by decide +kernel
theorem dX3_waysWithAlone_25 : decode cX3_waysWithAlone 25 = .ok (.invokestatic 25, 3) := by decide +kernel
theorem dX3_waysWithAlone_28 : decode cX3_waysWithAlone 28 = .ok (.iload_n 2, 1) := by decide +kernel
theorem dX3_waysWithAlone_29 : decode cX3_waysWithAlone 29 = .ok (.iload_n 3, 1) := by decide +kernel
theorem dX3_waysWithAlone_30 : decode cX3_waysWithAlone 30 = .ok (.invokestatic 33, 3) := by decide +kernel
theorem dX3_waysWithAlone_33 : decode cX3_waysWithAlone 33 = .ok (.lmul, 1) := by decide +kernel
theorem dX3_waysWithAlone_34 : decode cX3_waysWithAlone 34 = .ok (.aload_n 0, 1) := by decide +kernel
theorem dX3_waysWithAlone_35 : decode cX3_waysWithAlone 35 = .ok (.iload_n 2, 1) := by decide +kernel
theorem dX3_waysWithAlone_36 : decode cX3_waysWithAlone 36 = .ok (.iload_n 3, 1) := by decide +kernel
theorem dX3_waysWithAlone_37 : decode cX3_waysWithAlone 37 = .ok (.isub, 1) := by decide +kernel
theorem dX3_waysWithAlone_38 : decode cX3_waysWithAlone 38 = .ok (.invokevirtual 36, 3) := by decide +kernel
theorem dX3_waysWithAlone_41 : decode cX3_waysWithAlone 41 = .ok (.lmul, 1) := by decide +kernel
theorem dX3_waysWithAlone_42 : decode cX3_waysWithAlone 42 = .ok (.lreturn, 1) := by decide +kernel
set_option maxRecDepth 20000 in
theorem ggX3_waysToShow_X3_choose : GoodIn wsX3_waysToShow wsX3_choose := goodIn_r _ [4] (by decide +kernel) (by decide +kernel)
set_option maxRecDepth 20000 in
theorem gX3_waysToShow_X3_choose : GoodIn wsX3_waysToShow (va_wsS RX3 25 yX3_choose wsX3_choose) := goodIn_app (goodIn_of _ (by decide +kernel)) ggX3_waysToShow_X3_choose
set_option maxRecDepth 20000 in
theorem ggX3_waysToShow_X3_arranged : GoodIn wsX3_waysToShow wsX3_arranged := goodIn_r _ [7] (by decide +kernel) (by decide +kernel)
set_option maxRecDepth 20000 in
theorem gX3_waysToShow_X3_arranged : GoodIn wsX3_waysToShow (va_wsS RX3 33 yX3_arranged wsX3_arranged) := goodIn_app (goodIn_of _ (by decide +kernel)) ggX3_waysToShow_X3_arranged
set_option maxRecDepth 20000 in
theorem ggX3_waysToShow_X3_waysAt : GoodIn wsX3_waysToShow wsX3_waysAt := goodIn_r _ [11, 12, 13] (by decide +kernel) (by decide +kernel)
set_option maxRecDepth 20000 in
theorem gX3_waysToShow_X3_waysAt : GoodIn wsX3_waysToShow (wsV RX3 36 RX3 yX3_waysAt wsX3_waysAt) := goodIn_app (goodIn_of _ (by decide +kernel)) ggX3_waysToShow_X3_waysAt
theorem dX3_waysToShow_0 : decode cX3_waysToShow 0 = .ok (.iload_n 1, 1) := by decide +kernel
theorem dX3_waysToShow_1 : decode cX3_waysToShow 1 = .ok (.iload_n 3, 1) := by decide +kernel
theorem dX3_waysToShow_2 : decode cX3_waysToShow 2 = .ok (.if_icmp .ge 5, 3) := by decide +kernel
theorem dX3_waysToShow_5 : decode cX3_waysToShow 5 = .ok (.lconst 0, 1) := by decide +kernel
theorem dX3_waysToShow_6 : decode cX3_waysToShow 6 = .ok (.lreturn, 1) := by decide +kernel
theorem dX3_waysToShow_7 : decode cX3_waysToShow 7 = .ok (.iload_n 2, 1) := by decide +kernel
theorem dX3_waysToShow_8 : decode cX3_waysToShow 8 = .ok (.iload_n 3, 1) := by decide +kernel
theorem dX3_waysToShow_9 : decode cX3_waysToShow 9 = .ok (.iadd, 1) := by decide +kernel
theorem dX3_waysToShow_10 : decode cX3_waysToShow 10 = .ok (.iload 4, 2) := by decide +kernel
theorem dX3_waysToShow_12 : decode cX3_waysToShow 12 = .ok (.iadd, 1) := by decide +kernel
theorem dX3_waysToShow_13 : decode cX3_waysToShow 13 = .ok (.iload_n 2, 1) := by decide +kernel
theorem dX3_waysToShow_14 : decode cX3_waysToShow 14 = .ok (.invokestatic 25, 3) := by decide +kernel
theorem dX3_waysToShow_17 : decode cX3_waysToShow 17 = .ok (.iload_n 3, 1) := by decide +kernel
theorem dX3_waysToShow_18 : decode cX3_waysToShow 18 = .ok (.iload 4, 2) := by decide +kernel
theorem dX3_waysToShow_20 : decode cX3_waysToShow 20 = .ok (.iadd, 1) := by decide +kernel
theorem dX3_waysToShow_21 : decode cX3_waysToShow 21 = .ok (.iload_n 3, 1) := by decide +kernel
theorem dX3_waysToShow_22 : decode cX3_waysToShow 22 = .ok (.invokestatic 25, 3) := by decide +kernel
theorem dX3_waysToShow_25 : decode cX3_waysToShow 25 = .ok (.lmul, 1) := by decide +kernel
theorem dX3_waysToShow_26 : decode cX3_waysToShow 26 = .ok (.iload_n 1, 1) := by decide +kernel
theorem dX3_waysToShow_27 : decode cX3_waysToShow 27 = .ok (.iload_n 3, 1) := by decide +kernel
theorem dX3_waysToShow_28 : decode cX3_waysToShow 28 = .ok (.invokestatic 33, 3) := by decide +kernel
theorem dX3_waysToShow_31 : decode cX3_waysToShow 31 = .ok (.lmul, 1) := by decide +kernel
theorem dX3_waysToShow_32 : decode cX3_waysToShow 32 = .ok (.aload_n 0, 1) := by decide +kernel
theorem dX3_waysToShow_33 : decode cX3_waysToShow 33 = .ok (.iload_n 1, 1) := by decide +kernel
theorem dX3_waysToShow_34 : decode cX3_waysToShow 34 = .ok (.iload_n 3, 1) := by decide +kernel
theorem dX3_waysToShow_35 : decode cX3_waysToShow 35 = .ok (.isub, 1) := by decide +kernel
theorem dX3_waysToShow_36 : decode cX3_waysToShow 36 = .ok (.invokevirtual 36, 3) := by decide +kernel
theorem dX3_waysToShow_39 : decode cX3_waysToShow 39 = .ok (.lmul, 1) := by decide +kernel
theorem dX3_waysToShow_40 : decode cX3_waysToShow 40 = .ok (.lreturn, 1) := by decide +kernel
set_option maxRecDepth 20000 in
theorem ggX3_likeliest_X3_fillRow : GoodIn wsX3_likeliest wsX3_fillRow := goodIn_r _ [5, 6, 7, 8, 9, 10, 11, 12, 13, 4, 14, 15, 16, 17, 29] (by decide +kernel) (by decide +kernel)
set_option maxRecDepth 20000 in
theorem gX3_likeliest_X3_fillRow : GoodIn wsX3_likeliest (wsV RX3 29 RX3 yX3_fillRow wsX3_fillRow) := goodIn_app (goodIn_of _ (by decide +kernel)) ggX3_likeliest_X3_fillRow
set_option maxRecDepth 20000 in
theorem ggX3_likeliest_X3_waysToShow : GoodIn wsX3_likeliest wsX3_waysToShow := goodIn_r _ [21, 15, 16, 4, 17, 22, 23, 24, 25, 26, 27, 28, 6, 29] (by decide +kernel) (by decide +kernel)
set_option maxRecDepth 20000 in
theorem gX3_likeliest_X3_waysToShow : GoodIn wsX3_likeliest (wsV RX3 40 RX3 yX3_waysToShow wsX3_waysToShow) := goodIn_app (goodIn_of _ (by decide +kernel)) ggX3_likeliest_X3_waysToShow
theorem dX3_likeliest_0 : decode cX3_likeliest 0 = .ok (.aload_n 0, 1) := by decide +kernel
theorem dX3_likeliest_1 : decode cX3_likeliest 1 = .ok (.iload_n 3, 1) := by decide +kernel
theorem dX3_likeliest_2 : decode cX3_likeliest 2 = .ok (.bipush 16, 2) := by decide +kernel
theorem dX3_likeliest_4 : decode cX3_likeliest 4 = .ok (.iconst 0, 1) := by decide +kernel
theorem dX3_likeliest_5 : decode cX3_likeliest 5 = .ok (.invokevirtual 29, 3) := by decide +kernel
theorem dX3_likeliest_8 : decode cX3_likeliest 8 = .ok (.bipush (-4), 2) := by decide +kernel
theorem dX3_likeliest_10 : decode cX3_likeliest 10 = .ok (.istore 4, 2) := by decide +kernel
theorem dX3_likeliest_12 : decode cX3_likeliest 12 = .ok (.lconst 0, 1) := by decide +kernel
theorem dX3_likeliest_13 : decode cX3_likeliest 13 = .ok (.lstore 5, 2) := by decide +kernel
theorem dX3_likeliest_15 : decode cX3_likeliest 15 = .ok (.iconst 0, 1) := by decide +kernel
theorem dX3_likeliest_16 : decode cX3_likeliest 16 = .ok (.istore 7, 2) := by decide +kernel
theorem dX3_likeliest_18 : decode cX3_likeliest 18 = .ok (.iload 7, 2) := by decide +kernel
theorem dX3_likeliest_20 : decode cX3_likeliest 20 = .ok (.bipush 16, 2) := by decide +kernel
theorem dX3_likeliest_22 : decode cX3_likeliest 22 = .ok (.if_icmp .gt 47, 3) := by decide +kernel
theorem dX3_likeliest_25 : decode cX3_likeliest 25 = .ok (.aload_n 0, 1) := by decide +kernel
theorem dX3_likeliest_26 : decode cX3_likeliest 26 = .ok (.iload 7, 2) := by decide +kernel
theorem dX3_likeliest_28 : decode cX3_likeliest 28 = .ok (.iload_n 1, 1) := by decide +kernel
theorem dX3_likeliest_29 : decode cX3_likeliest 29 = .ok (.iload_n 2, 1) := by decide +kernel
theorem dX3_likeliest_30 : decode cX3_likeliest 30 = .ok (.iload_n 3, 1) := by decide +kernel
theorem dX3_likeliest_31 : decode cX3_likeliest 31 = .ok (.invokevirtual 40, 3) := by decide +kernel
theorem dX3_likeliest_34 : decode cX3_likeliest 34 = .ok (.lstore 8, 2) := by decide +kernel
theorem dX3_likeliest_36 : decode cX3_likeliest 36 = .ok (.lload 5, 2) := by decide +kernel
theorem dX3_likeliest_38 : decode cX3_likeliest 38 = .ok (.iload_n 1, 1) := by decide +kernel
theorem dX3_likeliest_39 : decode cX3_likeliest 39 = .ok (.iload_n 2, 1) := by decide +kernel
theorem dX3_likeliest_40 : decode cX3_likeliest 40 = .ok (.iadd, 1) := by decide +kernel
theorem dX3_likeliest_41 : decode cX3_likeliest 41 = .ok (.iload_n 3, 1) := by decide +kernel
theorem dX3_likeliest_42 : decode cX3_likeliest 42 = .ok (.iadd, 1) := by decide +kernel
theorem dX3_likeliest_43 : decode cX3_likeliest 43 = .ok (.i2l, 1) := by decide +kernel
