theorem dX0_init_0 : decode cX0_init 0 = .ok (.aload_n 0, 1) := by decide +kernel
theorem dX0_init_1 : decode cX0_init 1 = .ok (.invokespecial 3, 3) := by decide +kernel
theorem dX0_init_4 : decode cX0_init 4 = .ok (.sipush 480, 3) := by decide +kernel
theorem dX0_init_7 : decode cX0_init 7 = .ok (.istore_n 1, 1) := by decide +kernel
theorem dX0_init_8 : decode cX0_init 8 = .ok (.aload_n 0, 1) := by decide +kernel
theorem dX0_init_9 : decode cX0_init 9 = .ok (.bipush 40, 2) := by decide +kernel
theorem dX0_init_11 : decode cX0_init 11 = .ok (.newarray .int, 2) := by decide +kernel
theorem dX0_init_13 : decode cX0_init 13 = .ok (.putfield 9, 3) := by decide +kernel
theorem dX0_init_16 : decode cX0_init 16 = .ok (.aload_n 0, 1) := by decide +kernel
theorem dX0_init_17 : decode cX0_init 17 = .ok (.iload_n 1, 1) := by decide +kernel
theorem dX0_init_18 : decode cX0_init 18 = .ok (.newarray .int, 2) := by decide +kernel
theorem dX0_init_20 : decode cX0_init 20 = .ok (.putfield 15, 3) := by decide +kernel
theorem dX0_init_23 : decode cX0_init 23 = .ok (.aload_n 0, 1) := by decide +kernel
theorem dX0_init_24 : decode cX0_init 24 = .ok (.iload_n 1, 1) := by decide +kernel
theorem dX0_init_25 : decode cX0_init 25 = .ok (.newarray .int, 2) := by decide +kernel
theorem dX0_init_27 : decode cX0_init 27 = .ok (.putfield 18, 3) := by decide +kernel
theorem dX0_init_30 : decode cX0_init 30 = .ok (.aload_n 0, 1) := by decide +kernel
theorem dX0_init_31 : decode cX0_init 31 = .ok (.iload_n 1, 1) := by decide +kernel
theorem dX0_init_32 : decode cX0_init 32 = .ok (.newarray .int, 2) := by decide +kernel
theorem dX0_init_34 : decode cX0_init 34 = .ok (.putfield 21, 3) := by decide +kernel
theorem dX0_init_37 : decode cX0_init 37 = .ok (.aload_n 0, 1) := by decide +kernel
theorem dX0_init_38 : decode cX0_init 38 = .ok (.iload_n 1, 1) := by decide +kernel
theorem dX0_init_39 : decode cX0_init 39 = .ok (.newarray .int, 2) := by decide +kernel
theorem dX0_init_41 : decode cX0_init 41 = .ok (.putfield 24, 3) := by decide +kernel
theorem dX0_init_44 : decode cX0_init 44 = .ok (.aload_n 0, 1) := by decide +kernel
theorem dX0_init_45 : decode cX0_init 45 = .ok (.iconst 0, 1) := by decide +kernel
theorem dX0_init_46 : decode cX0_init 46 = .ok (.putfield 27, 3) := by decide +kernel
theorem dX0_init_49 : decode cX0_init 49 = .ok (.return_, 1) := by decide +kernel
set_option maxRecDepth 20000 in
theorem ggX0_append_X4_isBlock : GoodIn wsX0_append wsX4_isBlock := goodIn_r _ [9, 10, 11, 8, 12] (by decide +kernel) (by decide +kernel)
set_option maxRecDepth 20000 in
theorem gX0_append_X4_isBlock_n31 : GoodIn wsX0_append (wsX4_isBlock) := ggX0_append_X4_isBlock
theorem dX0_append_0 : decode cX0_append 0 = .ok (.iload_n 1, 1) := by decide +kernel
theorem dX0_append_1 : decode cX0_append 1 = .ok (.invokestatic 31, 3) := by decide +kernel
theorem dX0_append_4 : decode cX0_append 4 = .ok (.ifCond .ne 6, 3) := by decide +kernel
theorem dX0_append_7 : decode cX0_append 7 = .ok (.bipush (-2), 2) := by decide +kernel
theorem dX0_append_9 : decode cX0_append 9 = .ok (.ireturn, 1) := by decide +kernel
theorem dX0_append_10 : decode cX0_append 10 = .ok (.aload_n 0, 1) := by decide +kernel
theorem dX0_append_11 : decode cX0_append 11 = .ok (.getfield 27, 3) := by decide +kernel
theorem dX0_append_14 : decode cX0_append 14 = .ok (.sipush 150, 3) := by decide +kernel
theorem dX0_append_17 : decode cX0_append 17 = .ok (.if_icmp .ge 14, 3) := by decide +kernel
theorem dX0_append_20 : decode cX0_append 20 = .ok (.aload_n 0, 1) := by decide +kernel
theorem dX0_append_21 : decode cX0_append 21 = .ok (.getfield 9, 3) := by decide +kernel
theorem dX0_append_24 : decode cX0_append 24 = .ok (.iload_n 1, 1) := by decide +kernel
theorem dX0_append_25 : decode cX0_append 25 = .ok (.iaload, 1) := by decide +kernel
theorem dX0_append_26 : decode cX0_append 26 = .ok (.bipush 12, 2) := by decide +kernel
theorem dX0_append_28 : decode cX0_append 28 = .ok (.if_icmp .lt 6, 3) := by decide +kernel
theorem dX0_append_31 : decode cX0_append 31 = .ok (.bipush (-3), 2) := by decide +kernel
theorem dX0_append_33 : decode cX0_append 33 = .ok (.ireturn, 1) := by decide +kernel
theorem dX0_append_34 : decode cX0_append 34 = .ok (.iload_n 1, 1) := by decide +kernel
theorem dX0_append_35 : decode cX0_append 35 = .ok (.bipush 12, 2) := by decide +kernel
theorem dX0_append_37 : decode cX0_append 37 = .ok (.imul, 1) := by decide +kernel
theorem dX0_append_38 : decode cX0_append 38 = .ok (.aload_n 0, 1) := by decide +kernel
theorem dX0_append_39 : decode cX0_append 39 = .ok (.getfield 9, 3) := by decide +kernel
theorem dX0_append_42 : decode cX0_append 42 = .ok (.iload_n 1, 1) := by decide +kernel
theorem dX0_append_43 : decode cX0_append 43 = .ok (.iaload, 1) := by decide +kernel
theorem dX0_append_44 : decode cX0_append 44 = .ok (.iadd, 1) := by decide +kernel
theorem dX0_append_45 : decode cX0_append 45 = .ok (.istore 6, 2) := by decide +kernel
theorem dX0_append_47 : decode cX0_append 47 = .ok (.aload_n 0, 1) := by decide +kernel
theorem dX0_append_48 : decode cX0_append 48 = .ok (.getfield 15, 3) := by decide +kernel
theorem dX0_append_51 : decode cX0_append 51 = .ok (.iload 6, 2) := by decide +kernel
theorem dX0_append_53 : decode cX0_append 53 = .ok (.iload_n 2, 1) := by decide +kernel
theorem dX0_append_54 : decode cX0_append 54 = .ok (.iastore, 1) := by decide +kernel
theorem dX0_append_55 : decode cX0_append 55 = .ok (.aload_n 0, 1) := by decide +kernel
theorem dX0_append_56 : decode cX0_append 56 = .ok (.getfield 18, 3) := by decide +kernel
theorem dX0_append_59 : decode cX0_append 59 = .ok (.iload 6, 2) := by decide +kernel
theorem dX0_append_61 : decode cX0_append 61 = .ok (.iload_n 3, 1) := by decide +kernel
theorem dX0_append_62 : decode cX0_append 62 = .ok (.iastore, 1) := by decide +kernel
theorem dX0_append_63 : decode cX0_append 63 = .ok (.aload_n 0, 1) := by decide +kernel
theorem dX0_append_64 : decode cX0_append 64 = .ok (.getfield 21, 3) := by decide +kernel
theorem dX0_append_67 : decode cX0_append 67 = .ok (.iload 6, 2) := by decide +kernel
theorem dX0_append_69 : decode cX0_append 69 = .ok (.iload 4, 2) := by decide +kernel
theorem dX0_append_71 : decode cX0_append 71 = .ok (.iastore, 1) := by decide +kernel
theorem dX0_append_72 : decode cX0_append 72 = .ok (.aload_n 0, 1) := by decide +kernel
theorem dX0_append_73 : decode cX0_append 73 = .ok (.getfield 24, 3) := by decide +kernel
theorem dX0_append_76 : decode cX0_append 76 = .ok (.iload 6, 2) := by decide +kernel
theorem dX0_append_78 : decode cX0_append 78 = .ok (.iload 5, 2) := by decide +kernel
theorem dX0_append_80 : decode cX0_append 80 = .ok (.iastore, 1) := by decide +kernel
theorem dX0_append_81 : decode cX0_append 81 = .ok (.aload_n 0, 1) := by decide +kernel
theorem dX0_append_82 : decode cX0_append 82 = .ok (.getfield 9, 3) := by decide +kernel
theorem dX0_append_85 : decode cX0_append 85 = .ok (.iload_n 1, 1) := by decide +kernel
theorem dX0_append_86 : decode cX0_append 86 = .ok (.dup2, 1) := by decide +kernel
theorem dX0_append_87 : decode cX0_append 87 = .ok (.iaload, 1) := by decide +kernel
theorem dX0_append_88 : decode cX0_append 88 = .ok (.iconst 1, 1) := by decide +kernel
theorem dX0_append_89 : decode cX0_append 89 = .ok (.iadd, 1) := by decide +kernel
theorem dX0_append_90 : decode cX0_append 90 = .ok (.iastore, 1) := by decide +kernel
theorem dX0_append_91 : decode cX0_append 91 = .ok (.aload_n 0, 1) := by decide +kernel
theorem dX0_append_92 : decode cX0_append 92 = .ok (.dup, 1) := by decide +kernel
theorem dX0_append_93 : decode cX0_append 93 = .ok (.getfield 27, 3) := by decide +kernel
theorem dX0_append_96 : decode cX0_append 96 = .ok (.iconst 1, 1) := by decide +kernel
theorem dX0_append_97 : decode cX0_append 97 = .ok (.iadd, 1) := by decide +kernel
theorem dX0_append_98 : decode cX0_append 98 = .ok (.putfield 27, 3) := by decide +kernel
theorem dX0_append_101 : decode cX0_append 101 = .ok (.aload_n 0, 1) := by decide +kernel
theorem dX0_append_102 : decode cX0_append 102 = .ok (.getfield 9, 3) := by decide +kernel
theorem dX0_append_105 : decode cX0_append 105 = .ok (.iload_n 1, 1) := by decide +kernel
theorem dX0_append_106 : decode cX0_append 106 = .ok (.iaload, 1) := by decide +kernel
theorem dX0_append_107 : decode cX0_append 107 = .ok (.ireturn, 1) := by decide +kernel
set_option maxRecDepth 20000 in
theorem ggX0_empty_X4_isBlock : GoodIn wsX0_empty wsX4_isBlock := goodIn_r _ [5, 6, 7, 4, 8] (by decide +kernel) (by decide +kernel)
set_option maxRecDepth 20000 in
theorem gX0_empty_X4_isBlock_n31 : GoodIn wsX0_empty (wsX4_isBlock) := ggX0_empty_X4_isBlock
theorem dX0_empty_0 : decode cX0_empty 0 = .ok (.iload_n 1, 1) := by decide +kernel
theorem dX0_empty_1 : decode cX0_empty 1 = .ok (.invokestatic 31, 3) := by decide +kernel
theorem dX0_empty_4 : decode cX0_empty 4 = .ok (.ifCond .ne 6, 3) := by decide +kernel
theorem dX0_empty_7 : decode cX0_empty 7 = .ok (.bipush (-2), 2) := by decide +kernel
theorem dX0_empty_9 : decode cX0_empty 9 = .ok (.ireturn, 1) := by decide +kernel
theorem dX0_empty_10 : decode cX0_empty 10 = .ok (.aload_n 0, 1) := by decide +kernel
theorem dX0_empty_11 : decode cX0_empty 11 = .ok (.getfield 9, 3) := by decide +kernel
theorem dX0_empty_14 : decode cX0_empty 14 = .ok (.iload_n 1, 1) := by decide +kernel
theorem dX0_empty_15 : decode cX0_empty 15 = .ok (.iaload, 1) := by decide +kernel
theorem dX0_empty_16 : decode cX0_empty 16 = .ok (.istore_n 2, 1) := by decide +kernel
theorem dX0_empty_17 : decode cX0_empty 17 = .ok (.aload_n 0, 1) := by decide +kernel
theorem dX0_empty_18 : decode cX0_empty 18 = .ok (.getfield 9, 3) := by decide +kernel
theorem dX0_empty_21 : decode cX0_empty 21 = .ok (.iload_n 1, 1) := by decide +kernel
theorem dX0_empty_22 : decode cX0_empty 22 = .ok (.iconst 0, 1) := by decide +kernel
theorem dX0_empty_23 : decode cX0_empty 23 = .ok (.iastore, 1) := by decide +kernel
theorem dX0_empty_24 : decode cX0_empty 24 = .ok (.aload_n 0, 1) := by decide +kernel
theorem dX0_empty_25 : decode cX0_empty 25 = .ok (.dup, 1) := by decide +kernel
theorem dX0_empty_26 : decode cX0_empty 26 = .ok (.getfield 27, 3) := by decide +kernel
theorem dX0_empty_29 : decode cX0_empty 29 = .ok (.iload_n 2, 1) := by decide +kernel
theorem dX0_empty_30 : decode cX0_empty 30 = .ok (.isub, 1) := by decide +kernel
theorem dX0_empty_31 : decode cX0_empty 31 = .ok (.putfield 27, 3) := by decide +kernel
theorem dX0_empty_34 : decode cX0_empty 34 = .ok (.iload_n 2, 1) := by decide +kernel
theorem dX0_empty_35 : decode cX0_empty 35 = .ok (.ireturn, 1) := by decide +kernel
set_option maxRecDepth 20000 in
theorem ggX1_init_X2_init : GoodIn wsX1_init wsX2_init := goodIn_r _ [18, 19, 2, 3, 20, 21, 22, 23, 24, 25, 26, 27, 28, 52, 53, 54, 55] (by decide +kernel) (by decide +kernel)
set_option maxRecDepth 20000 in
theorem gX1_init_X2_init_n11 : GoodIn wsX1_init (wsX2_init) := ggX1_init_X2_init
set_option maxRecDepth 20000 in
theorem ggX1_init_X0_init : GoodIn wsX1_init wsX0_init := goodIn_r _ [30, 31, 2, 3, 20, 32, 33, 34, 35, 36, 37, 60, 61, 62, 63, 64, 65] (by decide +kernel) (by decide +kernel)
set_option maxRecDepth 20000 in
theorem gX1_init_X0_init_n20 : GoodIn wsX1_init (wsX0_init) := ggX1_init_X0_init
set_option maxRecDepth 20000 in
theorem ggX1_init_X3_init : GoodIn wsX1_init wsX3_init := goodIn_r _ [39, 40, 2, 3, 20, 41, 42, 43, 44, 14, 45, 46, 47, 48, 49, 50, 51, 66, 67, 68, 69, 70, 71, 72] (by decide +kernel) (by decide +kernel)
set_option maxRecDepth 20000 in
theorem gX1_init_X3_init_n27 : GoodIn wsX1_init (wsX3_init) := ggX1_init_X3_init
theorem dX1_init_0 : decode cX1_init 0 = .ok (.aload_n 0, 1) := by decide +kernel
theorem dX1_init_1 : decode cX1_init 1 = .ok (.invokespecial 3, 3) := by decide +kernel
theorem dX1_init_4 : decode cX1_init 4 = .ok (.aload_n 0, 1) := by decide +kernel
theorem dX1_init_5 : decode cX1_init 5 = .ok (.new 9, 3) := by decide +kernel
theorem dX1_init_8 : decode cX1_init 8 = .ok (.dup, 1) := by decide +kernel
theorem dX1_init_9 : decode cX1_init 9 = .ok (.invokespecial 11, 3) := by decide +kernel
theorem dX1_init_12 : decode cX1_init 12 = .ok (.putfield 12, 3) := by decide +kernel
theorem dX1_init_15 : decode cX1_init 15 = .ok (.aload_n 0, 1) := by decide +kernel
theorem dX1_init_16 : decode cX1_init 16 = .ok (.new 18, 3) := by decide +kernel
theorem dX1_init_19 : decode cX1_init 19 = .ok (.dup, 1) := by decide +kernel
theorem dX1_init_20 : decode cX1_init 20 = .ok (.invokespecial 20, 3) := by decide +kernel
theorem dX1_init_23 : decode cX1_init 23 = .ok (.putfield 21, 3) := by decide +kernel
theorem dX1_init_26 : decode cX1_init 26 = .ok (.aload_n 0, 1) := by decide +kernel
theorem dX1_init_27 : decode cX1_init 27 = .ok (.new 25, 3) := by decide +kernel
theorem dX1_init_30 : decode cX1_init 30 = .ok (.dup, 1) := by decide +kernel
theorem dX1_init_31 : decode cX1_init 31 = .ok (.invokespecial 27, 3) := by decide +kernel
theorem dX1_init_34 : decode cX1_init 34 = .ok (.putfield 28, 3) := by decide +kernel
theorem dX1_init_37 : decode cX1_init 37 = .ok (.aload_n 0, 1) := by decide +kernel
theorem dX1_init_38 : decode cX1_init 38 = .ok (.iconst 0, 1) := by decide +kernel
theorem dX1_init_39 : decode cX1_init 39 = .ok (.putfield 32, 3) := by decide +kernel
theorem dX1_init_42 : decode cX1_init 42 = .ok (.return_, 1) := by decide +kernel
set_option maxRecDepth 20000 in
theorem ggX1_doBlock_X4_isBlock : GoodIn wsX1_doBlock wsX4_isBlock := goodIn_r _ [8, 9, 10, 7, 11] (by decide +kernel) (by decide +kernel)
set_option maxRecDepth 20000 in
theorem gX1_doBlock_X4_isBlock_n36 : GoodIn wsX1_doBlock (wsX4_isBlock) := ggX1_doBlock_X4_isBlock
set_option maxRecDepth 20000 in
theorem ggX1_doBlock_X1_doStep : GoodIn wsX1_doBlock wsX1_doStep := goodIn_r _ [72, 35, 1, 22, 73, 46, 74, 75, 55, 56, 57, 58, 59, 60, 76, 77, 78, 15, 79, 80, 81, 82, 83, 84, 85, 86, 87, 88, 89, 90, 91, 92, 93, 94, 24, 25, 26, 27, 28, 29, 7, 30, 9, 10, 11, 95, 96, 97, 39, 40, 41, 42, 43, 44, 98, 99, 100, 101, 102, 103, 104, 105, 106, 107, 108, 109, 110, 111, 112, 113, 114, 115, 116, 31, 32, 33, 34, 36, 37, 38, 45, 47, 48, 49, 50, 51, 52, 53, 4, 54, 117, 118, 119, 63, 64, 65, 66, 67, 68, 69, 70, 0, 2, 3, 5, 6, 8, 12, 13, 14, 16, 17, 18, 19, 20, 21, 23, 61, 62, 71, 120, 121, 122, 123, 124, 125, 126, 127, 128, 129, 130, 131, 132, 133, 134, 135, 136, 137, 138, 139, 140, 141] (by decide +kernel) (by decide +kernel)
set_option maxRecDepth 20000 in
theorem gX1_doBlock_X1_doStep : GoodIn wsX1_doBlock (wsV RX1 50 RX1 yX1_doStep wsX1_doStep) := goodIn_app (goodIn_of _ (by decide +kernel)) ggX1_doBlock_X1_doStep
theorem dX1_doBlock_0 : decode cX1_doBlock 0 = .ok (.iload_n 1, 1) := by decide +kernel
theorem dX1_doBlock_1 : decode cX1_doBlock 1 = .ok (.invokestatic 36, 3) := by decide +kernel
theorem dX1_doBlock_4 : decode cX1_doBlock 4 = .ok (.ifCond .eq 8, 3) := by decide +kernel
theorem dX1_doBlock_7 : decode cX1_doBlock 7 = .ok (.iload_n 1, 1) := by decide +kernel
theorem dX1_doBlock_8 : decode cX1_doBlock 8 = .ok (.iload_n 2, 1) := by decide +kernel
theorem dX1_doBlock_9 : decode cX1_doBlock 9 = .ok (.if_icmp .gt 5, 3) := by decide +kernel
theorem dX1_doBlock_12 : decode cX1_doBlock 12 = .ok (.iconst 0, 1) := by decide +kernel
theorem dX1_doBlock_13 : decode cX1_doBlock 13 = .ok (.ireturn, 1) := by decide +kernel
theorem dX1_doBlock_14 : decode cX1_doBlock 14 = .ok (.aload_n 0, 1) := by decide +kernel
theorem dX1_doBlock_15 : decode cX1_doBlock 15 = .ok (.getfield 21, 3) := by decide +kernel
theorem dX1_doBlock_18 : decode cX1_doBlock 18 = .ok (.getfield 40, 3) := by decide +kernel
theorem dX1_doBlock_21 : decode cX1_doBlock 21 = .ok (.iload_n 1, 1) := by decide +kernel
theorem dX1_doBlock_22 : decode cX1_doBlock 22 = .ok (.iaload, 1) := by decide +kernel
theorem dX1_doBlock_23 : decode cX1_doBlock 23 = .ok (.bipush 12, 2) := by decide +kernel
theorem dX1_doBlock_25 : decode cX1_doBlock 25 = .ok (.invokestatic 44, 3) := by decide +kernel
theorem dX1_doBlock_28 : decode cX1_doBlock 28 = .ok (.istore 4, 2) := by decide +kernel
theorem dX1_doBlock_30 : decode cX1_doBlock 30 = .ok (.iconst 0, 1) := by decide +kernel
theorem dX1_doBlock_31 : decode cX1_doBlock 31 = .ok (.istore 5, 2) := by decide +kernel
theorem dX1_doBlock_33 : decode cX1_doBlock 33 = .ok (.iconst 0, 1) := by decide +kernel
theorem dX1_doBlock_34 : decode cX1_doBlock 34 = .ok (.istore 6, 2) := by decide +kernel
theorem dX1_doBlock_36 : decode cX1_doBlock 36 = .ok (.iload 6, 2) := by decide +kernel
theorem dX1_doBlock_38 : decode cX1_doBlock 38 = .ok (.iload 4, 2) := by decide +kernel
theorem dX1_doBlock_40 : decode cX1_doBlock 40 = .ok (.if_icmp .ge 29, 3) := by decide +kernel
theorem dX1_doBlock_43 : decode cX1_doBlock 43 = .ok (.iload 5, 2) := by decide +kernel
theorem dX1_doBlock_45 : decode cX1_doBlock 45 = .ok (.ifCond .ne 24, 3) := by decide +kernel
theorem dX1_doBlock_48 : decode cX1_doBlock 48 = .ok (.aload_n 0, 1) := by decide +kernel
theorem dX1_doBlock_49 : decode cX1_doBlock 49 = .ok (.iload_n 1, 1) := by decide +kernel
theorem dX1_doBlock_50 : decode cX1_doBlock 50 = .ok (.iload_n 1, 1) := by decide +kernel
theorem dX1_doBlock_51 : decode cX1_doBlock 51 = .ok (.bipush 12, 2) := by decide +kernel
theorem dX1_doBlock_53 : decode cX1_doBlock 53 = .ok (.imul, 1) := by decide +kernel
theorem dX1_doBlock_54 : decode cX1_doBlock 54 = .ok (.iload 6, 2) := by decide +kernel
theorem dX1_doBlock_56 : decode cX1_doBlock 56 = .ok (.iadd, 1) := by decide +kernel
theorem dX1_doBlock_57 : decode cX1_doBlock 57 = .ok (.iload_n 3, 1) := by decide +kernel
theorem dX1_doBlock_58 : decode cX1_doBlock 58 = .ok (.invokevirtual 50, 3) := by decide +kernel
theorem dX1_doBlock_61 : decode cX1_doBlock 61 = .ok (.istore 5, 2) := by decide +kernel
theorem dX1_doBlock_63 : decode cX1_doBlock 63 = .ok (.iinc 6 1, 3) := by decide +kernel
theorem dX1_doBlock_66 : decode cX1_doBlock 66 = .ok (.goto (-30), 3) := by decide +kernel
theorem dX1_doBlock_69 : decode cX1_doBlock 69 = .ok (.iload 5, 2) := by decide +kernel
theorem dX1_doBlock_71 : decode cX1_doBlock 71 = .ok (.ireturn, 1) := by decide +kernel
set_option maxRecDepth 20000 in
theorem ggX1_doStep_X3_enterMark : GoodIn wsX1_doStep wsX3_enterMark := goodIn_r _ [7, 8, 9, 10, 5, 11, 12, 13, 135, 136, 137, 138, 139, 140, 141] (by decide +kernel) (by decide +kernel)
set_option maxRecDepth 20000 in
theorem gX1_doStep_X3_enterMark_n69 : GoodIn wsX1_doStep (wsX3_enterMark) := ggX1_doStep_X3_enterMark
set_option maxRecDepth 20000 in
theorem ggX1_doStep_X1_doHold : GoodIn wsX1_doStep wsX1_doHold := goodIn_r _ [115, 3, 116, 34, 35, 36, 37, 38, 39, 40, 41, 42, 43, 44, 73, 74, 75, 17, 76, 1, 77, 78, 79, 48, 49, 50, 51, 52, 53, 80, 5, 81, 82, 83, 84, 85, 86, 87, 88, 89, 8, 9, 10, 11, 12, 13, 111, 112, 113, 117, 118, 93, 94, 95, 96, 97, 98, 99, 100, 101, 2, 102, 103, 104, 105, 106, 107, 108, 109, 110, 114, 119, 0, 4, 6, 7, 14, 15, 16, 18, 19, 20, 21, 22, 23, 24, 25, 26, 27, 28, 29, 30, 31, 32, 33, 45, 46, 47, 54, 55, 56, 57, 58, 59, 60, 61, 62, 63, 64, 65, 66, 67, 68, 69, 70, 71, 72, 90, 91, 92, 120, 121, 122, 123, 124, 125, 126, 127, 128, 129, 130, 131, 132, 133, 134, 135, 136, 137, 138, 139, 140, 141] (by decide +kernel) (by decide +kernel)
set_option maxRecDepth 20000 in
theorem gX1_doStep_X1_doHold : GoodIn wsX1_doStep (wsV RX1 73 RX1 yX1_doHold wsX1_doHold) := goodIn_app (goodIn_of _ (by decide +kernel)) ggX1_doStep_X1_doHold
set_option maxRecDepth 20000 in
theorem ggX1_doStep_X1_doLoop : GoodIn wsX1_doStep wsX1_doLoop := goodIn_r _ [119, 102, 103, 88, 104, 111, 112, 113, 17, 101, 2, 105, 40, 106, 42, 43, 44, 107, 108, 109, 110, 114, 115, 3, 116, 34, 35, 36, 37, 38, 39, 41, 73, 74, 75, 76, 1, 77, 78, 79, 48, 49, 50, 51, 52, 53, 80, 5, 81, 82, 83, 84, 85, 86, 87, 89, 8, 9, 10, 11, 12, 13, 117, 118, 93, 94, 95, 96, 97, 98, 99, 100, 0, 4, 6, 7, 14, 15, 16, 18, 19, 20, 21, 22, 23, 24, 25, 26, 27, 28, 29, 30, 31, 32, 33, 45, 46, 47, 54, 55, 56, 57, 58, 59, 60, 61, 62, 63, 64, 65, 66, 67, 68, 69, 70, 71, 72, 90, 91, 92, 120, 121, 122, 123, 124, 125, 126, 127, 128, 129, 130, 131, 132, 133, 134, 135, 136, 137, 138, 139, 140, 141] (by decide +kernel) (by decide +kernel)
set_option maxRecDepth 20000 in
theorem gX1_doStep_X1_doLoop : GoodIn wsX1_doStep (wsV RX1 77 RX1 yX1_doLoop wsX1_doLoop) := goodIn_app (goodIn_of _ (by decide +kernel)) ggX1_doStep_X1_doLoop
set_option maxRecDepth 20000 in
theorem ggX1_doStep_X1_doTry : GoodIn wsX1_doStep wsX1_doTry := goodIn_r _ [120, 111, 112, 113, 17, 117, 40, 118, 101, 2, 102, 103, 88, 104, 105, 106, 42, 43, 44, 107, 108, 109, 110, 114, 115, 3, 116, 34, 35, 36, 37, 38, 39, 41, 73, 74, 75, 76, 1, 77, 78, 79, 48, 49, 50, 51, 52, 53, 80, 5, 81, 82, 83, 84, 85, 86, 87, 89, 8, 9, 10, 11, 12, 13, 93, 94, 95, 96, 97, 98, 99, 100, 119, 0, 4, 6, 7, 14, 15, 16, 18, 19, 20, 21, 22, 23, 24, 25, 26, 27, 28, 29, 30, 31, 32, 33, 45, 46, 47, 54, 55, 56, 57, 58, 59, 60, 61, 62, 63, 64, 65, 66, 67, 68, 69, 70, 71, 72, 90, 91, 92, 121, 122, 123, 124, 125, 126, 127, 128, 129, 130, 131, 132, 133, 134, 135, 136, 137, 138, 139, 140, 141] (by decide +kernel) (by decide +kernel)
set_option maxRecDepth 20000 in
theorem gX1_doStep_X1_doTry : GoodIn wsX1_doStep (wsV RX1 81 RX1 yX1_doTry wsX1_doTry) := goodIn_app (goodIn_of _ (by decide +kernel)) ggX1_doStep_X1_doTry
set_option maxRecDepth 20000 in
theorem ggX1_doStep_X1_doBoth : GoodIn wsX1_doStep wsX1_doBoth := goodIn_r _ [110, 111, 112, 113, 17, 101, 2, 102, 103, 88, 104, 105, 40, 106, 42, 43, 44, 107, 108, 109, 114, 115, 3, 116, 34, 35, 36, 37, 38, 39, 41, 73, 74, 75, 76, 1, 77, 78, 79, 48, 49, 50, 51, 52, 53, 80, 5, 81, 82, 83, 84, 85, 86, 87, 89, 8, 9, 10, 11, 12, 13, 117, 118, 93, 94, 95, 96, 97, 98, 99, 100, 119, 0, 4, 6, 7, 14, 15, 16, 18, 19, 20, 21, 22, 23, 24, 25, 26, 27, 28, 29, 30, 31, 32, 33, 45, 46, 47, 54, 55, 56, 57, 58, 59, 60, 61, 62, 63, 64, 65, 66, 67, 68, 69, 70, 71, 72, 90, 91, 92, 120, 121, 122, 123, 124, 125, 126, 127, 128, 129, 130, 131, 132, 133, 134, 135, 136, 137, 138, 139, 140, 141] (by decide +kernel) (by decide +kernel)
set_option maxRecDepth 20000 in
theorem gX1_doStep_X1_doBoth : GoodIn wsX1_doStep (wsV RX1 85 RX1 yX1_doBoth wsX1_doBoth) := goodIn_app (goodIn_of _ (by decide +kernel)) ggX1_doStep_X1_doBoth
set_option maxRecDepth 20000 in
theorem ggX1_doStep_X1_doCall : GoodIn wsX1_doStep wsX1_doCall := goodIn_r _ [114, 111, 112, 113, 17, 101, 2, 102, 103, 88, 104, 105, 40, 106, 42, 43, 44, 107, 108, 109, 110, 115, 3, 116, 34, 35, 36, 37, 38, 39, 41, 73, 74, 75, 76, 1, 77, 78, 79, 48, 49, 50, 51, 52, 53, 80, 5, 81, 82, 83, 84, 85, 86, 87, 89, 8, 9, 10, 11, 12, 13, 117, 118, 93, 94, 95, 96, 97, 98, 99, 100, 119, 0, 4, 6, 7, 14, 15, 16, 18, 19, 20, 21, 22, 23, 24, 25, 26, 27, 28, 29, 30, 31, 32, 33, 45, 46, 47, 54, 55, 56, 57, 58, 59, 60, 61, 62, 63, 64, 65, 66, 67, 68, 69, 70, 71, 72, 90, 91, 92, 120, 121, 122, 123, 124, 125, 126, 127, 128, 129, 130, 131, 132, 133, 134, 135, 136, 137, 138, 139, 140, 141] (by decide +kernel) (by decide +kernel)
set_option maxRecDepth 20000 in
theorem gX1_doStep_X1_doCall : GoodIn wsX1_doStep (wsV RX1 88 RX1 yX1_doCall wsX1_doCall) := goodIn_app (goodIn_of _ (by decide +kernel)) ggX1_doStep_X1_doCall
set_option maxRecDepth 20000 in
theorem ggX1_doStep_X1_doAdd : GoodIn wsX1_doStep wsX1_doAdd := goodIn_r _ [33, 3, 34, 35, 36, 37, 38, 39, 40, 41, 42, 43, 44, 45, 46, 47, 48, 49, 50, 51, 52, 53, 54, 55, 56, 57, 121, 122, 123, 124, 131, 132, 133, 134] (by decide +kernel) (by decide +kernel)
set_option maxRecDepth 20000 in
theorem gX1_doStep_X1_doAdd : GoodIn wsX1_doStep (wsV RX1 91 RX1 yX1_doAdd wsX1_doAdd) := goodIn_app (goodIn_of _ (by decide +kernel)) ggX1_doStep_X1_doAdd
set_option maxRecDepth 20000 in
theorem ggX1_doStep_X2_thingIn : GoodIn wsX1_doStep wsX2_thingIn := goodIn_r _ [37, 38, 39, 40, 41, 42, 43, 44, 131, 132, 133, 134] (by decide +kernel) (by decide +kernel)
set_option maxRecDepth 20000 in
theorem gX1_doStep_X2_thingIn_n94 : GoodIn wsX1_doStep (wsX2_thingIn) := ggX1_doStep_X2_thingIn
set_option maxRecDepth 20000 in
theorem ggX1_doStep_X2_put : GoodIn wsX1_doStep wsX2_put := goodIn_r _ [60, 38, 39, 40, 41, 42, 43, 44, 131, 132, 133, 134] (by decide +kernel) (by decide +kernel)
set_option maxRecDepth 20000 in
theorem gX1_doStep_X2_put_n98 : GoodIn wsX1_doStep (wsX2_put) := ggX1_doStep_X2_put
set_option maxRecDepth 20000 in
theorem ggX1_doStep_X1_doNew : GoodIn wsX1_doStep wsX1_doNew := goodIn_r _ [64, 3, 65, 35, 66, 67, 53, 68, 58, 59, 60, 38, 39, 40, 41, 42, 43, 44, 121, 122, 123, 124, 131, 132, 133, 134] (by decide +kernel) (by decide +kernel)
set_option maxRecDepth 20000 in
theorem gX1_doStep_X1_doNew : GoodIn wsX1_doStep (wsV RX1 102 RX1 yX1_doNew wsX1_doNew) := goodIn_app (goodIn_of _ (by decide +kernel)) ggX1_doStep_X1_doNew
set_option maxRecDepth 20000 in
theorem ggX1_doStep_X1_doSweep : GoodIn wsX1_doStep wsX1_doSweep := goodIn_r _ [72, 3, 1, 34, 35, 36, 37, 38, 39, 40, 41, 42, 43, 44, 73, 74, 75, 17, 76, 77, 78, 79, 48, 49, 50, 51, 52, 53, 80, 5, 81, 82, 83, 84, 85, 86, 87, 88, 89, 8, 9, 10, 11, 12, 13, 90, 91, 92, 57, 93, 94, 95, 96, 97, 98, 99, 100, 4, 6, 7, 121, 122, 123, 124, 131, 132, 133, 134, 135, 136, 137, 138, 139, 140, 141] (by decide +kernel) (by decide +kernel)
set_option maxRecDepth 20000 in
theorem gX1_doStep_X1_doSweep : GoodIn wsX1_doStep (wsV RX1 105 RX1 yX1_doSweep wsX1_doSweep) := goodIn_app (goodIn_of _ (by decide +kernel)) ggX1_doStep_X1_doSweep
theorem dX1_doStep_0 : decode cX1_doStep 0 = .ok (.aload_n 0, 1) := by decide +kernel
theorem dX1_doStep_1 : decode cX1_doStep 1 = .ok (.getfield 28, 3) := by decide +kernel
theorem dX1_doStep_4 : decode cX1_doStep 4 = .ok (.getfield 54, 3) := by decide +kernel
theorem dX1_doStep_7 : decode cX1_doStep 7 = .ok (.sipush 300, 3) := by decide +kernel
theorem dX1_doStep_10 : decode cX1_doStep 10 = .ok (.if_icmp .lt 5, 3) := by decide +kernel
theorem dX1_doStep_13 : decode cX1_doStep 13 = .ok (.iconst 5, 1) := by decide +kernel
theorem dX1_doStep_14 : decode cX1_doStep 14 = .ok (.ireturn, 1) := by decide +kernel
theorem dX1_doStep_15 : decode cX1_doStep 15 = .ok (.aload_n 0, 1) := by decide +kernel
theorem dX1_doStep_16 : decode cX1_doStep 16 = .ok (.getfield 28, 3) := by decide +kernel
theorem dX1_doStep_19 : decode cX1_doStep 19 = .ok (.dup, 1) := by decide +kernel
theorem dX1_doStep_20 : decode cX1_doStep 20 = .ok (.getfield 54, 3) := by decide +kernel
theorem dX1_doStep_23 : decode cX1_doStep 23 = .ok (.iconst 1, 1) := by decide +kernel
theorem dX1_doStep_24 : decode cX1_doStep 24 = .ok (.iadd, 1) := by decide +kernel
theorem dX1_doStep_25 : decode cX1_doStep 25 = .ok (.putfield 54, 3) := by decide +kernel
theorem dX1_doStep_28 : decode cX1_doStep 28 = .ok (.aload_n 0, 1) := by decide +kernel
theorem dX1_doStep_29 : decode cX1_doStep 29 = .ok (.getfield 21, 3) := by decide +kernel
theorem dX1_doStep_32 : decode cX1_doStep 32 = .ok (.getfield 57, 3) := by decide +kernel
theorem dX1_doStep_35 : decode cX1_doStep 35 = .ok (.iload_n 2, 1) := by decide +kernel
theorem dX1_doStep_36 : decode cX1_doStep 36 = .ok (.iaload, 1) := by decide +kernel
theorem dX1_doStep_37 : decode cX1_doStep 37 = .ok (.istore 4, 2) := by decide +kernel
theorem dX1_doStep_39 : decode cX1_doStep 39 = .ok (.aload_n 0, 1) := by decide +kernel
theorem dX1_doStep_40 : decode cX1_doStep 40 = .ok (.getfield 21, 3) := by decide +kernel
theorem dX1_doStep_43 : decode cX1_doStep 43 = .ok (.getfield 60, 3) := by decide +kernel
theorem dX1_doStep_46 : decode cX1_doStep 46 = .ok (.iload_n 2, 1) := by decide +kernel
theorem dX1_doStep_47 : decode cX1_doStep 47 = .ok (.iaload, 1) := by decide +kernel
theorem dX1_doStep_48 : decode cX1_doStep 48 = .ok (.istore 5, 2) := by decide +kernel
theorem dX1_doStep_50 : decode cX1_doStep 50 = .ok (.aload_n 0, 1) := by decide +kernel
theorem dX1_doStep_51 : decode cX1_doStep 51 = .ok (.getfield 21, 3) := by decide +kernel
theorem dX1_doStep_54 : decode cX1_doStep 54 = .ok (.getfield 63, 3) := by decide +kernel
theorem dX1_doStep_57 : decode cX1_doStep 57 = .ok (.iload_n 2, 1) := by decide +kernel
theorem dX1_doStep_58 : decode cX1_doStep 58 = .ok (.iaload, 1) := by decide +kernel
theorem dX1_doStep_59 : decode cX1_doStep 59 = .ok (.istore 6, 2) := by decide +kernel
theorem dX1_doStep_61 : decode cX1_doStep 61 = .ok (.aload_n 0, 1) := by decide +kernel
theorem dX1_doStep_62 : decode cX1_doStep 62 = .ok (.getfield 21, 3) := by decide +kernel
theorem dX1_doStep_65 : decode cX1_doStep 65 = .ok (.getfield 66, 3) := by decide +kernel
theorem dX1_doStep_68 : decode cX1_doStep 68 = .ok (.iload_n 2, 1) := by decide +kernel
theorem dX1_doStep_69 : decode cX1_doStep 69 = .ok (.iaload, 1) := by decide +kernel
theorem dX1_doStep_70 : decode cX1_doStep 70 = .ok (.tableswitch 222 0 14 #[74, 85, 96, 106, 116, 126, 128, 134, 147, 158, 166, 175, 195, 202, 214], 74) := by decide +kernel
theorem dX1_doStep_144 : decode cX1_doStep 144 = .ok (.aload_n 0, 1) := by decide +kernel
theorem dX1_doStep_145 : decode cX1_doStep 145 = .ok (.getfield 28, 3) := by decide +kernel
theorem dX1_doStep_148 : decode cX1_doStep 148 = .ok (.iload 4, 2) := by decide +kernel
theorem dX1_doStep_150 : decode cX1_doStep 150 = .ok (.invokevirtual 69, 3) := by decide +kernel
theorem dX1_doStep_153 : decode cX1_doStep 153 = .ok (.iconst 0, 1) := by decide +kernel
theorem dX1_doStep_154 : decode cX1_doStep 154 = .ok (.ireturn, 1) := by decide +kernel
theorem dX1_doStep_155 : decode cX1_doStep 155 = .ok (.aload_n 0, 1) := by decide +kernel
theorem dX1_doStep_156 : decode cX1_doStep 156 = .ok (.iload 4, 2) := by decide +kernel
theorem dX1_doStep_158 : decode cX1_doStep 158 = .ok (.iload 5, 2) := by decide +kernel
theorem dX1_doStep_160 : decode cX1_doStep 160 = .ok (.iload_n 1, 1) := by decide +kernel
theorem dX1_doStep_161 : decode cX1_doStep 161 = .ok (.iload_n 3, 1) := by decide +kernel
theorem dX1_doStep_162 : decode cX1_doStep 162 = .ok (.invokevirtual 73, 3) := by decide +kernel
theorem dX1_doStep_165 : decode cX1_doStep 165 = .ok (.ireturn, 1) := by decide +kernel
theorem dX1_doStep_166 : decode cX1_doStep 166 = .ok (.aload_n 0, 1) := by decide +kernel
theorem dX1_doStep_167 : decode cX1_doStep 167 = .ok (.iload 4, 2) := by decide +kernel
theorem dX1_doStep_169 : decode cX1_doStep 169 = .ok (.iload 5, 2) := by decide +kernel
theorem dX1_doStep_171 : decode cX1_doStep 171 = .ok (.iload_n 1, 1) := by decide +kernel
theorem dX1_doStep_172 : decode cX1_doStep 172 = .ok (.invokevirtual 77, 3) := by decide +kernel
theorem dX1_doStep_175 : decode cX1_doStep 175 = .ok (.ireturn, 1) := by decide +kernel
theorem dX1_doStep_176 : decode cX1_doStep 176 = .ok (.iload_n 3, 1) := by decide +kernel
theorem dX1_doStep_177 : decode cX1_doStep 177 = .ok (.ifCond .eq 7, 3) := by decide +kernel
theorem dX1_doStep_180 : decode cX1_doStep 180 = .ok (.iconst 1, 1) := by decide +kernel
theorem dX1_doStep_181 : decode cX1_doStep 181 = .ok (.goto 4, 3) := by decide +kernel
theorem dX1_doStep_184 : decode cX1_doStep 184 = .ok (.iconst 3, 1) := by decide +kernel
theorem dX1_doStep_185 : decode cX1_doStep 185 = .ok (.ireturn, 1) := by decide +kernel
theorem dX1_doStep_186 : decode cX1_doStep 186 = .ok (.iload_n 3, 1) := by decide +kernel
theorem dX1_doStep_187 : decode cX1_doStep 187 = .ok (.ifCond .eq 7, 3) := by decide +kernel
theorem dX1_doStep_190 : decode cX1_doStep 190 = .ok (.iconst 2, 1) := by decide +kernel
theorem dX1_doStep_191 : decode cX1_doStep 191 = .ok (.goto 4, 3) := by decide +kernel
theorem dX1_doStep_194 : decode cX1_doStep 194 = .ok (.iconst 3, 1) := by decide +kernel
theorem dX1_doStep_195 : decode cX1_doStep 195 = .ok (.ireturn, 1) := by decide +kernel
theorem dX1_doStep_196 : decode cX1_doStep 196 = .ok (.iconst 3, 1) := by decide +kernel
theorem dX1_doStep_197 : decode cX1_doStep 197 = .ok (.ireturn, 1) := by decide +kernel
theorem dX1_doStep_198 : decode cX1_doStep 198 = .ok (.bipush 100, 2) := by decide +kernel
theorem dX1_doStep_200 : decode cX1_doStep 200 = .ok (.iload 4, 2) := by decide +kernel
theorem dX1_doStep_202 : decode cX1_doStep 202 = .ok (.iadd, 1) := by decide +kernel
theorem dX1_doStep_203 : decode cX1_doStep 203 = .ok (.ireturn, 1) := by decide +kernel
theorem dX1_doStep_204 : decode cX1_doStep 204 = .ok (.aload_n 0, 1) := by decide +kernel
theorem dX1_doStep_205 : decode cX1_doStep 205 = .ok (.iload 4, 2) := by decide +kernel
theorem dX1_doStep_207 : decode cX1_doStep 207 = .ok (.iload 5, 2) := by decide +kernel
theorem dX1_doStep_209 : decode cX1_doStep 209 = .ok (.iload 6, 2) := by decide +kernel
theorem dX1_doStep_211 : decode cX1_doStep 211 = .ok (.iload_n 1, 1) := by decide +kernel
theorem dX1_doStep_212 : decode cX1_doStep 212 = .ok (.iload_n 3, 1) := by decide +kernel
theorem dX1_doStep_213 : decode cX1_doStep 213 = .ok (.invokevirtual 81, 3) := by decide +kernel
theorem dX1_doStep_216 : decode cX1_doStep 216 = .ok (.ireturn, 1) := by decide +kernel
theorem dX1_doStep_217 : decode cX1_doStep 217 = .ok (.aload_n 0, 1) := by decide +kernel
theorem dX1_doStep_218 : decode cX1_doStep 218 = .ok (.iload 5, 2) := by decide +kernel
theorem dX1_doStep_220 : decode cX1_doStep 220 = .ok (.iload 6, 2) := by decide +kernel
theorem dX1_doStep_222 : decode cX1_doStep 222 = .ok (.iload_n 1, 1) := by decide +kernel
theorem dX1_doStep_223 : decode cX1_doStep 223 = .ok (.iload_n 3, 1) := by decide +kernel
theorem dX1_doStep_224 : decode cX1_doStep 224 = .ok (.invokevirtual 85, 3) := by decide +kernel
theorem dX1_doStep_227 : decode cX1_doStep 227 = .ok (.ireturn, 1) := by decide +kernel
theorem dX1_doStep_228 : decode cX1_doStep 228 = .ok (.aload_n 0, 1) := by decide +kernel
theorem dX1_doStep_229 : decode cX1_doStep 229 = .ok (.iload 5, 2) := by decide +kernel
theorem dX1_doStep_231 : decode cX1_doStep 231 = .ok (.iload_n 1, 1) := by decide +kernel
theorem dX1_doStep_232 : decode cX1_doStep 232 = .ok (.invokevirtual 88, 3) := by decide +kernel
theorem dX1_doStep_235 : decode cX1_doStep 235 = .ok (.ireturn, 1) := by decide +kernel
theorem dX1_doStep_236 : decode cX1_doStep 236 = .ok (.aload_n 0, 1) := by decide +kernel
theorem dX1_doStep_237 : decode cX1_doStep 237 = .ok (.iload 4, 2) := by decide +kernel
theorem dX1_doStep_239 : decode cX1_doStep 239 = .ok (.iload 5, 2) := by decide +kernel
theorem dX1_doStep_241 : decode cX1_doStep 241 = .ok (.invokevirtual 91, 3) := by decide +kernel
theorem dX1_doStep_244 : decode cX1_doStep 244 = .ok (.ireturn, 1) := by decide +kernel
theorem dX1_doStep_245 : decode cX1_doStep 245 = .ok (.aload_n 0, 1) := by decide +kernel
theorem dX1_doStep_246 : decode cX1_doStep 246 = .ok (.getfield 12, 3) := by decide +kernel
theorem dX1_doStep_249 : decode cX1_doStep 249 = .ok (.iload 4, 2) := by decide +kernel
theorem dX1_doStep_251 : decode cX1_doStep 251 = .ok (.aload_n 0, 1) := by decide +kernel
theorem dX1_doStep_252 : decode cX1_doStep 252 = .ok (.getfield 12, 3) := by decide +kernel
theorem dX1_doStep_255 : decode cX1_doStep 255 = .ok (.iload 5, 2) := by decide +kernel
theorem dX1_doStep_257 : decode cX1_doStep 257 = .ok (.invokevirtual 94, 3) := by decide +kernel
theorem dX1_doStep_260 : decode cX1_doStep 260 = .ok (.invokevirtual 98, 3) := by decide +kernel
theorem dX1_doStep_263 : decode cX1_doStep 263 = .ok (.iconst 0, 1) := by decide +kernel
theorem dX1_doStep_264 : decode cX1_doStep 264 = .ok (.ireturn, 1) := by decide +kernel
theorem dX1_doStep_265 : decode cX1_doStep 265 = .ok (.aload_n 0, 1) := by decide +kernel
theorem dX1_doStep_266 : decode cX1_doStep 266 = .ok (.iload 4, 2) := by decide +kernel
theorem dX1_doStep_268 : decode cX1_doStep 268 = .ok (.invokevirtual 102, 3) := by decide +kernel
theorem dX1_doStep_271 : decode cX1_doStep 271 = .ok (.ireturn, 1) := by decide +kernel
theorem dX1_doStep_272 : decode cX1_doStep 272 = .ok (.aload_n 0, 1) := by decide +kernel
theorem dX1_doStep_273 : decode cX1_doStep 273 = .ok (.getfield 12, 3) := by decide +kernel
theorem dX1_doStep_276 : decode cX1_doStep 276 = .ok (.iload 4, 2) := by decide +kernel
theorem dX1_doStep_278 : decode cX1_doStep 278 = .ok (.iconst (-1), 1) := by decide +kernel
theorem dX1_doStep_279 : decode cX1_doStep 279 = .ok (.invokevirtual 98, 3) := by decide +kernel
theorem dX1_doStep_282 : decode cX1_doStep 282 = .ok (.iconst 0, 1) := by decide +kernel
theorem dX1_doStep_283 : decode cX1_doStep 283 = .ok (.ireturn, 1) := by decide +kernel
theorem dX1_doStep_284 : decode cX1_doStep 284 = .ok (.aload_n 0, 1) := by decide +kernel
theorem dX1_doStep_285 : decode cX1_doStep 285 = .ok (.iload 4, 2) := by decide +kernel
theorem dX1_doStep_287 : decode cX1_doStep 287 = .ok (.invokevirtual 105, 3) := by decide +kernel
theorem dX1_doStep_290 : decode cX1_doStep 290 = .ok (.iconst 0, 1) := by decide +kernel
theorem dX1_doStep_291 : decode cX1_doStep 291 = .ok (.ireturn, 1) := by decide +kernel
theorem dX1_doStep_292 : decode cX1_doStep 292 = .ok (.iconst 0, 1) := by decide +kernel
theorem dX1_doStep_293 : decode cX1_doStep 293 = .ok (.ireturn, 1) := by decide +kernel
set_option maxRecDepth 20000 in
theorem ggX1_doHold_X2_thingIn : GoodIn wsX1_doHold wsX2_thingIn := goodIn_r _ [6, 7, 8, 9, 10, 11, 12, 13, 131, 132, 133, 134] (by decide +kernel) (by decide +kernel)
set_option maxRecDepth 20000 in
theorem gX1_doHold_X2_thingIn_n94 : GoodIn wsX1_doHold (wsX2_thingIn) := ggX1_doHold_X2_thingIn
set_option maxRecDepth 20000 in
theorem ggX1_doHold_X1_beginHold : GoodIn wsX1_doHold wsX1_beginHold := goodIn_r _ [18, 1, 19, 20, 4, 21, 22, 23, 24, 25, 26, 27, 28, 29, 30, 31, 32, 33, 34, 35, 36, 37, 38, 39, 40, 41, 42, 43, 44, 45, 121, 122, 123, 124, 131, 132, 133, 134, 135, 136, 137, 138, 139, 140, 141] (by decide +kernel) (by decide +kernel)
set_option maxRecDepth 20000 in
theorem gX1_doHold_X1_beginHold : GoodIn wsX1_doHold (wsV RX1 108 RX1 yX1_beginHold wsX1_beginHold) := goodIn_app (goodIn_of _ (by decide +kernel)) ggX1_doHold_X1_beginHold
set_option maxRecDepth 20000 in
theorem ggX1_doHold_X1_doBlock : GoodIn wsX1_doHold wsX1_doBlock := goodIn_r _ [59, 60, 61, 62, 38, 63, 64, 9, 65, 11, 12, 13, 66, 67, 68, 17, 69, 46, 47, 48, 70, 0, 1, 2, 3, 4, 5, 6, 7, 8, 10, 14, 15, 16, 18, 19, 20, 21, 22, 23, 24, 25, 26, 27, 28, 29, 30, 31, 32, 33, 34, 35, 36, 37, 39, 40, 41, 42, 43, 44, 45, 49, 50, 51, 52, 53, 54, 55, 56, 57, 58, 71, 72, 73, 74, 75, 76, 77, 78, 79, 80, 81, 82, 83, 84, 85, 86, 87, 88, 89, 90, 91, 92, 93, 94, 95, 96, 97, 98, 99, 100, 101, 102, 103, 104, 105, 106, 107, 108, 109, 110, 111, 112, 113, 114, 115, 116, 117, 118, 119, 120, 121, 122, 123, 124, 125, 126, 127, 128, 129, 130, 131, 132, 133, 134, 135, 136, 137, 138, 139, 140, 141] (by decide +kernel) (by decide +kernel)
set_option maxRecDepth 20000 in
theorem gX1_doHold_X1_doBlock : GoodIn wsX1_doHold (wsV RX1 111 RX1 yX1_doBlock wsX1_doBlock) := goodIn_app (goodIn_of _ (by decide +kernel)) ggX1_doHold_X1_doBlock
set_option maxRecDepth 20000 in
theorem ggX1_doHold_X4_isThrown : GoodIn wsX1_doHold wsX4_isThrown := goodIn_r _ [50] (by decide +kernel) (by decide +kernel)
set_option maxRecDepth 20000 in
theorem gX1_doHold_X4_isThrown_n114 : GoodIn wsX1_doHold (wsX4_isThrown) := ggX1_doHold_X4_isThrown
set_option maxRecDepth 20000 in
theorem ggX1_doHold_X1_leaveHold : GoodIn wsX1_doHold wsX1_leaveHold := goodIn_r _ [54, 1, 19, 20, 4, 21, 22, 23, 24, 25, 26, 27, 28, 55, 30, 56, 57, 34, 58, 40, 41, 42, 43, 44, 45, 121, 122, 123, 124, 131, 132, 133, 134, 135, 136, 137, 138, 139, 140, 141] (by decide +kernel) (by decide +kernel)
set_option maxRecDepth 20000 in
theorem gX1_doHold_X1_leaveHold : GoodIn wsX1_doHold (wsV RX1 117 RX1 yX1_leaveHold wsX1_leaveHold) := goodIn_app (goodIn_of _ (by decide +kernel)) ggX1_doHold_X1_leaveHold
theorem dX1_doHold_0 : decode cX1_doHold 0 = .ok (.aload_n 0, 1) := by decide +kernel
theorem dX1_doHold_1 : decode cX1_doHold 1 = .ok (.getfield 12, 3) := by decide +kernel
theorem dX1_doHold_4 : decode cX1_doHold 4 = .ok (.iload_n 1, 1) := by decide +kernel
theorem dX1_doHold_5 : decode cX1_doHold 5 = .ok (.invokevirtual 94, 3) := by decide +kernel
theorem dX1_doHold_8 : decode cX1_doHold 8 = .ok (.istore 5, 2) := by decide +kernel
theorem dX1_doHold_10 : decode cX1_doHold 10 = .ok (.iload 5, 2) := by decide +kernel
theorem dX1_doHold_12 : decode cX1_doHold 12 = .ok (.iconst (-1), 1) := by decide +kernel
theorem dX1_doHold_13 : decode cX1_doHold 13 = .ok (.if_icmp .ne 16, 3) := by decide +kernel
theorem dX1_doHold_16 : decode cX1_doHold 16 = .ok (.aload_n 0, 1) := by decide +kernel
theorem dX1_doHold_17 : decode cX1_doHold 17 = .ok (.dup, 1) := by decide +kernel
theorem dX1_doHold_18 : decode cX1_doHold 18 = .ok (.getfield 32, 3) := by decide +kernel
theorem dX1_doHold_21 : decode cX1_doHold 21 = .ok (.iconst 1, 1) := by decide +kernel
theorem dX1_doHold_22 : decode cX1_doHold 22 = .ok (.iadd, 1) := by decide +kernel
theorem dX1_doHold_23 : decode cX1_doHold 23 = .ok (.putfield 32, 3) := by decide +kernel
theorem dX1_doHold_26 : decode cX1_doHold 26 = .ok (.bipush 112, 2) := by decide +kernel
theorem dX1_doHold_28 : decode cX1_doHold 28 = .ok (.ireturn, 1) := by decide +kernel
theorem dX1_doHold_29 : decode cX1_doHold 29 = .ok (.aload_n 0, 1) := by decide +kernel
theorem dX1_doHold_30 : decode cX1_doHold 30 = .ok (.iload 5, 2) := by decide +kernel
theorem dX1_doHold_32 : decode cX1_doHold 32 = .ok (.invokevirtual 108, 3) := by decide +kernel
theorem dX1_doHold_35 : decode cX1_doHold 35 = .ok (.aload_n 0, 1) := by decide +kernel
theorem dX1_doHold_36 : decode cX1_doHold 36 = .ok (.iload_n 2, 1) := by decide +kernel
theorem dX1_doHold_37 : decode cX1_doHold 37 = .ok (.iload_n 3, 1) := by decide +kernel
theorem dX1_doHold_38 : decode cX1_doHold 38 = .ok (.iload 4, 2) := by decide +kernel
theorem dX1_doHold_40 : decode cX1_doHold 40 = .ok (.invokevirtual 111, 3) := by decide +kernel
theorem dX1_doHold_43 : decode cX1_doHold 43 = .ok (.istore 6, 2) := by decide +kernel
theorem dX1_doHold_45 : decode cX1_doHold 45 = .ok (.aload_n 0, 1) := by decide +kernel
theorem dX1_doHold_46 : decode cX1_doHold 46 = .ok (.iload 5, 2) := by decide +kernel
theorem dX1_doHold_48 : decode cX1_doHold 48 = .ok (.iload 6, 2) := by decide +kernel
theorem dX1_doHold_50 : decode cX1_doHold 50 = .ok (.invokestatic 114, 3) := by decide +kernel
theorem dX1_doHold_53 : decode cX1_doHold 53 = .ok (.ifCond .eq 7, 3) := by decide +kernel
theorem dX1_doHold_56 : decode cX1_doHold 56 = .ok (.iconst 4, 1) := by decide +kernel
theorem dX1_doHold_57 : decode cX1_doHold 57 = .ok (.goto 5, 3) := by decide +kernel
theorem dX1_doHold_60 : decode cX1_doHold 60 = .ok (.iload 6, 2) := by decide +kernel
theorem dX1_doHold_62 : decode cX1_doHold 62 = .ok (.invokevirtual 117, 3) := by decide +kernel
theorem dX1_doHold_65 : decode cX1_doHold 65 = .ok (.iload 6, 2) := by decide +kernel
theorem dX1_doHold_67 : decode cX1_doHold 67 = .ok (.ireturn, 1) := by decide +kernel
set_option maxRecDepth 20000 in
theorem ggX1_beginHold_X2_deepen : GoodIn wsX1_beginHold wsX2_deepen := goodIn_r _ [6, 7, 8, 9, 10, 4, 11, 12, 34, 35, 36, 37] (by decide +kernel) (by decide +kernel)
set_option maxRecDepth 20000 in
theorem gX1_beginHold_X2_deepen_n120 : GoodIn wsX1_beginHold (wsX2_deepen) := ggX1_beginHold_X2_deepen
set_option maxRecDepth 20000 in
theorem ggX1_beginHold_X3_enterBegun : GoodIn wsX1_beginHold wsX3_enterBegun := goodIn_r _ [16, 17, 18, 19, 20, 21, 22, 23, 24, 25, 26, 14, 27, 28, 29, 38, 39, 40, 41, 42, 43, 44] (by decide +kernel) (by decide +kernel)
set_option maxRecDepth 20000 in
theorem gX1_beginHold_X3_enterBegun_n123 : GoodIn wsX1_beginHold (wsX3_enterBegun) := ggX1_beginHold_X3_enterBegun
theorem dX1_beginHold_0 : decode cX1_beginHold 0 = .ok (.aload_n 0, 1) := by decide +kernel
theorem dX1_beginHold_1 : decode cX1_beginHold 1 = .ok (.getfield 12, 3) := by decide +kernel
theorem dX1_beginHold_4 : decode cX1_beginHold 4 = .ok (.iload_n 1, 1) := by decide +kernel
theorem dX1_beginHold_5 : decode cX1_beginHold 5 = .ok (.iconst 1, 1) := by decide +kernel
theorem dX1_beginHold_6 : decode cX1_beginHold 6 = .ok (.invokevirtual 120, 3) := by decide +kernel
theorem dX1_beginHold_9 : decode cX1_beginHold 9 = .ok (.aload_n 0, 1) := by decide +kernel
theorem dX1_beginHold_10 : decode cX1_beginHold 10 = .ok (.getfield 28, 3) := by decide +kernel
theorem dX1_beginHold_13 : decode cX1_beginHold 13 = .ok (.iload_n 1, 1) := by decide +kernel
theorem dX1_beginHold_14 : decode cX1_beginHold 14 = .ok (.invokevirtual 123, 3) := by decide +kernel
theorem dX1_beginHold_17 : decode cX1_beginHold 17 = .ok (.return_, 1) := by decide +kernel
set_option maxRecDepth 20000 in
theorem ggX1_leaveHold_X2_deepen : GoodIn wsX1_leaveHold wsX2_deepen := goodIn_r _ [6, 7, 8, 9, 10, 4, 11, 12, 29, 30, 31, 32] (by decide +kernel) (by decide +kernel)
set_option maxRecDepth 20000 in
theorem gX1_leaveHold_X2_deepen_n120 : GoodIn wsX1_leaveHold (wsX2_deepen) := ggX1_leaveHold_X2_deepen
set_option maxRecDepth 20000 in
theorem ggX1_leaveHold_X3_enterLeft : GoodIn wsX1_leaveHold wsX3_enterLeft := goodIn_r _ [16, 17, 18, 19, 20, 21, 14, 22, 23, 24, 33, 34, 35, 36, 37, 38, 39] (by decide +kernel) (by decide +kernel)
set_option maxRecDepth 20000 in
theorem gX1_leaveHold_X3_enterLeft_n126 : GoodIn wsX1_leaveHold (wsX3_enterLeft) := ggX1_leaveHold_X3_enterLeft
theorem dX1_leaveHold_0 : decode cX1_leaveHold 0 = .ok (.aload_n 0, 1) := by decide +kernel
theorem dX1_leaveHold_1 : decode cX1_leaveHold 1 = .ok (.getfield 12, 3) := by decide +kernel
theorem dX1_leaveHold_4 : decode cX1_leaveHold 4 = .ok (.iload_n 1, 1) := by decide +kernel
theorem dX1_leaveHold_5 : decode cX1_leaveHold 5 = .ok (.iconst (-1), 1) := by decide +kernel
theorem dX1_leaveHold_6 : decode cX1_leaveHold 6 = .ok (.invokevirtual 120, 3) := by decide +kernel
theorem dX1_leaveHold_9 : decode cX1_leaveHold 9 = .ok (.aload_n 0, 1) := by decide +kernel
theorem dX1_leaveHold_10 : decode cX1_leaveHold 10 = .ok (.getfield 28, 3) := by decide +kernel
theorem dX1_leaveHold_13 : decode cX1_leaveHold 13 = .ok (.iload_n 1, 1) := by decide +kernel
theorem dX1_leaveHold_14 : decode cX1_leaveHold 14 = .ok (.iload_n 2, 1) := by decide +kernel
theorem dX1_leaveHold_15 : decode cX1_leaveHold 15 = .ok (.invokevirtual 126, 3) := by decide +kernel
theorem dX1_leaveHold_18 : decode cX1_leaveHold 18 = .ok (.return_, 1) := by decide +kernel
set_option maxRecDepth 20000 in
theorem ggX1_doLoop_X1_doBlock : GoodIn wsX1_doLoop wsX1_doBlock := goodIn_r _ [9, 10, 1, 2, 3, 4, 11, 12, 13, 14, 15, 16, 17, 18, 19, 8, 20, 5, 6, 7, 21, 22, 23, 24, 25, 26, 27, 28, 29, 30, 31, 32, 33, 34, 35, 36, 37, 38, 39, 40, 41, 42, 43, 44, 45, 46, 47, 48, 49, 50, 51, 52, 53, 54, 55, 56, 57, 58, 59, 60, 61, 62, 63, 64, 65, 66, 67, 68, 69, 70, 71, 0, 72, 73, 74, 75, 76, 77, 78, 79, 80, 81, 82, 83, 84, 85, 86, 87, 88, 89, 90, 91, 92, 93, 94, 95, 96, 97, 98, 99, 100, 101, 102, 103, 104, 105, 106, 107, 108, 109, 110, 111, 112, 113, 114, 115, 116, 117, 118, 119, 120, 121, 122, 123, 124, 125, 126, 127, 128, 129, 130, 131, 132, 133, 134, 135, 136, 137, 138, 139, 140, 141] (by decide +kernel) (by decide +kernel)
set_option maxRecDepth 20000 in
theorem gX1_doLoop_X1_doBlock : GoodIn wsX1_doLoop (wsV RX1 111 RX1 yX1_doBlock wsX1_doBlock) := goodIn_app (goodIn_of _ (by decide +kernel)) ggX1_doLoop_X1_doBlock
theorem dX1_doLoop_0 : decode cX1_doLoop 0 = .ok (.iload_n 1, 1) := by decide +kernel
theorem dX1_doLoop_1 : decode cX1_doLoop 1 = .ok (.iconst 5, 1) := by decide +kernel
theorem dX1_doLoop_2 : decode cX1_doLoop 2 = .ok (.invokestatic 44, 3) := by decide +kernel
theorem dX1_doLoop_5 : decode cX1_doLoop 5 = .ok (.istore 4, 2) := by decide +kernel
theorem dX1_doLoop_7 : decode cX1_doLoop 7 = .ok (.iconst 0, 1) := by decide +kernel
theorem dX1_doLoop_8 : decode cX1_doLoop 8 = .ok (.istore 5, 2) := by decide +kernel
theorem dX1_doLoop_10 : decode cX1_doLoop 10 = .ok (.iload 5, 2) := by decide +kernel
theorem dX1_doLoop_12 : decode cX1_doLoop 12 = .ok (.iload 4, 2) := by decide +kernel
theorem dX1_doLoop_14 : decode cX1_doLoop 14 = .ok (.if_icmp .ge 40, 3) := by decide +kernel
theorem dX1_doLoop_17 : decode cX1_doLoop 17 = .ok (.aload_n 0, 1) := by decide +kernel
theorem dX1_doLoop_18 : decode cX1_doLoop 18 = .ok (.iload_n 2, 1) := by decide +kernel
theorem dX1_doLoop_19 : decode cX1_doLoop 19 = .ok (.iload_n 3, 1) := by decide +kernel
theorem dX1_doLoop_20 : decode cX1_doLoop 20 = .ok (.iconst 1, 1) := by decide +kernel
theorem dX1_doLoop_21 : decode cX1_doLoop 21 = .ok (.invokevirtual 111, 3) := by decide +kernel
theorem dX1_doLoop_24 : decode cX1_doLoop 24 = .ok (.istore 6, 2) := by decide +kernel
theorem dX1_doLoop_26 : decode cX1_doLoop 26 = .ok (.iload 6, 2) := by decide +kernel
theorem dX1_doLoop_28 : decode cX1_doLoop 28 = .ok (.iconst 1, 1) := by decide +kernel
theorem dX1_doLoop_29 : decode cX1_doLoop 29 = .ok (.if_icmp .ne 5, 3) := by decide +kernel
theorem dX1_doLoop_32 : decode cX1_doLoop 32 = .ok (.iconst 0, 1) := by decide +kernel
theorem dX1_doLoop_33 : decode cX1_doLoop 33 = .ok (.ireturn, 1) := by decide +kernel
theorem dX1_doLoop_34 : decode cX1_doLoop 34 = .ok (.iload 6, 2) := by decide +kernel
theorem dX1_doLoop_36 : decode cX1_doLoop 36 = .ok (.ifCond .eq 12, 3) := by decide +kernel
theorem dX1_doLoop_39 : decode cX1_doLoop 39 = .ok (.iload 6, 2) := by decide +kernel
theorem dX1_doLoop_41 : decode cX1_doLoop 41 = .ok (.iconst 2, 1) := by decide +kernel
theorem dX1_doLoop_42 : decode cX1_doLoop 42 = .ok (.if_icmp .eq 6, 3) := by decide +kernel
theorem dX1_doLoop_45 : decode cX1_doLoop 45 = .ok (.iload 6, 2) := by decide +kernel
theorem dX1_doLoop_47 : decode cX1_doLoop 47 = .ok (.ireturn, 1) := by decide +kernel
theorem dX1_doLoop_48 : decode cX1_doLoop 48 = .ok (.iinc 5 1, 3) := by decide +kernel
theorem dX1_doLoop_51 : decode cX1_doLoop 51 = .ok (.goto (-41), 3) := by decide +kernel
theorem dX1_doLoop_54 : decode cX1_doLoop 54 = .ok (.iconst 0, 1) := by decide +kernel
theorem dX1_doLoop_55 : decode cX1_doLoop 55 = .ok (.ireturn, 1) := by decide +kernel
set_option maxRecDepth 20000 in
theorem ggX1_doTry_X1_doBlock : GoodIn wsX1_doTry wsX1_doBlock := goodIn_r _ [8, 9, 10, 11, 12, 13, 14, 6, 15, 16, 17, 18, 19, 20, 21, 4, 22, 1, 2, 3, 23, 24, 25, 26, 27, 28, 29, 30, 31, 32, 33, 34, 35, 36, 37, 38, 39, 40, 41, 42, 43, 44, 45, 46, 47, 48, 49, 50, 51, 52, 53, 54, 55, 56, 57, 58, 59, 60, 61, 62, 63, 5, 7, 64, 65, 66, 67, 68, 69, 70, 71, 72, 73, 74, 75, 76, 77, 78, 79, 80, 81, 82, 83, 84, 85, 86, 87, 88, 89, 90, 91, 92, 93, 94, 95, 96, 97, 98, 99, 100, 101, 102, 103, 104, 105, 106, 107, 108, 109, 110, 111, 112, 113, 114, 115, 116, 117, 118, 119, 120, 0, 121, 122, 123, 124, 125, 126, 127, 128, 129, 130, 131, 132, 133, 134, 135, 136, 137, 138, 139, 140, 141] (by decide +kernel) (by decide +kernel)
set_option maxRecDepth 20000 in
theorem gX1_doTry_X1_doBlock : GoodIn wsX1_doTry (wsV RX1 111 RX1 yX1_doBlock wsX1_doBlock) := goodIn_app (goodIn_of _ (by decide +kernel)) ggX1_doTry_X1_doBlock
set_option maxRecDepth 20000 in
theorem ggX1_doTry_X4_isThrown : GoodIn wsX1_doTry wsX4_isThrown := goodIn_r _ [7] (by decide +kernel) (by decide +kernel)
set_option maxRecDepth 20000 in
theorem gX1_doTry_X4_isThrown_n114 : GoodIn wsX1_doTry (wsX4_isThrown) := ggX1_doTry_X4_isThrown
theorem dX1_doTry_0 : decode cX1_doTry 0 = .ok (.aload_n 0, 1) := by decide +kernel
theorem dX1_doTry_1 : decode cX1_doTry 1 = .ok (.iload_n 2, 1) := by decide +kernel
theorem dX1_doTry_2 : decode cX1_doTry 2 = .ok (.iload 4, 2) := by decide +kernel
theorem dX1_doTry_4 : decode cX1_doTry 4 = .ok (.iload 5, 2) := by decide +kernel
theorem dX1_doTry_6 : decode cX1_doTry 6 = .ok (.invokevirtual 111, 3) := by decide +kernel
theorem dX1_doTry_9 : decode cX1_doTry 9 = .ok (.istore 6, 2) := by decide +kernel
theorem dX1_doTry_11 : decode cX1_doTry 11 = .ok (.iload 6, 2) := by decide +kernel
theorem dX1_doTry_13 : decode cX1_doTry 13 = .ok (.invokestatic 114, 3) := by decide +kernel
theorem dX1_doTry_16 : decode cX1_doTry 16 = .ok (.ifCond .eq 20, 3) := by decide +kernel
theorem dX1_doTry_19 : decode cX1_doTry 19 = .ok (.iload_n 1, 1) := by decide +kernel
theorem dX1_doTry_20 : decode cX1_doTry 20 = .ok (.ifCond .eq 12, 3) := by decide +kernel
theorem dX1_doTry_23 : decode cX1_doTry 23 = .ok (.iload 6, 2) := by decide +kernel
theorem dX1_doTry_25 : decode cX1_doTry 25 = .ok (.bipush 100, 2) := by decide +kernel
theorem dX1_doTry_27 : decode cX1_doTry 27 = .ok (.iload_n 1, 1) := by decide +kernel
theorem dX1_doTry_28 : decode cX1_doTry 28 = .ok (.iadd, 1) := by decide +kernel
theorem dX1_doTry_29 : decode cX1_doTry 29 = .ok (.if_icmp .ne 7, 3) := by decide +kernel
theorem dX1_doTry_32 : decode cX1_doTry 32 = .ok (.iconst 1, 1) := by decide +kernel
theorem dX1_doTry_33 : decode cX1_doTry 33 = .ok (.goto 4, 3) := by decide +kernel
theorem dX1_doTry_36 : decode cX1_doTry 36 = .ok (.iconst 0, 1) := by decide +kernel
theorem dX1_doTry_37 : decode cX1_doTry 37 = .ok (.istore 7, 2) := by decide +kernel
theorem dX1_doTry_39 : decode cX1_doTry 39 = .ok (.iload 7, 2) := by decide +kernel
theorem dX1_doTry_41 : decode cX1_doTry 41 = .ok (.ifCond .eq 15, 3) := by decide +kernel
theorem dX1_doTry_44 : decode cX1_doTry 44 = .ok (.aload_n 0, 1) := by decide +kernel
theorem dX1_doTry_45 : decode cX1_doTry 45 = .ok (.iload_n 3, 1) := by decide +kernel
theorem dX1_doTry_46 : decode cX1_doTry 46 = .ok (.iload 4, 2) := by decide +kernel
theorem dX1_doTry_48 : decode cX1_doTry 48 = .ok (.iload 5, 2) := by decide +kernel
theorem dX1_doTry_50 : decode cX1_doTry 50 = .ok (.invokevirtual 111, 3) := by decide +kernel
theorem dX1_doTry_53 : decode cX1_doTry 53 = .ok (.goto 5, 3) := by decide +kernel
theorem dX1_doTry_56 : decode cX1_doTry 56 = .ok (.iload 6, 2) := by decide +kernel
theorem dX1_doTry_58 : decode cX1_doTry 58 = .ok (.ireturn, 1) := by decide +kernel
set_option maxRecDepth 20000 in
theorem ggX1_doBoth_X1_doBlock : GoodIn wsX1_doBoth wsX1_doBlock := goodIn_r _ [5, 6, 7, 8, 9, 10, 11, 12, 13, 14, 15, 16, 17, 18, 19, 4, 0, 1, 2, 3, 20, 21, 22, 23, 24, 25, 26, 27, 28, 29, 30, 31, 32, 33, 34, 35, 36, 37, 38, 39, 40, 41, 42, 43, 44, 45, 46, 47, 48, 49, 50, 51, 52, 53, 54, 55, 56, 57, 58, 59, 60, 61, 62, 63, 64, 65, 66, 67, 68, 69, 70, 71, 72, 73, 74, 75, 76, 77, 78, 79, 80, 81, 82, 83, 84, 85, 86, 87, 88, 89, 90, 91, 92, 93, 94, 95, 96, 97, 98, 99, 100, 101, 102, 103, 104, 105, 106, 107, 108, 109, 110, 111, 112, 113, 114, 115, 116, 117, 118, 119, 120, 121, 122, 123, 124, 125, 126, 127, 128, 129, 130, 131, 132, 133, 134, 135, 136, 137, 138, 139, 140, 141] (by decide +kernel) (by decide +kernel)
set_option maxRecDepth 20000 in
theorem gX1_doBoth_X1_doBlock : GoodIn wsX1_doBoth (wsV RX1 111 RX1 yX1_doBlock wsX1_doBlock) := goodIn_app (goodIn_of _ (by decide +kernel)) ggX1_doBoth_X1_doBlock
theorem dX1_doBoth_0 : decode cX1_doBoth 0 = .ok (.aload_n 0, 1) := by decide +kernel
theorem dX1_doBoth_1 : decode cX1_doBoth 1 = .ok (.iload_n 1, 1) := by decide +kernel
theorem dX1_doBoth_2 : decode cX1_doBoth 2 = .ok (.iload_n 3, 1) := by decide +kernel
theorem dX1_doBoth_3 : decode cX1_doBoth 3 = .ok (.iload 4, 2) := by decide +kernel
theorem dX1_doBoth_5 : decode cX1_doBoth 5 = .ok (.invokevirtual 111, 3) := by decide +kernel
theorem dX1_doBoth_8 : decode cX1_doBoth 8 = .ok (.istore 5, 2) := by decide +kernel
theorem dX1_doBoth_10 : decode cX1_doBoth 10 = .ok (.iload 5, 2) := by decide +kernel
theorem dX1_doBoth_12 : decode cX1_doBoth 12 = .ok (.iconst 5, 1) := by decide +kernel
theorem dX1_doBoth_13 : decode cX1_doBoth 13 = .ok (.if_icmp .ne 5, 3) := by decide +kernel
theorem dX1_doBoth_16 : decode cX1_doBoth 16 = .ok (.iconst 5, 1) := by decide +kernel
theorem dX1_doBoth_17 : decode cX1_doBoth 17 = .ok (.ireturn, 1) := by decide +kernel
theorem dX1_doBoth_18 : decode cX1_doBoth 18 = .ok (.aload_n 0, 1) := by decide +kernel
theorem dX1_doBoth_19 : decode cX1_doBoth 19 = .ok (.iload_n 2, 1) := by decide +kernel
theorem dX1_doBoth_20 : decode cX1_doBoth 20 = .ok (.iload_n 3, 1) := by decide +kernel
theorem dX1_doBoth_21 : decode cX1_doBoth 21 = .ok (.iload 4, 2) := by decide +kernel
theorem dX1_doBoth_23 : decode cX1_doBoth 23 = .ok (.invokevirtual 111, 3) := by decide +kernel
theorem dX1_doBoth_26 : decode cX1_doBoth 26 = .ok (.istore 6, 2) := by decide +kernel
theorem dX1_doBoth_28 : decode cX1_doBoth 28 = .ok (.iload 6, 2) := by decide +kernel
theorem dX1_doBoth_30 : decode cX1_doBoth 30 = .ok (.ifCond .ne 8, 3) := by decide +kernel
theorem dX1_doBoth_33 : decode cX1_doBoth 33 = .ok (.iload 5, 2) := by decide +kernel
theorem dX1_doBoth_35 : decode cX1_doBoth 35 = .ok (.goto 5, 3) := by decide +kernel
theorem dX1_doBoth_38 : decode cX1_doBoth 38 = .ok (.iload 6, 2) := by decide +kernel
theorem dX1_doBoth_40 : decode cX1_doBoth 40 = .ok (.ireturn, 1) := by decide +kernel
set_option maxRecDepth 20000 in
theorem ggX1_doCall_X1_doBlock : GoodIn wsX1_doCall wsX1_doBlock := goodIn_r _ [5, 6, 7, 8, 9, 10, 11, 12, 13, 14, 15, 16, 17, 18, 19, 4, 20, 1, 2, 3, 0, 21, 22, 23, 24, 25, 26, 27, 28, 29, 30, 31, 32, 33, 34, 35, 36, 37, 38, 39, 40, 41, 42, 43, 44, 45, 46, 47, 48, 49, 50, 51, 52, 53, 54, 55, 56, 57, 58, 59, 60, 61, 62, 63, 64, 65, 66, 67, 68, 69, 70, 71, 72, 73, 74, 75, 76, 77, 78, 79, 80, 81, 82, 83, 84, 85, 86, 87, 88, 89, 90, 91, 92, 93, 94, 95, 96, 97, 98, 99, 100, 101, 102, 103, 104, 105, 106, 107, 108, 109, 110, 111, 112, 113, 114, 115, 116, 117, 118, 119, 120, 121, 122, 123, 124, 125, 126, 127, 128, 129, 130, 131, 132, 133, 134, 135, 136, 137, 138, 139, 140, 141] (by decide +kernel) (by decide +kernel)
set_option maxRecDepth 20000 in
theorem gX1_doCall_X1_doBlock : GoodIn wsX1_doCall (wsV RX1 111 RX1 yX1_doBlock wsX1_doBlock) := goodIn_app (goodIn_of _ (by decide +kernel)) ggX1_doCall_X1_doBlock
theorem dX1_doCall_0 : decode cX1_doCall 0 = .ok (.aload_n 0, 1) := by decide +kernel
theorem dX1_doCall_1 : decode cX1_doCall 1 = .ok (.iload_n 1, 1) := by decide +kernel
theorem dX1_doCall_2 : decode cX1_doCall 2 = .ok (.iload_n 2, 1) := by decide +kernel
theorem dX1_doCall_3 : decode cX1_doCall 3 = .ok (.iconst 0, 1) := by decide +kernel
theorem dX1_doCall_4 : decode cX1_doCall 4 = .ok (.invokevirtual 111, 3) := by decide +kernel
theorem dX1_doCall_7 : decode cX1_doCall 7 = .ok (.istore_n 3, 1) := by decide +kernel
theorem dX1_doCall_8 : decode cX1_doCall 8 = .ok (.iload_n 3, 1) := by decide +kernel
theorem dX1_doCall_9 : decode cX1_doCall 9 = .ok (.iconst 3, 1) := by decide +kernel
theorem dX1_doCall_10 : decode cX1_doCall 10 = .ok (.if_icmp .ne 7, 3) := by decide +kernel
theorem dX1_doCall_13 : decode cX1_doCall 13 = .ok (.iconst 0, 1) := by decide +kernel
theorem dX1_doCall_14 : decode cX1_doCall 14 = .ok (.goto 4, 3) := by decide +kernel
theorem dX1_doCall_17 : decode cX1_doCall 17 = .ok (.iload_n 3, 1) := by decide +kernel
theorem dX1_doCall_18 : decode cX1_doCall 18 = .ok (.ireturn, 1) := by decide +kernel
set_option maxRecDepth 20000 in
theorem ggX1_doAdd_X2_thingIn : GoodIn wsX1_doAdd wsX2_thingIn := goodIn_r _ [5, 6, 7, 8, 9, 10, 11, 12, 30, 31, 32, 33] (by decide +kernel) (by decide +kernel)
set_option maxRecDepth 20000 in
theorem gX1_doAdd_X2_thingIn_n94 : GoodIn wsX1_doAdd (wsX2_thingIn) := ggX1_doAdd_X2_thingIn
