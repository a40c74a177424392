theorem dX5_step_122 : decode cX5_step 122 = .ok (.aload_n 0, 1) := by decide +kernel
theorem dX5_step_123 : decode cX5_step 123 = .ok (.dup, 1) := by decide +kernel
theorem dX5_step_124 : decode cX5_step 124 = .ok (.getfield 64, 3) := by decide +kernel
theorem dX5_step_127 : decode cX5_step 127 = .ok (.iconst 1, 1) := by decide +kernel
theorem dX5_step_128 : decode cX5_step 128 = .ok (.iadd, 1) := by decide +kernel
theorem dX5_step_129 : decode cX5_step 129 = .ok (.putfield 64, 3) := by decide +kernel
theorem dX5_step_132 : decode cX5_step 132 = .ok (.aload_n 0, 1) := by decide +kernel
theorem dX5_step_133 : decode cX5_step 133 = .ok (.getfield 19, 3) := by decide +kernel
theorem dX5_step_136 : decode cX5_step 136 = .ok (.iload_n 1, 1) := by decide +kernel
theorem dX5_step_137 : decode cX5_step 137 = .ok (.iaload, 1) := by decide +kernel
theorem dX5_step_138 : decode cX5_step 138 = .ok (.ireturn, 1) := by decide +kernel
set_option maxRecDepth 20000 in
theorem ggX5_clear_X5_in : GoodIn wsX5_clear wsX5_in := goodIn_r _ [7] (by decide +kernel) (by decide +kernel)
set_option maxRecDepth 20000 in
theorem gX5_clear_X5_in : GoodIn wsX5_clear (va_wsS RX5 41 yX5_in wsX5_in) := goodIn_app (goodIn_of _ (by decide +kernel)) ggX5_clear_X5_in
theorem dX5_clear_0 : decode cX5_clear 0 = .ok (.aload_n 0, 1) := by decide +kernel
theorem dX5_clear_1 : decode cX5_clear 1 = .ok (.iconst 0, 1) := by decide +kernel
theorem dX5_clear_2 : decode cX5_clear 2 = .ok (.putfield 37, 3) := by decide +kernel
theorem dX5_clear_5 : decode cX5_clear 5 = .ok (.iload_n 1, 1) := by decide +kernel
theorem dX5_clear_6 : decode cX5_clear 6 = .ok (.iconst 0, 1) := by decide +kernel
theorem dX5_clear_7 : decode cX5_clear 7 = .ok (.bipush 39, 2) := by decide +kernel
theorem dX5_clear_9 : decode cX5_clear 9 = .ok (.invokestatic 41, 3) := by decide +kernel
theorem dX5_clear_12 : decode cX5_clear 12 = .ok (.ifCond .ne 6, 3) := by decide +kernel
theorem dX5_clear_15 : decode cX5_clear 15 = .ok (.bipush (-2), 2) := by decide +kernel
theorem dX5_clear_17 : decode cX5_clear 17 = .ok (.ireturn, 1) := by decide +kernel
theorem dX5_clear_18 : decode cX5_clear 18 = .ok (.aload_n 0, 1) := by decide +kernel
theorem dX5_clear_19 : decode cX5_clear 19 = .ok (.getfield 19, 3) := by decide +kernel
theorem dX5_clear_22 : decode cX5_clear 22 = .ok (.iload_n 1, 1) := by decide +kernel
theorem dX5_clear_23 : decode cX5_clear 23 = .ok (.iaload, 1) := by decide +kernel
theorem dX5_clear_24 : decode cX5_clear 24 = .ok (.istore_n 2, 1) := by decide +kernel
theorem dX5_clear_25 : decode cX5_clear 25 = .ok (.aload_n 0, 1) := by decide +kernel
theorem dX5_clear_26 : decode cX5_clear 26 = .ok (.dup, 1) := by decide +kernel
theorem dX5_clear_27 : decode cX5_clear 27 = .ok (.getfield 64, 3) := by decide +kernel
theorem dX5_clear_30 : decode cX5_clear 30 = .ok (.iload_n 2, 1) := by decide +kernel
theorem dX5_clear_31 : decode cX5_clear 31 = .ok (.isub, 1) := by decide +kernel
theorem dX5_clear_32 : decode cX5_clear 32 = .ok (.putfield 64, 3) := by decide +kernel
theorem dX5_clear_35 : decode cX5_clear 35 = .ok (.aload_n 0, 1) := by decide +kernel
theorem dX5_clear_36 : decode cX5_clear 36 = .ok (.getfield 19, 3) := by decide +kernel
theorem dX5_clear_39 : decode cX5_clear 39 = .ok (.iload_n 1, 1) := by decide +kernel
theorem dX5_clear_40 : decode cX5_clear 40 = .ok (.iconst 0, 1) := by decide +kernel
theorem dX5_clear_41 : decode cX5_clear 41 = .ok (.iastore, 1) := by decide +kernel
theorem dX5_clear_42 : decode cX5_clear 42 = .ok (.iload_n 2, 1) := by decide +kernel
theorem dX5_clear_43 : decode cX5_clear 43 = .ok (.ireturn, 1) := by decide +kernel
theorem dX5_comes_0 : decode cX5_comes 0 = .ok (.aload_n 0, 1) := by decide +kernel
theorem dX5_comes_1 : decode cX5_comes 1 = .ok (.getfield 67, 3) := by decide +kernel
theorem dX5_comes_4 : decode cX5_comes 4 = .ok (.sipush 250, 3) := by decide +kernel
theorem dX5_comes_7 : decode cX5_comes 7 = .ok (.if_icmp .ge 13, 3) := by decide +kernel
theorem dX5_comes_10 : decode cX5_comes 10 = .ok (.aload_n 0, 1) := by decide +kernel
theorem dX5_comes_11 : decode cX5_comes 11 = .ok (.getfield 34, 3) := by decide +kernel
theorem dX5_comes_14 : decode cX5_comes 14 = .ok (.aload_n 0, 1) := by decide +kernel
theorem dX5_comes_15 : decode cX5_comes 15 = .ok (.getfield 67, 3) := by decide +kernel
theorem dX5_comes_18 : decode cX5_comes 18 = .ok (.iload_n 1, 1) := by decide +kernel
theorem dX5_comes_19 : decode cX5_comes 19 = .ok (.iastore, 1) := by decide +kernel
theorem dX5_comes_20 : decode cX5_comes 20 = .ok (.aload_n 0, 1) := by decide +kernel
theorem dX5_comes_21 : decode cX5_comes 21 = .ok (.dup, 1) := by decide +kernel
theorem dX5_comes_22 : decode cX5_comes 22 = .ok (.getfield 67, 3) := by decide +kernel
theorem dX5_comes_25 : decode cX5_comes 25 = .ok (.iconst 1, 1) := by decide +kernel
theorem dX5_comes_26 : decode cX5_comes 26 = .ok (.iadd, 1) := by decide +kernel
theorem dX5_comes_27 : decode cX5_comes 27 = .ok (.putfield 67, 3) := by decide +kernel
theorem dX5_comes_30 : decode cX5_comes 30 = .ok (.return_, 1) := by decide +kernel
set_option maxRecDepth 20000 in
theorem ggX5_begin_X5_comes : GoodIn wsX5_begin wsX5_comes := goodIn_r _ [9, 10, 11, 12, 13, 14, 15, 16, 17, 18, 19, 20, 21, 22, 23, 24, 25, 26, 27, 28, 29, 30, 31, 32, 33] (by decide +kernel) (by decide +kernel)
set_option maxRecDepth 20000 in
theorem gX5_begin_X5_comes : GoodIn wsX5_begin (wsV RX5 79 RX5 yX5_comes wsX5_comes) := goodIn_app (goodIn_of _ (by decide +kernel)) ggX5_begin_X5_comes
theorem dX5_begin_0 : decode cX5_begin 0 = .ok (.aload_n 0, 1) := by decide +kernel
theorem dX5_begin_1 : decode cX5_begin 1 = .ok (.dup, 1) := by decide +kernel
theorem dX5_begin_2 : decode cX5_begin 2 = .ok (.getfield 70, 3) := by decide +kernel
theorem dX5_begin_5 : decode cX5_begin 5 = .ok (.iconst 1, 1) := by decide +kernel
theorem dX5_begin_6 : decode cX5_begin 6 = .ok (.iadd, 1) := by decide +kernel
theorem dX5_begin_7 : decode cX5_begin 7 = .ok (.putfield 70, 3) := by decide +kernel
theorem dX5_begin_10 : decode cX5_begin 10 = .ok (.aload_n 0, 1) := by decide +kernel
theorem dX5_begin_11 : decode cX5_begin 11 = .ok (.dup, 1) := by decide +kernel
theorem dX5_begin_12 : decode cX5_begin 12 = .ok (.getfield 73, 3) := by decide +kernel
theorem dX5_begin_15 : decode cX5_begin 15 = .ok (.iconst 1, 1) := by decide +kernel
theorem dX5_begin_16 : decode cX5_begin 16 = .ok (.iadd, 1) := by decide +kernel
theorem dX5_begin_17 : decode cX5_begin 17 = .ok (.putfield 73, 3) := by decide +kernel
theorem dX5_begin_20 : decode cX5_begin 20 = .ok (.aload_n 0, 1) := by decide +kernel
theorem dX5_begin_21 : decode cX5_begin 21 = .ok (.aload_n 0, 1) := by decide +kernel
theorem dX5_begin_22 : decode cX5_begin 22 = .ok (.getfield 73, 3) := by decide +kernel
theorem dX5_begin_25 : decode cX5_begin 25 = .ok (.aload_n 0, 1) := by decide +kernel
theorem dX5_begin_26 : decode cX5_begin 26 = .ok (.getfield 76, 3) := by decide +kernel
theorem dX5_begin_29 : decode cX5_begin 29 = .ok (.if_icmp .le 10, 3) := by decide +kernel
theorem dX5_begin_32 : decode cX5_begin 32 = .ok (.aload_n 0, 1) := by decide +kernel
theorem dX5_begin_33 : decode cX5_begin 33 = .ok (.getfield 73, 3) := by decide +kernel
theorem dX5_begin_36 : decode cX5_begin 36 = .ok (.goto 7, 3) := by decide +kernel
theorem dX5_begin_39 : decode cX5_begin 39 = .ok (.aload_n 0, 1) := by decide +kernel
theorem dX5_begin_40 : decode cX5_begin 40 = .ok (.getfield 76, 3) := by decide +kernel
theorem dX5_begin_43 : decode cX5_begin 43 = .ok (.putfield 76, 3) := by decide +kernel
theorem dX5_begin_46 : decode cX5_begin 46 = .ok (.aload_n 0, 1) := by decide +kernel
theorem dX5_begin_47 : decode cX5_begin 47 = .ok (.getfield 16, 3) := by decide +kernel
theorem dX5_begin_50 : decode cX5_begin 50 = .ok (.iload_n 1, 1) := by decide +kernel
theorem dX5_begin_51 : decode cX5_begin 51 = .ok (.dup2, 1) := by decide +kernel
theorem dX5_begin_52 : decode cX5_begin 52 = .ok (.iaload, 1) := by decide +kernel
theorem dX5_begin_53 : decode cX5_begin 53 = .ok (.iconst 1, 1) := by decide +kernel
theorem dX5_begin_54 : decode cX5_begin 54 = .ok (.iadd, 1) := by decide +kernel
theorem dX5_begin_55 : decode cX5_begin 55 = .ok (.iastore, 1) := by decide +kernel
theorem dX5_begin_56 : decode cX5_begin 56 = .ok (.aload_n 0, 1) := by decide +kernel
theorem dX5_begin_57 : decode cX5_begin 57 = .ok (.sipush 1000, 3) := by decide +kernel
theorem dX5_begin_60 : decode cX5_begin 60 = .ok (.iload_n 1, 1) := by decide +kernel
theorem dX5_begin_61 : decode cX5_begin 61 = .ok (.iadd, 1) := by decide +kernel
theorem dX5_begin_62 : decode cX5_begin 62 = .ok (.invokevirtual 79, 3) := by decide +kernel
theorem dX5_begin_65 : decode cX5_begin 65 = .ok (.return_, 1) := by decide +kernel
set_option maxRecDepth 20000 in
theorem ggX5_leave_X5_comes : GoodIn wsX5_leave wsX5_comes := goodIn_r _ [8, 9, 10, 11, 12, 13, 14, 15, 16, 17, 18, 19, 20, 21, 22, 23, 24, 25, 26, 27, 28, 29, 30, 31, 32] (by decide +kernel) (by decide +kernel)
set_option maxRecDepth 20000 in
theorem gX5_leave_X5_comes : GoodIn wsX5_leave (wsV RX5 79 RX5 yX5_comes wsX5_comes) := goodIn_app (goodIn_of _ (by decide +kernel)) ggX5_leave_X5_comes
theorem dX5_leave_0 : decode cX5_leave 0 = .ok (.aload_n 0, 1) := by decide +kernel
theorem dX5_leave_1 : decode cX5_leave 1 = .ok (.dup, 1) := by decide +kernel
theorem dX5_leave_2 : decode cX5_leave 2 = .ok (.getfield 73, 3) := by decide +kernel
theorem dX5_leave_5 : decode cX5_leave 5 = .ok (.iconst 1, 1) := by decide +kernel
theorem dX5_leave_6 : decode cX5_leave 6 = .ok (.isub, 1) := by decide +kernel
theorem dX5_leave_7 : decode cX5_leave 7 = .ok (.putfield 73, 3) := by decide +kernel
theorem dX5_leave_10 : decode cX5_leave 10 = .ok (.aload_n 0, 1) := by decide +kernel
theorem dX5_leave_11 : decode cX5_leave 11 = .ok (.getfield 16, 3) := by decide +kernel
theorem dX5_leave_14 : decode cX5_leave 14 = .ok (.iload_n 1, 1) := by decide +kernel
theorem dX5_leave_15 : decode cX5_leave 15 = .ok (.dup2, 1) := by decide +kernel
theorem dX5_leave_16 : decode cX5_leave 16 = .ok (.iaload, 1) := by decide +kernel
theorem dX5_leave_17 : decode cX5_leave 17 = .ok (.iconst 1, 1) := by decide +kernel
theorem dX5_leave_18 : decode cX5_leave 18 = .ok (.isub, 1) := by decide +kernel
theorem dX5_leave_19 : decode cX5_leave 19 = .ok (.iastore, 1) := by decide +kernel
theorem dX5_leave_20 : decode cX5_leave 20 = .ok (.aload_n 0, 1) := by decide +kernel
theorem dX5_leave_21 : decode cX5_leave 21 = .ok (.dup, 1) := by decide +kernel
theorem dX5_leave_22 : decode cX5_leave 22 = .ok (.getfield 83, 3) := by decide +kernel
theorem dX5_leave_25 : decode cX5_leave 25 = .ok (.iload_n 2, 1) := by decide +kernel
theorem dX5_leave_26 : decode cX5_leave 26 = .ok (.iconst 4, 1) := by decide +kernel
theorem dX5_leave_27 : decode cX5_leave 27 = .ok (.if_icmp .lt 7, 3) := by decide +kernel
theorem dX5_leave_30 : decode cX5_leave 30 = .ok (.iconst 1, 1) := by decide +kernel
theorem dX5_leave_31 : decode cX5_leave 31 = .ok (.goto 4, 3) := by decide +kernel
theorem dX5_leave_34 : decode cX5_leave 34 = .ok (.iconst 0, 1) := by decide +kernel
theorem dX5_leave_35 : decode cX5_leave 35 = .ok (.iadd, 1) := by decide +kernel
theorem dX5_leave_36 : decode cX5_leave 36 = .ok (.putfield 83, 3) := by decide +kernel
theorem dX5_leave_39 : decode cX5_leave 39 = .ok (.aload_n 0, 1) := by decide +kernel
theorem dX5_leave_40 : decode cX5_leave 40 = .ok (.sipush 2000, 3) := by decide +kernel
theorem dX5_leave_43 : decode cX5_leave 43 = .ok (.bipush 100, 2) := by decide +kernel
theorem dX5_leave_45 : decode cX5_leave 45 = .ok (.iload_n 2, 1) := by decide +kernel
theorem dX5_leave_46 : decode cX5_leave 46 = .ok (.imul, 1) := by decide +kernel
theorem dX5_leave_47 : decode cX5_leave 47 = .ok (.iadd, 1) := by decide +kernel
theorem dX5_leave_48 : decode cX5_leave 48 = .ok (.iload_n 1, 1) := by decide +kernel
theorem dX5_leave_49 : decode cX5_leave 49 = .ok (.iadd, 1) := by decide +kernel
theorem dX5_leave_50 : decode cX5_leave 50 = .ok (.invokevirtual 79, 3) := by decide +kernel
theorem dX5_leave_53 : decode cX5_leave 53 = .ok (.return_, 1) := by decide +kernel
theorem dX5_throwing_0 : decode cX5_throwing 0 = .ok (.aload_n 0, 1) := by decide +kernel
theorem dX5_throwing_1 : decode cX5_throwing 1 = .ok (.iload_n 1, 1) := by decide +kernel
theorem dX5_throwing_2 : decode cX5_throwing 2 = .ok (.putfield 86, 3) := by decide +kernel
theorem dX5_throwing_5 : decode cX5_throwing 5 = .ok (.iconst 4, 1) := by decide +kernel
theorem dX5_throwing_6 : decode cX5_throwing 6 = .ok (.ireturn, 1) := by decide +kernel
set_option maxRecDepth 20000 in
theorem ggX5_block_X5_doStep : GoodIn wsX5_block wsX5_doStep := goodIn_r _ [14, 15, 16, 17, 18, 19, 13, 20, 21, 22, 23, 24, 6, 25, 26, 27, 28, 29, 30, 31, 8, 32, 33, 34, 35, 36, 37, 38, 39, 40, 41, 42, 43, 44, 45, 46, 47, 48, 49, 50, 51, 52, 53, 54, 55, 56, 57, 58, 59, 60, 61, 62, 63, 64, 65, 66, 67, 68, 69, 70, 71, 72, 0, 1, 2, 3, 4, 5, 7, 9, 10, 11, 12, 73, 74, 75, 76, 77, 78, 79, 80, 81, 82, 83, 84, 85, 86, 87, 88, 89, 90, 91, 92, 93, 94, 95, 96, 97] (by decide +kernel) (by decide +kernel)
set_option maxRecDepth 20000 in
theorem gX5_block_X5_doStep : GoodIn wsX5_block (wsV RX5 92 RX5 yX5_doStep wsX5_doStep) := goodIn_app (goodIn_of _ (by decide +kernel)) ggX5_block_X5_doStep
theorem dX5_block_0 : decode cX5_block 0 = .ok (.iconst 0, 1) := by decide +kernel
theorem dX5_block_1 : decode cX5_block 1 = .ok (.istore_n 2, 1) := by decide +kernel
theorem dX5_block_2 : decode cX5_block 2 = .ok (.iconst 0, 1) := by decide +kernel
theorem dX5_block_3 : decode cX5_block 3 = .ok (.istore_n 3, 1) := by decide +kernel
theorem dX5_block_4 : decode cX5_block 4 = .ok (.iload_n 3, 1) := by decide +kernel
theorem dX5_block_5 : decode cX5_block 5 = .ok (.aload_n 0, 1) := by decide +kernel
theorem dX5_block_6 : decode cX5_block 6 = .ok (.getfield 19, 3) := by decide +kernel
theorem dX5_block_9 : decode cX5_block 9 = .ok (.iload_n 1, 1) := by decide +kernel
theorem dX5_block_10 : decode cX5_block 10 = .ok (.iaload, 1) := by decide +kernel
theorem dX5_block_11 : decode cX5_block 11 = .ok (.if_icmp .ge 46, 3) := by decide +kernel
theorem dX5_block_14 : decode cX5_block 14 = .ok (.iload_n 2, 1) := by decide +kernel
theorem dX5_block_15 : decode cX5_block 15 = .ok (.ifCond .ne 42, 3) := by decide +kernel
theorem dX5_block_18 : decode cX5_block 18 = .ok (.aload_n 0, 1) := by decide +kernel
theorem dX5_block_19 : decode cX5_block 19 = .ok (.getfield 89, 3) := by decide +kernel
theorem dX5_block_22 : decode cX5_block 22 = .ok (.sipush 300, 3) := by decide +kernel
theorem dX5_block_25 : decode cX5_block 25 = .ok (.if_icmp .ne 5, 3) := by decide +kernel
theorem dX5_block_28 : decode cX5_block 28 = .ok (.iconst 5, 1) := by decide +kernel
theorem dX5_block_29 : decode cX5_block 29 = .ok (.ireturn, 1) := by decide +kernel
theorem dX5_block_30 : decode cX5_block 30 = .ok (.aload_n 0, 1) := by decide +kernel
theorem dX5_block_31 : decode cX5_block 31 = .ok (.dup, 1) := by decide +kernel
theorem dX5_block_32 : decode cX5_block 32 = .ok (.getfield 89, 3) := by decide +kernel
theorem dX5_block_35 : decode cX5_block 35 = .ok (.iconst 1, 1) := by decide +kernel
theorem dX5_block_36 : decode cX5_block 36 = .ok (.iadd, 1) := by decide +kernel
theorem dX5_block_37 : decode cX5_block 37 = .ok (.putfield 89, 3) := by decide +kernel
theorem dX5_block_40 : decode cX5_block 40 = .ok (.aload_n 0, 1) := by decide +kernel
theorem dX5_block_41 : decode cX5_block 41 = .ok (.bipush 12, 2) := by decide +kernel
theorem dX5_block_43 : decode cX5_block 43 = .ok (.iload_n 1, 1) := by decide +kernel
theorem dX5_block_44 : decode cX5_block 44 = .ok (.imul, 1) := by decide +kernel
theorem dX5_block_45 : decode cX5_block 45 = .ok (.iload_n 3, 1) := by decide +kernel
theorem dX5_block_46 : decode cX5_block 46 = .ok (.iadd, 1) := by decide +kernel
theorem dX5_block_47 : decode cX5_block 47 = .ok (.invokevirtual 92, 3) := by decide +kernel
theorem dX5_block_50 : decode cX5_block 50 = .ok (.istore_n 2, 1) := by decide +kernel
theorem dX5_block_51 : decode cX5_block 51 = .ok (.iinc 3 1, 3) := by decide +kernel
theorem dX5_block_54 : decode cX5_block 54 = .ok (.goto (-50), 3) := by decide +kernel
theorem dX5_block_57 : decode cX5_block 57 = .ok (.iload_n 2, 1) := by decide +kernel
theorem dX5_block_58 : decode cX5_block 58 = .ok (.ireturn, 1) := by decide +kernel
set_option maxRecDepth 20000 in
theorem ggX5_hold_X5_begin : GoodIn wsX5_hold wsX5_begin := goodIn_r _ [5, 6, 7, 8, 9, 10, 11, 12, 4, 13, 14, 15, 76, 77, 78, 79, 80, 81, 82, 83, 84, 85, 86, 87, 88, 89, 90, 91, 92, 93, 94, 95, 96, 97] (by decide +kernel) (by decide +kernel)
set_option maxRecDepth 20000 in
theorem gX5_hold_X5_begin : GoodIn wsX5_hold (wsV RX5 95 RX5 yX5_begin wsX5_begin) := goodIn_app (goodIn_of _ (by decide +kernel)) ggX5_hold_X5_begin
set_option maxRecDepth 20000 in
theorem ggX5_hold_X5_block : GoodIn wsX5_hold wsX5_block := goodIn_r _ [24, 25, 26, 27, 28, 29, 4, 30, 31, 16, 17, 18, 32, 33, 34, 35, 36, 37, 38, 39, 40, 41, 10, 11, 12, 13, 14, 15, 42, 43, 44, 45, 46, 47, 48, 49, 50, 51, 52, 53, 54, 55, 56, 57, 58, 59, 60, 61, 62, 63, 64, 9, 65, 66, 67, 68, 69, 70, 71, 72, 73, 1, 2, 3, 5, 6, 7, 8, 19, 20, 21, 22, 23, 0, 74, 75, 76, 77, 78, 79, 80, 81, 82, 83, 84, 85, 86, 87, 88, 89, 90, 91, 92, 93, 94, 95, 96, 97] (by decide +kernel) (by decide +kernel)
set_option maxRecDepth 20000 in
theorem gX5_hold_X5_block : GoodIn wsX5_hold (wsV RX5 98 RX5 yX5_block wsX5_block) := goodIn_app (goodIn_of _ (by decide +kernel)) ggX5_hold_X5_block
set_option maxRecDepth 20000 in
theorem ggX5_hold_X5_leave : GoodIn wsX5_hold wsX5_leave := goodIn_r _ [22, 7, 9, 23, 10, 11, 12, 4, 13, 14, 15, 76, 77, 78, 79, 80, 81, 82, 83, 84, 85, 86, 87, 88, 89, 90, 91, 92, 93, 94, 95, 96, 97] (by decide +kernel) (by decide +kernel)
set_option maxRecDepth 20000 in
theorem gX5_hold_X5_leave : GoodIn wsX5_hold (wsV RX5 101 RX5 yX5_leave wsX5_leave) := goodIn_app (goodIn_of _ (by decide +kernel)) ggX5_hold_X5_leave
theorem dX5_hold_0 : decode cX5_hold 0 = .ok (.aload_n 0, 1) := by decide +kernel
theorem dX5_hold_1 : decode cX5_hold 1 = .ok (.iload_n 1, 1) := by decide +kernel
theorem dX5_hold_2 : decode cX5_hold 2 = .ok (.invokevirtual 95, 3) := by decide +kernel
theorem dX5_hold_5 : decode cX5_hold 5 = .ok (.aload_n 0, 1) := by decide +kernel
theorem dX5_hold_6 : decode cX5_hold 6 = .ok (.iload_n 2, 1) := by decide +kernel
theorem dX5_hold_7 : decode cX5_hold 7 = .ok (.invokevirtual 98, 3) := by decide +kernel
theorem dX5_hold_10 : decode cX5_hold 10 = .ok (.istore_n 3, 1) := by decide +kernel
theorem dX5_hold_11 : decode cX5_hold 11 = .ok (.aload_n 0, 1) := by decide +kernel
theorem dX5_hold_12 : decode cX5_hold 12 = .ok (.iload_n 1, 1) := by decide +kernel
theorem dX5_hold_13 : decode cX5_hold 13 = .ok (.iload_n 3, 1) := by decide +kernel
theorem dX5_hold_14 : decode cX5_hold 14 = .ok (.invokevirtual 101, 3) := by decide +kernel
theorem dX5_hold_17 : decode cX5_hold 17 = .ok (.iload_n 3, 1) := by decide +kernel
theorem dX5_hold_18 : decode cX5_hold 18 = .ok (.ireturn, 1) := by decide +kernel
set_option maxRecDepth 20000 in
theorem ggX5_loop_X5_block : GoodIn wsX5_loop wsX5_block := goodIn_r _ [6, 7, 8, 9, 10, 11, 5, 12, 13, 2, 3, 4, 14, 1, 15, 16, 17, 18, 19, 20, 21, 22, 23, 24, 25, 26, 27, 28, 29, 30, 31, 32, 33, 34, 35, 36, 37, 38, 39, 40, 41, 42, 43, 44, 45, 46, 47, 48, 49, 50, 51, 52, 53, 54, 55, 56, 57, 58, 59, 60, 61, 62, 63, 64, 65, 66, 67, 68, 69, 70, 71, 72, 73, 74, 0, 75, 76, 77, 78, 79, 80, 81, 82, 83, 84, 85, 86, 87, 88, 89, 90, 91, 92, 93, 94, 95, 96, 97] (by decide +kernel) (by decide +kernel)
set_option maxRecDepth 20000 in
theorem gX5_loop_X5_block : GoodIn wsX5_loop (wsV RX5 98 RX5 yX5_block wsX5_block) := goodIn_app (goodIn_of _ (by decide +kernel)) ggX5_loop_X5_block
theorem dX5_loop_0 : decode cX5_loop 0 = .ok (.aload_n 0, 1) := by decide +kernel
theorem dX5_loop_1 : decode cX5_loop 1 = .ok (.dup, 1) := by decide +kernel
theorem dX5_loop_2 : decode cX5_loop 2 = .ok (.getfield 105, 3) := by decide +kernel
theorem dX5_loop_5 : decode cX5_loop 5 = .ok (.iconst 1, 1) := by decide +kernel
theorem dX5_loop_6 : decode cX5_loop 6 = .ok (.iadd, 1) := by decide +kernel
theorem dX5_loop_7 : decode cX5_loop 7 = .ok (.putfield 105, 3) := by decide +kernel
theorem dX5_loop_10 : decode cX5_loop 10 = .ok (.iconst 0, 1) := by decide +kernel
theorem dX5_loop_11 : decode cX5_loop 11 = .ok (.istore_n 3, 1) := by decide +kernel
theorem dX5_loop_12 : decode cX5_loop 12 = .ok (.iconst 0, 1) := by decide +kernel
theorem dX5_loop_13 : decode cX5_loop 13 = .ok (.istore 4, 2) := by decide +kernel
theorem dX5_loop_15 : decode cX5_loop 15 = .ok (.iload 4, 2) := by decide +kernel
theorem dX5_loop_17 : decode cX5_loop 17 = .ok (.iload_n 1, 1) := by decide +kernel
theorem dX5_loop_18 : decode cX5_loop 18 = .ok (.if_icmp .ge 30, 3) := by decide +kernel
theorem dX5_loop_21 : decode cX5_loop 21 = .ok (.iload_n 3, 1) := by decide +kernel
theorem dX5_loop_22 : decode cX5_loop 22 = .ok (.ifCond .ne 26, 3) := by decide +kernel
theorem dX5_loop_25 : decode cX5_loop 25 = .ok (.aload_n 0, 1) := by decide +kernel
theorem dX5_loop_26 : decode cX5_loop 26 = .ok (.iload_n 2, 1) := by decide +kernel
theorem dX5_loop_27 : decode cX5_loop 27 = .ok (.invokevirtual 98, 3) := by decide +kernel
theorem dX5_loop_30 : decode cX5_loop 30 = .ok (.istore_n 3, 1) := by decide +kernel
theorem dX5_loop_31 : decode cX5_loop 31 = .ok (.iload_n 3, 1) := by decide +kernel
theorem dX5_loop_32 : decode cX5_loop 32 = .ok (.iconst 2, 1) := by decide +kernel
theorem dX5_loop_33 : decode cX5_loop 33 = .ok (.if_icmp .ne 7, 3) := by decide +kernel
theorem dX5_loop_36 : decode cX5_loop 36 = .ok (.iconst 0, 1) := by decide +kernel
theorem dX5_loop_37 : decode cX5_loop 37 = .ok (.goto 4, 3) := by decide +kernel
theorem dX5_loop_40 : decode cX5_loop 40 = .ok (.iload_n 3, 1) := by decide +kernel
theorem dX5_loop_41 : decode cX5_loop 41 = .ok (.istore_n 3, 1) := by decide +kernel
theorem dX5_loop_42 : decode cX5_loop 42 = .ok (.iinc 4 1, 3) := by decide +kernel
theorem dX5_loop_45 : decode cX5_loop 45 = .ok (.goto (-30), 3) := by decide +kernel
theorem dX5_loop_48 : decode cX5_loop 48 = .ok (.aload_n 0, 1) := by decide +kernel
theorem dX5_loop_49 : decode cX5_loop 49 = .ok (.dup, 1) := by decide +kernel
theorem dX5_loop_50 : decode cX5_loop 50 = .ok (.getfield 105, 3) := by decide +kernel
theorem dX5_loop_53 : decode cX5_loop 53 = .ok (.iconst 1, 1) := by decide +kernel
theorem dX5_loop_54 : decode cX5_loop 54 = .ok (.isub, 1) := by decide +kernel
theorem dX5_loop_55 : decode cX5_loop 55 = .ok (.putfield 105, 3) := by decide +kernel
theorem dX5_loop_58 : decode cX5_loop 58 = .ok (.iload_n 3, 1) := by decide +kernel
theorem dX5_loop_59 : decode cX5_loop 59 = .ok (.iconst 1, 1) := by decide +kernel
theorem dX5_loop_60 : decode cX5_loop 60 = .ok (.if_icmp .ne 7, 3) := by decide +kernel
theorem dX5_loop_63 : decode cX5_loop 63 = .ok (.iconst 0, 1) := by decide +kernel
theorem dX5_loop_64 : decode cX5_loop 64 = .ok (.goto 4, 3) := by decide +kernel
theorem dX5_loop_67 : decode cX5_loop 67 = .ok (.iload_n 3, 1) := by decide +kernel
theorem dX5_loop_68 : decode cX5_loop 68 = .ok (.ireturn, 1) := by decide +kernel
set_option maxRecDepth 20000 in
theorem ggX5_both_X5_block : GoodIn wsX5_both wsX5_block := goodIn_r _ [6, 7, 8, 9, 10, 11, 5, 0, 1, 2, 3, 4, 12, 13, 14, 15, 16, 17, 18, 19, 20, 21, 22, 23, 24, 25, 26, 27, 28, 29, 30, 31, 32, 33, 34, 35, 36, 37, 38, 39, 40, 41, 42, 43, 44, 45, 46, 47, 48, 49, 50, 51, 52, 53, 54, 55, 56, 57, 58, 59, 60, 61, 62, 63, 64, 65, 66, 67, 68, 69, 70, 71, 72, 73, 74, 75, 76, 77, 78, 79, 80, 81, 82, 83, 84, 85, 86, 87, 88, 89, 90, 91, 92, 93, 94, 95, 96, 97] (by decide +kernel) (by decide +kernel)
set_option maxRecDepth 20000 in
theorem gX5_both_X5_block : GoodIn wsX5_both (wsV RX5 98 RX5 yX5_block wsX5_block) := goodIn_app (goodIn_of _ (by decide +kernel)) ggX5_both_X5_block
theorem dX5_both_0 : decode cX5_both 0 = .ok (.aload_n 0, 1) := by decide +kernel
theorem dX5_both_1 : decode cX5_both 1 = .ok (.iload_n 1, 1) := by decide +kernel
theorem dX5_both_2 : decode cX5_both 2 = .ok (.invokevirtual 98, 3) := by decide +kernel
theorem dX5_both_5 : decode cX5_both 5 = .ok (.istore_n 3, 1) := by decide +kernel
theorem dX5_both_6 : decode cX5_both 6 = .ok (.iload_n 3, 1) := by decide +kernel
theorem dX5_both_7 : decode cX5_both 7 = .ok (.iconst 5, 1) := by decide +kernel
theorem dX5_both_8 : decode cX5_both 8 = .ok (.if_icmp .ne 5, 3) := by decide +kernel
theorem dX5_both_11 : decode cX5_both 11 = .ok (.iload_n 3, 1) := by decide +kernel
theorem dX5_both_12 : decode cX5_both 12 = .ok (.ireturn, 1) := by decide +kernel
theorem dX5_both_13 : decode cX5_both 13 = .ok (.aload_n 0, 1) := by decide +kernel
theorem dX5_both_14 : decode cX5_both 14 = .ok (.getfield 86, 3) := by decide +kernel
theorem dX5_both_17 : decode cX5_both 17 = .ok (.istore 4, 2) := by decide +kernel
theorem dX5_both_19 : decode cX5_both 19 = .ok (.aload_n 0, 1) := by decide +kernel
theorem dX5_both_20 : decode cX5_both 20 = .ok (.iload_n 2, 1) := by decide +kernel
theorem dX5_both_21 : decode cX5_both 21 = .ok (.invokevirtual 98, 3) := by decide +kernel
theorem dX5_both_24 : decode cX5_both 24 = .ok (.istore 5, 2) := by decide +kernel
theorem dX5_both_26 : decode cX5_both 26 = .ok (.iload 5, 2) := by decide +kernel
theorem dX5_both_28 : decode cX5_both 28 = .ok (.ifCond .eq 6, 3) := by decide +kernel
theorem dX5_both_31 : decode cX5_both 31 = .ok (.iload 5, 2) := by decide +kernel
theorem dX5_both_33 : decode cX5_both 33 = .ok (.ireturn, 1) := by decide +kernel
theorem dX5_both_34 : decode cX5_both 34 = .ok (.aload_n 0, 1) := by decide +kernel
theorem dX5_both_35 : decode cX5_both 35 = .ok (.iload 4, 2) := by decide +kernel
theorem dX5_both_37 : decode cX5_both 37 = .ok (.putfield 86, 3) := by decide +kernel
theorem dX5_both_40 : decode cX5_both 40 = .ok (.iload_n 3, 1) := by decide +kernel
theorem dX5_both_41 : decode cX5_both 41 = .ok (.ireturn, 1) := by decide +kernel
set_option maxRecDepth 20000 in
theorem ggX5_call_X5_block : GoodIn wsX5_call wsX5_block := goodIn_r _ [6, 7, 8, 9, 10, 11, 5, 12, 13, 2, 3, 4, 0, 1, 14, 15, 16, 17, 18, 19, 20, 21, 22, 23, 24, 25, 26, 27, 28, 29, 30, 31, 32, 33, 34, 35, 36, 37, 38, 39, 40, 41, 42, 43, 44, 45, 46, 47, 48, 49, 50, 51, 52, 53, 54, 55, 56, 57, 58, 59, 60, 61, 62, 63, 64, 65, 66, 67, 68, 69, 70, 71, 72, 73, 74, 75, 76, 77, 78, 79, 80, 81, 82, 83, 84, 85, 86, 87, 88, 89, 90, 91, 92, 93, 94, 95, 96, 97] (by decide +kernel) (by decide +kernel)
set_option maxRecDepth 20000 in
theorem gX5_call_X5_block : GoodIn wsX5_call (wsV RX5 98 RX5 yX5_block wsX5_block) := goodIn_app (goodIn_of _ (by decide +kernel)) ggX5_call_X5_block
theorem dX5_call_0 : decode cX5_call 0 = .ok (.aload_n 0, 1) := by decide +kernel
theorem dX5_call_1 : decode cX5_call 1 = .ok (.getfield 105, 3) := by decide +kernel
theorem dX5_call_4 : decode cX5_call 4 = .ok (.istore_n 2, 1) := by decide +kernel
theorem dX5_call_5 : decode cX5_call 5 = .ok (.aload_n 0, 1) := by decide +kernel
theorem dX5_call_6 : decode cX5_call 6 = .ok (.iconst 0, 1) := by decide +kernel
theorem dX5_call_7 : decode cX5_call 7 = .ok (.putfield 105, 3) := by decide +kernel
theorem dX5_call_10 : decode cX5_call 10 = .ok (.aload_n 0, 1) := by decide +kernel
theorem dX5_call_11 : decode cX5_call 11 = .ok (.iload_n 1, 1) := by decide +kernel
theorem dX5_call_12 : decode cX5_call 12 = .ok (.invokevirtual 98, 3) := by decide +kernel
theorem dX5_call_15 : decode cX5_call 15 = .ok (.istore_n 3, 1) := by decide +kernel
theorem dX5_call_16 : decode cX5_call 16 = .ok (.aload_n 0, 1) := by decide +kernel
theorem dX5_call_17 : decode cX5_call 17 = .ok (.iload_n 2, 1) := by decide +kernel
theorem dX5_call_18 : decode cX5_call 18 = .ok (.putfield 105, 3) := by decide +kernel
theorem dX5_call_21 : decode cX5_call 21 = .ok (.iload_n 3, 1) := by decide +kernel
theorem dX5_call_22 : decode cX5_call 22 = .ok (.iconst 3, 1) := by decide +kernel
theorem dX5_call_23 : decode cX5_call 23 = .ok (.if_icmp .ne 7, 3) := by decide +kernel
theorem dX5_call_26 : decode cX5_call 26 = .ok (.iconst 0, 1) := by decide +kernel
theorem dX5_call_27 : decode cX5_call 27 = .ok (.goto 4, 3) := by decide +kernel
theorem dX5_call_30 : decode cX5_call 30 = .ok (.iload_n 3, 1) := by decide +kernel
theorem dX5_call_31 : decode cX5_call 31 = .ok (.ireturn, 1) := by decide +kernel
set_option maxRecDepth 20000 in
theorem ggX5_tried_X5_block : GoodIn wsX5_tried wsX5_block := goodIn_r _ [7, 8, 9, 10, 11, 12, 6, 13, 2, 3, 4, 5, 14, 1, 15, 16, 17, 18, 19, 20, 21, 22, 23, 24, 25, 26, 27, 28, 29, 30, 31, 32, 33, 34, 35, 36, 37, 38, 39, 40, 41, 42, 43, 44, 45, 46, 47, 48, 49, 50, 51, 52, 53, 54, 55, 56, 57, 58, 59, 60, 61, 62, 63, 64, 65, 66, 67, 68, 69, 70, 71, 72, 73, 74, 75, 0, 76, 77, 78, 79, 80, 81, 82, 83, 84, 85, 86, 87, 88, 89, 90, 91, 92, 93, 94, 95, 96, 97] (by decide +kernel) (by decide +kernel)
set_option maxRecDepth 20000 in
theorem gX5_tried_X5_block : GoodIn wsX5_tried (wsV RX5 98 RX5 yX5_block wsX5_block) := goodIn_app (goodIn_of _ (by decide +kernel)) ggX5_tried_X5_block
theorem dX5_tried_0 : decode cX5_tried 0 = .ok (.aload_n 0, 1) := by decide +kernel
theorem dX5_tried_1 : decode cX5_tried 1 = .ok (.getfield 105, 3) := by decide +kernel
theorem dX5_tried_4 : decode cX5_tried 4 = .ok (.istore 4, 2) := by decide +kernel
theorem dX5_tried_6 : decode cX5_tried 6 = .ok (.aload_n 0, 1) := by decide +kernel
theorem dX5_tried_7 : decode cX5_tried 7 = .ok (.iload_n 2, 1) := by decide +kernel
theorem dX5_tried_8 : decode cX5_tried 8 = .ok (.invokevirtual 98, 3) := by decide +kernel
theorem dX5_tried_11 : decode cX5_tried 11 = .ok (.istore 5, 2) := by decide +kernel
theorem dX5_tried_13 : decode cX5_tried 13 = .ok (.iload 5, 2) := by decide +kernel
theorem dX5_tried_15 : decode cX5_tried 15 = .ok (.iconst 4, 1) := by decide +kernel
theorem dX5_tried_16 : decode cX5_tried 16 = .ok (.if_icmp .ne 15, 3) := by decide +kernel
theorem dX5_tried_19 : decode cX5_tried 19 = .ok (.iload_n 1, 1) := by decide +kernel
theorem dX5_tried_20 : decode cX5_tried 20 = .ok (.ifCond .eq 14, 3) := by decide +kernel
theorem dX5_tried_23 : decode cX5_tried 23 = .ok (.iload_n 1, 1) := by decide +kernel
theorem dX5_tried_24 : decode cX5_tried 24 = .ok (.aload_n 0, 1) := by decide +kernel
theorem dX5_tried_25 : decode cX5_tried 25 = .ok (.getfield 86, 3) := by decide +kernel
theorem dX5_tried_28 : decode cX5_tried 28 = .ok (.if_icmp .eq 6, 3) := by decide +kernel
theorem dX5_tried_31 : decode cX5_tried 31 = .ok (.iload 5, 2) := by decide +kernel
theorem dX5_tried_33 : decode cX5_tried 33 = .ok (.ireturn, 1) := by decide +kernel
theorem dX5_tried_34 : decode cX5_tried 34 = .ok (.aload_n 0, 1) := by decide +kernel
theorem dX5_tried_35 : decode cX5_tried 35 = .ok (.iload 4, 2) := by decide +kernel
theorem dX5_tried_37 : decode cX5_tried 37 = .ok (.putfield 105, 3) := by decide +kernel
theorem dX5_tried_40 : decode cX5_tried 40 = .ok (.aload_n 0, 1) := by decide +kernel
theorem dX5_tried_41 : decode cX5_tried 41 = .ok (.iload_n 3, 1) := by decide +kernel
theorem dX5_tried_42 : decode cX5_tried 42 = .ok (.invokevirtual 98, 3) := by decide +kernel
theorem dX5_tried_45 : decode cX5_tried 45 = .ok (.ireturn, 1) := by decide +kernel
set_option maxRecDepth 20000 in
theorem ggX5_add_X5_throwing : GoodIn wsX5_add wsX5_throwing := goodIn_r _ [7, 8, 9, 10, 11, 12, 13, 14, 15, 16, 17, 18, 19, 20, 21, 22, 23, 24, 25, 26, 27, 28, 29, 30] (by decide +kernel) (by decide +kernel)
set_option maxRecDepth 20000 in
theorem gX5_add_X5_throwing : GoodIn wsX5_add (wsV RX5 108 RX5 yX5_throwing wsX5_throwing) := goodIn_app (goodIn_of _ (by decide +kernel)) ggX5_add_X5_throwing
theorem dX5_add_0 : decode cX5_add 0 = .ok (.iload_n 1, 1) := by decide +kernel
theorem dX5_add_1 : decode cX5_add 1 = .ok (.iconst (-1), 1) := by decide +kernel
theorem dX5_add_2 : decode cX5_add 2 = .ok (.if_icmp .ne 10, 3) := by decide +kernel
theorem dX5_add_5 : decode cX5_add 5 = .ok (.aload_n 0, 1) := by decide +kernel
theorem dX5_add_6 : decode cX5_add 6 = .ok (.bipush 12, 2) := by decide +kernel
theorem dX5_add_8 : decode cX5_add 8 = .ok (.invokevirtual 108, 3) := by decide +kernel
theorem dX5_add_11 : decode cX5_add 11 = .ok (.ireturn, 1) := by decide +kernel
theorem dX5_add_12 : decode cX5_add 12 = .ok (.aload_n 0, 1) := by decide +kernel
theorem dX5_add_13 : decode cX5_add 13 = .ok (.getfield 16, 3) := by decide +kernel
theorem dX5_add_16 : decode cX5_add 16 = .ok (.iload_n 1, 1) := by decide +kernel
theorem dX5_add_17 : decode cX5_add 17 = .ok (.iaload, 1) := by decide +kernel
theorem dX5_add_18 : decode cX5_add 18 = .ok (.ifCond .ne 10, 3) := by decide +kernel
theorem dX5_add_21 : decode cX5_add 21 = .ok (.aload_n 0, 1) := by decide +kernel
theorem dX5_add_22 : decode cX5_add 22 = .ok (.bipush 11, 2) := by decide +kernel
theorem dX5_add_24 : decode cX5_add 24 = .ok (.invokevirtual 108, 3) := by decide +kernel
theorem dX5_add_27 : decode cX5_add 27 = .ok (.ireturn, 1) := by decide +kernel
theorem dX5_add_28 : decode cX5_add 28 = .ok (.aload_n 0, 1) := by decide +kernel
theorem dX5_add_29 : decode cX5_add 29 = .ok (.getfield 13, 3) := by decide +kernel
theorem dX5_add_32 : decode cX5_add 32 = .ok (.iload_n 1, 1) := by decide +kernel
theorem dX5_add_33 : decode cX5_add 33 = .ok (.dup2, 1) := by decide +kernel
theorem dX5_add_34 : decode cX5_add 34 = .ok (.iaload, 1) := by decide +kernel
theorem dX5_add_35 : decode cX5_add 35 = .ok (.iload_n 2, 1) := by decide +kernel
theorem dX5_add_36 : decode cX5_add 36 = .ok (.iadd, 1) := by decide +kernel
theorem dX5_add_37 : decode cX5_add 37 = .ok (.iastore, 1) := by decide +kernel
theorem dX5_add_38 : decode cX5_add 38 = .ok (.iconst 0, 1) := by decide +kernel
theorem dX5_add_39 : decode cX5_add 39 = .ok (.ireturn, 1) := by decide +kernel
set_option maxRecDepth 20000 in
theorem ggX5_sweep_X5_begin : GoodIn wsX5_sweep wsX5_begin := goodIn_r _ [7, 8, 9, 10, 11, 12, 13, 14, 6, 15, 16, 17, 23, 24, 25, 26, 27, 28, 29, 30, 31, 32, 33, 34, 35, 36, 37, 38, 39, 40, 41, 42, 43, 44] (by decide +kernel) (by decide +kernel)
set_option maxRecDepth 20000 in
theorem gX5_sweep_X5_begin : GoodIn wsX5_sweep (wsV RX5 95 RX5 yX5_begin wsX5_begin) := goodIn_app (goodIn_of _ (by decide +kernel)) ggX5_sweep_X5_begin
set_option maxRecDepth 20000 in
theorem ggX5_sweep_X5_leave : GoodIn wsX5_sweep wsX5_leave := goodIn_r _ [21, 9, 11, 22, 12, 13, 14, 6, 15, 16, 17, 23, 24, 25, 26, 27, 28, 29, 30, 31, 32, 33, 34, 35, 36, 37, 38, 39, 40, 41, 42, 43, 44] (by decide +kernel) (by decide +kernel)
set_option maxRecDepth 20000 in
theorem gX5_sweep_X5_leave : GoodIn wsX5_sweep (wsV RX5 101 RX5 yX5_leave wsX5_leave) := goodIn_app (goodIn_of _ (by decide +kernel)) ggX5_sweep_X5_leave
set_option maxRecDepth 20000 in
theorem ggX5_sweep_X5_comes : GoodIn wsX5_sweep wsX5_comes := goodIn_r _ [15, 16, 17, 23, 24, 25, 26, 27, 28, 29, 30, 31, 32, 33, 34, 35, 36, 37, 38, 39, 40, 41, 42, 43, 44] (by decide +kernel) (by decide +kernel)
set_option maxRecDepth 20000 in
theorem gX5_sweep_X5_comes : GoodIn wsX5_sweep (wsV RX5 79 RX5 yX5_comes wsX5_comes) := goodIn_app (goodIn_of _ (by decide +kernel)) ggX5_sweep_X5_comes
theorem dX5_sweep_0 : decode cX5_sweep 0 = .ok (.iconst 0, 1) := by decide +kernel
theorem dX5_sweep_1 : decode cX5_sweep 1 = .ok (.istore_n 2, 1) := by decide +kernel
theorem dX5_sweep_2 : decode cX5_sweep 2 = .ok (.iconst 1, 1) := by decide +kernel
theorem dX5_sweep_3 : decode cX5_sweep 3 = .ok (.istore_n 3, 1) := by decide +kernel
theorem dX5_sweep_4 : decode cX5_sweep 4 = .ok (.iconst 0, 1) := by decide +kernel
theorem dX5_sweep_5 : decode cX5_sweep 5 = .ok (.istore 4, 2) := by decide +kernel
theorem dX5_sweep_7 : decode cX5_sweep 7 = .ok (.iload 4, 2) := by decide +kernel
theorem dX5_sweep_9 : decode cX5_sweep 9 = .ok (.bipush 6, 2) := by decide +kernel
theorem dX5_sweep_11 : decode cX5_sweep 11 = .ok (.if_icmp .ge 78, 3) := by decide +kernel
theorem dX5_sweep_14 : decode cX5_sweep 14 = .ok (.iload_n 3, 1) := by decide +kernel
theorem dX5_sweep_15 : decode cX5_sweep 15 = .ok (.ifCond .eq 74, 3) := by decide +kernel
theorem dX5_sweep_18 : decode cX5_sweep 18 = .ok (.aload_n 0, 1) := by decide +kernel
theorem dX5_sweep_19 : decode cX5_sweep 19 = .ok (.getfield 7, 3) := by decide +kernel
theorem dX5_sweep_22 : decode cX5_sweep 22 = .ok (.iload 4, 2) := by decide +kernel
theorem dX5_sweep_24 : decode cX5_sweep 24 = .ok (.iaload, 1) := by decide +kernel
theorem dX5_sweep_25 : decode cX5_sweep 25 = .ok (.istore 5, 2) := by decide +kernel
theorem dX5_sweep_27 : decode cX5_sweep 27 = .ok (.iload 5, 2) := by decide +kernel
theorem dX5_sweep_29 : decode cX5_sweep 29 = .ok (.iconst (-1), 1) := by decide +kernel
theorem dX5_sweep_30 : decode cX5_sweep 30 = .ok (.if_icmp .eq 53, 3) := by decide +kernel
theorem dX5_sweep_33 : decode cX5_sweep 33 = .ok (.aload_n 0, 1) := by decide +kernel
theorem dX5_sweep_34 : decode cX5_sweep 34 = .ok (.iload 5, 2) := by decide +kernel
theorem dX5_sweep_36 : decode cX5_sweep 36 = .ok (.invokevirtual 95, 3) := by decide +kernel
theorem dX5_sweep_39 : decode cX5_sweep 39 = .ok (.aload_n 0, 1) := by decide +kernel
theorem dX5_sweep_40 : decode cX5_sweep 40 = .ok (.getfield 13, 3) := by decide +kernel
theorem dX5_sweep_43 : decode cX5_sweep 43 = .ok (.iload 5, 2) := by decide +kernel
theorem dX5_sweep_45 : decode cX5_sweep 45 = .ok (.iaload, 1) := by decide +kernel
theorem dX5_sweep_46 : decode cX5_sweep 46 = .ok (.iload_n 1, 1) := by decide +kernel
theorem dX5_sweep_47 : decode cX5_sweep 47 = .ok (.if_icmp .eq 29, 3) := by decide +kernel
theorem dX5_sweep_50 : decode cX5_sweep 50 = .ok (.iload_n 2, 1) := by decide +kernel
theorem dX5_sweep_51 : decode cX5_sweep 51 = .ok (.aload_n 0, 1) := by decide +kernel
theorem dX5_sweep_52 : decode cX5_sweep 52 = .ok (.getfield 13, 3) := by decide +kernel
theorem dX5_sweep_55 : decode cX5_sweep 55 = .ok (.iload 5, 2) := by decide +kernel
theorem dX5_sweep_57 : decode cX5_sweep 57 = .ok (.iaload, 1) := by decide +kernel
theorem dX5_sweep_58 : decode cX5_sweep 58 = .ok (.iadd, 1) := by decide +kernel
theorem dX5_sweep_59 : decode cX5_sweep 59 = .ok (.istore_n 2, 1) := by decide +kernel
theorem dX5_sweep_60 : decode cX5_sweep 60 = .ok (.aload_n 0, 1) := by decide +kernel
theorem dX5_sweep_61 : decode cX5_sweep 61 = .ok (.getfield 13, 3) := by decide +kernel
theorem dX5_sweep_64 : decode cX5_sweep 64 = .ok (.iload 5, 2) := by decide +kernel
theorem dX5_sweep_66 : decode cX5_sweep 66 = .ok (.iaload, 1) := by decide +kernel
theorem dX5_sweep_67 : decode cX5_sweep 67 = .ok (.ifCond .lt 7, 3) := by decide +kernel
theorem dX5_sweep_70 : decode cX5_sweep 70 = .ok (.iconst 1, 1) := by decide +kernel
theorem dX5_sweep_71 : decode cX5_sweep 71 = .ok (.goto 4, 3) := by decide +kernel
theorem dX5_sweep_74 : decode cX5_sweep 74 = .ok (.iconst 0, 1) := by decide +kernel
theorem dX5_sweep_75 : decode cX5_sweep 75 = .ok (.istore_n 3, 1) := by decide +kernel
theorem dX5_sweep_76 : decode cX5_sweep 76 = .ok (.aload_n 0, 1) := by decide +kernel
theorem dX5_sweep_77 : decode cX5_sweep 77 = .ok (.iload 5, 2) := by decide +kernel
theorem dX5_sweep_79 : decode cX5_sweep 79 = .ok (.iconst 0, 1) := by decide +kernel
theorem dX5_sweep_80 : decode cX5_sweep 80 = .ok (.invokevirtual 101, 3) := by decide +kernel
theorem dX5_sweep_83 : decode cX5_sweep 83 = .ok (.iinc 4 1, 3) := by decide +kernel
theorem dX5_sweep_86 : decode cX5_sweep 86 = .ok (.goto (-79), 3) := by decide +kernel
theorem dX5_sweep_89 : decode cX5_sweep 89 = .ok (.aload_n 0, 1) := by decide +kernel
theorem dX5_sweep_90 : decode cX5_sweep 90 = .ok (.sipush 10000, 3) := by decide +kernel
theorem dX5_sweep_93 : decode cX5_sweep 93 = .ok (.iload_n 2, 1) := by decide +kernel
theorem dX5_sweep_94 : decode cX5_sweep 94 = .ok (.iadd, 1) := by decide +kernel
theorem dX5_sweep_95 : decode cX5_sweep 95 = .ok (.invokevirtual 79, 3) := by decide +kernel
theorem dX5_sweep_98 : decode cX5_sweep 98 = .ok (.iconst 0, 1) := by decide +kernel
theorem dX5_sweep_99 : decode cX5_sweep 99 = .ok (.ireturn, 1) := by decide +kernel
set_option maxRecDepth 20000 in
theorem ggX5_doStep_X5_comes : GoodIn wsX5_doStep wsX5_comes := goodIn_r _ [13, 14, 15, 76, 77, 78, 79, 80, 81, 82, 83, 84, 85, 86, 87, 88, 89, 90, 91, 92, 93, 94, 95, 96, 97] (by decide +kernel) (by decide +kernel)
set_option maxRecDepth 20000 in
theorem gX5_doStep_X5_comes : GoodIn wsX5_doStep (wsV RX5 79 RX5 yX5_comes wsX5_comes) := goodIn_app (goodIn_of _ (by decide +kernel)) ggX5_doStep_X5_comes
set_option maxRecDepth 20000 in
theorem ggX5_doStep_X5_throwing : GoodIn wsX5_doStep wsX5_throwing := goodIn_r _ [19, 20, 76, 77, 78, 79, 80, 81, 82, 83, 84, 85, 86, 87, 88, 89, 90, 91, 92, 93, 94, 95, 96, 97] (by decide +kernel) (by decide +kernel)
set_option maxRecDepth 20000 in
theorem gX5_doStep_X5_throwing : GoodIn wsX5_doStep (wsV RX5 108 RX5 yX5_throwing wsX5_throwing) := goodIn_app (goodIn_of _ (by decide +kernel)) ggX5_doStep_X5_throwing
set_option maxRecDepth 20000 in
theorem ggX5_doStep_X5_hold : GoodIn wsX5_doStep wsX5_hold := goodIn_r _ [73, 50, 51, 52, 12, 53, 54, 55, 56, 40, 9, 10, 11, 13, 14, 15, 69, 70, 71, 57, 58, 59, 60, 61, 62, 63, 64, 65, 66, 67, 68, 20, 72, 6, 0, 1, 2, 3, 4, 5, 7, 8, 16, 17, 18, 19, 21, 22, 23, 24, 25, 26, 27, 28, 29, 30, 31, 32, 33, 34, 35, 36, 37, 38, 39, 41, 42, 43, 44, 45, 46, 47, 48, 49, 74, 75, 76, 77, 78, 79, 80, 81, 82, 83, 84, 85, 86, 87, 88, 89, 90, 91, 92, 93, 94, 95, 96, 97] (by decide +kernel) (by decide +kernel)
set_option maxRecDepth 20000 in
theorem gX5_doStep_X5_hold : GoodIn wsX5_doStep (wsV RX5 114 RX5 yX5_hold wsX5_hold) := goodIn_app (goodIn_of _ (by decide +kernel)) ggX5_doStep_X5_hold
set_option maxRecDepth 20000 in
theorem ggX5_doStep_X5_loop : GoodIn wsX5_doStep wsX5_loop := goodIn_r _ [74, 6, 69, 70, 71, 12, 62, 63, 64, 65, 66, 67, 68, 20, 72, 0, 1, 2, 3, 4, 5, 7, 8, 9, 10, 11, 13, 14, 15, 16, 17, 18, 19, 21, 22, 23, 24, 25, 26, 27, 28, 29, 30, 31, 32, 33, 34, 35, 36, 37, 38, 39, 40, 41, 42, 43, 44, 45, 46, 47, 48, 49, 50, 51, 52, 53, 54, 55, 56, 57, 58, 59, 60, 61, 73, 75, 76, 77, 78, 79, 80, 81, 82, 83, 84, 85, 86, 87, 88, 89, 90, 91, 92, 93, 94, 95, 96, 97] (by decide +kernel) (by decide +kernel)
set_option maxRecDepth 20000 in
theorem gX5_doStep_X5_loop : GoodIn wsX5_doStep (wsV RX5 118 RX5 yX5_loop wsX5_loop) := goodIn_app (goodIn_of _ (by decide +kernel)) ggX5_doStep_X5_loop
set_option maxRecDepth 20000 in
theorem ggX5_doStep_X5_tried : GoodIn wsX5_doStep wsX5_tried := goodIn_r _ [75, 6, 20, 69, 70, 71, 12, 62, 63, 64, 65, 66, 67, 68, 72, 0, 1, 2, 3, 4, 5, 7, 8, 9, 10, 11, 13, 14, 15, 16, 17, 18, 19, 21, 22, 23, 24, 25, 26, 27, 28, 29, 30, 31, 32, 33, 34, 35, 36, 37, 38, 39, 40, 41, 42, 43, 44, 45, 46, 47, 48, 49, 50, 51, 52, 53, 54, 55, 56, 57, 58, 59, 60, 61, 73, 74, 76, 77, 78, 79, 80, 81, 82, 83, 84, 85, 86, 87, 88, 89, 90, 91, 92, 93, 94, 95, 96, 97] (by decide +kernel) (by decide +kernel)
set_option maxRecDepth 20000 in
theorem gX5_doStep_X5_tried : GoodIn wsX5_doStep (wsV RX5 121 RX5 yX5_tried wsX5_tried) := goodIn_app (goodIn_of _ (by decide +kernel)) ggX5_doStep_X5_tried
set_option maxRecDepth 20000 in
theorem ggX5_doStep_X5_both : GoodIn wsX5_doStep wsX5_both := goodIn_r _ [68, 20, 69, 70, 71, 12, 62, 63, 64, 65, 66, 67, 72, 6, 0, 1, 2, 3, 4, 5, 7, 8, 9, 10, 11, 13, 14, 15, 16, 17, 18, 19, 21, 22, 23, 24, 25, 26, 27, 28, 29, 30, 31, 32, 33, 34, 35, 36, 37, 38, 39, 40, 41, 42, 43, 44, 45, 46, 47, 48, 49, 50, 51, 52, 53, 54, 55, 56, 57, 58, 59, 60, 61, 73, 74, 75, 76, 77, 78, 79, 80, 81, 82, 83, 84, 85, 86, 87, 88, 89, 90, 91, 92, 93, 94, 95, 96, 97] (by decide +kernel) (by decide +kernel)
set_option maxRecDepth 20000 in
theorem gX5_doStep_X5_both : GoodIn wsX5_doStep (wsV RX5 125 RX5 yX5_both wsX5_both) := goodIn_app (goodIn_of _ (by decide +kernel)) ggX5_doStep_X5_both
set_option maxRecDepth 20000 in
theorem ggX5_doStep_X5_call : GoodIn wsX5_doStep wsX5_call := goodIn_r _ [72, 6, 69, 70, 71, 12, 62, 63, 64, 65, 66, 67, 68, 20, 0, 1, 2, 3, 4, 5, 7, 8, 9, 10, 11, 13, 14, 15, 16, 17, 18, 19, 21, 22, 23, 24, 25, 26, 27, 28, 29, 30, 31, 32, 33, 34, 35, 36, 37, 38, 39, 40, 41, 42, 43, 44, 45, 46, 47, 48, 49, 50, 51, 52, 53, 54, 55, 56, 57, 58, 59, 60, 61, 73, 74, 75, 76, 77, 78, 79, 80, 81, 82, 83, 84, 85, 86, 87, 88, 89, 90, 91, 92, 93, 94, 95, 96, 97] (by decide +kernel) (by decide +kernel)
set_option maxRecDepth 20000 in
theorem gX5_doStep_X5_call : GoodIn wsX5_doStep (wsV RX5 128 RX5 yX5_call wsX5_call) := goodIn_app (goodIn_of _ (by decide +kernel)) ggX5_doStep_X5_call
set_option maxRecDepth 20000 in
theorem ggX5_doStep_X5_add : GoodIn wsX5_doStep wsX5_add := goodIn_r _ [39, 40, 41, 16, 17, 18, 12, 19, 20, 76, 77, 78, 79, 80, 81, 82, 83, 84, 85, 86, 87, 88, 89, 90, 91, 92, 93, 94, 95, 96, 97] (by decide +kernel) (by decide +kernel)
set_option maxRecDepth 20000 in
theorem gX5_doStep_X5_add : GoodIn wsX5_doStep (wsV RX5 131 RX5 yX5_add wsX5_add) := goodIn_app (goodIn_of _ (by decide +kernel)) ggX5_doStep_X5_add
set_option maxRecDepth 20000 in
theorem ggX5_doStep_X5_made : GoodIn wsX5_doStep wsX5_made := goodIn_r _ [45, 41, 8, 40, 4, 76, 77, 78, 79, 80, 81, 82, 83, 84, 85, 86, 87, 88, 89, 90, 91, 92, 93, 94, 95, 96, 97] (by decide +kernel) (by decide +kernel)
set_option maxRecDepth 20000 in
theorem gX5_doStep_X5_made : GoodIn wsX5_doStep (wsV RX5 52 RX5 yX5_made wsX5_made) := goodIn_app (goodIn_of _ (by decide +kernel)) ggX5_doStep_X5_made
set_option maxRecDepth 20000 in
theorem ggX5_doStep_X5_sweep : GoodIn wsX5_doStep wsX5_sweep := goodIn_r _ [49, 4, 41, 50, 51, 52, 12, 53, 54, 55, 56, 40, 9, 10, 11, 13, 14, 15, 57, 58, 59, 60, 61, 76, 77, 78, 79, 80, 81, 82, 83, 84, 85, 86, 87, 88, 89, 90, 91, 92, 93, 94, 95, 96, 97] (by decide +kernel) (by decide +kernel)
set_option maxRecDepth 20000 in
theorem gX5_doStep_X5_sweep : GoodIn wsX5_doStep (wsV RX5 134 RX5 yX5_sweep wsX5_sweep) := goodIn_app (goodIn_of _ (by decide +kernel)) ggX5_doStep_X5_sweep
theorem dX5_doStep_0 : decode cX5_doStep 0 = .ok (.aload_n 0, 1) := by decide +kernel
theorem dX5_doStep_1 : decode cX5_doStep 1 = .ok (.getfield 25, 3) := by decide +kernel
theorem dX5_doStep_4 : decode cX5_doStep 4 = .ok (.iload_n 1, 1) := by decide +kernel
theorem dX5_doStep_5 : decode cX5_doStep 5 = .ok (.iaload, 1) := by decide +kernel
theorem dX5_doStep_6 : decode cX5_doStep 6 = .ok (.istore_n 2, 1) := by decide +kernel
theorem dX5_doStep_7 : decode cX5_doStep 7 = .ok (.aload_n 0, 1) := by decide +kernel
theorem dX5_doStep_8 : decode cX5_doStep 8 = .ok (.getfield 28, 3) := by decide +kernel
theorem dX5_doStep_11 : decode cX5_doStep 11 = .ok (.iload_n 1, 1) := by decide +kernel
theorem dX5_doStep_12 : decode cX5_doStep 12 = .ok (.iaload, 1) := by decide +kernel
theorem dX5_doStep_13 : decode cX5_doStep 13 = .ok (.istore_n 3, 1) := by decide +kernel
theorem dX5_doStep_14 : decode cX5_doStep 14 = .ok (.aload_n 0, 1) := by decide +kernel
theorem dX5_doStep_15 : decode cX5_doStep 15 = .ok (.getfield 22, 3) := by decide +kernel
theorem dX5_doStep_18 : decode cX5_doStep 18 = .ok (.iload_n 1, 1) := by decide +kernel
theorem dX5_doStep_19 : decode cX5_doStep 19 = .ok (.iaload, 1) := by decide +kernel
theorem dX5_doStep_20 : decode cX5_doStep 20 = .ok (.tableswitch 253 0 13 #[72, 83, 122, 129, 142, 155, 157, 163, 176, 188, 194, 206, 220, 244], 72) := by decide +kernel
theorem dX5_doStep_92 : decode cX5_doStep 92 = .ok (.aload_n 0, 1) := by decide +kernel
theorem dX5_doStep_93 : decode cX5_doStep 93 = .ok (.sipush 10000, 3) := by decide +kernel
theorem dX5_doStep_96 : decode cX5_doStep 96 = .ok (.iload_n 2, 1) := by decide +kernel
theorem dX5_doStep_97 : decode cX5_doStep 97 = .ok (.iadd, 1) := by decide +kernel
theorem dX5_doStep_98 : decode cX5_doStep 98 = .ok (.invokevirtual 79, 3) := by decide +kernel
theorem dX5_doStep_101 : decode cX5_doStep 101 = .ok (.iconst 0, 1) := by decide +kernel
theorem dX5_doStep_102 : decode cX5_doStep 102 = .ok (.ireturn, 1) := by decide +kernel
theorem dX5_doStep_103 : decode cX5_doStep 103 = .ok (.aload_n 0, 1) := by decide +kernel
theorem dX5_doStep_104 : decode cX5_doStep 104 = .ok (.getfield 7, 3) := by decide +kernel
theorem dX5_doStep_107 : decode cX5_doStep 107 = .ok (.iload_n 2, 1) := by decide +kernel
theorem dX5_doStep_108 : decode cX5_doStep 108 = .ok (.iaload, 1) := by decide +kernel
theorem dX5_doStep_109 : decode cX5_doStep 109 = .ok (.iconst (-1), 1) := by decide +kernel
theorem dX5_doStep_110 : decode cX5_doStep 110 = .ok (.if_icmp .ne 20, 3) := by decide +kernel
theorem dX5_doStep_113 : decode cX5_doStep 113 = .ok (.aload_n 0, 1) := by decide +kernel
theorem dX5_doStep_114 : decode cX5_doStep 114 = .ok (.dup, 1) := by decide +kernel
theorem dX5_doStep_115 : decode cX5_doStep 115 = .ok (.getfield 111, 3) := by decide +kernel
theorem dX5_doStep_118 : decode cX5_doStep 118 = .ok (.iconst 1, 1) := by decide +kernel
theorem dX5_doStep_119 : decode cX5_doStep 119 = .ok (.iadd, 1) := by decide +kernel
theorem dX5_doStep_120 : decode cX5_doStep 120 = .ok (.putfield 111, 3) := by decide +kernel
theorem dX5_doStep_123 : decode cX5_doStep 123 = .ok (.aload_n 0, 1) := by decide +kernel
theorem dX5_doStep_124 : decode cX5_doStep 124 = .ok (.bipush 12, 2) := by decide +kernel
theorem dX5_doStep_126 : decode cX5_doStep 126 = .ok (.invokevirtual 108, 3) := by decide +kernel
theorem dX5_doStep_129 : decode cX5_doStep 129 = .ok (.ireturn, 1) := by decide +kernel
theorem dX5_doStep_130 : decode cX5_doStep 130 = .ok (.aload_n 0, 1) := by decide +kernel
theorem dX5_doStep_131 : decode cX5_doStep 131 = .ok (.aload_n 0, 1) := by decide +kernel
theorem dX5_doStep_132 : decode cX5_doStep 132 = .ok (.getfield 7, 3) := by decide +kernel
theorem dX5_doStep_135 : decode cX5_doStep 135 = .ok (.iload_n 2, 1) := by decide +kernel
theorem dX5_doStep_136 : decode cX5_doStep 136 = .ok (.iaload, 1) := by decide +kernel
theorem dX5_doStep_137 : decode cX5_doStep 137 = .ok (.iload_n 3, 1) := by decide +kernel
theorem dX5_doStep_138 : decode cX5_doStep 138 = .ok (.invokevirtual 114, 3) := by decide +kernel
theorem dX5_doStep_141 : decode cX5_doStep 141 = .ok (.ireturn, 1) := by decide +kernel
theorem dX5_doStep_142 : decode cX5_doStep 142 = .ok (.aload_n 0, 1) := by decide +kernel
theorem dX5_doStep_143 : decode cX5_doStep 143 = .ok (.iload_n 2, 1) := by decide +kernel
theorem dX5_doStep_144 : decode cX5_doStep 144 = .ok (.iload_n 3, 1) := by decide +kernel
theorem dX5_doStep_145 : decode cX5_doStep 145 = .ok (.invokevirtual 118, 3) := by decide +kernel
theorem dX5_doStep_148 : decode cX5_doStep 148 = .ok (.ireturn, 1) := by decide +kernel
theorem dX5_doStep_149 : decode cX5_doStep 149 = .ok (.aload_n 0, 1) := by decide +kernel
theorem dX5_doStep_150 : decode cX5_doStep 150 = .ok (.getfield 105, 3) := by decide +kernel
theorem dX5_doStep_153 : decode cX5_doStep 153 = .ok (.ifCond .le 7, 3) := by decide +kernel
theorem dX5_doStep_156 : decode cX5_doStep 156 = .ok (.iconst 1, 1) := by decide +kernel
theorem dX5_doStep_157 : decode cX5_doStep 157 = .ok (.goto 4, 3) := by decide +kernel
theorem dX5_doStep_160 : decode cX5_doStep 160 = .ok (.iconst 3, 1) := by decide +kernel
theorem dX5_doStep_161 : decode cX5_doStep 161 = .ok (.ireturn, 1) := by decide +kernel
theorem dX5_doStep_162 : decode cX5_doStep 162 = .ok (.aload_n 0, 1) := by decide +kernel
theorem dX5_doStep_163 : decode cX5_doStep 163 = .ok (.getfield 105, 3) := by decide +kernel
theorem dX5_doStep_166 : decode cX5_doStep 166 = .ok (.ifCond .le 7, 3) := by decide +kernel
theorem dX5_doStep_169 : decode cX5_doStep 169 = .ok (.iconst 2, 1) := by decide +kernel
theorem dX5_doStep_170 : decode cX5_doStep 170 = .ok (.goto 4, 3) := by decide +kernel
theorem dX5_doStep_173 : decode cX5_doStep 173 = .ok (.iconst 3, 1) := by decide +kernel
theorem dX5_doStep_174 : decode cX5_doStep 174 = .ok (.ireturn, 1) := by decide +kernel
theorem dX5_doStep_175 : decode cX5_doStep 175 = .ok (.iconst 3, 1) := by decide +kernel
theorem dX5_doStep_176 : decode cX5_doStep 176 = .ok (.ireturn, 1) := by decide +kernel
theorem dX5_doStep_177 : decode cX5_doStep 177 = .ok (.aload_n 0, 1) := by decide +kernel
theorem dX5_doStep_178 : decode cX5_doStep 178 = .ok (.iload_n 2, 1) := by decide +kernel
theorem dX5_doStep_179 : decode cX5_doStep 179 = .ok (.invokevirtual 108, 3) := by decide +kernel
theorem dX5_doStep_182 : decode cX5_doStep 182 = .ok (.ireturn, 1) := by decide +kernel
theorem dX5_doStep_183 : decode cX5_doStep 183 = .ok (.aload_n 0, 1) := by decide +kernel
theorem dX5_doStep_184 : decode cX5_doStep 184 = .ok (.iload_n 2, 1) := by decide +kernel
theorem dX5_doStep_185 : decode cX5_doStep 185 = .ok (.iload_n 3, 1) := by decide +kernel
theorem dX5_doStep_186 : decode cX5_doStep 186 = .ok (.aload_n 0, 1) := by decide +kernel
theorem dX5_doStep_187 : decode cX5_doStep 187 = .ok (.getfield 31, 3) := by decide +kernel
theorem dX5_doStep_190 : decode cX5_doStep 190 = .ok (.iload_n 1, 1) := by decide +kernel
theorem dX5_doStep_191 : decode cX5_doStep 191 = .ok (.iaload, 1) := by decide +kernel
theorem dX5_doStep_192 : decode cX5_doStep 192 = .ok (.invokevirtual 121, 3) := by decide +kernel
theorem dX5_doStep_195 : decode cX5_doStep 195 = .ok (.ireturn, 1) := by decide +kernel
theorem dX5_doStep_196 : decode cX5_doStep 196 = .ok (.aload_n 0, 1) := by decide +kernel
theorem dX5_doStep_197 : decode cX5_doStep 197 = .ok (.iload_n 3, 1) := by decide +kernel
theorem dX5_doStep_198 : decode cX5_doStep 198 = .ok (.aload_n 0, 1) := by decide +kernel
theorem dX5_doStep_199 : decode cX5_doStep 199 = .ok (.getfield 31, 3) := by decide +kernel
theorem dX5_doStep_202 : decode cX5_doStep 202 = .ok (.iload_n 1, 1) := by decide +kernel
theorem dX5_doStep_203 : decode cX5_doStep 203 = .ok (.iaload, 1) := by decide +kernel
theorem dX5_doStep_204 : decode cX5_doStep 204 = .ok (.invokevirtual 125, 3) := by decide +kernel
theorem dX5_doStep_207 : decode cX5_doStep 207 = .ok (.ireturn, 1) := by decide +kernel
theorem dX5_doStep_208 : decode cX5_doStep 208 = .ok (.aload_n 0, 1) := by decide +kernel
theorem dX5_doStep_209 : decode cX5_doStep 209 = .ok (.iload_n 3, 1) := by decide +kernel
theorem dX5_doStep_210 : decode cX5_doStep 210 = .ok (.invokevirtual 128, 3) := by decide +kernel
theorem dX5_doStep_213 : decode cX5_doStep 213 = .ok (.ireturn, 1) := by decide +kernel
theorem dX5_doStep_214 : decode cX5_doStep 214 = .ok (.aload_n 0, 1) := by decide +kernel
theorem dX5_doStep_215 : decode cX5_doStep 215 = .ok (.aload_n 0, 1) := by decide +kernel
theorem dX5_doStep_216 : decode cX5_doStep 216 = .ok (.getfield 7, 3) := by decide +kernel
theorem dX5_doStep_219 : decode cX5_doStep 219 = .ok (.iload_n 3, 1) := by decide +kernel
theorem dX5_doStep_220 : decode cX5_doStep 220 = .ok (.iaload, 1) := by decide +kernel
