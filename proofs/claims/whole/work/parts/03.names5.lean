theorem dX5_doStep_221 : decode cX5_doStep 221 = .ok (.iload_n 2, 1) := by decide +kernel
theorem dX5_doStep_222 : decode cX5_doStep 222 = .ok (.invokevirtual 131, 3) := by decide +kernel
theorem dX5_doStep_225 : decode cX5_doStep 225 = .ok (.ireturn, 1) := by decide +kernel
theorem dX5_doStep_226 : decode cX5_doStep 226 = .ok (.aload_n 0, 1) := by decide +kernel
theorem dX5_doStep_227 : decode cX5_doStep 227 = .ok (.getfield 7, 3) := by decide +kernel
theorem dX5_doStep_230 : decode cX5_doStep 230 = .ok (.iload_n 2, 1) := by decide +kernel
theorem dX5_doStep_231 : decode cX5_doStep 231 = .ok (.aload_n 0, 1) := by decide +kernel
theorem dX5_doStep_232 : decode cX5_doStep 232 = .ok (.getfield 7, 3) := by decide +kernel
theorem dX5_doStep_235 : decode cX5_doStep 235 = .ok (.iload_n 3, 1) := by decide +kernel
theorem dX5_doStep_236 : decode cX5_doStep 236 = .ok (.iaload, 1) := by decide +kernel
theorem dX5_doStep_237 : decode cX5_doStep 237 = .ok (.iastore, 1) := by decide +kernel
theorem dX5_doStep_238 : decode cX5_doStep 238 = .ok (.iconst 0, 1) := by decide +kernel
theorem dX5_doStep_239 : decode cX5_doStep 239 = .ok (.ireturn, 1) := by decide +kernel
theorem dX5_doStep_240 : decode cX5_doStep 240 = .ok (.aload_n 0, 1) := by decide +kernel
theorem dX5_doStep_241 : decode cX5_doStep 241 = .ok (.getfield 45, 3) := by decide +kernel
theorem dX5_doStep_244 : decode cX5_doStep 244 = .ok (.bipush 60, 2) := by decide +kernel
theorem dX5_doStep_246 : decode cX5_doStep 246 = .ok (.if_icmp .ne 10, 3) := by decide +kernel
theorem dX5_doStep_249 : decode cX5_doStep 249 = .ok (.aload_n 0, 1) := by decide +kernel
theorem dX5_doStep_250 : decode cX5_doStep 250 = .ok (.bipush 13, 2) := by decide +kernel
theorem dX5_doStep_252 : decode cX5_doStep 252 = .ok (.invokevirtual 108, 3) := by decide +kernel
theorem dX5_doStep_255 : decode cX5_doStep 255 = .ok (.ireturn, 1) := by decide +kernel
theorem dX5_doStep_256 : decode cX5_doStep 256 = .ok (.aload_n 0, 1) := by decide +kernel
theorem dX5_doStep_257 : decode cX5_doStep 257 = .ok (.iload_n 2, 1) := by decide +kernel
theorem dX5_doStep_258 : decode cX5_doStep 258 = .ok (.invokevirtual 52, 3) := by decide +kernel
theorem dX5_doStep_261 : decode cX5_doStep 261 = .ok (.pop, 1) := by decide +kernel
theorem dX5_doStep_262 : decode cX5_doStep 262 = .ok (.iconst 0, 1) := by decide +kernel
theorem dX5_doStep_263 : decode cX5_doStep 263 = .ok (.ireturn, 1) := by decide +kernel
theorem dX5_doStep_264 : decode cX5_doStep 264 = .ok (.aload_n 0, 1) := by decide +kernel
theorem dX5_doStep_265 : decode cX5_doStep 265 = .ok (.getfield 7, 3) := by decide +kernel
theorem dX5_doStep_268 : decode cX5_doStep 268 = .ok (.iload_n 2, 1) := by decide +kernel
theorem dX5_doStep_269 : decode cX5_doStep 269 = .ok (.iconst (-1), 1) := by decide +kernel
theorem dX5_doStep_270 : decode cX5_doStep 270 = .ok (.iastore, 1) := by decide +kernel
theorem dX5_doStep_271 : decode cX5_doStep 271 = .ok (.iconst 0, 1) := by decide +kernel
theorem dX5_doStep_272 : decode cX5_doStep 272 = .ok (.ireturn, 1) := by decide +kernel
theorem dX5_doStep_273 : decode cX5_doStep 273 = .ok (.aload_n 0, 1) := by decide +kernel
theorem dX5_doStep_274 : decode cX5_doStep 274 = .ok (.iload_n 2, 1) := by decide +kernel
theorem dX5_doStep_275 : decode cX5_doStep 275 = .ok (.invokevirtual 134, 3) := by decide +kernel
theorem dX5_doStep_278 : decode cX5_doStep 278 = .ok (.ireturn, 1) := by decide +kernel
set_option maxRecDepth 20000 in
theorem ggX5_run_X5_block : GoodIn wsX5_run wsX5_block := goodIn_r _ [16, 17, 5, 18, 19, 20, 15, 21, 11, 12, 13, 14, 22, 10, 23, 24, 25, 26, 27, 2, 28, 29, 30, 31, 32, 33, 4, 34, 35, 36, 37, 38, 39, 40, 41, 42, 43, 44, 45, 46, 47, 48, 49, 50, 51, 52, 53, 54, 55, 56, 57, 58, 59, 60, 61, 62, 63, 64, 65, 66, 67, 68, 69, 70, 71, 6, 9, 7, 72, 73, 74, 75, 8, 76, 77, 78, 79, 80, 81, 82, 83, 84, 85, 86, 87, 88, 89, 90, 91, 92, 93, 94, 95, 96, 97, 98, 99, 100] (by decide +kernel) (by decide +kernel)
set_option maxRecDepth 20000 in
theorem gX5_run_X5_block : GoodIn wsX5_run (wsV RX5 98 RX5 yX5_block wsX5_block) := goodIn_app (goodIn_of _ (by decide +kernel)) ggX5_run_X5_block
theorem dX5_run_0 : decode cX5_run 0 = .ok (.aload_n 0, 1) := by decide +kernel
theorem dX5_run_1 : decode cX5_run 1 = .ok (.iconst 0, 1) := by decide +kernel
theorem dX5_run_2 : decode cX5_run 2 = .ok (.putfield 37, 3) := by decide +kernel
theorem dX5_run_5 : decode cX5_run 5 = .ok (.aload_n 0, 1) := by decide +kernel
theorem dX5_run_6 : decode cX5_run 6 = .ok (.getfield 111, 3) := by decide +kernel
theorem dX5_run_9 : decode cX5_run 9 = .ok (.sipush 1500, 3) := by decide +kernel
theorem dX5_run_12 : decode cX5_run 12 = .ok (.if_icmp .lt 6, 3) := by decide +kernel
theorem dX5_run_15 : decode cX5_run 15 = .ok (.bipush (-3), 2) := by decide +kernel
theorem dX5_run_17 : decode cX5_run 17 = .ok (.ireturn, 1) := by decide +kernel
theorem dX5_run_18 : decode cX5_run 18 = .ok (.aload_n 0, 1) := by decide +kernel
theorem dX5_run_19 : decode cX5_run 19 = .ok (.dup, 1) := by decide +kernel
theorem dX5_run_20 : decode cX5_run 20 = .ok (.getfield 137, 3) := by decide +kernel
theorem dX5_run_23 : decode cX5_run 23 = .ok (.iconst 1, 1) := by decide +kernel
theorem dX5_run_24 : decode cX5_run 24 = .ok (.iadd, 1) := by decide +kernel
theorem dX5_run_25 : decode cX5_run 25 = .ok (.putfield 137, 3) := by decide +kernel
theorem dX5_run_28 : decode cX5_run 28 = .ok (.aload_n 0, 1) := by decide +kernel
theorem dX5_run_29 : decode cX5_run 29 = .ok (.iconst 0, 1) := by decide +kernel
theorem dX5_run_30 : decode cX5_run 30 = .ok (.putfield 67, 3) := by decide +kernel
theorem dX5_run_33 : decode cX5_run 33 = .ok (.aload_n 0, 1) := by decide +kernel
theorem dX5_run_34 : decode cX5_run 34 = .ok (.iconst 0, 1) := by decide +kernel
theorem dX5_run_35 : decode cX5_run 35 = .ok (.putfield 89, 3) := by decide +kernel
theorem dX5_run_38 : decode cX5_run 38 = .ok (.aload_n 0, 1) := by decide +kernel
theorem dX5_run_39 : decode cX5_run 39 = .ok (.iconst 0, 1) := by decide +kernel
theorem dX5_run_40 : decode cX5_run 40 = .ok (.putfield 70, 3) := by decide +kernel
theorem dX5_run_43 : decode cX5_run 43 = .ok (.aload_n 0, 1) := by decide +kernel
theorem dX5_run_44 : decode cX5_run 44 = .ok (.iconst 0, 1) := by decide +kernel
theorem dX5_run_45 : decode cX5_run 45 = .ok (.putfield 76, 3) := by decide +kernel
theorem dX5_run_48 : decode cX5_run 48 = .ok (.aload_n 0, 1) := by decide +kernel
theorem dX5_run_49 : decode cX5_run 49 = .ok (.iconst 0, 1) := by decide +kernel
theorem dX5_run_50 : decode cX5_run 50 = .ok (.putfield 83, 3) := by decide +kernel
theorem dX5_run_53 : decode cX5_run 53 = .ok (.aload_n 0, 1) := by decide +kernel
theorem dX5_run_54 : decode cX5_run 54 = .ok (.iconst 0, 1) := by decide +kernel
theorem dX5_run_55 : decode cX5_run 55 = .ok (.putfield 73, 3) := by decide +kernel
theorem dX5_run_58 : decode cX5_run 58 = .ok (.aload_n 0, 1) := by decide +kernel
theorem dX5_run_59 : decode cX5_run 59 = .ok (.iconst 0, 1) := by decide +kernel
theorem dX5_run_60 : decode cX5_run 60 = .ok (.putfield 105, 3) := by decide +kernel
theorem dX5_run_63 : decode cX5_run 63 = .ok (.aload_n 0, 1) := by decide +kernel
theorem dX5_run_64 : decode cX5_run 64 = .ok (.iconst 0, 1) := by decide +kernel
theorem dX5_run_65 : decode cX5_run 65 = .ok (.invokevirtual 98, 3) := by decide +kernel
theorem dX5_run_68 : decode cX5_run 68 = .ok (.istore_n 1, 1) := by decide +kernel
theorem dX5_run_69 : decode cX5_run 69 = .ok (.iload_n 1, 1) := by decide +kernel
theorem dX5_run_70 : decode cX5_run 70 = .ok (.iconst 4, 1) := by decide +kernel
theorem dX5_run_71 : decode cX5_run 71 = .ok (.if_icmp .ne 10, 3) := by decide +kernel
theorem dX5_run_74 : decode cX5_run 74 = .ok (.aload_n 0, 1) := by decide +kernel
theorem dX5_run_75 : decode cX5_run 75 = .ok (.getfield 86, 3) := by decide +kernel
theorem dX5_run_78 : decode cX5_run 78 = .ok (.goto 14, 3) := by decide +kernel
theorem dX5_run_81 : decode cX5_run 81 = .ok (.iload_n 1, 1) := by decide +kernel
theorem dX5_run_82 : decode cX5_run 82 = .ok (.iconst 5, 1) := by decide +kernel
theorem dX5_run_83 : decode cX5_run 83 = .ok (.if_icmp .ne 8, 3) := by decide +kernel
theorem dX5_run_86 : decode cX5_run 86 = .ok (.bipush 20, 2) := by decide +kernel
theorem dX5_run_88 : decode cX5_run 88 = .ok (.goto 4, 3) := by decide +kernel
theorem dX5_run_91 : decode cX5_run 91 = .ok (.iconst 0, 1) := by decide +kernel
theorem dX5_run_92 : decode cX5_run 92 = .ok (.ireturn, 1) := by decide +kernel
set_option maxRecDepth 20000 in
theorem ggX5_trace_X5_in : GoodIn wsX5_trace wsX5_in := goodIn_r _ [7] (by decide +kernel) (by decide +kernel)
set_option maxRecDepth 20000 in
theorem gX5_trace_X5_in : GoodIn wsX5_trace (va_wsS RX5 41 yX5_in wsX5_in) := goodIn_app (goodIn_of _ (by decide +kernel)) ggX5_trace_X5_in
theorem dX5_trace_0 : decode cX5_trace 0 = .ok (.aload_n 0, 1) := by decide +kernel
theorem dX5_trace_1 : decode cX5_trace 1 = .ok (.iconst 0, 1) := by decide +kernel
theorem dX5_trace_2 : decode cX5_trace 2 = .ok (.putfield 37, 3) := by decide +kernel
theorem dX5_trace_5 : decode cX5_trace 5 = .ok (.iload_n 1, 1) := by decide +kernel
theorem dX5_trace_6 : decode cX5_trace 6 = .ok (.iconst 0, 1) := by decide +kernel
theorem dX5_trace_7 : decode cX5_trace 7 = .ok (.sipush 249, 3) := by decide +kernel
theorem dX5_trace_10 : decode cX5_trace 10 = .ok (.invokestatic 41, 3) := by decide +kernel
theorem dX5_trace_13 : decode cX5_trace 13 = .ok (.ifCond .eq 20, 3) := by decide +kernel
theorem dX5_trace_16 : decode cX5_trace 16 = .ok (.iload_n 1, 1) := by decide +kernel
theorem dX5_trace_17 : decode cX5_trace 17 = .ok (.aload_n 0, 1) := by decide +kernel
theorem dX5_trace_18 : decode cX5_trace 18 = .ok (.getfield 67, 3) := by decide +kernel
theorem dX5_trace_21 : decode cX5_trace 21 = .ok (.if_icmp .ge 12, 3) := by decide +kernel
theorem dX5_trace_24 : decode cX5_trace 24 = .ok (.aload_n 0, 1) := by decide +kernel
theorem dX5_trace_25 : decode cX5_trace 25 = .ok (.getfield 34, 3) := by decide +kernel
theorem dX5_trace_28 : decode cX5_trace 28 = .ok (.iload_n 1, 1) := by decide +kernel
theorem dX5_trace_29 : decode cX5_trace 29 = .ok (.iaload, 1) := by decide +kernel
theorem dX5_trace_30 : decode cX5_trace 30 = .ok (.goto 4, 3) := by decide +kernel
theorem dX5_trace_33 : decode cX5_trace 33 = .ok (.iconst (-1), 1) := by decide +kernel
theorem dX5_trace_34 : decode cX5_trace 34 = .ok (.ireturn, 1) := by decide +kernel
theorem dX5_told_0 : decode cX5_told 0 = .ok (.aload_n 0, 1) := by decide +kernel
theorem dX5_told_1 : decode cX5_told 1 = .ok (.iconst 0, 1) := by decide +kernel
theorem dX5_told_2 : decode cX5_told 2 = .ok (.putfield 37, 3) := by decide +kernel
theorem dX5_told_5 : decode cX5_told 5 = .ok (.iload_n 1, 1) := by decide +kernel
theorem dX5_told_6 : decode cX5_told 6 = .ok (.ifCond .ne 10, 3) := by decide +kernel
theorem dX5_told_9 : decode cX5_told 9 = .ok (.aload_n 0, 1) := by decide +kernel
theorem dX5_told_10 : decode cX5_told 10 = .ok (.getfield 67, 3) := by decide +kernel
theorem dX5_told_13 : decode cX5_told 13 = .ok (.goto 53, 3) := by decide +kernel
theorem dX5_told_16 : decode cX5_told 16 = .ok (.iload_n 1, 1) := by decide +kernel
theorem dX5_told_17 : decode cX5_told 17 = .ok (.iconst 1, 1) := by decide +kernel
theorem dX5_told_18 : decode cX5_told 18 = .ok (.if_icmp .ne 10, 3) := by decide +kernel
theorem dX5_told_21 : decode cX5_told 21 = .ok (.aload_n 0, 1) := by decide +kernel
theorem dX5_told_22 : decode cX5_told 22 = .ok (.getfield 89, 3) := by decide +kernel
theorem dX5_told_25 : decode cX5_told 25 = .ok (.goto 41, 3) := by decide +kernel
theorem dX5_told_28 : decode cX5_told 28 = .ok (.iload_n 1, 1) := by decide +kernel
theorem dX5_told_29 : decode cX5_told 29 = .ok (.iconst 2, 1) := by decide +kernel
theorem dX5_told_30 : decode cX5_told 30 = .ok (.if_icmp .ne 10, 3) := by decide +kernel
theorem dX5_told_33 : decode cX5_told 33 = .ok (.aload_n 0, 1) := by decide +kernel
theorem dX5_told_34 : decode cX5_told 34 = .ok (.getfield 70, 3) := by decide +kernel
theorem dX5_told_37 : decode cX5_told 37 = .ok (.goto 29, 3) := by decide +kernel
theorem dX5_told_40 : decode cX5_told 40 = .ok (.iload_n 1, 1) := by decide +kernel
theorem dX5_told_41 : decode cX5_told 41 = .ok (.iconst 3, 1) := by decide +kernel
theorem dX5_told_42 : decode cX5_told 42 = .ok (.if_icmp .ne 10, 3) := by decide +kernel
theorem dX5_told_45 : decode cX5_told 45 = .ok (.aload_n 0, 1) := by decide +kernel
theorem dX5_told_46 : decode cX5_told 46 = .ok (.getfield 76, 3) := by decide +kernel
theorem dX5_told_49 : decode cX5_told 49 = .ok (.goto 17, 3) := by decide +kernel
theorem dX5_told_52 : decode cX5_told 52 = .ok (.iload_n 1, 1) := by decide +kernel
theorem dX5_told_53 : decode cX5_told 53 = .ok (.iconst 4, 1) := by decide +kernel
theorem dX5_told_54 : decode cX5_told 54 = .ok (.if_icmp .ne 10, 3) := by decide +kernel
theorem dX5_told_57 : decode cX5_told 57 = .ok (.aload_n 0, 1) := by decide +kernel
theorem dX5_told_58 : decode cX5_told 58 = .ok (.getfield 83, 3) := by decide +kernel
theorem dX5_told_61 : decode cX5_told 61 = .ok (.goto 5, 3) := by decide +kernel
theorem dX5_told_64 : decode cX5_told 64 = .ok (.bipush (-2), 2) := by decide +kernel
theorem dX5_told_66 : decode cX5_told 66 = .ok (.ireturn, 1) := by decide +kernel
set_option maxRecDepth 20000 in
theorem ggX5_at_X5_isPlace : GoodIn wsX5_at wsX5_isPlace := goodIn_r _ [6, 7, 8, 5, 9] (by decide +kernel) (by decide +kernel)
set_option maxRecDepth 20000 in
theorem gX5_at_X5_isPlace : GoodIn wsX5_at (va_wsS RX5 48 yX5_isPlace wsX5_isPlace) := goodIn_app (goodIn_of _ (by decide +kernel)) ggX5_at_X5_isPlace
theorem dX5_at_0 : decode cX5_at 0 = .ok (.aload_n 0, 1) := by decide +kernel
theorem dX5_at_1 : decode cX5_at 1 = .ok (.iconst 0, 1) := by decide +kernel
theorem dX5_at_2 : decode cX5_at 2 = .ok (.putfield 37, 3) := by decide +kernel
theorem dX5_at_5 : decode cX5_at 5 = .ok (.iload_n 1, 1) := by decide +kernel
theorem dX5_at_6 : decode cX5_at 6 = .ok (.invokestatic 48, 3) := by decide +kernel
theorem dX5_at_9 : decode cX5_at 9 = .ok (.ifCond .eq 12, 3) := by decide +kernel
theorem dX5_at_12 : decode cX5_at 12 = .ok (.aload_n 0, 1) := by decide +kernel
theorem dX5_at_13 : decode cX5_at 13 = .ok (.getfield 7, 3) := by decide +kernel
theorem dX5_at_16 : decode cX5_at 16 = .ok (.iload_n 1, 1) := by decide +kernel
theorem dX5_at_17 : decode cX5_at 17 = .ok (.iaload, 1) := by decide +kernel
theorem dX5_at_18 : decode cX5_at 18 = .ok (.goto 5, 3) := by decide +kernel
theorem dX5_at_21 : decode cX5_at 21 = .ok (.bipush (-2), 2) := by decide +kernel
theorem dX5_at_23 : decode cX5_at 23 = .ok (.ireturn, 1) := by decide +kernel
set_option maxRecDepth 20000 in
theorem ggX5_number_X5_in : GoodIn wsX5_number wsX5_in := goodIn_r _ [7] (by decide +kernel) (by decide +kernel)
set_option maxRecDepth 20000 in
theorem gX5_number_X5_in : GoodIn wsX5_number (va_wsS RX5 41 yX5_in wsX5_in) := goodIn_app (goodIn_of _ (by decide +kernel)) ggX5_number_X5_in
theorem dX5_number_0 : decode cX5_number 0 = .ok (.aload_n 0, 1) := by decide +kernel
theorem dX5_number_1 : decode cX5_number 1 = .ok (.iconst 0, 1) := by decide +kernel
theorem dX5_number_2 : decode cX5_number 2 = .ok (.putfield 37, 3) := by decide +kernel
theorem dX5_number_5 : decode cX5_number 5 = .ok (.iload_n 1, 1) := by decide +kernel
theorem dX5_number_6 : decode cX5_number 6 = .ok (.iconst 0, 1) := by decide +kernel
theorem dX5_number_7 : decode cX5_number 7 = .ok (.aload_n 0, 1) := by decide +kernel
theorem dX5_number_8 : decode cX5_number 8 = .ok (.getfield 45, 3) := by decide +kernel
theorem dX5_number_11 : decode cX5_number 11 = .ok (.iconst 1, 1) := by decide +kernel
theorem dX5_number_12 : decode cX5_number 12 = .ok (.isub, 1) := by decide +kernel
theorem dX5_number_13 : decode cX5_number 13 = .ok (.invokestatic 41, 3) := by decide +kernel
theorem dX5_number_16 : decode cX5_number 16 = .ok (.ifCond .eq 12, 3) := by decide +kernel
theorem dX5_number_19 : decode cX5_number 19 = .ok (.aload_n 0, 1) := by decide +kernel
theorem dX5_number_20 : decode cX5_number 20 = .ok (.getfield 13, 3) := by decide +kernel
theorem dX5_number_23 : decode cX5_number 23 = .ok (.iload_n 1, 1) := by decide +kernel
theorem dX5_number_24 : decode cX5_number 24 = .ok (.iaload, 1) := by decide +kernel
theorem dX5_number_25 : decode cX5_number 25 = .ok (.goto 4, 3) := by decide +kernel
theorem dX5_number_28 : decode cX5_number 28 = .ok (.iconst 0, 1) := by decide +kernel
theorem dX5_number_29 : decode cX5_number 29 = .ok (.ireturn, 1) := by decide +kernel
theorem dX5_count_0 : decode cX5_count 0 = .ok (.aload_n 0, 1) := by decide +kernel
theorem dX5_count_1 : decode cX5_count 1 = .ok (.iconst 0, 1) := by decide +kernel
theorem dX5_count_2 : decode cX5_count 2 = .ok (.putfield 37, 3) := by decide +kernel
theorem dX5_count_5 : decode cX5_count 5 = .ok (.iload_n 1, 1) := by decide +kernel
theorem dX5_count_6 : decode cX5_count 6 = .ok (.ifCond .ne 10, 3) := by decide +kernel
theorem dX5_count_9 : decode cX5_count 9 = .ok (.aload_n 0, 1) := by decide +kernel
theorem dX5_count_10 : decode cX5_count 10 = .ok (.getfield 45, 3) := by decide +kernel
theorem dX5_count_13 : decode cX5_count 13 = .ok (.goto 41, 3) := by decide +kernel
theorem dX5_count_16 : decode cX5_count 16 = .ok (.iload_n 1, 1) := by decide +kernel
theorem dX5_count_17 : decode cX5_count 17 = .ok (.iconst 1, 1) := by decide +kernel
theorem dX5_count_18 : decode cX5_count 18 = .ok (.if_icmp .ne 10, 3) := by decide +kernel
theorem dX5_count_21 : decode cX5_count 21 = .ok (.aload_n 0, 1) := by decide +kernel
theorem dX5_count_22 : decode cX5_count 22 = .ok (.getfield 64, 3) := by decide +kernel
theorem dX5_count_25 : decode cX5_count 25 = .ok (.goto 29, 3) := by decide +kernel
theorem dX5_count_28 : decode cX5_count 28 = .ok (.iload_n 1, 1) := by decide +kernel
theorem dX5_count_29 : decode cX5_count 29 = .ok (.iconst 2, 1) := by decide +kernel
theorem dX5_count_30 : decode cX5_count 30 = .ok (.if_icmp .ne 10, 3) := by decide +kernel
theorem dX5_count_33 : decode cX5_count 33 = .ok (.aload_n 0, 1) := by decide +kernel
theorem dX5_count_34 : decode cX5_count 34 = .ok (.getfield 137, 3) := by decide +kernel
theorem dX5_count_37 : decode cX5_count 37 = .ok (.goto 17, 3) := by decide +kernel
theorem dX5_count_40 : decode cX5_count 40 = .ok (.iload_n 1, 1) := by decide +kernel
theorem dX5_count_41 : decode cX5_count 41 = .ok (.iconst 3, 1) := by decide +kernel
theorem dX5_count_42 : decode cX5_count 42 = .ok (.if_icmp .ne 10, 3) := by decide +kernel
theorem dX5_count_45 : decode cX5_count 45 = .ok (.aload_n 0, 1) := by decide +kernel
theorem dX5_count_46 : decode cX5_count 46 = .ok (.getfield 111, 3) := by decide +kernel
theorem dX5_count_49 : decode cX5_count 49 = .ok (.goto 5, 3) := by decide +kernel
theorem dX5_count_52 : decode cX5_count 52 = .ok (.bipush (-2), 2) := by decide +kernel
theorem dX5_count_54 : decode cX5_count 54 = .ok (.ireturn, 1) := by decide +kernel
theorem dJ9_max_7cf53_0 : decode cJ9_max_7cf53 0 = .ok (.iload_n 0, 1) := by decide +kernel
theorem dJ9_max_7cf53_1 : decode cJ9_max_7cf53 1 = .ok (.iload_n 1, 1) := by decide +kernel
theorem dJ9_max_7cf53_2 : decode cJ9_max_7cf53 2 = .ok (.if_icmp .lt 7, 3) := by decide +kernel
theorem dJ9_max_7cf53_5 : decode cJ9_max_7cf53 5 = .ok (.iload_n 0, 1) := by decide +kernel
theorem dJ9_max_7cf53_6 : decode cJ9_max_7cf53 6 = .ok (.goto 4, 3) := by decide +kernel
theorem dJ9_max_7cf53_9 : decode cJ9_max_7cf53 9 = .ok (.iload_n 1, 1) := by decide +kernel
theorem dJ9_max_7cf53_10 : decode cJ9_max_7cf53 10 = .ok (.ireturn, 1) := by decide +kernel
theorem dJ9_min_7cf53_0 : decode cJ9_min_7cf53 0 = .ok (.iload_n 0, 1) := by decide +kernel
theorem dJ9_min_7cf53_1 : decode cJ9_min_7cf53 1 = .ok (.iload_n 1, 1) := by decide +kernel
theorem dJ9_min_7cf53_2 : decode cJ9_min_7cf53 2 = .ok (.if_icmp .gt 7, 3) := by decide +kernel
theorem dJ9_min_7cf53_5 : decode cJ9_min_7cf53 5 = .ok (.iload_n 0, 1) := by decide +kernel
theorem dJ9_min_7cf53_6 : decode cJ9_min_7cf53 6 = .ok (.goto 4, 3) := by decide +kernel
theorem dJ9_min_7cf53_9 : decode cJ9_min_7cf53 9 = .ok (.iload_n 1, 1) := by decide +kernel
theorem dJ9_min_7cf53_10 : decode cJ9_min_7cf53 10 = .ok (.ireturn, 1) := by decide +kernel
theorem dJ7_fill_53178_0 : decode cJ7_fill_53178 0 = .ok (.iconst 0, 1) := by decide +kernel
theorem dJ7_fill_53178_1 : decode cJ7_fill_53178 1 = .ok (.istore_n 2, 1) := by decide +kernel
theorem dJ7_fill_53178_2 : decode cJ7_fill_53178 2 = .ok (.aload_n 0, 1) := by decide +kernel
theorem dJ7_fill_53178_3 : decode cJ7_fill_53178 3 = .ok (.arraylength, 1) := by decide +kernel
theorem dJ7_fill_53178_4 : decode cJ7_fill_53178 4 = .ok (.istore_n 3, 1) := by decide +kernel
theorem dJ7_fill_53178_5 : decode cJ7_fill_53178 5 = .ok (.iload_n 2, 1) := by decide +kernel
theorem dJ7_fill_53178_6 : decode cJ7_fill_53178 6 = .ok (.iload_n 3, 1) := by decide +kernel
theorem dJ7_fill_53178_7 : decode cJ7_fill_53178 7 = .ok (.if_icmp .ge 13, 3) := by decide +kernel
theorem dJ7_fill_53178_10 : decode cJ7_fill_53178 10 = .ok (.aload_n 0, 1) := by decide +kernel
theorem dJ7_fill_53178_11 : decode cJ7_fill_53178 11 = .ok (.iload_n 2, 1) := by decide +kernel
theorem dJ7_fill_53178_12 : decode cJ7_fill_53178 12 = .ok (.iload_n 1, 1) := by decide +kernel
theorem dJ7_fill_53178_13 : decode cJ7_fill_53178 13 = .ok (.iastore, 1) := by decide +kernel
theorem dJ7_fill_53178_14 : decode cJ7_fill_53178 14 = .ok (.iinc 2 1, 3) := by decide +kernel
theorem dJ7_fill_53178_17 : decode cJ7_fill_53178 17 = .ok (.goto (-12), 3) := by decide +kernel
theorem dJ7_fill_53178_20 : decode cJ7_fill_53178 20 = .ok (.return_, 1) := by decide +kernel
set_option maxRecDepth 20000 in
theorem ggL_law_X4_init : GoodIn wsL_law wsX4_init := goodIn_r _ [8, 9, 10, 11, 12, 13, 14, 15, 16, 17, 18, 19, 20, 21, 22, 23, 24, 25, 26, 27, 28, 29, 30, 31, 32, 33, 34, 35, 36, 37, 38, 39, 40, 41, 42, 43, 44, 45, 46, 47, 48, 49, 50, 51, 52, 53, 54, 55, 56, 57, 58, 59, 60, 61, 62, 63, 64, 65, 66, 67, 68, 69, 70, 394, 395, 396, 397, 367, 368, 369, 370, 371, 398, 399, 400, 401, 402, 403, 404, 405, 406, 407, 408, 409, 410, 411, 412, 413, 414] (by decide +kernel) (by decide +kernel)
set_option maxRecDepth 20000 in
theorem gL_law_X4_init : GoodIn wsL_law (wsX4_init) := ggL_law_X4_init
set_option maxRecDepth 20000 in
theorem ggL_law_X5_init : GoodIn wsL_law wsX5_init := goodIn_r _ [73, 74, 10, 11, 39, 75, 76, 77, 78, 79, 80, 81, 82, 83, 372, 373, 374, 375, 376, 377, 378, 379, 380, 381, 382, 383, 384, 385, 386, 387, 388, 389, 390, 391, 392, 393] (by decide +kernel) (by decide +kernel)
set_option maxRecDepth 20000 in
theorem gL_law_X5_init : GoodIn wsL_law (wsX5_init) := ggL_law_X5_init
set_option maxRecDepth 20000 in
theorem ggL_law_X4_thing : GoodIn wsL_law wsX4_thing := goodIn_r _ [87, 16, 88, 89, 2, 90, 91, 92, 93, 94, 25, 95, 96, 43, 97, 98, 99, 100, 40, 367, 368, 369, 370, 371, 398, 399, 400, 401] (by decide +kernel) (by decide +kernel)
set_option maxRecDepth 20000 in
theorem gL_law_X4_thing : GoodIn wsL_law (wsV RL 13 RX4 yX4_thing wsX4_thing) := goodIn_app (goodIn_of _ (by decide +kernel)) ggL_law_X4_thing
set_option maxRecDepth 20000 in
theorem ggL_law_X5_thing : GoodIn wsL_law wsX5_thing := goodIn_r _ [104, 105, 106, 107, 108, 5, 109, 110, 111, 112, 113, 114, 115, 116, 76, 77, 75, 372, 373, 374, 375, 376, 377, 378, 379, 380, 381, 382, 383, 384, 385, 386, 387, 388, 389, 390, 391, 392, 393] (by decide +kernel) (by decide +kernel)
set_option maxRecDepth 20000 in
theorem gL_law_X5_thing : GoodIn wsL_law (wsV RL 17 RX5 yX5_thing wsX5_thing) := goodIn_app (goodIn_of _ (by decide +kernel)) ggL_law_X5_thing
set_option maxRecDepth 20000 in
theorem ggL_law_X4_set : GoodIn wsL_law wsX4_set := goodIn_r _ [120, 16, 88, 89, 2, 90, 91, 92, 93, 121, 25, 122, 123, 40, 98, 99, 100, 367, 368, 369, 370, 371, 398, 399, 400, 401] (by decide +kernel) (by decide +kernel)
set_option maxRecDepth 20000 in
theorem gL_law_X4_set : GoodIn wsL_law (wsV RL 18 RX4 yX4_set wsX4_set) := goodIn_app (goodIn_of _ (by decide +kernel)) ggL_law_X4_set
set_option maxRecDepth 20000 in
theorem ggL_law_X5_set : GoodIn wsL_law wsX5_set := goodIn_r _ [127, 105, 75, 107, 108, 5, 109, 110, 111, 112, 372, 373, 374, 375, 376, 377, 378, 379, 380, 381, 382, 383, 384, 385, 386, 387, 388, 389, 390, 391, 392, 393] (by decide +kernel) (by decide +kernel)
set_option maxRecDepth 20000 in
theorem gL_law_X5_set : GoodIn wsL_law (wsV RL 22 RX5 yX5_set wsX5_set) := goodIn_app (goodIn_of _ (by decide +kernel)) ggL_law_X5_set
set_option maxRecDepth 20000 in
theorem ggL_law_X4_step : GoodIn wsL_law wsX4_step := goodIn_r _ [131, 17, 132, 133, 2, 134, 135, 136, 137, 91, 92, 93, 88, 89, 90, 138, 139, 140, 141, 29, 142, 143, 56, 51, 52, 53, 54, 55, 367, 368, 369, 370, 371, 402, 403, 404, 405, 406, 407] (by decide +kernel) (by decide +kernel)
set_option maxRecDepth 20000 in
theorem gL_law_X4_step : GoodIn wsL_law (wsV RL 23 RX4 yX4_step wsX4_step) := goodIn_app (goodIn_of _ (by decide +kernel)) ggL_law_X4_step
set_option maxRecDepth 20000 in
theorem ggL_law_X5_step : GoodIn wsL_law wsX5_step := goodIn_r _ [147, 105, 78, 148, 79, 80, 81, 82, 110, 111, 5, 112, 149, 150, 151, 107, 108, 109, 152, 153, 154, 372, 373, 374, 375, 376, 377, 378, 379, 380, 381, 382, 383, 384, 385, 386, 387, 388, 389, 390, 391, 392, 393] (by decide +kernel) (by decide +kernel)
set_option maxRecDepth 20000 in
theorem gL_law_X5_step : GoodIn wsL_law (wsV RL 27 RX5 yX5_step wsX5_step) := goodIn_app (goodIn_of _ (by decide +kernel)) ggL_law_X5_step
set_option maxRecDepth 20000 in
theorem ggL_law_X4_clear : GoodIn wsL_law wsX4_clear := goodIn_r _ [158, 17, 159, 29, 160, 161, 51, 56, 136, 2, 137, 91, 92, 93, 367, 368, 369, 370, 371, 402, 403, 404, 405, 406, 407] (by decide +kernel) (by decide +kernel)
set_option maxRecDepth 20000 in
theorem gL_law_X4_clear : GoodIn wsL_law (wsV RL 28 RX4 yX4_clear wsX4_clear) := goodIn_app (goodIn_of _ (by decide +kernel)) ggL_law_X4_clear
set_option maxRecDepth 20000 in
theorem ggL_law_X5_clear : GoodIn wsL_law wsX5_clear := goodIn_r _ [165, 105, 78, 148, 110, 111, 5, 112, 372, 373, 374, 375, 376, 377, 378, 379, 380, 381, 382, 383, 384, 385, 386, 387, 388, 389, 390, 391, 392, 393] (by decide +kernel) (by decide +kernel)
set_option maxRecDepth 20000 in
theorem gL_law_X5_clear : GoodIn wsL_law (wsV RL 31 RX5 yX5_clear wsX5_clear) := goodIn_app (goodIn_of _ (by decide +kernel)) ggL_law_X5_clear
set_option maxRecDepth 20000 in
theorem ggL_law_X4_run : GoodIn wsL_law wsX4_run := goodIn_r _ [169, 15, 19, 18, 62, 33, 63, 64, 65, 66, 67, 68, 69, 70, 170, 14, 171, 172, 30, 173, 174, 175, 176, 136, 2, 137, 91, 92, 93, 177, 178, 179, 180, 181, 182, 183, 26, 35, 121, 25, 122, 123, 40, 89, 90, 184, 185, 186, 187, 34, 188, 189, 190, 42, 191, 192, 193, 194, 43, 195, 196, 197, 198, 199, 200, 201, 202, 203, 204, 60, 205, 206, 207, 208, 209, 210, 211, 212, 213, 214, 215, 216, 217, 218, 219, 220, 221, 222, 223, 224, 225, 226, 227, 228, 229, 230, 231, 232, 233, 234, 235, 236, 237, 238, 239, 240, 241, 242, 243, 41, 98, 99, 100, 244, 245, 246, 247, 94, 95, 96, 97, 248, 249, 250, 251, 252, 253, 254, 255, 256, 367, 368, 369, 370, 371, 394, 395, 396, 397, 408, 409, 410, 411, 412, 413, 414, 402, 403, 404, 405, 406, 407, 398, 399, 400, 401] (by decide +kernel) (by decide +kernel)
set_option maxRecDepth 20000 in
theorem gL_law_X4_run : GoodIn wsL_law (wsV RL 32 RX4 yX4_run wsX4_run) := goodIn_app (goodIn_of _ (by decide +kernel)) ggL_law_X4_run
set_option maxRecDepth 20000 in
theorem ggL_law_X5_run : GoodIn wsL_law wsX5_run := goodIn_r _ [260, 105, 261, 262, 263, 264, 265, 266, 267, 268, 269, 270, 271, 272, 273, 5, 274, 78, 275, 276, 277, 278, 279, 280, 80, 81, 79, 75, 82, 106, 281, 282, 283, 284, 83, 285, 286, 287, 288, 289, 290, 291, 292, 293, 294, 295, 296, 297, 298, 299, 300, 301, 302, 303, 304, 305, 306, 307, 77, 76, 113, 114, 115, 116, 308, 309, 310, 311, 312, 313, 314, 315, 316, 317, 318, 319, 320, 321, 322, 372, 373, 374, 375, 376, 377, 378, 379, 380, 381, 382, 383, 384, 385, 386, 387, 388, 389, 390, 391, 392, 393] (by decide +kernel) (by decide +kernel)
set_option maxRecDepth 20000 in
theorem gL_law_X5_run : GoodIn wsL_law (wsV RL 36 RX5 yX5_run wsX5_run) := goodIn_app (goodIn_of _ (by decide +kernel)) ggL_law_X5_run
set_option maxRecDepth 20000 in
theorem ggL_law_X4_trace : GoodIn wsL_law wsX4_trace := goodIn_r _ [326, 18, 327, 33, 328, 329, 65, 330, 174, 175, 176, 60, 92, 2, 93, 367, 368, 369, 370, 371, 408, 409, 410, 411, 412, 413, 414] (by decide +kernel) (by decide +kernel)
set_option maxRecDepth 20000 in
theorem gL_law_X4_trace : GoodIn wsL_law (wsV RL 37 RX4 yX4_trace wsX4_trace) := goodIn_app (goodIn_of _ (by decide +kernel)) ggL_law_X4_trace
set_option maxRecDepth 20000 in
theorem ggL_law_X5_trace : GoodIn wsL_law wsX5_trace := goodIn_r _ [334, 105, 263, 83, 110, 111, 5, 112, 372, 373, 374, 375, 376, 377, 378, 379, 380, 381, 382, 383, 384, 385, 386, 387, 388, 389, 390, 391, 392, 393] (by decide +kernel) (by decide +kernel)
set_option maxRecDepth 20000 in
theorem gL_law_X5_trace : GoodIn wsL_law (wsV RL 40 RX5 yX5_trace wsX5_trace) := goodIn_app (goodIn_of _ (by decide +kernel)) ggL_law_X5_trace
set_option maxRecDepth 20000 in
theorem ggL_law_X4_told : GoodIn wsL_law wsX4_told := goodIn_r _ [338, 18, 367, 368, 369, 370, 371, 408, 409, 410, 411, 412, 413, 414] (by decide +kernel) (by decide +kernel)
set_option maxRecDepth 20000 in
theorem gL_law_X4_told : GoodIn wsL_law (wsV RL 41 RX4 yX4_told wsX4_told) := goodIn_app (goodIn_of _ (by decide +kernel)) ggL_law_X4_told
set_option maxRecDepth 20000 in
theorem ggL_law_X5_told : GoodIn wsL_law wsX5_told := goodIn_r _ [342, 105, 263, 264, 265, 266, 267, 372, 373, 374, 375, 376, 377, 378, 379, 380, 381, 382, 383, 384, 385, 386, 387, 388, 389, 390, 391, 392, 393] (by decide +kernel) (by decide +kernel)
set_option maxRecDepth 20000 in
theorem gL_law_X5_told : GoodIn wsL_law (wsV RL 44 RX5 yX5_told wsX5_told) := goodIn_app (goodIn_of _ (by decide +kernel)) ggL_law_X5_told
set_option maxRecDepth 20000 in
theorem ggL_law_X4_at : GoodIn wsL_law wsX4_at := goodIn_r _ [346, 16, 88, 89, 2, 90, 91, 92, 93, 121, 25, 122, 123, 40, 367, 368, 369, 370, 371, 398, 399, 400, 401] (by decide +kernel) (by decide +kernel)
set_option maxRecDepth 20000 in
theorem gL_law_X4_at : GoodIn wsL_law (wsV RL 45 RX4 yX4_at wsX4_at) := goodIn_app (goodIn_of _ (by decide +kernel)) ggL_law_X4_at
set_option maxRecDepth 20000 in
theorem ggL_law_X5_at : GoodIn wsL_law wsX5_at := goodIn_r _ [350, 105, 75, 107, 108, 5, 109, 110, 111, 112, 372, 373, 374, 375, 376, 377, 378, 379, 380, 381, 382, 383, 384, 385, 386, 387, 388, 389, 390, 391, 392, 393] (by decide +kernel) (by decide +kernel)
set_option maxRecDepth 20000 in
theorem gL_law_X5_at : GoodIn wsL_law (wsV RL 48 RX5 yX5_at wsX5_at) := goodIn_app (goodIn_of _ (by decide +kernel)) ggL_law_X5_at
set_option maxRecDepth 20000 in
theorem ggL_law_X4_number : GoodIn wsL_law wsX4_number := goodIn_r _ [354, 16, 252, 25, 253, 254, 41, 191, 192, 193, 194, 43, 367, 368, 369, 370, 371, 398, 399, 400, 401] (by decide +kernel) (by decide +kernel)
set_option maxRecDepth 20000 in
theorem gL_law_X4_number : GoodIn wsL_law (wsV RL 49 RX4 yX4_number wsX4_number) := goodIn_app (goodIn_of _ (by decide +kernel)) ggL_law_X4_number
set_option maxRecDepth 20000 in
theorem ggL_law_X5_number : GoodIn wsL_law wsX5_number := goodIn_r _ [358, 105, 106, 76, 110, 111, 5, 112, 372, 373, 374, 375, 376, 377, 378, 379, 380, 381, 382, 383, 384, 385, 386, 387, 388, 389, 390, 391, 392, 393] (by decide +kernel) (by decide +kernel)
set_option maxRecDepth 20000 in
theorem gL_law_X5_number : GoodIn wsL_law (wsV RL 52 RX5 yX5_number wsX5_number) := goodIn_app (goodIn_of _ (by decide +kernel)) ggL_law_X5_number
set_option maxRecDepth 20000 in
theorem ggL_law_X4_count : GoodIn wsL_law wsX4_count := goodIn_r _ [362, 16, 17, 19, 15, 367, 368, 369, 370, 371, 398, 399, 400, 401, 402, 403, 404, 405, 406, 407, 394, 395, 396, 397] (by decide +kernel) (by decide +kernel)
set_option maxRecDepth 20000 in
theorem gL_law_X4_count : GoodIn wsL_law (wsV RL 53 RX4 yX4_count wsX4_count) := goodIn_app (goodIn_of _ (by decide +kernel)) ggL_law_X4_count
set_option maxRecDepth 20000 in
theorem ggL_law_X5_count : GoodIn wsL_law wsX5_count := goodIn_r _ [366, 105, 106, 148, 262, 261, 372, 373, 374, 375, 376, 377, 378, 379, 380, 381, 382, 383, 384, 385, 386, 387, 388, 389, 390, 391, 392, 393] (by decide +kernel) (by decide +kernel)
set_option maxRecDepth 20000 in
theorem gL_law_X5_count : GoodIn wsL_law (wsV RL 56 RX5 yX5_count wsX5_count) := goodIn_app (goodIn_of _ (by decide +kernel)) ggL_law_X5_count
theorem dL_law_0 : decode cL_law 0 = .ok (.new 7, 3) := by decide +kernel
theorem dL_law_3 : decode cL_law 3 = .ok (.dup, 1) := by decide +kernel
theorem dL_law_4 : decode cL_law 4 = .ok (.invokespecial 9, 3) := by decide +kernel
theorem dL_law_7 : decode cL_law 7 = .ok (.astore_n 1, 1) := by decide +kernel
theorem dL_law_8 : decode cL_law 8 = .ok (.new 10, 3) := by decide +kernel
theorem dL_law_11 : decode cL_law 11 = .ok (.dup, 1) := by decide +kernel
theorem dL_law_12 : decode cL_law 12 = .ok (.invokespecial 12, 3) := by decide +kernel
theorem dL_law_15 : decode cL_law 15 = .ok (.astore_n 2, 1) := by decide +kernel
theorem dL_law_16 : decode cL_law 16 = .ok (.iconst 0, 1) := by decide +kernel
theorem dL_law_17 : decode cL_law 17 = .ok (.istore_n 3, 1) := by decide +kernel
theorem dL_law_18 : decode cL_law 18 = .ok (.iload_n 3, 1) := by decide +kernel
theorem dL_law_19 : decode cL_law 19 = .ok (.aload_n 0, 1) := by decide +kernel
theorem dL_law_20 : decode cL_law 20 = .ok (.arraylength, 1) := by decide +kernel
theorem dL_law_21 : decode cL_law 21 = .ok (.bipush 6, 2) := by decide +kernel
theorem dL_law_23 : decode cL_law 23 = .ok (.isub, 1) := by decide +kernel
theorem dL_law_24 : decode cL_law 24 = .ok (.if_icmp .gt 340, 3) := by decide +kernel
theorem dL_law_27 : decode cL_law 27 = .ok (.aload_n 0, 1) := by decide +kernel
theorem dL_law_28 : decode cL_law 28 = .ok (.iload_n 3, 1) := by decide +kernel
theorem dL_law_29 : decode cL_law 29 = .ok (.iaload, 1) := by decide +kernel
theorem dL_law_30 : decode cL_law 30 = .ok (.bipush 15, 2) := by decide +kernel
theorem dL_law_32 : decode cL_law 32 = .ok (.iand, 1) := by decide +kernel
theorem dL_law_33 : decode cL_law 33 = .ok (.tableswitch 325 0 9 #[55, 78, 111, 174, 197, 210, 233, 256, 279, 302], 55) := by decide +kernel
theorem dL_law_88 : decode cL_law 88 = .ok (.aload_n 1, 1) := by decide +kernel
theorem dL_law_89 : decode cL_law 89 = .ok (.aload_n 0, 1) := by decide +kernel
theorem dL_law_90 : decode cL_law 90 = .ok (.iload_n 3, 1) := by decide +kernel
theorem dL_law_91 : decode cL_law 91 = .ok (.iconst 1, 1) := by decide +kernel
theorem dL_law_92 : decode cL_law 92 = .ok (.iadd, 1) := by decide +kernel
theorem dL_law_93 : decode cL_law 93 = .ok (.iaload, 1) := by decide +kernel
theorem dL_law_94 : decode cL_law 94 = .ok (.invokevirtual 13, 3) := by decide +kernel
theorem dL_law_97 : decode cL_law 97 = .ok (.aload_n 2, 1) := by decide +kernel
theorem dL_law_98 : decode cL_law 98 = .ok (.aload_n 0, 1) := by decide +kernel
theorem dL_law_99 : decode cL_law 99 = .ok (.iload_n 3, 1) := by decide +kernel
theorem dL_law_100 : decode cL_law 100 = .ok (.iconst 1, 1) := by decide +kernel
theorem dL_law_101 : decode cL_law 101 = .ok (.iadd, 1) := by decide +kernel
theorem dL_law_102 : decode cL_law 102 = .ok (.iaload, 1) := by decide +kernel
theorem dL_law_103 : decode cL_law 103 = .ok (.invokevirtual 17, 3) := by decide +kernel
theorem dL_law_106 : decode cL_law 106 = .ok (.if_icmp .eq 252, 3) := by decide +kernel
theorem dL_law_109 : decode cL_law 109 = .ok (.iconst 0, 1) := by decide +kernel
theorem dL_law_110 : decode cL_law 110 = .ok (.ireturn, 1) := by decide +kernel
theorem dL_law_111 : decode cL_law 111 = .ok (.aload_n 1, 1) := by decide +kernel
theorem dL_law_112 : decode cL_law 112 = .ok (.aload_n 0, 1) := by decide +kernel
theorem dL_law_113 : decode cL_law 113 = .ok (.iload_n 3, 1) := by decide +kernel
theorem dL_law_114 : decode cL_law 114 = .ok (.iconst 1, 1) := by decide +kernel
theorem dL_law_115 : decode cL_law 115 = .ok (.iadd, 1) := by decide +kernel
theorem dL_law_116 : decode cL_law 116 = .ok (.iaload, 1) := by decide +kernel
theorem dL_law_117 : decode cL_law 117 = .ok (.aload_n 0, 1) := by decide +kernel
theorem dL_law_118 : decode cL_law 118 = .ok (.iload_n 3, 1) := by decide +kernel
theorem dL_law_119 : decode cL_law 119 = .ok (.iconst 2, 1) := by decide +kernel
theorem dL_law_120 : decode cL_law 120 = .ok (.iadd, 1) := by decide +kernel
theorem dL_law_121 : decode cL_law 121 = .ok (.iaload, 1) := by decide +kernel
theorem dL_law_122 : decode cL_law 122 = .ok (.invokevirtual 18, 3) := by decide +kernel
theorem dL_law_125 : decode cL_law 125 = .ok (.aload_n 2, 1) := by decide +kernel
theorem dL_law_126 : decode cL_law 126 = .ok (.aload_n 0, 1) := by decide +kernel
theorem dL_law_127 : decode cL_law 127 = .ok (.iload_n 3, 1) := by decide +kernel
theorem dL_law_128 : decode cL_law 128 = .ok (.iconst 1, 1) := by decide +kernel
theorem dL_law_129 : decode cL_law 129 = .ok (.iadd, 1) := by decide +kernel
theorem dL_law_130 : decode cL_law 130 = .ok (.iaload, 1) := by decide +kernel
theorem dL_law_131 : decode cL_law 131 = .ok (.aload_n 0, 1) := by decide +kernel
theorem dL_law_132 : decode cL_law 132 = .ok (.iload_n 3, 1) := by decide +kernel
theorem dL_law_133 : decode cL_law 133 = .ok (.iconst 2, 1) := by decide +kernel
theorem dL_law_134 : decode cL_law 134 = .ok (.iadd, 1) := by decide +kernel
theorem dL_law_135 : decode cL_law 135 = .ok (.iaload, 1) := by decide +kernel
theorem dL_law_136 : decode cL_law 136 = .ok (.invokevirtual 22, 3) := by decide +kernel
theorem dL_law_139 : decode cL_law 139 = .ok (.if_icmp .eq 219, 3) := by decide +kernel
theorem dL_law_142 : decode cL_law 142 = .ok (.iconst 0, 1) := by decide +kernel
theorem dL_law_143 : decode cL_law 143 = .ok (.ireturn, 1) := by decide +kernel
theorem dL_law_144 : decode cL_law 144 = .ok (.aload_n 1, 1) := by decide +kernel
theorem dL_law_145 : decode cL_law 145 = .ok (.aload_n 0, 1) := by decide +kernel
theorem dL_law_146 : decode cL_law 146 = .ok (.iload_n 3, 1) := by decide +kernel
theorem dL_law_147 : decode cL_law 147 = .ok (.iconst 1, 1) := by decide +kernel
theorem dL_law_148 : decode cL_law 148 = .ok (.iadd, 1) := by decide +kernel
theorem dL_law_149 : decode cL_law 149 = .ok (.iaload, 1) := by decide +kernel
theorem dL_law_150 : decode cL_law 150 = .ok (.aload_n 0, 1) := by decide +kernel
theorem dL_law_151 : decode cL_law 151 = .ok (.iload_n 3, 1) := by decide +kernel
theorem dL_law_152 : decode cL_law 152 = .ok (.iconst 2, 1) := by decide +kernel
theorem dL_law_153 : decode cL_law 153 = .ok (.iadd, 1) := by decide +kernel
theorem dL_law_154 : decode cL_law 154 = .ok (.iaload, 1) := by decide +kernel
theorem dL_law_155 : decode cL_law 155 = .ok (.aload_n 0, 1) := by decide +kernel
theorem dL_law_156 : decode cL_law 156 = .ok (.iload_n 3, 1) := by decide +kernel
theorem dL_law_157 : decode cL_law 157 = .ok (.iconst 3, 1) := by decide +kernel
theorem dL_law_158 : decode cL_law 158 = .ok (.iadd, 1) := by decide +kernel
theorem dL_law_159 : decode cL_law 159 = .ok (.iaload, 1) := by decide +kernel
theorem dL_law_160 : decode cL_law 160 = .ok (.aload_n 0, 1) := by decide +kernel
theorem dL_law_161 : decode cL_law 161 = .ok (.iload_n 3, 1) := by decide +kernel
theorem dL_law_162 : decode cL_law 162 = .ok (.iconst 4, 1) := by decide +kernel
theorem dL_law_163 : decode cL_law 163 = .ok (.iadd, 1) := by decide +kernel
theorem dL_law_164 : decode cL_law 164 = .ok (.iaload, 1) := by decide +kernel
theorem dL_law_165 : decode cL_law 165 = .ok (.aload_n 0, 1) := by decide +kernel
theorem dL_law_166 : decode cL_law 166 = .ok (.iload_n 3, 1) := by decide +kernel
theorem dL_law_167 : decode cL_law 167 = .ok (.iconst 5, 1) := by decide +kernel
theorem dL_law_168 : decode cL_law 168 = .ok (.iadd, 1) := by decide +kernel
theorem dL_law_169 : decode cL_law 169 = .ok (.iaload, 1) := by decide +kernel
theorem dL_law_170 : decode cL_law 170 = .ok (.invokevirtual 23, 3) := by decide +kernel
theorem dL_law_173 : decode cL_law 173 = .ok (.aload_n 2, 1) := by decide +kernel
theorem dL_law_174 : decode cL_law 174 = .ok (.aload_n 0, 1) := by decide +kernel
theorem dL_law_175 : decode cL_law 175 = .ok (.iload_n 3, 1) := by decide +kernel
theorem dL_law_176 : decode cL_law 176 = .ok (.iconst 1, 1) := by decide +kernel
theorem dL_law_177 : decode cL_law 177 = .ok (.iadd, 1) := by decide +kernel
theorem dL_law_178 : decode cL_law 178 = .ok (.iaload, 1) := by decide +kernel
theorem dL_law_179 : decode cL_law 179 = .ok (.aload_n 0, 1) := by decide +kernel
theorem dL_law_180 : decode cL_law 180 = .ok (.iload_n 3, 1) := by decide +kernel
theorem dL_law_181 : decode cL_law 181 = .ok (.iconst 2, 1) := by decide +kernel
theorem dL_law_182 : decode cL_law 182 = .ok (.iadd, 1) := by decide +kernel
theorem dL_law_183 : decode cL_law 183 = .ok (.iaload, 1) := by decide +kernel
theorem dL_law_184 : decode cL_law 184 = .ok (.aload_n 0, 1) := by decide +kernel
theorem dL_law_185 : decode cL_law 185 = .ok (.iload_n 3, 1) := by decide +kernel
theorem dL_law_186 : decode cL_law 186 = .ok (.iconst 3, 1) := by decide +kernel
theorem dL_law_187 : decode cL_law 187 = .ok (.iadd, 1) := by decide +kernel
theorem dL_law_188 : decode cL_law 188 = .ok (.iaload, 1) := by decide +kernel
theorem dL_law_189 : decode cL_law 189 = .ok (.aload_n 0, 1) := by decide +kernel
theorem dL_law_190 : decode cL_law 190 = .ok (.iload_n 3, 1) := by decide +kernel
theorem dL_law_191 : decode cL_law 191 = .ok (.iconst 4, 1) := by decide +kernel
theorem dL_law_192 : decode cL_law 192 = .ok (.iadd, 1) := by decide +kernel
theorem dL_law_193 : decode cL_law 193 = .ok (.iaload, 1) := by decide +kernel
theorem dL_law_194 : decode cL_law 194 = .ok (.aload_n 0, 1) := by decide +kernel
theorem dL_law_195 : decode cL_law 195 = .ok (.iload_n 3, 1) := by decide +kernel
theorem dL_law_196 : decode cL_law 196 = .ok (.iconst 5, 1) := by decide +kernel
theorem dL_law_197 : decode cL_law 197 = .ok (.iadd, 1) := by decide +kernel
theorem dL_law_198 : decode cL_law 198 = .ok (.iaload, 1) := by decide +kernel
theorem dL_law_199 : decode cL_law 199 = .ok (.invokevirtual 27, 3) := by decide +kernel
theorem dL_law_202 : decode cL_law 202 = .ok (.if_icmp .eq 156, 3) := by decide +kernel
theorem dL_law_205 : decode cL_law 205 = .ok (.iconst 0, 1) := by decide +kernel
theorem dL_law_206 : decode cL_law 206 = .ok (.ireturn, 1) := by decide +kernel
theorem dL_law_207 : decode cL_law 207 = .ok (.aload_n 1, 1) := by decide +kernel
theorem dL_law_208 : decode cL_law 208 = .ok (.aload_n 0, 1) := by decide +kernel
theorem dL_law_209 : decode cL_law 209 = .ok (.iload_n 3, 1) := by decide +kernel
theorem dL_law_210 : decode cL_law 210 = .ok (.iconst 1, 1) := by decide +kernel
theorem dL_law_211 : decode cL_law 211 = .ok (.iadd, 1) := by decide +kernel
theorem dL_law_212 : decode cL_law 212 = .ok (.iaload, 1) := by decide +kernel
theorem dL_law_213 : decode cL_law 213 = .ok (.invokevirtual 28, 3) := by decide +kernel
theorem dL_law_216 : decode cL_law 216 = .ok (.aload_n 2, 1) := by decide +kernel
theorem dL_law_217 : decode cL_law 217 = .ok (.aload_n 0, 1) := by decide +kernel
theorem dL_law_218 : decode cL_law 218 = .ok (.iload_n 3, 1) := by decide +kernel
theorem dL_law_219 : decode cL_law 219 = .ok (.iconst 1, 1) := by decide +kernel
theorem dL_law_220 : decode cL_law 220 = .ok (.iadd, 1) := by decide +kernel
theorem dL_law_221 : decode cL_law 221 = .ok (.iaload, 1) := by decide +kernel
theorem dL_law_222 : decode cL_law 222 = .ok (.invokevirtual 31, 3) := by decide +kernel
theorem dL_law_225 : decode cL_law 225 = .ok (.if_icmp .eq 133, 3) := by decide +kernel
theorem dL_law_228 : decode cL_law 228 = .ok (.iconst 0, 1) := by decide +kernel
theorem dL_law_229 : decode cL_law 229 = .ok (.ireturn, 1) := by decide +kernel
theorem dL_law_230 : decode cL_law 230 = .ok (.aload_n 1, 1) := by decide +kernel
theorem dL_law_231 : decode cL_law 231 = .ok (.invokevirtual 32, 3) := by decide +kernel
theorem dL_law_234 : decode cL_law 234 = .ok (.aload_n 2, 1) := by decide +kernel
theorem dL_law_235 : decode cL_law 235 = .ok (.invokevirtual 36, 3) := by decide +kernel
theorem dL_law_238 : decode cL_law 238 = .ok (.if_icmp .eq 120, 3) := by decide +kernel
theorem dL_law_241 : decode cL_law 241 = .ok (.iconst 0, 1) := by decide +kernel
theorem dL_law_242 : decode cL_law 242 = .ok (.ireturn, 1) := by decide +kernel
theorem dL_law_243 : decode cL_law 243 = .ok (.aload_n 1, 1) := by decide +kernel
theorem dL_law_244 : decode cL_law 244 = .ok (.aload_n 0, 1) := by decide +kernel
theorem dL_law_245 : decode cL_law 245 = .ok (.iload_n 3, 1) := by decide +kernel
theorem dL_law_246 : decode cL_law 246 = .ok (.iconst 1, 1) := by decide +kernel
theorem dL_law_247 : decode cL_law 247 = .ok (.iadd, 1) := by decide +kernel
theorem dL_law_248 : decode cL_law 248 = .ok (.iaload, 1) := by decide +kernel
theorem dL_law_249 : decode cL_law 249 = .ok (.invokevirtual 37, 3) := by decide +kernel
theorem dL_law_252 : decode cL_law 252 = .ok (.aload_n 2, 1) := by decide +kernel
theorem dL_law_253 : decode cL_law 253 = .ok (.aload_n 0, 1) := by decide +kernel
theorem dL_law_254 : decode cL_law 254 = .ok (.iload_n 3, 1) := by decide +kernel
theorem dL_law_255 : decode cL_law 255 = .ok (.iconst 1, 1) := by decide +kernel
theorem dL_law_256 : decode cL_law 256 = .ok (.iadd, 1) := by decide +kernel
theorem dL_law_257 : decode cL_law 257 = .ok (.iaload, 1) := by decide +kernel
theorem dL_law_258 : decode cL_law 258 = .ok (.invokevirtual 40, 3) := by decide +kernel
theorem dL_law_261 : decode cL_law 261 = .ok (.if_icmp .eq 97, 3) := by decide +kernel
theorem dL_law_264 : decode cL_law 264 = .ok (.iconst 0, 1) := by decide +kernel
theorem dL_law_265 : decode cL_law 265 = .ok (.ireturn, 1) := by decide +kernel
theorem dL_law_266 : decode cL_law 266 = .ok (.aload_n 1, 1) := by decide +kernel
theorem dL_law_267 : decode cL_law 267 = .ok (.aload_n 0, 1) := by decide +kernel
theorem dL_law_268 : decode cL_law 268 = .ok (.iload_n 3, 1) := by decide +kernel
theorem dL_law_269 : decode cL_law 269 = .ok (.iconst 1, 1) := by decide +kernel
theorem dL_law_270 : decode cL_law 270 = .ok (.iadd, 1) := by decide +kernel
theorem dL_law_271 : decode cL_law 271 = .ok (.iaload, 1) := by decide +kernel
theorem dL_law_272 : decode cL_law 272 = .ok (.invokevirtual 41, 3) := by decide +kernel
theorem dL_law_275 : decode cL_law 275 = .ok (.aload_n 2, 1) := by decide +kernel
theorem dL_law_276 : decode cL_law 276 = .ok (.aload_n 0, 1) := by decide +kernel
theorem dL_law_277 : decode cL_law 277 = .ok (.iload_n 3, 1) := by decide +kernel
theorem dL_law_278 : decode cL_law 278 = .ok (.iconst 1, 1) := by decide +kernel
theorem dL_law_279 : decode cL_law 279 = .ok (.iadd, 1) := by decide +kernel
theorem dL_law_280 : decode cL_law 280 = .ok (.iaload, 1) := by decide +kernel
theorem dL_law_281 : decode cL_law 281 = .ok (.invokevirtual 44, 3) := by decide +kernel
theorem dL_law_284 : decode cL_law 284 = .ok (.if_icmp .eq 74, 3) := by decide +kernel
theorem dL_law_287 : decode cL_law 287 = .ok (.iconst 0, 1) := by decide +kernel
theorem dL_law_288 : decode cL_law 288 = .ok (.ireturn, 1) := by decide +kernel
theorem dL_law_289 : decode cL_law 289 = .ok (.aload_n 1, 1) := by decide +kernel
theorem dL_law_290 : decode cL_law 290 = .ok (.aload_n 0, 1) := by decide +kernel
theorem dL_law_291 : decode cL_law 291 = .ok (.iload_n 3, 1) := by decide +kernel
theorem dL_law_292 : decode cL_law 292 = .ok (.iconst 1, 1) := by decide +kernel
theorem dL_law_293 : decode cL_law 293 = .ok (.iadd, 1) := by decide +kernel
theorem dL_law_294 : decode cL_law 294 = .ok (.iaload, 1) := by decide +kernel
theorem dL_law_295 : decode cL_law 295 = .ok (.invokevirtual 45, 3) := by decide +kernel
theorem dL_law_298 : decode cL_law 298 = .ok (.aload_n 2, 1) := by decide +kernel
theorem dL_law_299 : decode cL_law 299 = .ok (.aload_n 0, 1) := by decide +kernel
theorem dL_law_300 : decode cL_law 300 = .ok (.iload_n 3, 1) := by decide +kernel
theorem dL_law_301 : decode cL_law 301 = .ok (.iconst 1, 1) := by decide +kernel
theorem dL_law_302 : decode cL_law 302 = .ok (.iadd, 1) := by decide +kernel
theorem dL_law_303 : decode cL_law 303 = .ok (.iaload, 1) := by decide +kernel
theorem dL_law_304 : decode cL_law 304 = .ok (.invokevirtual 48, 3) := by decide +kernel
theorem dL_law_307 : decode cL_law 307 = .ok (.if_icmp .eq 51, 3) := by decide +kernel
theorem dL_law_310 : decode cL_law 310 = .ok (.iconst 0, 1) := by decide +kernel
theorem dL_law_311 : decode cL_law 311 = .ok (.ireturn, 1) := by decide +kernel
theorem dL_law_312 : decode cL_law 312 = .ok (.aload_n 1, 1) := by decide +kernel
theorem dL_law_313 : decode cL_law 313 = .ok (.aload_n 0, 1) := by decide +kernel
theorem dL_law_314 : decode cL_law 314 = .ok (.iload_n 3, 1) := by decide +kernel
theorem dL_law_315 : decode cL_law 315 = .ok (.iconst 1, 1) := by decide +kernel
theorem dL_law_316 : decode cL_law 316 = .ok (.iadd, 1) := by decide +kernel
theorem dL_law_317 : decode cL_law 317 = .ok (.iaload, 1) := by decide +kernel
theorem dL_law_318 : decode cL_law 318 = .ok (.invokevirtual 49, 3) := by decide +kernel
theorem dL_law_321 : decode cL_law 321 = .ok (.aload_n 2, 1) := by decide +kernel
theorem dL_law_322 : decode cL_law 322 = .ok (.aload_n 0, 1) := by decide +kernel
theorem dL_law_323 : decode cL_law 323 = .ok (.iload_n 3, 1) := by decide +kernel
theorem dL_law_324 : decode cL_law 324 = .ok (.iconst 1, 1) := by decide +kernel
theorem dL_law_325 : decode cL_law 325 = .ok (.iadd, 1) := by decide +kernel
theorem dL_law_326 : decode cL_law 326 = .ok (.iaload, 1) := by decide +kernel
theorem dL_law_327 : decode cL_law 327 = .ok (.invokevirtual 52, 3) := by decide +kernel
theorem dL_law_330 : decode cL_law 330 = .ok (.if_icmp .eq 28, 3) := by decide +kernel
theorem dL_law_333 : decode cL_law 333 = .ok (.iconst 0, 1) := by decide +kernel
theorem dL_law_334 : decode cL_law 334 = .ok (.ireturn, 1) := by decide +kernel
theorem dL_law_335 : decode cL_law 335 = .ok (.aload_n 1, 1) := by decide +kernel
theorem dL_law_336 : decode cL_law 336 = .ok (.aload_n 0, 1) := by decide +kernel
theorem dL_law_337 : decode cL_law 337 = .ok (.iload_n 3, 1) := by decide +kernel
theorem dL_law_338 : decode cL_law 338 = .ok (.iconst 1, 1) := by decide +kernel
theorem dL_law_339 : decode cL_law 339 = .ok (.iadd, 1) := by decide +kernel
theorem dL_law_340 : decode cL_law 340 = .ok (.iaload, 1) := by decide +kernel
theorem dL_law_341 : decode cL_law 341 = .ok (.invokevirtual 53, 3) := by decide +kernel
theorem dL_law_344 : decode cL_law 344 = .ok (.aload_n 2, 1) := by decide +kernel
theorem dL_law_345 : decode cL_law 345 = .ok (.aload_n 0, 1) := by decide +kernel
theorem dL_law_346 : decode cL_law 346 = .ok (.iload_n 3, 1) := by decide +kernel
theorem dL_law_347 : decode cL_law 347 = .ok (.iconst 1, 1) := by decide +kernel
theorem dL_law_348 : decode cL_law 348 = .ok (.iadd, 1) := by decide +kernel
theorem dL_law_349 : decode cL_law 349 = .ok (.iaload, 1) := by decide +kernel
theorem dL_law_350 : decode cL_law 350 = .ok (.invokevirtual 56, 3) := by decide +kernel
theorem dL_law_353 : decode cL_law 353 = .ok (.if_icmp .eq 5, 3) := by decide +kernel
theorem dL_law_356 : decode cL_law 356 = .ok (.iconst 0, 1) := by decide +kernel
theorem dL_law_357 : decode cL_law 357 = .ok (.ireturn, 1) := by decide +kernel
theorem dL_law_358 : decode cL_law 358 = .ok (.iinc 3 6, 3) := by decide +kernel
theorem dL_law_361 : decode cL_law 361 = .ok (.goto (-343), 3) := by decide +kernel
theorem dL_law_364 : decode cL_law 364 = .ok (.iconst 1, 1) := by decide +kernel
theorem dL_law_365 : decode cL_law 365 = .ok (.ireturn, 1) := by decide +kernel
abbrev vwCl : List vw_C := [(RX0, TX0, 6), (RX1, TX1, 4), (RX2, TX2, 4), (RX3, TX3, 7), (RX4, TX4, 5), (RX5, TX5, 22)]
