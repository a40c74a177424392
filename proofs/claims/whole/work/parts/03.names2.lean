set_option maxRecDepth 20000 in
theorem ggX1_doAdd_X2_isHeld : GoodIn wsX1_doAdd wsX2_isHeld := goodIn_r _ [15, 16, 17, 18, 19, 3, 20, 21, 30, 31, 32, 33] (by decide +kernel) (by decide +kernel)
set_option maxRecDepth 20000 in
theorem gX1_doAdd_X2_isHeld_n129 : GoodIn wsX1_doAdd (wsX2_isHeld) := ggX1_doAdd_X2_isHeld
set_option maxRecDepth 20000 in
theorem ggX1_doAdd_X2_raiseNumber : GoodIn wsX1_doAdd wsX2_raiseNumber := goodIn_r _ [24, 25, 17, 18, 19, 3, 20, 21, 30, 31, 32, 33] (by decide +kernel) (by decide +kernel)
set_option maxRecDepth 20000 in
theorem gX1_doAdd_X2_raiseNumber_n132 : GoodIn wsX1_doAdd (wsX2_raiseNumber) := ggX1_doAdd_X2_raiseNumber
theorem dX1_doAdd_0 : decode cX1_doAdd 0 = .ok (.aload_n 0, 1) := by decide +kernel
theorem dX1_doAdd_1 : decode cX1_doAdd 1 = .ok (.getfield 12, 3) := by decide +kernel
theorem dX1_doAdd_4 : decode cX1_doAdd 4 = .ok (.iload_n 2, 1) := by decide +kernel
theorem dX1_doAdd_5 : decode cX1_doAdd 5 = .ok (.invokevirtual 94, 3) := by decide +kernel
theorem dX1_doAdd_8 : decode cX1_doAdd 8 = .ok (.istore_n 3, 1) := by decide +kernel
theorem dX1_doAdd_9 : decode cX1_doAdd 9 = .ok (.iload_n 3, 1) := by decide +kernel
theorem dX1_doAdd_10 : decode cX1_doAdd 10 = .ok (.iconst (-1), 1) := by decide +kernel
theorem dX1_doAdd_11 : decode cX1_doAdd 11 = .ok (.if_icmp .ne 6, 3) := by decide +kernel
theorem dX1_doAdd_14 : decode cX1_doAdd 14 = .ok (.bipush 112, 2) := by decide +kernel
theorem dX1_doAdd_16 : decode cX1_doAdd 16 = .ok (.ireturn, 1) := by decide +kernel
theorem dX1_doAdd_17 : decode cX1_doAdd 17 = .ok (.aload_n 0, 1) := by decide +kernel
theorem dX1_doAdd_18 : decode cX1_doAdd 18 = .ok (.getfield 12, 3) := by decide +kernel
theorem dX1_doAdd_21 : decode cX1_doAdd 21 = .ok (.iload_n 3, 1) := by decide +kernel
theorem dX1_doAdd_22 : decode cX1_doAdd 22 = .ok (.invokevirtual 129, 3) := by decide +kernel
theorem dX1_doAdd_25 : decode cX1_doAdd 25 = .ok (.ifCond .ne 6, 3) := by decide +kernel
theorem dX1_doAdd_28 : decode cX1_doAdd 28 = .ok (.bipush 111, 2) := by decide +kernel
theorem dX1_doAdd_30 : decode cX1_doAdd 30 = .ok (.ireturn, 1) := by decide +kernel
theorem dX1_doAdd_31 : decode cX1_doAdd 31 = .ok (.aload_n 0, 1) := by decide +kernel
theorem dX1_doAdd_32 : decode cX1_doAdd 32 = .ok (.getfield 12, 3) := by decide +kernel
theorem dX1_doAdd_35 : decode cX1_doAdd 35 = .ok (.iload_n 3, 1) := by decide +kernel
theorem dX1_doAdd_36 : decode cX1_doAdd 36 = .ok (.iload_n 1, 1) := by decide +kernel
theorem dX1_doAdd_37 : decode cX1_doAdd 37 = .ok (.invokevirtual 132, 3) := by decide +kernel
theorem dX1_doAdd_40 : decode cX1_doAdd 40 = .ok (.iconst 0, 1) := by decide +kernel
theorem dX1_doAdd_41 : decode cX1_doAdd 41 = .ok (.ireturn, 1) := by decide +kernel
set_option maxRecDepth 20000 in
theorem ggX1_doNew_X2_makeThing : GoodIn wsX1_doNew wsX2_makeThing := goodIn_r _ [5, 6, 7, 8, 9, 3, 10, 11, 12, 13, 14, 15, 16, 17, 22, 23, 24, 25] (by decide +kernel) (by decide +kernel)
set_option maxRecDepth 20000 in
theorem gX1_doNew_X2_makeThing_n135 : GoodIn wsX1_doNew (wsX2_makeThing) := ggX1_doNew_X2_makeThing
theorem dX1_doNew_0 : decode cX1_doNew 0 = .ok (.aload_n 0, 1) := by decide +kernel
theorem dX1_doNew_1 : decode cX1_doNew 1 = .ok (.getfield 12, 3) := by decide +kernel
theorem dX1_doNew_4 : decode cX1_doNew 4 = .ok (.iload_n 1, 1) := by decide +kernel
theorem dX1_doNew_5 : decode cX1_doNew 5 = .ok (.invokevirtual 135, 3) := by decide +kernel
theorem dX1_doNew_8 : decode cX1_doNew 8 = .ok (.bipush (-3), 2) := by decide +kernel
theorem dX1_doNew_10 : decode cX1_doNew 10 = .ok (.if_icmp .ne 8, 3) := by decide +kernel
theorem dX1_doNew_13 : decode cX1_doNew 13 = .ok (.bipush 113, 2) := by decide +kernel
theorem dX1_doNew_15 : decode cX1_doNew 15 = .ok (.goto 4, 3) := by decide +kernel
theorem dX1_doNew_18 : decode cX1_doNew 18 = .ok (.iconst 0, 1) := by decide +kernel
theorem dX1_doNew_19 : decode cX1_doNew 19 = .ok (.ireturn, 1) := by decide +kernel
set_option maxRecDepth 20000 in
theorem ggX1_doSweep_X2_thingIn : GoodIn wsX1_doSweep wsX2_thingIn := goodIn_r _ [6, 7, 8, 9, 10, 11, 12, 13, 64, 65, 66, 67] (by decide +kernel) (by decide +kernel)
set_option maxRecDepth 20000 in
theorem gX1_doSweep_X2_thingIn_n94 : GoodIn wsX1_doSweep (wsX2_thingIn) := ggX1_doSweep_X2_thingIn
set_option maxRecDepth 20000 in
theorem ggX1_doSweep_X1_beginHold : GoodIn wsX1_doSweep wsX1_beginHold := goodIn_r _ [18, 1, 2, 19, 4, 20, 21, 22, 23, 24, 25, 26, 27, 28, 29, 30, 31, 32, 33, 34, 35, 36, 37, 38, 39, 40, 41, 42, 43, 44, 60, 61, 62, 63, 64, 65, 66, 67, 68, 69, 70, 71, 72, 73, 74] (by decide +kernel) (by decide +kernel)
set_option maxRecDepth 20000 in
theorem gX1_doSweep_X1_beginHold : GoodIn wsX1_doSweep (wsV RX1 108 RX1 yX1_beginHold wsX1_beginHold) := goodIn_app (goodIn_of _ (by decide +kernel)) ggX1_doSweep_X1_beginHold
set_option maxRecDepth 20000 in
theorem ggX1_doSweep_X2_numberOf : GoodIn wsX1_doSweep wsX2_numberOf := goodIn_r _ [47, 48, 23, 24, 25, 4, 26, 27, 64, 65, 66, 67] (by decide +kernel) (by decide +kernel)
set_option maxRecDepth 20000 in
theorem gX1_doSweep_X2_numberOf_n138 : GoodIn wsX1_doSweep (wsX2_numberOf) := ggX1_doSweep_X2_numberOf
set_option maxRecDepth 20000 in
theorem ggX1_doSweep_X1_leaveHold : GoodIn wsX1_doSweep wsX1_leaveHold := goodIn_r _ [52, 1, 2, 19, 4, 20, 21, 22, 23, 24, 25, 26, 27, 53, 29, 54, 55, 33, 56, 39, 40, 41, 42, 43, 44, 60, 61, 62, 63, 64, 65, 66, 67, 68, 69, 70, 71, 72, 73, 74] (by decide +kernel) (by decide +kernel)
set_option maxRecDepth 20000 in
theorem gX1_doSweep_X1_leaveHold : GoodIn wsX1_doSweep (wsV RX1 117 RX1 yX1_leaveHold wsX1_leaveHold) := goodIn_app (goodIn_of _ (by decide +kernel)) ggX1_doSweep_X1_leaveHold
set_option maxRecDepth 20000 in
theorem ggX1_doSweep_X3_enterMark : GoodIn wsX1_doSweep wsX3_enterMark := goodIn_r _ [59, 39, 40, 41, 29, 42, 43, 44, 68, 69, 70, 71, 72, 73, 74] (by decide +kernel) (by decide +kernel)
set_option maxRecDepth 20000 in
theorem gX1_doSweep_X3_enterMark_n69 : GoodIn wsX1_doSweep (wsX3_enterMark) := ggX1_doSweep_X3_enterMark
theorem dX1_doSweep_0 : decode cX1_doSweep 0 = .ok (.iconst 0, 1) := by decide +kernel
theorem dX1_doSweep_1 : decode cX1_doSweep 1 = .ok (.istore_n 2, 1) := by decide +kernel
theorem dX1_doSweep_2 : decode cX1_doSweep 2 = .ok (.iconst 0, 1) := by decide +kernel
theorem dX1_doSweep_3 : decode cX1_doSweep 3 = .ok (.istore_n 3, 1) := by decide +kernel
theorem dX1_doSweep_4 : decode cX1_doSweep 4 = .ok (.iconst 0, 1) := by decide +kernel
theorem dX1_doSweep_5 : decode cX1_doSweep 5 = .ok (.istore 4, 2) := by decide +kernel
theorem dX1_doSweep_7 : decode cX1_doSweep 7 = .ok (.iload 4, 2) := by decide +kernel
theorem dX1_doSweep_9 : decode cX1_doSweep 9 = .ok (.bipush 6, 2) := by decide +kernel
theorem dX1_doSweep_11 : decode cX1_doSweep 11 = .ok (.if_icmp .ge 76, 3) := by decide +kernel
theorem dX1_doSweep_14 : decode cX1_doSweep 14 = .ok (.iload_n 3, 1) := by decide +kernel
theorem dX1_doSweep_15 : decode cX1_doSweep 15 = .ok (.ifCond .ne 72, 3) := by decide +kernel
theorem dX1_doSweep_18 : decode cX1_doSweep 18 = .ok (.aload_n 0, 1) := by decide +kernel
theorem dX1_doSweep_19 : decode cX1_doSweep 19 = .ok (.getfield 12, 3) := by decide +kernel
theorem dX1_doSweep_22 : decode cX1_doSweep 22 = .ok (.iload 4, 2) := by decide +kernel
theorem dX1_doSweep_24 : decode cX1_doSweep 24 = .ok (.invokevirtual 94, 3) := by decide +kernel
theorem dX1_doSweep_27 : decode cX1_doSweep 27 = .ok (.istore 5, 2) := by decide +kernel
theorem dX1_doSweep_29 : decode cX1_doSweep 29 = .ok (.iload 5, 2) := by decide +kernel
theorem dX1_doSweep_31 : decode cX1_doSweep 31 = .ok (.iconst (-1), 1) := by decide +kernel
theorem dX1_doSweep_32 : decode cX1_doSweep 32 = .ok (.if_icmp .eq 49, 3) := by decide +kernel
theorem dX1_doSweep_35 : decode cX1_doSweep 35 = .ok (.aload_n 0, 1) := by decide +kernel
theorem dX1_doSweep_36 : decode cX1_doSweep 36 = .ok (.iload 5, 2) := by decide +kernel
theorem dX1_doSweep_38 : decode cX1_doSweep 38 = .ok (.invokevirtual 108, 3) := by decide +kernel
theorem dX1_doSweep_41 : decode cX1_doSweep 41 = .ok (.aload_n 0, 1) := by decide +kernel
theorem dX1_doSweep_42 : decode cX1_doSweep 42 = .ok (.getfield 12, 3) := by decide +kernel
theorem dX1_doSweep_45 : decode cX1_doSweep 45 = .ok (.iload 5, 2) := by decide +kernel
theorem dX1_doSweep_47 : decode cX1_doSweep 47 = .ok (.invokevirtual 138, 3) := by decide +kernel
theorem dX1_doSweep_50 : decode cX1_doSweep 50 = .ok (.istore 6, 2) := by decide +kernel
theorem dX1_doSweep_52 : decode cX1_doSweep 52 = .ok (.iload 6, 2) := by decide +kernel
theorem dX1_doSweep_54 : decode cX1_doSweep 54 = .ok (.iload_n 1, 1) := by decide +kernel
theorem dX1_doSweep_55 : decode cX1_doSweep 55 = .ok (.if_icmp .eq 19, 3) := by decide +kernel
theorem dX1_doSweep_58 : decode cX1_doSweep 58 = .ok (.iload_n 2, 1) := by decide +kernel
theorem dX1_doSweep_59 : decode cX1_doSweep 59 = .ok (.iload 6, 2) := by decide +kernel
theorem dX1_doSweep_61 : decode cX1_doSweep 61 = .ok (.iadd, 1) := by decide +kernel
theorem dX1_doSweep_62 : decode cX1_doSweep 62 = .ok (.istore_n 2, 1) := by decide +kernel
theorem dX1_doSweep_63 : decode cX1_doSweep 63 = .ok (.iload 6, 2) := by decide +kernel
theorem dX1_doSweep_65 : decode cX1_doSweep 65 = .ok (.ifCond .ge 7, 3) := by decide +kernel
theorem dX1_doSweep_68 : decode cX1_doSweep 68 = .ok (.iconst 1, 1) := by decide +kernel
theorem dX1_doSweep_69 : decode cX1_doSweep 69 = .ok (.goto 4, 3) := by decide +kernel
theorem dX1_doSweep_72 : decode cX1_doSweep 72 = .ok (.iconst 0, 1) := by decide +kernel
theorem dX1_doSweep_73 : decode cX1_doSweep 73 = .ok (.istore_n 3, 1) := by decide +kernel
theorem dX1_doSweep_74 : decode cX1_doSweep 74 = .ok (.aload_n 0, 1) := by decide +kernel
theorem dX1_doSweep_75 : decode cX1_doSweep 75 = .ok (.iload 5, 2) := by decide +kernel
theorem dX1_doSweep_77 : decode cX1_doSweep 77 = .ok (.iconst 0, 1) := by decide +kernel
theorem dX1_doSweep_78 : decode cX1_doSweep 78 = .ok (.invokevirtual 117, 3) := by decide +kernel
theorem dX1_doSweep_81 : decode cX1_doSweep 81 = .ok (.iinc 4 1, 3) := by decide +kernel
theorem dX1_doSweep_84 : decode cX1_doSweep 84 = .ok (.goto (-77), 3) := by decide +kernel
theorem dX1_doSweep_87 : decode cX1_doSweep 87 = .ok (.aload_n 0, 1) := by decide +kernel
theorem dX1_doSweep_88 : decode cX1_doSweep 88 = .ok (.getfield 28, 3) := by decide +kernel
theorem dX1_doSweep_91 : decode cX1_doSweep 91 = .ok (.iload_n 2, 1) := by decide +kernel
theorem dX1_doSweep_92 : decode cX1_doSweep 92 = .ok (.invokevirtual 69, 3) := by decide +kernel
theorem dX1_doSweep_95 : decode cX1_doSweep 95 = .ok (.return_, 1) := by decide +kernel
set_option maxRecDepth 20000 in
theorem ggX2_init_J7_fill_53178 : GoodIn wsX2_init wsJ7_fill_53178 := goodIn_r _ [12] (by decide +kernel) (by decide +kernel)
set_option maxRecDepth 20000 in
theorem gX2_init_J7_fill_53178 : GoodIn wsX2_init (va_wsS RX2 15 yJ7_fill_53178 wsJ7_fill_53178) := goodIn_app (goodIn_of _ (by decide +kernel)) ggX2_init_J7_fill_53178
theorem dX2_init_0 : decode cX2_init 0 = .ok (.aload_n 0, 1) := by decide +kernel
theorem dX2_init_1 : decode cX2_init 1 = .ok (.invokespecial 3, 3) := by decide +kernel
theorem dX2_init_4 : decode cX2_init 4 = .ok (.aload_n 0, 1) := by decide +kernel
theorem dX2_init_5 : decode cX2_init 5 = .ok (.bipush 6, 2) := by decide +kernel
theorem dX2_init_7 : decode cX2_init 7 = .ok (.newarray .int, 2) := by decide +kernel
theorem dX2_init_9 : decode cX2_init 9 = .ok (.putfield 9, 3) := by decide +kernel
theorem dX2_init_12 : decode cX2_init 12 = .ok (.aload_n 0, 1) := by decide +kernel
theorem dX2_init_13 : decode cX2_init 13 = .ok (.getfield 9, 3) := by decide +kernel
theorem dX2_init_16 : decode cX2_init 16 = .ok (.iconst (-1), 1) := by decide +kernel
theorem dX2_init_17 : decode cX2_init 17 = .ok (.invokestatic 15, 3) := by decide +kernel
theorem dX2_init_20 : decode cX2_init 20 = .ok (.aload_n 0, 1) := by decide +kernel
theorem dX2_init_21 : decode cX2_init 21 = .ok (.bipush 60, 2) := by decide +kernel
theorem dX2_init_23 : decode cX2_init 23 = .ok (.newarray .int, 2) := by decide +kernel
theorem dX2_init_25 : decode cX2_init 25 = .ok (.putfield 21, 3) := by decide +kernel
theorem dX2_init_28 : decode cX2_init 28 = .ok (.aload_n 0, 1) := by decide +kernel
theorem dX2_init_29 : decode cX2_init 29 = .ok (.bipush 60, 2) := by decide +kernel
theorem dX2_init_31 : decode cX2_init 31 = .ok (.newarray .int, 2) := by decide +kernel
theorem dX2_init_33 : decode cX2_init 33 = .ok (.putfield 24, 3) := by decide +kernel
theorem dX2_init_36 : decode cX2_init 36 = .ok (.aload_n 0, 1) := by decide +kernel
theorem dX2_init_37 : decode cX2_init 37 = .ok (.iconst 0, 1) := by decide +kernel
theorem dX2_init_38 : decode cX2_init 38 = .ok (.putfield 27, 3) := by decide +kernel
theorem dX2_init_41 : decode cX2_init 41 = .ok (.return_, 1) := by decide +kernel
theorem dX2_isThing_0 : decode cX2_isThing 0 = .ok (.iload_n 1, 1) := by decide +kernel
theorem dX2_isThing_1 : decode cX2_isThing 1 = .ok (.ifCond .lt 15, 3) := by decide +kernel
theorem dX2_isThing_4 : decode cX2_isThing 4 = .ok (.iload_n 1, 1) := by decide +kernel
theorem dX2_isThing_5 : decode cX2_isThing 5 = .ok (.aload_n 0, 1) := by decide +kernel
theorem dX2_isThing_6 : decode cX2_isThing 6 = .ok (.getfield 27, 3) := by decide +kernel
theorem dX2_isThing_9 : decode cX2_isThing 9 = .ok (.if_icmp .ge 7, 3) := by decide +kernel
theorem dX2_isThing_12 : decode cX2_isThing 12 = .ok (.iconst 1, 1) := by decide +kernel
theorem dX2_isThing_13 : decode cX2_isThing 13 = .ok (.goto 4, 3) := by decide +kernel
theorem dX2_isThing_16 : decode cX2_isThing 16 = .ok (.iconst 0, 1) := by decide +kernel
theorem dX2_isThing_17 : decode cX2_isThing 17 = .ok (.ireturn, 1) := by decide +kernel
set_option maxRecDepth 20000 in
theorem ggX2_makeThing_X2_put : GoodIn wsX2_makeThing wsX2_put := goodIn_r _ [6, 7, 8, 9, 10, 11, 12, 13, 14, 15, 16, 17] (by decide +kernel) (by decide +kernel)
set_option maxRecDepth 20000 in
theorem gX2_makeThing_X2_put : GoodIn wsX2_makeThing (wsV RX2 31 RX2 yX2_put wsX2_put) := goodIn_app (goodIn_of _ (by decide +kernel)) ggX2_makeThing_X2_put
theorem dX2_makeThing_0 : decode cX2_makeThing 0 = .ok (.aload_n 0, 1) := by decide +kernel
theorem dX2_makeThing_1 : decode cX2_makeThing 1 = .ok (.getfield 27, 3) := by decide +kernel
theorem dX2_makeThing_4 : decode cX2_makeThing 4 = .ok (.bipush 60, 2) := by decide +kernel
theorem dX2_makeThing_6 : decode cX2_makeThing 6 = .ok (.if_icmp .lt 6, 3) := by decide +kernel
theorem dX2_makeThing_9 : decode cX2_makeThing 9 = .ok (.bipush (-3), 2) := by decide +kernel
theorem dX2_makeThing_11 : decode cX2_makeThing 11 = .ok (.ireturn, 1) := by decide +kernel
theorem dX2_makeThing_12 : decode cX2_makeThing 12 = .ok (.aload_n 0, 1) := by decide +kernel
theorem dX2_makeThing_13 : decode cX2_makeThing 13 = .ok (.getfield 27, 3) := by decide +kernel
theorem dX2_makeThing_16 : decode cX2_makeThing 16 = .ok (.istore_n 2, 1) := by decide +kernel
theorem dX2_makeThing_17 : decode cX2_makeThing 17 = .ok (.aload_n 0, 1) := by decide +kernel
theorem dX2_makeThing_18 : decode cX2_makeThing 18 = .ok (.dup, 1) := by decide +kernel
theorem dX2_makeThing_19 : decode cX2_makeThing 19 = .ok (.getfield 27, 3) := by decide +kernel
theorem dX2_makeThing_22 : decode cX2_makeThing 22 = .ok (.iconst 1, 1) := by decide +kernel
theorem dX2_makeThing_23 : decode cX2_makeThing 23 = .ok (.iadd, 1) := by decide +kernel
theorem dX2_makeThing_24 : decode cX2_makeThing 24 = .ok (.putfield 27, 3) := by decide +kernel
theorem dX2_makeThing_27 : decode cX2_makeThing 27 = .ok (.aload_n 0, 1) := by decide +kernel
theorem dX2_makeThing_28 : decode cX2_makeThing 28 = .ok (.iload_n 1, 1) := by decide +kernel
theorem dX2_makeThing_29 : decode cX2_makeThing 29 = .ok (.iload_n 2, 1) := by decide +kernel
theorem dX2_makeThing_30 : decode cX2_makeThing 30 = .ok (.invokevirtual 31, 3) := by decide +kernel
theorem dX2_makeThing_33 : decode cX2_makeThing 33 = .ok (.iload_n 2, 1) := by decide +kernel
theorem dX2_makeThing_34 : decode cX2_makeThing 34 = .ok (.ireturn, 1) := by decide +kernel
set_option maxRecDepth 20000 in
theorem ggX2_thingIn_X4_isPlace : GoodIn wsX2_thingIn wsX4_isPlace := goodIn_r _ [4, 5, 6, 3, 7] (by decide +kernel) (by decide +kernel)
set_option maxRecDepth 20000 in
theorem gX2_thingIn_X4_isPlace_n35 : GoodIn wsX2_thingIn (wsX4_isPlace) := ggX2_thingIn_X4_isPlace
theorem dX2_thingIn_0 : decode cX2_thingIn 0 = .ok (.iload_n 1, 1) := by decide +kernel
theorem dX2_thingIn_1 : decode cX2_thingIn 1 = .ok (.invokestatic 35, 3) := by decide +kernel
theorem dX2_thingIn_4 : decode cX2_thingIn 4 = .ok (.ifCond .eq 12, 3) := by decide +kernel
theorem dX2_thingIn_7 : decode cX2_thingIn 7 = .ok (.aload_n 0, 1) := by decide +kernel
theorem dX2_thingIn_8 : decode cX2_thingIn 8 = .ok (.getfield 9, 3) := by decide +kernel
theorem dX2_thingIn_11 : decode cX2_thingIn 11 = .ok (.iload_n 1, 1) := by decide +kernel
theorem dX2_thingIn_12 : decode cX2_thingIn 12 = .ok (.iaload, 1) := by decide +kernel
theorem dX2_thingIn_13 : decode cX2_thingIn 13 = .ok (.goto 4, 3) := by decide +kernel
theorem dX2_thingIn_16 : decode cX2_thingIn 16 = .ok (.iconst (-1), 1) := by decide +kernel
theorem dX2_thingIn_17 : decode cX2_thingIn 17 = .ok (.ireturn, 1) := by decide +kernel
set_option maxRecDepth 20000 in
theorem ggX2_put_X4_isPlace : GoodIn wsX2_put wsX4_isPlace := goodIn_r _ [4, 5, 6, 3, 7] (by decide +kernel) (by decide +kernel)
set_option maxRecDepth 20000 in
theorem gX2_put_X4_isPlace_n35 : GoodIn wsX2_put (wsX4_isPlace) := ggX2_put_X4_isPlace
theorem dX2_put_0 : decode cX2_put 0 = .ok (.iload_n 1, 1) := by decide +kernel
theorem dX2_put_1 : decode cX2_put 1 = .ok (.invokestatic 35, 3) := by decide +kernel
theorem dX2_put_4 : decode cX2_put 4 = .ok (.ifCond .eq 10, 3) := by decide +kernel
theorem dX2_put_7 : decode cX2_put 7 = .ok (.aload_n 0, 1) := by decide +kernel
theorem dX2_put_8 : decode cX2_put 8 = .ok (.getfield 9, 3) := by decide +kernel
theorem dX2_put_11 : decode cX2_put 11 = .ok (.iload_n 1, 1) := by decide +kernel
theorem dX2_put_12 : decode cX2_put 12 = .ok (.iload_n 2, 1) := by decide +kernel
theorem dX2_put_13 : decode cX2_put 13 = .ok (.iastore, 1) := by decide +kernel
theorem dX2_put_14 : decode cX2_put 14 = .ok (.return_, 1) := by decide +kernel
set_option maxRecDepth 20000 in
theorem ggX2_numberOf_X2_isThing : GoodIn wsX2_numberOf wsX2_isThing := goodIn_r _ [6, 7, 8, 9, 10, 11] (by decide +kernel) (by decide +kernel)
set_option maxRecDepth 20000 in
theorem gX2_numberOf_X2_isThing : GoodIn wsX2_numberOf (wsV RX2 39 RX2 yX2_isThing wsX2_isThing) := goodIn_app (goodIn_of _ (by decide +kernel)) ggX2_numberOf_X2_isThing
theorem dX2_numberOf_0 : decode cX2_numberOf 0 = .ok (.aload_n 0, 1) := by decide +kernel
theorem dX2_numberOf_1 : decode cX2_numberOf 1 = .ok (.iload_n 1, 1) := by decide +kernel
theorem dX2_numberOf_2 : decode cX2_numberOf 2 = .ok (.invokevirtual 39, 3) := by decide +kernel
theorem dX2_numberOf_5 : decode cX2_numberOf 5 = .ok (.ifCond .eq 12, 3) := by decide +kernel
theorem dX2_numberOf_8 : decode cX2_numberOf 8 = .ok (.aload_n 0, 1) := by decide +kernel
theorem dX2_numberOf_9 : decode cX2_numberOf 9 = .ok (.getfield 21, 3) := by decide +kernel
theorem dX2_numberOf_12 : decode cX2_numberOf 12 = .ok (.iload_n 1, 1) := by decide +kernel
theorem dX2_numberOf_13 : decode cX2_numberOf 13 = .ok (.iaload, 1) := by decide +kernel
theorem dX2_numberOf_14 : decode cX2_numberOf 14 = .ok (.goto 4, 3) := by decide +kernel
theorem dX2_numberOf_17 : decode cX2_numberOf 17 = .ok (.iconst 0, 1) := by decide +kernel
theorem dX2_numberOf_18 : decode cX2_numberOf 18 = .ok (.ireturn, 1) := by decide +kernel
set_option maxRecDepth 20000 in
theorem ggX2_raiseNumber_X2_isThing : GoodIn wsX2_raiseNumber wsX2_isThing := goodIn_r _ [6, 7, 8, 9, 10, 11] (by decide +kernel) (by decide +kernel)
set_option maxRecDepth 20000 in
theorem gX2_raiseNumber_X2_isThing : GoodIn wsX2_raiseNumber (wsV RX2 39 RX2 yX2_isThing wsX2_isThing) := goodIn_app (goodIn_of _ (by decide +kernel)) ggX2_raiseNumber_X2_isThing
theorem dX2_raiseNumber_0 : decode cX2_raiseNumber 0 = .ok (.aload_n 0, 1) := by decide +kernel
theorem dX2_raiseNumber_1 : decode cX2_raiseNumber 1 = .ok (.iload_n 1, 1) := by decide +kernel
theorem dX2_raiseNumber_2 : decode cX2_raiseNumber 2 = .ok (.invokevirtual 39, 3) := by decide +kernel
theorem dX2_raiseNumber_5 : decode cX2_raiseNumber 5 = .ok (.ifCond .eq 13, 3) := by decide +kernel
theorem dX2_raiseNumber_8 : decode cX2_raiseNumber 8 = .ok (.aload_n 0, 1) := by decide +kernel
theorem dX2_raiseNumber_9 : decode cX2_raiseNumber 9 = .ok (.getfield 21, 3) := by decide +kernel
theorem dX2_raiseNumber_12 : decode cX2_raiseNumber 12 = .ok (.iload_n 1, 1) := by decide +kernel
theorem dX2_raiseNumber_13 : decode cX2_raiseNumber 13 = .ok (.dup2, 1) := by decide +kernel
theorem dX2_raiseNumber_14 : decode cX2_raiseNumber 14 = .ok (.iaload, 1) := by decide +kernel
theorem dX2_raiseNumber_15 : decode cX2_raiseNumber 15 = .ok (.iload_n 2, 1) := by decide +kernel
theorem dX2_raiseNumber_16 : decode cX2_raiseNumber 16 = .ok (.iadd, 1) := by decide +kernel
theorem dX2_raiseNumber_17 : decode cX2_raiseNumber 17 = .ok (.iastore, 1) := by decide +kernel
theorem dX2_raiseNumber_18 : decode cX2_raiseNumber 18 = .ok (.return_, 1) := by decide +kernel
set_option maxRecDepth 20000 in
theorem ggX2_isHeld_X2_isThing : GoodIn wsX2_isHeld wsX2_isThing := goodIn_r _ [6, 7, 8, 9, 10, 11] (by decide +kernel) (by decide +kernel)
set_option maxRecDepth 20000 in
theorem gX2_isHeld_X2_isThing : GoodIn wsX2_isHeld (wsV RX2 39 RX2 yX2_isThing wsX2_isThing) := goodIn_app (goodIn_of _ (by decide +kernel)) ggX2_isHeld_X2_isThing
theorem dX2_isHeld_0 : decode cX2_isHeld 0 = .ok (.aload_n 0, 1) := by decide +kernel
theorem dX2_isHeld_1 : decode cX2_isHeld 1 = .ok (.iload_n 1, 1) := by decide +kernel
theorem dX2_isHeld_2 : decode cX2_isHeld 2 = .ok (.invokevirtual 39, 3) := by decide +kernel
theorem dX2_isHeld_5 : decode cX2_isHeld 5 = .ok (.ifCond .eq 16, 3) := by decide +kernel
theorem dX2_isHeld_8 : decode cX2_isHeld 8 = .ok (.aload_n 0, 1) := by decide +kernel
theorem dX2_isHeld_9 : decode cX2_isHeld 9 = .ok (.getfield 24, 3) := by decide +kernel
theorem dX2_isHeld_12 : decode cX2_isHeld 12 = .ok (.iload_n 1, 1) := by decide +kernel
theorem dX2_isHeld_13 : decode cX2_isHeld 13 = .ok (.iaload, 1) := by decide +kernel
theorem dX2_isHeld_14 : decode cX2_isHeld 14 = .ok (.ifCond .le 7, 3) := by decide +kernel
theorem dX2_isHeld_17 : decode cX2_isHeld 17 = .ok (.iconst 1, 1) := by decide +kernel
theorem dX2_isHeld_18 : decode cX2_isHeld 18 = .ok (.goto 4, 3) := by decide +kernel
theorem dX2_isHeld_21 : decode cX2_isHeld 21 = .ok (.iconst 0, 1) := by decide +kernel
theorem dX2_isHeld_22 : decode cX2_isHeld 22 = .ok (.ireturn, 1) := by decide +kernel
set_option maxRecDepth 20000 in
theorem ggX2_deepen_X2_isThing : GoodIn wsX2_deepen wsX2_isThing := goodIn_r _ [6, 7, 8, 9, 10, 11] (by decide +kernel) (by decide +kernel)
set_option maxRecDepth 20000 in
theorem gX2_deepen_X2_isThing : GoodIn wsX2_deepen (wsV RX2 39 RX2 yX2_isThing wsX2_isThing) := goodIn_app (goodIn_of _ (by decide +kernel)) ggX2_deepen_X2_isThing
theorem dX2_deepen_0 : decode cX2_deepen 0 = .ok (.aload_n 0, 1) := by decide +kernel
theorem dX2_deepen_1 : decode cX2_deepen 1 = .ok (.iload_n 1, 1) := by decide +kernel
theorem dX2_deepen_2 : decode cX2_deepen 2 = .ok (.invokevirtual 39, 3) := by decide +kernel
theorem dX2_deepen_5 : decode cX2_deepen 5 = .ok (.ifCond .eq 13, 3) := by decide +kernel
theorem dX2_deepen_8 : decode cX2_deepen 8 = .ok (.aload_n 0, 1) := by decide +kernel
theorem dX2_deepen_9 : decode cX2_deepen 9 = .ok (.getfield 24, 3) := by decide +kernel
theorem dX2_deepen_12 : decode cX2_deepen 12 = .ok (.iload_n 1, 1) := by decide +kernel
theorem dX2_deepen_13 : decode cX2_deepen 13 = .ok (.dup2, 1) := by decide +kernel
theorem dX2_deepen_14 : decode cX2_deepen 14 = .ok (.iaload, 1) := by decide +kernel
theorem dX2_deepen_15 : decode cX2_deepen 15 = .ok (.iload_n 2, 1) := by decide +kernel
theorem dX2_deepen_16 : decode cX2_deepen 16 = .ok (.iadd, 1) := by decide +kernel
theorem dX2_deepen_17 : decode cX2_deepen 17 = .ok (.iastore, 1) := by decide +kernel
theorem dX2_deepen_18 : decode cX2_deepen 18 = .ok (.return_, 1) := by decide +kernel
set_option maxRecDepth 20000 in
theorem ggX3_init_X3_restart : GoodIn wsX3_init wsX3_restart := goodIn_r _ [10, 11, 12, 13, 14, 15, 16, 17, 18, 19, 20, 21, 22, 23] (by decide +kernel) (by decide +kernel)
set_option maxRecDepth 20000 in
theorem gX3_init_X3_restart : GoodIn wsX3_init (wsV RX3 15 RX3 yX3_restart wsX3_restart) := goodIn_app (goodIn_of _ (by decide +kernel)) ggX3_init_X3_restart
theorem dX3_init_0 : decode cX3_init 0 = .ok (.aload_n 0, 1) := by decide +kernel
theorem dX3_init_1 : decode cX3_init 1 = .ok (.invokespecial 3, 3) := by decide +kernel
theorem dX3_init_4 : decode cX3_init 4 = .ok (.aload_n 0, 1) := by decide +kernel
theorem dX3_init_5 : decode cX3_init 5 = .ok (.sipush 250, 3) := by decide +kernel
theorem dX3_init_8 : decode cX3_init 8 = .ok (.newarray .int, 2) := by decide +kernel
theorem dX3_init_10 : decode cX3_init 10 = .ok (.putfield 9, 3) := by decide +kernel
theorem dX3_init_13 : decode cX3_init 13 = .ok (.aload_n 0, 1) := by decide +kernel
theorem dX3_init_14 : decode cX3_init 14 = .ok (.invokevirtual 15, 3) := by decide +kernel
theorem dX3_init_17 : decode cX3_init 17 = .ok (.return_, 1) := by decide +kernel
theorem dX3_restart_0 : decode cX3_restart 0 = .ok (.aload_n 0, 1) := by decide +kernel
theorem dX3_restart_1 : decode cX3_restart 1 = .ok (.iconst 0, 1) := by decide +kernel
theorem dX3_restart_2 : decode cX3_restart 2 = .ok (.putfield 18, 3) := by decide +kernel
theorem dX3_restart_5 : decode cX3_restart 5 = .ok (.aload_n 0, 1) := by decide +kernel
theorem dX3_restart_6 : decode cX3_restart 6 = .ok (.iconst 0, 1) := by decide +kernel
theorem dX3_restart_7 : decode cX3_restart 7 = .ok (.putfield 22, 3) := by decide +kernel
theorem dX3_restart_10 : decode cX3_restart 10 = .ok (.aload_n 0, 1) := by decide +kernel
theorem dX3_restart_11 : decode cX3_restart 11 = .ok (.iconst 0, 1) := by decide +kernel
theorem dX3_restart_12 : decode cX3_restart 12 = .ok (.putfield 25, 3) := by decide +kernel
theorem dX3_restart_15 : decode cX3_restart 15 = .ok (.aload_n 0, 1) := by decide +kernel
theorem dX3_restart_16 : decode cX3_restart 16 = .ok (.iconst 0, 1) := by decide +kernel
theorem dX3_restart_17 : decode cX3_restart 17 = .ok (.putfield 28, 3) := by decide +kernel
theorem dX3_restart_20 : decode cX3_restart 20 = .ok (.aload_n 0, 1) := by decide +kernel
theorem dX3_restart_21 : decode cX3_restart 21 = .ok (.iconst 0, 1) := by decide +kernel
theorem dX3_restart_22 : decode cX3_restart 22 = .ok (.putfield 31, 3) := by decide +kernel
theorem dX3_restart_25 : decode cX3_restart 25 = .ok (.aload_n 0, 1) := by decide +kernel
theorem dX3_restart_26 : decode cX3_restart 26 = .ok (.iconst 0, 1) := by decide +kernel
theorem dX3_restart_27 : decode cX3_restart 27 = .ok (.putfield 34, 3) := by decide +kernel
theorem dX3_restart_30 : decode cX3_restart 30 = .ok (.return_, 1) := by decide +kernel
set_option maxRecDepth 20000 in
theorem ggX3_entry_X4_isWithin : GoodIn wsX3_entry wsX4_isWithin := goodIn_r _ [9] (by decide +kernel) (by decide +kernel)
set_option maxRecDepth 20000 in
theorem gX3_entry_X4_isWithin_n43 : GoodIn wsX3_entry (wsX4_isWithin) := ggX3_entry_X4_isWithin
theorem dX3_entry_0 : decode cX3_entry 0 = .ok (.iload_n 1, 1) := by decide +kernel
theorem dX3_entry_1 : decode cX3_entry 1 = .ok (.iconst 0, 1) := by decide +kernel
theorem dX3_entry_2 : decode cX3_entry 2 = .ok (.aload_n 0, 1) := by decide +kernel
theorem dX3_entry_3 : decode cX3_entry 3 = .ok (.getfield 18, 3) := by decide +kernel
theorem dX3_entry_6 : decode cX3_entry 6 = .ok (.sipush 250, 3) := by decide +kernel
theorem dX3_entry_9 : decode cX3_entry 9 = .ok (.invokestatic 37, 3) := by decide +kernel
theorem dX3_entry_12 : decode cX3_entry 12 = .ok (.iconst 1, 1) := by decide +kernel
theorem dX3_entry_13 : decode cX3_entry 13 = .ok (.isub, 1) := by decide +kernel
theorem dX3_entry_14 : decode cX3_entry 14 = .ok (.invokestatic 43, 3) := by decide +kernel
theorem dX3_entry_17 : decode cX3_entry 17 = .ok (.ifCond .eq 12, 3) := by decide +kernel
theorem dX3_entry_20 : decode cX3_entry 20 = .ok (.aload_n 0, 1) := by decide +kernel
theorem dX3_entry_21 : decode cX3_entry 21 = .ok (.getfield 9, 3) := by decide +kernel
theorem dX3_entry_24 : decode cX3_entry 24 = .ok (.iload_n 1, 1) := by decide +kernel
theorem dX3_entry_25 : decode cX3_entry 25 = .ok (.iaload, 1) := by decide +kernel
theorem dX3_entry_26 : decode cX3_entry 26 = .ok (.goto 4, 3) := by decide +kernel
theorem dX3_entry_29 : decode cX3_entry 29 = .ok (.iconst (-1), 1) := by decide +kernel
theorem dX3_entry_30 : decode cX3_entry 30 = .ok (.ireturn, 1) := by decide +kernel
theorem dX3_enter_0 : decode cX3_enter 0 = .ok (.aload_n 0, 1) := by decide +kernel
theorem dX3_enter_1 : decode cX3_enter 1 = .ok (.getfield 18, 3) := by decide +kernel
theorem dX3_enter_4 : decode cX3_enter 4 = .ok (.sipush 250, 3) := by decide +kernel
theorem dX3_enter_7 : decode cX3_enter 7 = .ok (.if_icmp .ge 13, 3) := by decide +kernel
theorem dX3_enter_10 : decode cX3_enter 10 = .ok (.aload_n 0, 1) := by decide +kernel
theorem dX3_enter_11 : decode cX3_enter 11 = .ok (.getfield 9, 3) := by decide +kernel
theorem dX3_enter_14 : decode cX3_enter 14 = .ok (.aload_n 0, 1) := by decide +kernel
theorem dX3_enter_15 : decode cX3_enter 15 = .ok (.getfield 18, 3) := by decide +kernel
theorem dX3_enter_18 : decode cX3_enter 18 = .ok (.iload_n 1, 1) := by decide +kernel
theorem dX3_enter_19 : decode cX3_enter 19 = .ok (.iastore, 1) := by decide +kernel
theorem dX3_enter_20 : decode cX3_enter 20 = .ok (.aload_n 0, 1) := by decide +kernel
theorem dX3_enter_21 : decode cX3_enter 21 = .ok (.dup, 1) := by decide +kernel
theorem dX3_enter_22 : decode cX3_enter 22 = .ok (.getfield 18, 3) := by decide +kernel
theorem dX3_enter_25 : decode cX3_enter 25 = .ok (.iconst 1, 1) := by decide +kernel
theorem dX3_enter_26 : decode cX3_enter 26 = .ok (.iadd, 1) := by decide +kernel
theorem dX3_enter_27 : decode cX3_enter 27 = .ok (.putfield 18, 3) := by decide +kernel
theorem dX3_enter_30 : decode cX3_enter 30 = .ok (.return_, 1) := by decide +kernel
set_option maxRecDepth 20000 in
theorem ggX3_enterMark_X3_enter : GoodIn wsX3_enterMark wsX3_enter := goodIn_r _ [5, 6, 7, 8, 9, 10, 11, 12, 13, 14] (by decide +kernel) (by decide +kernel)
set_option maxRecDepth 20000 in
theorem gX3_enterMark_X3_enter : GoodIn wsX3_enterMark (wsV RX3 47 RX3 yX3_enter wsX3_enter) := goodIn_app (goodIn_of _ (by decide +kernel)) ggX3_enterMark_X3_enter
theorem dX3_enterMark_0 : decode cX3_enterMark 0 = .ok (.aload_n 0, 1) := by decide +kernel
theorem dX3_enterMark_1 : decode cX3_enterMark 1 = .ok (.sipush 10000, 3) := by decide +kernel
theorem dX3_enterMark_4 : decode cX3_enterMark 4 = .ok (.iload_n 1, 1) := by decide +kernel
theorem dX3_enterMark_5 : decode cX3_enterMark 5 = .ok (.iadd, 1) := by decide +kernel
theorem dX3_enterMark_6 : decode cX3_enterMark 6 = .ok (.invokevirtual 47, 3) := by decide +kernel
theorem dX3_enterMark_9 : decode cX3_enterMark 9 = .ok (.return_, 1) := by decide +kernel
set_option maxRecDepth 20000 in
theorem ggX3_enterBegun_X3_enter : GoodIn wsX3_enterBegun wsX3_enter := goodIn_r _ [12, 13, 14, 15, 16, 17, 18, 19, 20, 21] (by decide +kernel) (by decide +kernel)
set_option maxRecDepth 20000 in
theorem gX3_enterBegun_X3_enter : GoodIn wsX3_enterBegun (wsV RX3 47 RX3 yX3_enter wsX3_enter) := goodIn_app (goodIn_of _ (by decide +kernel)) ggX3_enterBegun_X3_enter
theorem dX3_enterBegun_0 : decode cX3_enterBegun 0 = .ok (.aload_n 0, 1) := by decide +kernel
theorem dX3_enterBegun_1 : decode cX3_enterBegun 1 = .ok (.dup, 1) := by decide +kernel
theorem dX3_enterBegun_2 : decode cX3_enterBegun 2 = .ok (.getfield 25, 3) := by decide +kernel
theorem dX3_enterBegun_5 : decode cX3_enterBegun 5 = .ok (.iconst 1, 1) := by decide +kernel
theorem dX3_enterBegun_6 : decode cX3_enterBegun 6 = .ok (.iadd, 1) := by decide +kernel
theorem dX3_enterBegun_7 : decode cX3_enterBegun 7 = .ok (.putfield 25, 3) := by decide +kernel
theorem dX3_enterBegun_10 : decode cX3_enterBegun 10 = .ok (.aload_n 0, 1) := by decide +kernel
theorem dX3_enterBegun_11 : decode cX3_enterBegun 11 = .ok (.dup, 1) := by decide +kernel
theorem dX3_enterBegun_12 : decode cX3_enterBegun 12 = .ok (.getfield 28, 3) := by decide +kernel
theorem dX3_enterBegun_15 : decode cX3_enterBegun 15 = .ok (.iconst 1, 1) := by decide +kernel
theorem dX3_enterBegun_16 : decode cX3_enterBegun 16 = .ok (.iadd, 1) := by decide +kernel
theorem dX3_enterBegun_17 : decode cX3_enterBegun 17 = .ok (.putfield 28, 3) := by decide +kernel
theorem dX3_enterBegun_20 : decode cX3_enterBegun 20 = .ok (.aload_n 0, 1) := by decide +kernel
theorem dX3_enterBegun_21 : decode cX3_enterBegun 21 = .ok (.aload_n 0, 1) := by decide +kernel
theorem dX3_enterBegun_22 : decode cX3_enterBegun 22 = .ok (.getfield 31, 3) := by decide +kernel
theorem dX3_enterBegun_25 : decode cX3_enterBegun 25 = .ok (.aload_n 0, 1) := by decide +kernel
theorem dX3_enterBegun_26 : decode cX3_enterBegun 26 = .ok (.getfield 28, 3) := by decide +kernel
theorem dX3_enterBegun_29 : decode cX3_enterBegun 29 = .ok (.invokestatic 51, 3) := by decide +kernel
theorem dX3_enterBegun_32 : decode cX3_enterBegun 32 = .ok (.putfield 31, 3) := by decide +kernel
theorem dX3_enterBegun_35 : decode cX3_enterBegun 35 = .ok (.aload_n 0, 1) := by decide +kernel
theorem dX3_enterBegun_36 : decode cX3_enterBegun 36 = .ok (.sipush 1000, 3) := by decide +kernel
theorem dX3_enterBegun_39 : decode cX3_enterBegun 39 = .ok (.iload_n 1, 1) := by decide +kernel
theorem dX3_enterBegun_40 : decode cX3_enterBegun 40 = .ok (.iadd, 1) := by decide +kernel
theorem dX3_enterBegun_41 : decode cX3_enterBegun 41 = .ok (.invokevirtual 47, 3) := by decide +kernel
theorem dX3_enterBegun_44 : decode cX3_enterBegun 44 = .ok (.return_, 1) := by decide +kernel
set_option maxRecDepth 20000 in
theorem ggX3_enterLeft_X3_enter : GoodIn wsX3_enterLeft wsX3_enter := goodIn_r _ [7, 8, 9, 10, 11, 12, 13, 14, 15, 16] (by decide +kernel) (by decide +kernel)
set_option maxRecDepth 20000 in
theorem gX3_enterLeft_X3_enter : GoodIn wsX3_enterLeft (wsV RX3 47 RX3 yX3_enter wsX3_enter) := goodIn_app (goodIn_of _ (by decide +kernel)) ggX3_enterLeft_X3_enter
theorem dX3_enterLeft_0 : decode cX3_enterLeft 0 = .ok (.aload_n 0, 1) := by decide +kernel
theorem dX3_enterLeft_1 : decode cX3_enterLeft 1 = .ok (.dup, 1) := by decide +kernel
theorem dX3_enterLeft_2 : decode cX3_enterLeft 2 = .ok (.getfield 28, 3) := by decide +kernel
theorem dX3_enterLeft_5 : decode cX3_enterLeft 5 = .ok (.iconst 1, 1) := by decide +kernel
theorem dX3_enterLeft_6 : decode cX3_enterLeft 6 = .ok (.isub, 1) := by decide +kernel
theorem dX3_enterLeft_7 : decode cX3_enterLeft 7 = .ok (.putfield 28, 3) := by decide +kernel
theorem dX3_enterLeft_10 : decode cX3_enterLeft 10 = .ok (.iload_n 2, 1) := by decide +kernel
theorem dX3_enterLeft_11 : decode cX3_enterLeft 11 = .ok (.iconst 4, 1) := by decide +kernel
theorem dX3_enterLeft_12 : decode cX3_enterLeft 12 = .ok (.if_icmp .eq 8, 3) := by decide +kernel
theorem dX3_enterLeft_15 : decode cX3_enterLeft 15 = .ok (.iload_n 2, 1) := by decide +kernel
theorem dX3_enterLeft_16 : decode cX3_enterLeft 16 = .ok (.iconst 5, 1) := by decide +kernel
theorem dX3_enterLeft_17 : decode cX3_enterLeft 17 = .ok (.if_icmp .ne 13, 3) := by decide +kernel
theorem dX3_enterLeft_20 : decode cX3_enterLeft 20 = .ok (.aload_n 0, 1) := by decide +kernel
theorem dX3_enterLeft_21 : decode cX3_enterLeft 21 = .ok (.dup, 1) := by decide +kernel
theorem dX3_enterLeft_22 : decode cX3_enterLeft 22 = .ok (.getfield 34, 3) := by decide +kernel
theorem dX3_enterLeft_25 : decode cX3_enterLeft 25 = .ok (.iconst 1, 1) := by decide +kernel
theorem dX3_enterLeft_26 : decode cX3_enterLeft 26 = .ok (.iadd, 1) := by decide +kernel
theorem dX3_enterLeft_27 : decode cX3_enterLeft 27 = .ok (.putfield 34, 3) := by decide +kernel
theorem dX3_enterLeft_30 : decode cX3_enterLeft 30 = .ok (.aload_n 0, 1) := by decide +kernel
theorem dX3_enterLeft_31 : decode cX3_enterLeft 31 = .ok (.sipush 2000, 3) := by decide +kernel
theorem dX3_enterLeft_34 : decode cX3_enterLeft 34 = .ok (.bipush 100, 2) := by decide +kernel
theorem dX3_enterLeft_36 : decode cX3_enterLeft 36 = .ok (.iload_n 2, 1) := by decide +kernel
theorem dX3_enterLeft_37 : decode cX3_enterLeft 37 = .ok (.imul, 1) := by decide +kernel
theorem dX3_enterLeft_38 : decode cX3_enterLeft 38 = .ok (.iadd, 1) := by decide +kernel
theorem dX3_enterLeft_39 : decode cX3_enterLeft 39 = .ok (.iload_n 1, 1) := by decide +kernel
theorem dX3_enterLeft_40 : decode cX3_enterLeft 40 = .ok (.iadd, 1) := by decide +kernel
theorem dX3_enterLeft_41 : decode cX3_enterLeft 41 = .ok (.invokevirtual 47, 3) := by decide +kernel
theorem dX3_enterLeft_44 : decode cX3_enterLeft 44 = .ok (.return_, 1) := by decide +kernel
set_option maxRecDepth 20000 in
theorem ggX4_init_X1_init : GoodIn wsX4_init wsX1_init := goodIn_r _ [13, 14, 2, 3, 15, 16, 17, 18, 19, 20, 21, 22, 23, 24, 25, 26, 27, 28, 29, 30, 31, 32, 33, 34, 35, 36, 37, 38, 39, 40, 41, 42, 43, 44, 45, 46, 47, 48, 49, 50, 51, 52, 53, 54, 55, 56, 57, 58, 59, 60, 61, 62, 72, 73, 74, 75, 63, 64, 65, 66, 76, 77, 78, 79, 80, 81, 82, 83, 84, 85, 86, 87, 88] (by decide +kernel) (by decide +kernel)
set_option maxRecDepth 20000 in
theorem gX4_init_X1_init_n9 : GoodIn wsX4_init (wsX1_init) := ggX4_init_X1_init
theorem dX4_init_0 : decode cX4_init 0 = .ok (.aload_n 0, 1) := by decide +kernel
theorem dX4_init_1 : decode cX4_init 1 = .ok (.invokespecial 1, 3) := by decide +kernel
theorem dX4_init_4 : decode cX4_init 4 = .ok (.aload_n 0, 1) := by decide +kernel
theorem dX4_init_5 : decode cX4_init 5 = .ok (.new 7, 3) := by decide +kernel
theorem dX4_init_8 : decode cX4_init 8 = .ok (.dup, 1) := by decide +kernel
theorem dX4_init_9 : decode cX4_init 9 = .ok (.invokespecial 9, 3) := by decide +kernel
theorem dX4_init_12 : decode cX4_init 12 = .ok (.putfield 10, 3) := by decide +kernel
theorem dX4_init_15 : decode cX4_init 15 = .ok (.aload_n 0, 1) := by decide +kernel
theorem dX4_init_16 : decode cX4_init 16 = .ok (.aload_n 0, 1) := by decide +kernel
theorem dX4_init_17 : decode cX4_init 17 = .ok (.getfield 10, 3) := by decide +kernel
theorem dX4_init_20 : decode cX4_init 20 = .ok (.getfield 16, 3) := by decide +kernel
theorem dX4_init_23 : decode cX4_init 23 = .ok (.putfield 20, 3) := by decide +kernel
theorem dX4_init_26 : decode cX4_init 26 = .ok (.aload_n 0, 1) := by decide +kernel
theorem dX4_init_27 : decode cX4_init 27 = .ok (.aload_n 0, 1) := by decide +kernel
theorem dX4_init_28 : decode cX4_init 28 = .ok (.getfield 10, 3) := by decide +kernel
theorem dX4_init_31 : decode cX4_init 31 = .ok (.getfield 21, 3) := by decide +kernel
theorem dX4_init_34 : decode cX4_init 34 = .ok (.putfield 25, 3) := by decide +kernel
theorem dX4_init_37 : decode cX4_init 37 = .ok (.aload_n 0, 1) := by decide +kernel
theorem dX4_init_38 : decode cX4_init 38 = .ok (.aload_n 0, 1) := by decide +kernel
theorem dX4_init_39 : decode cX4_init 39 = .ok (.getfield 10, 3) := by decide +kernel
theorem dX4_init_42 : decode cX4_init 42 = .ok (.getfield 26, 3) := by decide +kernel
theorem dX4_init_45 : decode cX4_init 45 = .ok (.putfield 30, 3) := by decide +kernel
theorem dX4_init_48 : decode cX4_init 48 = .ok (.aload_n 0, 1) := by decide +kernel
theorem dX4_init_49 : decode cX4_init 49 = .ok (.iconst 0, 1) := by decide +kernel
theorem dX4_init_50 : decode cX4_init 50 = .ok (.putfield 31, 3) := by decide +kernel
theorem dX4_init_53 : decode cX4_init 53 = .ok (.return_, 1) := by decide +kernel
set_option maxRecDepth 20000 in
theorem ggX4_thing_X4_isPlace : GoodIn wsX4_thing wsX4_isPlace := goodIn_r _ [5, 6, 7, 4, 8] (by decide +kernel) (by decide +kernel)
set_option maxRecDepth 20000 in
theorem gX4_thing_X4_isPlace : GoodIn wsX4_thing (va_wsS RX4 35 yX4_isPlace wsX4_isPlace) := goodIn_app (goodIn_of _ (by decide +kernel)) ggX4_thing_X4_isPlace
set_option maxRecDepth 20000 in
theorem ggX4_thing_X2_makeThing : GoodIn wsX4_thing wsX2_makeThing := goodIn_r _ [12, 13, 14, 15, 16, 10, 17, 18, 3, 4, 5, 6, 7, 8, 24, 25, 26, 27] (by decide +kernel) (by decide +kernel)
set_option maxRecDepth 20000 in
theorem gX4_thing_X2_makeThing_n39 : GoodIn wsX4_thing (wsX2_makeThing) := ggX4_thing_X2_makeThing
theorem dX4_thing_0 : decode cX4_thing 0 = .ok (.iload_n 1, 1) := by decide +kernel
theorem dX4_thing_1 : decode cX4_thing 1 = .ok (.invokestatic 35, 3) := by decide +kernel
theorem dX4_thing_4 : decode cX4_thing 4 = .ok (.ifCond .eq 14, 3) := by decide +kernel
theorem dX4_thing_7 : decode cX4_thing 7 = .ok (.aload_n 0, 1) := by decide +kernel
theorem dX4_thing_8 : decode cX4_thing 8 = .ok (.getfield 20, 3) := by decide +kernel
theorem dX4_thing_11 : decode cX4_thing 11 = .ok (.iload_n 1, 1) := by decide +kernel
theorem dX4_thing_12 : decode cX4_thing 12 = .ok (.invokevirtual 39, 3) := by decide +kernel
theorem dX4_thing_15 : decode cX4_thing 15 = .ok (.goto 5, 3) := by decide +kernel
theorem dX4_thing_18 : decode cX4_thing 18 = .ok (.bipush (-2), 2) := by decide +kernel
theorem dX4_thing_20 : decode cX4_thing 20 = .ok (.ireturn, 1) := by decide +kernel
set_option maxRecDepth 20000 in
theorem ggX4_set_X4_isPlace : GoodIn wsX4_set wsX4_isPlace := goodIn_r _ [5, 6, 7, 4, 8] (by decide +kernel) (by decide +kernel)
set_option maxRecDepth 20000 in
theorem gX4_set_X4_isPlace : GoodIn wsX4_set (va_wsS RX4 35 yX4_isPlace wsX4_isPlace) := goodIn_app (goodIn_of _ (by decide +kernel)) ggX4_set_X4_isPlace
set_option maxRecDepth 20000 in
theorem ggX4_set_X2_thingIn : GoodIn wsX4_set wsX2_thingIn := goodIn_r _ [12, 13, 3, 4, 5, 6, 7, 8, 22, 23, 24, 25] (by decide +kernel) (by decide +kernel)
set_option maxRecDepth 20000 in
theorem gX4_set_X2_thingIn_n45 : GoodIn wsX4_set (wsX2_thingIn) := ggX4_set_X2_thingIn
set_option maxRecDepth 20000 in
theorem ggX4_set_X2_put : GoodIn wsX4_set wsX2_put := goodIn_r _ [16, 13, 3, 4, 5, 6, 7, 8, 22, 23, 24, 25] (by decide +kernel) (by decide +kernel)
set_option maxRecDepth 20000 in
theorem gX4_set_X2_put_n48 : GoodIn wsX4_set (wsX2_put) := ggX4_set_X2_put
theorem dX4_set_0 : decode cX4_set 0 = .ok (.iload_n 1, 1) := by decide +kernel
theorem dX4_set_1 : decode cX4_set 1 = .ok (.invokestatic 35, 3) := by decide +kernel
theorem dX4_set_4 : decode cX4_set 4 = .ok (.ifCond .eq 15, 3) := by decide +kernel
theorem dX4_set_7 : decode cX4_set 7 = .ok (.iload_n 2, 1) := by decide +kernel
theorem dX4_set_8 : decode cX4_set 8 = .ok (.iconst (-1), 1) := by decide +kernel
theorem dX4_set_9 : decode cX4_set 9 = .ok (.if_icmp .eq 13, 3) := by decide +kernel
theorem dX4_set_12 : decode cX4_set 12 = .ok (.iload_n 2, 1) := by decide +kernel
theorem dX4_set_13 : decode cX4_set 13 = .ok (.invokestatic 35, 3) := by decide +kernel
theorem dX4_set_16 : decode cX4_set 16 = .ok (.ifCond .ne 6, 3) := by decide +kernel
theorem dX4_set_19 : decode cX4_set 19 = .ok (.bipush (-2), 2) := by decide +kernel
theorem dX4_set_21 : decode cX4_set 21 = .ok (.ireturn, 1) := by decide +kernel
theorem dX4_set_22 : decode cX4_set 22 = .ok (.aload_n 0, 1) := by decide +kernel
theorem dX4_set_23 : decode cX4_set 23 = .ok (.getfield 20, 3) := by decide +kernel
theorem dX4_set_26 : decode cX4_set 26 = .ok (.iload_n 2, 1) := by decide +kernel
theorem dX4_set_27 : decode cX4_set 27 = .ok (.invokevirtual 45, 3) := by decide +kernel
theorem dX4_set_30 : decode cX4_set 30 = .ok (.istore_n 3, 1) := by decide +kernel
theorem dX4_set_31 : decode cX4_set 31 = .ok (.aload_n 0, 1) := by decide +kernel
theorem dX4_set_32 : decode cX4_set 32 = .ok (.getfield 20, 3) := by decide +kernel
theorem dX4_set_35 : decode cX4_set 35 = .ok (.iload_n 1, 1) := by decide +kernel
theorem dX4_set_36 : decode cX4_set 36 = .ok (.iload_n 3, 1) := by decide +kernel
theorem dX4_set_37 : decode cX4_set 37 = .ok (.invokevirtual 48, 3) := by decide +kernel
theorem dX4_set_40 : decode cX4_set 40 = .ok (.iload_n 3, 1) := by decide +kernel
theorem dX4_set_41 : decode cX4_set 41 = .ok (.ireturn, 1) := by decide +kernel
set_option maxRecDepth 20000 in
theorem ggX4_step_X4_isStep : GoodIn wsX4_step wsX4_isStep := goodIn_r _ [5, 6, 7, 4, 8, 9, 10, 11, 12, 13, 14, 15, 16, 17] (by decide +kernel) (by decide +kernel)
set_option maxRecDepth 20000 in
theorem gX4_step_X4_isStep : GoodIn wsX4_step (va_wsS RX4 52 yX4_isStep wsX4_isStep) := goodIn_app (goodIn_of _ (by decide +kernel)) ggX4_step_X4_isStep
set_option maxRecDepth 20000 in
theorem ggX4_step_X0_append : GoodIn wsX4_step wsX0_append := goodIn_r _ [21, 22, 23, 24, 25, 26, 27, 7, 4, 8, 9, 10, 11, 33, 34, 35, 36, 37, 38] (by decide +kernel) (by decide +kernel)
set_option maxRecDepth 20000 in
theorem gX4_step_X0_append_n56 : GoodIn wsX4_step (wsX0_append) := ggX4_step_X0_append
theorem dX4_step_0 : decode cX4_step 0 = .ok (.iload_n 1, 1) := by decide +kernel
theorem dX4_step_1 : decode cX4_step 1 = .ok (.iload_n 2, 1) := by decide +kernel
theorem dX4_step_2 : decode cX4_step 2 = .ok (.iload_n 3, 1) := by decide +kernel
theorem dX4_step_3 : decode cX4_step 3 = .ok (.iload 4, 2) := by decide +kernel
theorem dX4_step_5 : decode cX4_step 5 = .ok (.iload 5, 2) := by decide +kernel
theorem dX4_step_7 : decode cX4_step 7 = .ok (.invokestatic 52, 3) := by decide +kernel
theorem dX4_step_10 : decode cX4_step 10 = .ok (.ifCond .eq 20, 3) := by decide +kernel
theorem dX4_step_13 : decode cX4_step 13 = .ok (.aload_n 0, 1) := by decide +kernel
theorem dX4_step_14 : decode cX4_step 14 = .ok (.getfield 25, 3) := by decide +kernel
theorem dX4_step_17 : decode cX4_step 17 = .ok (.iload_n 1, 1) := by decide +kernel
theorem dX4_step_18 : decode cX4_step 18 = .ok (.iload_n 2, 1) := by decide +kernel
theorem dX4_step_19 : decode cX4_step 19 = .ok (.iload_n 3, 1) := by decide +kernel
theorem dX4_step_20 : decode cX4_step 20 = .ok (.iload 4, 2) := by decide +kernel
theorem dX4_step_22 : decode cX4_step 22 = .ok (.iload 5, 2) := by decide +kernel
theorem dX4_step_24 : decode cX4_step 24 = .ok (.invokevirtual 56, 3) := by decide +kernel
theorem dX4_step_27 : decode cX4_step 27 = .ok (.goto 5, 3) := by decide +kernel
theorem dX4_step_30 : decode cX4_step 30 = .ok (.bipush (-2), 2) := by decide +kernel
theorem dX4_step_32 : decode cX4_step 32 = .ok (.ireturn, 1) := by decide +kernel
set_option maxRecDepth 20000 in
theorem ggX4_clear_X0_empty : GoodIn wsX4_clear wsX0_empty := goodIn_r _ [5, 6, 7, 8, 9, 10, 11, 12, 13, 19, 20, 21, 22, 23, 24] (by decide +kernel) (by decide +kernel)
set_option maxRecDepth 20000 in
theorem gX4_clear_X0_empty_n62 : GoodIn wsX4_clear (wsX0_empty) := ggX4_clear_X0_empty
theorem dX4_clear_0 : decode cX4_clear 0 = .ok (.aload_n 0, 1) := by decide +kernel
theorem dX4_clear_1 : decode cX4_clear 1 = .ok (.getfield 25, 3) := by decide +kernel
theorem dX4_clear_4 : decode cX4_clear 4 = .ok (.iload_n 1, 1) := by decide +kernel
theorem dX4_clear_5 : decode cX4_clear 5 = .ok (.invokevirtual 62, 3) := by decide +kernel
theorem dX4_clear_8 : decode cX4_clear 8 = .ok (.ireturn, 1) := by decide +kernel
set_option maxRecDepth 20000 in
theorem ggX4_run_X3_restart : GoodIn wsX4_run wsX3_restart := goodIn_r _ [7, 8, 9, 10, 11, 12, 13, 139, 140, 141, 142, 143, 144, 145] (by decide +kernel) (by decide +kernel)
set_option maxRecDepth 20000 in
theorem gX4_run_X3_restart_n68 : GoodIn wsX4_run (wsX3_restart) := ggX4_run_X3_restart
set_option maxRecDepth 20000 in
theorem ggX4_run_X1_doBlock : GoodIn wsX4_run wsX1_doBlock := goodIn_r _ [17, 18, 19, 20, 21, 22, 23, 24, 25, 26, 27, 28, 29, 30, 31, 15, 32, 33, 14, 16, 34, 35, 36, 37, 38, 39, 40, 41, 42, 43, 44, 45, 46, 47, 48, 49, 50, 51, 52, 53, 54, 55, 56, 57, 58, 59, 5, 60, 61, 10, 11, 12, 62, 63, 64, 65, 66, 67, 68, 8, 69, 70, 71, 72, 73, 74, 75, 76, 77, 78, 13, 79, 80, 81, 82, 83, 84, 85, 86, 87, 88, 89, 90, 91, 92, 93, 94, 95, 96, 97, 98, 99, 100, 101, 102, 103, 104, 105, 106, 107, 108, 109, 110, 111, 112, 113, 114, 115, 116, 117, 118, 119, 120, 121, 122, 123, 124, 125, 126, 127, 128, 135, 136, 137, 138, 146, 147, 148, 149, 150, 151, 152, 153, 154, 155, 139, 140, 141, 142, 143, 144, 145] (by decide +kernel) (by decide +kernel)
set_option maxRecDepth 20000 in
theorem gX4_run_X1_doBlock_n73 : GoodIn wsX4_run (wsX1_doBlock) := ggX4_run_X1_doBlock
set_option maxRecDepth 20000 in
theorem ggX4_run_X4_isThrown : GoodIn wsX4_run wsX4_isThrown := goodIn_r _ [71] (by decide +kernel) (by decide +kernel)
set_option maxRecDepth 20000 in
theorem gX4_run_X4_isThrown : GoodIn wsX4_run (va_wsS RX4 77 yX4_isThrown wsX4_isThrown) := goodIn_app (goodIn_of _ (by decide +kernel)) ggX4_run_X4_isThrown
theorem dX4_run_0 : decode cX4_run 0 = .ok (.aload_n 0, 1) := by decide +kernel
theorem dX4_run_1 : decode cX4_run 1 = .ok (.getfield 10, 3) := by decide +kernel
theorem dX4_run_4 : decode cX4_run 4 = .ok (.getfield 65, 3) := by decide +kernel
theorem dX4_run_7 : decode cX4_run 7 = .ok (.sipush 1500, 3) := by decide +kernel
theorem dX4_run_10 : decode cX4_run 10 = .ok (.if_icmp .lt 6, 3) := by decide +kernel
theorem dX4_run_13 : decode cX4_run 13 = .ok (.bipush (-3), 2) := by decide +kernel
theorem dX4_run_15 : decode cX4_run 15 = .ok (.ireturn, 1) := by decide +kernel
theorem dX4_run_16 : decode cX4_run 16 = .ok (.aload_n 0, 1) := by decide +kernel
theorem dX4_run_17 : decode cX4_run 17 = .ok (.dup, 1) := by decide +kernel
theorem dX4_run_18 : decode cX4_run 18 = .ok (.getfield 31, 3) := by decide +kernel
theorem dX4_run_21 : decode cX4_run 21 = .ok (.iconst 1, 1) := by decide +kernel
theorem dX4_run_22 : decode cX4_run 22 = .ok (.iadd, 1) := by decide +kernel
theorem dX4_run_23 : decode cX4_run 23 = .ok (.putfield 31, 3) := by decide +kernel
theorem dX4_run_26 : decode cX4_run 26 = .ok (.aload_n 0, 1) := by decide +kernel
theorem dX4_run_27 : decode cX4_run 27 = .ok (.getfield 30, 3) := by decide +kernel
theorem dX4_run_30 : decode cX4_run 30 = .ok (.invokevirtual 68, 3) := by decide +kernel
theorem dX4_run_33 : decode cX4_run 33 = .ok (.aload_n 0, 1) := by decide +kernel
theorem dX4_run_34 : decode cX4_run 34 = .ok (.getfield 10, 3) := by decide +kernel
theorem dX4_run_37 : decode cX4_run 37 = .ok (.iconst 0, 1) := by decide +kernel
theorem dX4_run_38 : decode cX4_run 38 = .ok (.iconst (-1), 1) := by decide +kernel
theorem dX4_run_39 : decode cX4_run 39 = .ok (.iconst 0, 1) := by decide +kernel
theorem dX4_run_40 : decode cX4_run 40 = .ok (.invokevirtual 73, 3) := by decide +kernel
theorem dX4_run_43 : decode cX4_run 43 = .ok (.istore_n 1, 1) := by decide +kernel
theorem dX4_run_44 : decode cX4_run 44 = .ok (.iload_n 1, 1) := by decide +kernel
theorem dX4_run_45 : decode cX4_run 45 = .ok (.iconst 5, 1) := by decide +kernel
theorem dX4_run_46 : decode cX4_run 46 = .ok (.if_icmp .ne 6, 3) := by decide +kernel
theorem dX4_run_49 : decode cX4_run 49 = .ok (.bipush 20, 2) := by decide +kernel
theorem dX4_run_51 : decode cX4_run 51 = .ok (.ireturn, 1) := by decide +kernel
theorem dX4_run_52 : decode cX4_run 52 = .ok (.iload_n 1, 1) := by decide +kernel
theorem dX4_run_53 : decode cX4_run 53 = .ok (.invokestatic 77, 3) := by decide +kernel
theorem dX4_run_56 : decode cX4_run 56 = .ok (.ifCond .eq 10, 3) := by decide +kernel
theorem dX4_run_59 : decode cX4_run 59 = .ok (.iload_n 1, 1) := by decide +kernel
theorem dX4_run_60 : decode cX4_run 60 = .ok (.bipush 100, 2) := by decide +kernel
theorem dX4_run_62 : decode cX4_run 62 = .ok (.isub, 1) := by decide +kernel
theorem dX4_run_63 : decode cX4_run 63 = .ok (.goto 4, 3) := by decide +kernel
theorem dX4_run_66 : decode cX4_run 66 = .ok (.iconst 0, 1) := by decide +kernel
theorem dX4_run_67 : decode cX4_run 67 = .ok (.ireturn, 1) := by decide +kernel
set_option maxRecDepth 20000 in
theorem ggX4_trace_X3_entry : GoodIn wsX4_trace wsX3_entry := goodIn_r _ [5, 6, 7, 8, 9, 10, 11, 12, 13, 14, 20, 21, 22, 23, 24, 25, 26] (by decide +kernel) (by decide +kernel)
set_option maxRecDepth 20000 in
theorem gX4_trace_X3_entry_n80 : GoodIn wsX4_trace (wsX3_entry) := ggX4_trace_X3_entry
theorem dX4_trace_0 : decode cX4_trace 0 = .ok (.aload_n 0, 1) := by decide +kernel
theorem dX4_trace_1 : decode cX4_trace 1 = .ok (.getfield 30, 3) := by decide +kernel
theorem dX4_trace_4 : decode cX4_trace 4 = .ok (.iload_n 1, 1) := by decide +kernel
theorem dX4_trace_5 : decode cX4_trace 5 = .ok (.invokevirtual 80, 3) := by decide +kernel
theorem dX4_trace_8 : decode cX4_trace 8 = .ok (.ireturn, 1) := by decide +kernel
theorem dX4_told_0 : decode cX4_told 0 = .ok (.iload_n 1, 1) := by decide +kernel
theorem dX4_told_1 : decode cX4_told 1 = .ok (.tableswitch 75 0 4 #[35, 43, 51, 59, 67], 35) := by decide +kernel
theorem dX4_told_36 : decode cX4_told 36 = .ok (.aload_n 0, 1) := by decide +kernel
theorem dX4_told_37 : decode cX4_told 37 = .ok (.getfield 30, 3) := by decide +kernel
