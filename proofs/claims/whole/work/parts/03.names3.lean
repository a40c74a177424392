theorem dX4_told_40 : decode cX4_told 40 = .ok (.getfield 83, 3) := by decide +kernel
theorem dX4_told_43 : decode cX4_told 43 = .ok (.ireturn, 1) := by decide +kernel
theorem dX4_told_44 : decode cX4_told 44 = .ok (.aload_n 0, 1) := by decide +kernel
theorem dX4_told_45 : decode cX4_told 45 = .ok (.getfield 30, 3) := by decide +kernel
theorem dX4_told_48 : decode cX4_told 48 = .ok (.getfield 86, 3) := by decide +kernel
theorem dX4_told_51 : decode cX4_told 51 = .ok (.ireturn, 1) := by decide +kernel
theorem dX4_told_52 : decode cX4_told 52 = .ok (.aload_n 0, 1) := by decide +kernel
theorem dX4_told_53 : decode cX4_told 53 = .ok (.getfield 30, 3) := by decide +kernel
theorem dX4_told_56 : decode cX4_told 56 = .ok (.getfield 89, 3) := by decide +kernel
theorem dX4_told_59 : decode cX4_told 59 = .ok (.ireturn, 1) := by decide +kernel
theorem dX4_told_60 : decode cX4_told 60 = .ok (.aload_n 0, 1) := by decide +kernel
theorem dX4_told_61 : decode cX4_told 61 = .ok (.getfield 30, 3) := by decide +kernel
theorem dX4_told_64 : decode cX4_told 64 = .ok (.getfield 92, 3) := by decide +kernel
theorem dX4_told_67 : decode cX4_told 67 = .ok (.ireturn, 1) := by decide +kernel
theorem dX4_told_68 : decode cX4_told 68 = .ok (.aload_n 0, 1) := by decide +kernel
theorem dX4_told_69 : decode cX4_told 69 = .ok (.getfield 30, 3) := by decide +kernel
theorem dX4_told_72 : decode cX4_told 72 = .ok (.getfield 95, 3) := by decide +kernel
theorem dX4_told_75 : decode cX4_told 75 = .ok (.ireturn, 1) := by decide +kernel
theorem dX4_told_76 : decode cX4_told 76 = .ok (.bipush (-2), 2) := by decide +kernel
theorem dX4_told_78 : decode cX4_told 78 = .ok (.ireturn, 1) := by decide +kernel
set_option maxRecDepth 20000 in
theorem ggX4_at_X4_isPlace : GoodIn wsX4_at wsX4_isPlace := goodIn_r _ [5, 6, 7, 4, 8] (by decide +kernel) (by decide +kernel)
set_option maxRecDepth 20000 in
theorem gX4_at_X4_isPlace : GoodIn wsX4_at (va_wsS RX4 35 yX4_isPlace wsX4_isPlace) := goodIn_app (goodIn_of _ (by decide +kernel)) ggX4_at_X4_isPlace
set_option maxRecDepth 20000 in
theorem ggX4_at_X2_thingIn : GoodIn wsX4_at wsX2_thingIn := goodIn_r _ [12, 13, 3, 4, 5, 6, 7, 8, 19, 20, 21, 22] (by decide +kernel) (by decide +kernel)
set_option maxRecDepth 20000 in
theorem gX4_at_X2_thingIn_n45 : GoodIn wsX4_at (wsX2_thingIn) := ggX4_at_X2_thingIn
theorem dX4_at_0 : decode cX4_at 0 = .ok (.iload_n 1, 1) := by decide +kernel
theorem dX4_at_1 : decode cX4_at 1 = .ok (.invokestatic 35, 3) := by decide +kernel
theorem dX4_at_4 : decode cX4_at 4 = .ok (.ifCond .eq 14, 3) := by decide +kernel
theorem dX4_at_7 : decode cX4_at 7 = .ok (.aload_n 0, 1) := by decide +kernel
theorem dX4_at_8 : decode cX4_at 8 = .ok (.getfield 20, 3) := by decide +kernel
theorem dX4_at_11 : decode cX4_at 11 = .ok (.iload_n 1, 1) := by decide +kernel
theorem dX4_at_12 : decode cX4_at 12 = .ok (.invokevirtual 45, 3) := by decide +kernel
theorem dX4_at_15 : decode cX4_at 15 = .ok (.goto 5, 3) := by decide +kernel
theorem dX4_at_18 : decode cX4_at 18 = .ok (.bipush (-2), 2) := by decide +kernel
theorem dX4_at_20 : decode cX4_at 20 = .ok (.ireturn, 1) := by decide +kernel
set_option maxRecDepth 20000 in
theorem ggX4_number_X2_numberOf : GoodIn wsX4_number wsX2_numberOf := goodIn_r _ [5, 6, 7, 8, 9, 3, 10, 11, 17, 18, 19, 20] (by decide +kernel) (by decide +kernel)
set_option maxRecDepth 20000 in
theorem gX4_number_X2_numberOf_n98 : GoodIn wsX4_number (wsX2_numberOf) := ggX4_number_X2_numberOf
theorem dX4_number_0 : decode cX4_number 0 = .ok (.aload_n 0, 1) := by decide +kernel
theorem dX4_number_1 : decode cX4_number 1 = .ok (.getfield 20, 3) := by decide +kernel
theorem dX4_number_4 : decode cX4_number 4 = .ok (.iload_n 1, 1) := by decide +kernel
theorem dX4_number_5 : decode cX4_number 5 = .ok (.invokevirtual 98, 3) := by decide +kernel
theorem dX4_number_8 : decode cX4_number 8 = .ok (.ireturn, 1) := by decide +kernel
theorem dX4_count_0 : decode cX4_count 0 = .ok (.iload_n 1, 1) := by decide +kernel
theorem dX4_count_1 : decode cX4_count 1 = .ok (.tableswitch 60 0 3 #[31, 39, 47, 52], 31) := by decide +kernel
theorem dX4_count_32 : decode cX4_count 32 = .ok (.aload_n 0, 1) := by decide +kernel
theorem dX4_count_33 : decode cX4_count 33 = .ok (.getfield 20, 3) := by decide +kernel
theorem dX4_count_36 : decode cX4_count 36 = .ok (.getfield 101, 3) := by decide +kernel
theorem dX4_count_39 : decode cX4_count 39 = .ok (.ireturn, 1) := by decide +kernel
theorem dX4_count_40 : decode cX4_count 40 = .ok (.aload_n 0, 1) := by decide +kernel
theorem dX4_count_41 : decode cX4_count 41 = .ok (.getfield 25, 3) := by decide +kernel
theorem dX4_count_44 : decode cX4_count 44 = .ok (.getfield 104, 3) := by decide +kernel
theorem dX4_count_47 : decode cX4_count 47 = .ok (.ireturn, 1) := by decide +kernel
theorem dX4_count_48 : decode cX4_count 48 = .ok (.aload_n 0, 1) := by decide +kernel
theorem dX4_count_49 : decode cX4_count 49 = .ok (.getfield 31, 3) := by decide +kernel
theorem dX4_count_52 : decode cX4_count 52 = .ok (.ireturn, 1) := by decide +kernel
theorem dX4_count_53 : decode cX4_count 53 = .ok (.aload_n 0, 1) := by decide +kernel
theorem dX4_count_54 : decode cX4_count 54 = .ok (.getfield 10, 3) := by decide +kernel
theorem dX4_count_57 : decode cX4_count 57 = .ok (.getfield 65, 3) := by decide +kernel
theorem dX4_count_60 : decode cX4_count 60 = .ok (.ireturn, 1) := by decide +kernel
theorem dX4_count_61 : decode cX4_count 61 = .ok (.bipush (-2), 2) := by decide +kernel
theorem dX4_count_63 : decode cX4_count 63 = .ok (.ireturn, 1) := by decide +kernel
theorem dX4_isWithin_0 : decode cX4_isWithin 0 = .ok (.iload_n 0, 1) := by decide +kernel
theorem dX4_isWithin_1 : decode cX4_isWithin 1 = .ok (.iload_n 1, 1) := by decide +kernel
theorem dX4_isWithin_2 : decode cX4_isWithin 2 = .ok (.if_icmp .lt 12, 3) := by decide +kernel
theorem dX4_isWithin_5 : decode cX4_isWithin 5 = .ok (.iload_n 0, 1) := by decide +kernel
theorem dX4_isWithin_6 : decode cX4_isWithin 6 = .ok (.iload_n 2, 1) := by decide +kernel
theorem dX4_isWithin_7 : decode cX4_isWithin 7 = .ok (.if_icmp .gt 7, 3) := by decide +kernel
theorem dX4_isWithin_10 : decode cX4_isWithin 10 = .ok (.iconst 1, 1) := by decide +kernel
theorem dX4_isWithin_11 : decode cX4_isWithin 11 = .ok (.goto 4, 3) := by decide +kernel
theorem dX4_isWithin_14 : decode cX4_isWithin 14 = .ok (.iconst 0, 1) := by decide +kernel
theorem dX4_isWithin_15 : decode cX4_isWithin 15 = .ok (.ireturn, 1) := by decide +kernel
set_option maxRecDepth 20000 in
theorem ggX4_isPlace_X4_isWithin : GoodIn wsX4_isPlace wsX4_isWithin := goodIn_r _ [4] (by decide +kernel) (by decide +kernel)
set_option maxRecDepth 20000 in
theorem gX4_isPlace_X4_isWithin : GoodIn wsX4_isPlace (va_wsS RX4 107 yX4_isWithin wsX4_isWithin) := goodIn_app (goodIn_of _ (by decide +kernel)) ggX4_isPlace_X4_isWithin
theorem dX4_isPlace_0 : decode cX4_isPlace 0 = .ok (.iload_n 0, 1) := by decide +kernel
theorem dX4_isPlace_1 : decode cX4_isPlace 1 = .ok (.iconst 0, 1) := by decide +kernel
theorem dX4_isPlace_2 : decode cX4_isPlace 2 = .ok (.iconst 5, 1) := by decide +kernel
theorem dX4_isPlace_3 : decode cX4_isPlace 3 = .ok (.invokestatic 107, 3) := by decide +kernel
theorem dX4_isPlace_6 : decode cX4_isPlace 6 = .ok (.ireturn, 1) := by decide +kernel
set_option maxRecDepth 20000 in
theorem ggX4_isBlock_X4_isWithin : GoodIn wsX4_isBlock wsX4_isWithin := goodIn_r _ [4] (by decide +kernel) (by decide +kernel)
set_option maxRecDepth 20000 in
theorem gX4_isBlock_X4_isWithin : GoodIn wsX4_isBlock (va_wsS RX4 107 yX4_isWithin wsX4_isWithin) := goodIn_app (goodIn_of _ (by decide +kernel)) ggX4_isBlock_X4_isWithin
theorem dX4_isBlock_0 : decode cX4_isBlock 0 = .ok (.iload_n 0, 1) := by decide +kernel
theorem dX4_isBlock_1 : decode cX4_isBlock 1 = .ok (.iconst 0, 1) := by decide +kernel
theorem dX4_isBlock_2 : decode cX4_isBlock 2 = .ok (.bipush 39, 2) := by decide +kernel
theorem dX4_isBlock_4 : decode cX4_isBlock 4 = .ok (.invokestatic 107, 3) := by decide +kernel
theorem dX4_isBlock_7 : decode cX4_isBlock 7 = .ok (.ireturn, 1) := by decide +kernel
set_option maxRecDepth 20000 in
theorem ggX4_isLater_X4_isWithin : GoodIn wsX4_isLater wsX4_isWithin := goodIn_r _ [4] (by decide +kernel) (by decide +kernel)
set_option maxRecDepth 20000 in
theorem gX4_isLater_X4_isWithin : GoodIn wsX4_isLater (va_wsS RX4 107 yX4_isWithin wsX4_isWithin) := goodIn_app (goodIn_of _ (by decide +kernel)) ggX4_isLater_X4_isWithin
theorem dX4_isLater_0 : decode cX4_isLater 0 = .ok (.iload_n 0, 1) := by decide +kernel
theorem dX4_isLater_1 : decode cX4_isLater 1 = .ok (.iload_n 1, 1) := by decide +kernel
theorem dX4_isLater_2 : decode cX4_isLater 2 = .ok (.iconst 1, 1) := by decide +kernel
theorem dX4_isLater_3 : decode cX4_isLater 3 = .ok (.iadd, 1) := by decide +kernel
theorem dX4_isLater_4 : decode cX4_isLater 4 = .ok (.bipush 39, 2) := by decide +kernel
theorem dX4_isLater_6 : decode cX4_isLater 6 = .ok (.invokestatic 107, 3) := by decide +kernel
theorem dX4_isLater_9 : decode cX4_isLater 9 = .ok (.ireturn, 1) := by decide +kernel
set_option maxRecDepth 20000 in
theorem ggX4_isStep_X4_isBlock : GoodIn wsX4_isStep wsX4_isBlock := goodIn_r _ [4, 5, 6, 3, 7] (by decide +kernel) (by decide +kernel)
set_option maxRecDepth 20000 in
theorem gX4_isStep_X4_isBlock : GoodIn wsX4_isStep (va_wsS RX4 111 yX4_isBlock wsX4_isBlock) := goodIn_app (goodIn_of _ (by decide +kernel)) ggX4_isStep_X4_isBlock
set_option maxRecDepth 20000 in
theorem ggX4_isStep_X4_isPlace : GoodIn wsX4_isStep wsX4_isPlace := goodIn_r _ [10, 5, 6, 3, 7] (by decide +kernel) (by decide +kernel)
set_option maxRecDepth 20000 in
theorem gX4_isStep_X4_isPlace : GoodIn wsX4_isStep (va_wsS RX4 35 yX4_isPlace wsX4_isPlace) := goodIn_app (goodIn_of _ (by decide +kernel)) ggX4_isStep_X4_isPlace
set_option maxRecDepth 20000 in
theorem ggX4_isStep_X4_isLater : GoodIn wsX4_isStep wsX4_isLater := goodIn_r _ [13, 5, 6, 3, 7] (by decide +kernel) (by decide +kernel)
set_option maxRecDepth 20000 in
theorem gX4_isStep_X4_isLater : GoodIn wsX4_isStep (va_wsS RX4 114 yX4_isLater wsX4_isLater) := goodIn_app (goodIn_of _ (by decide +kernel)) ggX4_isStep_X4_isLater
set_option maxRecDepth 20000 in
theorem ggX4_isStep_X4_isWithin : GoodIn wsX4_isStep wsX4_isWithin := goodIn_r _ [7] (by decide +kernel) (by decide +kernel)
set_option maxRecDepth 20000 in
theorem gX4_isStep_X4_isWithin : GoodIn wsX4_isStep (va_wsS RX4 107 yX4_isWithin wsX4_isWithin) := goodIn_app (goodIn_of _ (by decide +kernel)) ggX4_isStep_X4_isWithin
theorem dX4_isStep_0 : decode cX4_isStep 0 = .ok (.iload_n 0, 1) := by decide +kernel
theorem dX4_isStep_1 : decode cX4_isStep 1 = .ok (.invokestatic 111, 3) := by decide +kernel
theorem dX4_isStep_4 : decode cX4_isStep 4 = .ok (.ifCond .ne 5, 3) := by decide +kernel
theorem dX4_isStep_7 : decode cX4_isStep 7 = .ok (.iconst 0, 1) := by decide +kernel
theorem dX4_isStep_8 : decode cX4_isStep 8 = .ok (.ireturn, 1) := by decide +kernel
theorem dX4_isStep_9 : decode cX4_isStep 9 = .ok (.iload_n 1, 1) := by decide +kernel
theorem dX4_isStep_10 : decode cX4_isStep 10 = .ok (.tableswitch 220 0 14 #[74, 76, 97, 74, 74, 74, 120, 128, 161, 184, 190, 195, 215, 215, 74], 74) := by decide +kernel
theorem dX4_isStep_84 : decode cX4_isStep 84 = .ok (.iconst 1, 1) := by decide +kernel
theorem dX4_isStep_85 : decode cX4_isStep 85 = .ok (.ireturn, 1) := by decide +kernel
theorem dX4_isStep_86 : decode cX4_isStep 86 = .ok (.iload_n 2, 1) := by decide +kernel
theorem dX4_isStep_87 : decode cX4_isStep 87 = .ok (.invokestatic 35, 3) := by decide +kernel
theorem dX4_isStep_90 : decode cX4_isStep 90 = .ok (.ifCond .eq 15, 3) := by decide +kernel
theorem dX4_isStep_93 : decode cX4_isStep 93 = .ok (.iload_n 3, 1) := by decide +kernel
theorem dX4_isStep_94 : decode cX4_isStep 94 = .ok (.iload_n 0, 1) := by decide +kernel
theorem dX4_isStep_95 : decode cX4_isStep 95 = .ok (.invokestatic 114, 3) := by decide +kernel
theorem dX4_isStep_98 : decode cX4_isStep 98 = .ok (.ifCond .eq 7, 3) := by decide +kernel
theorem dX4_isStep_101 : decode cX4_isStep 101 = .ok (.iconst 1, 1) := by decide +kernel
theorem dX4_isStep_102 : decode cX4_isStep 102 = .ok (.goto 4, 3) := by decide +kernel
theorem dX4_isStep_105 : decode cX4_isStep 105 = .ok (.iconst 0, 1) := by decide +kernel
theorem dX4_isStep_106 : decode cX4_isStep 106 = .ok (.ireturn, 1) := by decide +kernel
theorem dX4_isStep_107 : decode cX4_isStep 107 = .ok (.iload_n 2, 1) := by decide +kernel
theorem dX4_isStep_108 : decode cX4_isStep 108 = .ok (.iconst 0, 1) := by decide +kernel
theorem dX4_isStep_109 : decode cX4_isStep 109 = .ok (.iconst 5, 1) := by decide +kernel
theorem dX4_isStep_110 : decode cX4_isStep 110 = .ok (.invokestatic 107, 3) := by decide +kernel
theorem dX4_isStep_113 : decode cX4_isStep 113 = .ok (.ifCond .eq 15, 3) := by decide +kernel
theorem dX4_isStep_116 : decode cX4_isStep 116 = .ok (.iload_n 3, 1) := by decide +kernel
theorem dX4_isStep_117 : decode cX4_isStep 117 = .ok (.iload_n 0, 1) := by decide +kernel
theorem dX4_isStep_118 : decode cX4_isStep 118 = .ok (.invokestatic 114, 3) := by decide +kernel
theorem dX4_isStep_121 : decode cX4_isStep 121 = .ok (.ifCond .eq 7, 3) := by decide +kernel
theorem dX4_isStep_124 : decode cX4_isStep 124 = .ok (.iconst 1, 1) := by decide +kernel
theorem dX4_isStep_125 : decode cX4_isStep 125 = .ok (.goto 4, 3) := by decide +kernel
theorem dX4_isStep_128 : decode cX4_isStep 128 = .ok (.iconst 0, 1) := by decide +kernel
theorem dX4_isStep_129 : decode cX4_isStep 129 = .ok (.ireturn, 1) := by decide +kernel
theorem dX4_isStep_130 : decode cX4_isStep 130 = .ok (.iload_n 2, 1) := by decide +kernel
theorem dX4_isStep_131 : decode cX4_isStep 131 = .ok (.iconst 1, 1) := by decide +kernel
theorem dX4_isStep_132 : decode cX4_isStep 132 = .ok (.bipush 9, 2) := by decide +kernel
theorem dX4_isStep_134 : decode cX4_isStep 134 = .ok (.invokestatic 107, 3) := by decide +kernel
theorem dX4_isStep_137 : decode cX4_isStep 137 = .ok (.ireturn, 1) := by decide +kernel
theorem dX4_isStep_138 : decode cX4_isStep 138 = .ok (.iload_n 2, 1) := by decide +kernel
theorem dX4_isStep_139 : decode cX4_isStep 139 = .ok (.iconst 0, 1) := by decide +kernel
theorem dX4_isStep_140 : decode cX4_isStep 140 = .ok (.bipush 13, 2) := by decide +kernel
theorem dX4_isStep_142 : decode cX4_isStep 142 = .ok (.invokestatic 107, 3) := by decide +kernel
theorem dX4_isStep_145 : decode cX4_isStep 145 = .ok (.ifCond .eq 24, 3) := by decide +kernel
theorem dX4_isStep_148 : decode cX4_isStep 148 = .ok (.iload_n 3, 1) := by decide +kernel
theorem dX4_isStep_149 : decode cX4_isStep 149 = .ok (.iload_n 0, 1) := by decide +kernel
theorem dX4_isStep_150 : decode cX4_isStep 150 = .ok (.invokestatic 114, 3) := by decide +kernel
theorem dX4_isStep_153 : decode cX4_isStep 153 = .ok (.ifCond .eq 16, 3) := by decide +kernel
theorem dX4_isStep_156 : decode cX4_isStep 156 = .ok (.iload 4, 2) := by decide +kernel
theorem dX4_isStep_158 : decode cX4_isStep 158 = .ok (.iload_n 0, 1) := by decide +kernel
theorem dX4_isStep_159 : decode cX4_isStep 159 = .ok (.invokestatic 114, 3) := by decide +kernel
theorem dX4_isStep_162 : decode cX4_isStep 162 = .ok (.ifCond .eq 7, 3) := by decide +kernel
theorem dX4_isStep_165 : decode cX4_isStep 165 = .ok (.iconst 1, 1) := by decide +kernel
theorem dX4_isStep_166 : decode cX4_isStep 166 = .ok (.goto 4, 3) := by decide +kernel
theorem dX4_isStep_169 : decode cX4_isStep 169 = .ok (.iconst 0, 1) := by decide +kernel
theorem dX4_isStep_170 : decode cX4_isStep 170 = .ok (.ireturn, 1) := by decide +kernel
theorem dX4_isStep_171 : decode cX4_isStep 171 = .ok (.iload_n 3, 1) := by decide +kernel
theorem dX4_isStep_172 : decode cX4_isStep 172 = .ok (.iload_n 0, 1) := by decide +kernel
theorem dX4_isStep_173 : decode cX4_isStep 173 = .ok (.invokestatic 114, 3) := by decide +kernel
theorem dX4_isStep_176 : decode cX4_isStep 176 = .ok (.ifCond .eq 16, 3) := by decide +kernel
theorem dX4_isStep_179 : decode cX4_isStep 179 = .ok (.iload 4, 2) := by decide +kernel
theorem dX4_isStep_181 : decode cX4_isStep 181 = .ok (.iload_n 0, 1) := by decide +kernel
theorem dX4_isStep_182 : decode cX4_isStep 182 = .ok (.invokestatic 114, 3) := by decide +kernel
theorem dX4_isStep_185 : decode cX4_isStep 185 = .ok (.ifCond .eq 7, 3) := by decide +kernel
theorem dX4_isStep_188 : decode cX4_isStep 188 = .ok (.iconst 1, 1) := by decide +kernel
theorem dX4_isStep_189 : decode cX4_isStep 189 = .ok (.goto 4, 3) := by decide +kernel
theorem dX4_isStep_192 : decode cX4_isStep 192 = .ok (.iconst 0, 1) := by decide +kernel
theorem dX4_isStep_193 : decode cX4_isStep 193 = .ok (.ireturn, 1) := by decide +kernel
theorem dX4_isStep_194 : decode cX4_isStep 194 = .ok (.iload_n 3, 1) := by decide +kernel
theorem dX4_isStep_195 : decode cX4_isStep 195 = .ok (.iload_n 0, 1) := by decide +kernel
theorem dX4_isStep_196 : decode cX4_isStep 196 = .ok (.invokestatic 114, 3) := by decide +kernel
theorem dX4_isStep_199 : decode cX4_isStep 199 = .ok (.ireturn, 1) := by decide +kernel
theorem dX4_isStep_200 : decode cX4_isStep 200 = .ok (.iload_n 3, 1) := by decide +kernel
theorem dX4_isStep_201 : decode cX4_isStep 201 = .ok (.invokestatic 35, 3) := by decide +kernel
theorem dX4_isStep_204 : decode cX4_isStep 204 = .ok (.ireturn, 1) := by decide +kernel
theorem dX4_isStep_205 : decode cX4_isStep 205 = .ok (.iload_n 2, 1) := by decide +kernel
theorem dX4_isStep_206 : decode cX4_isStep 206 = .ok (.invokestatic 35, 3) := by decide +kernel
theorem dX4_isStep_209 : decode cX4_isStep 209 = .ok (.ifCond .eq 14, 3) := by decide +kernel
theorem dX4_isStep_212 : decode cX4_isStep 212 = .ok (.iload_n 3, 1) := by decide +kernel
theorem dX4_isStep_213 : decode cX4_isStep 213 = .ok (.invokestatic 35, 3) := by decide +kernel
theorem dX4_isStep_216 : decode cX4_isStep 216 = .ok (.ifCond .eq 7, 3) := by decide +kernel
theorem dX4_isStep_219 : decode cX4_isStep 219 = .ok (.iconst 1, 1) := by decide +kernel
theorem dX4_isStep_220 : decode cX4_isStep 220 = .ok (.goto 4, 3) := by decide +kernel
theorem dX4_isStep_223 : decode cX4_isStep 223 = .ok (.iconst 0, 1) := by decide +kernel
theorem dX4_isStep_224 : decode cX4_isStep 224 = .ok (.ireturn, 1) := by decide +kernel
theorem dX4_isStep_225 : decode cX4_isStep 225 = .ok (.iload_n 2, 1) := by decide +kernel
theorem dX4_isStep_226 : decode cX4_isStep 226 = .ok (.invokestatic 35, 3) := by decide +kernel
theorem dX4_isStep_229 : decode cX4_isStep 229 = .ok (.ireturn, 1) := by decide +kernel
theorem dX4_isStep_230 : decode cX4_isStep 230 = .ok (.iconst 0, 1) := by decide +kernel
theorem dX4_isStep_231 : decode cX4_isStep 231 = .ok (.ireturn, 1) := by decide +kernel
theorem dX4_isThrown_0 : decode cX4_isThrown 0 = .ok (.iload_n 0, 1) := by decide +kernel
theorem dX4_isThrown_1 : decode cX4_isThrown 1 = .ok (.bipush 100, 2) := by decide +kernel
theorem dX4_isThrown_3 : decode cX4_isThrown 3 = .ok (.if_icmp .le 7, 3) := by decide +kernel
theorem dX4_isThrown_6 : decode cX4_isThrown 6 = .ok (.iconst 1, 1) := by decide +kernel
theorem dX4_isThrown_7 : decode cX4_isThrown 7 = .ok (.goto 4, 3) := by decide +kernel
theorem dX4_isThrown_10 : decode cX4_isThrown 10 = .ok (.iconst 0, 1) := by decide +kernel
theorem dX4_isThrown_11 : decode cX4_isThrown 11 = .ok (.ireturn, 1) := by decide +kernel
theorem dX5_init_0 : decode cX5_init 0 = .ok (.aload_n 0, 1) := by decide +kernel
theorem dX5_init_1 : decode cX5_init 1 = .ok (.invokespecial 1, 3) := by decide +kernel
theorem dX5_init_4 : decode cX5_init 4 = .ok (.aload_n 0, 1) := by decide +kernel
theorem dX5_init_5 : decode cX5_init 5 = .ok (.bipush 6, 2) := by decide +kernel
theorem dX5_init_7 : decode cX5_init 7 = .ok (.newarray .int, 2) := by decide +kernel
theorem dX5_init_9 : decode cX5_init 9 = .ok (.putfield 7, 3) := by decide +kernel
theorem dX5_init_12 : decode cX5_init 12 = .ok (.aload_n 0, 1) := by decide +kernel
theorem dX5_init_13 : decode cX5_init 13 = .ok (.bipush 60, 2) := by decide +kernel
theorem dX5_init_15 : decode cX5_init 15 = .ok (.newarray .int, 2) := by decide +kernel
theorem dX5_init_17 : decode cX5_init 17 = .ok (.putfield 13, 3) := by decide +kernel
theorem dX5_init_20 : decode cX5_init 20 = .ok (.aload_n 0, 1) := by decide +kernel
theorem dX5_init_21 : decode cX5_init 21 = .ok (.bipush 60, 2) := by decide +kernel
theorem dX5_init_23 : decode cX5_init 23 = .ok (.newarray .int, 2) := by decide +kernel
theorem dX5_init_25 : decode cX5_init 25 = .ok (.putfield 16, 3) := by decide +kernel
theorem dX5_init_28 : decode cX5_init 28 = .ok (.aload_n 0, 1) := by decide +kernel
theorem dX5_init_29 : decode cX5_init 29 = .ok (.bipush 40, 2) := by decide +kernel
theorem dX5_init_31 : decode cX5_init 31 = .ok (.newarray .int, 2) := by decide +kernel
theorem dX5_init_33 : decode cX5_init 33 = .ok (.putfield 19, 3) := by decide +kernel
theorem dX5_init_36 : decode cX5_init 36 = .ok (.aload_n 0, 1) := by decide +kernel
theorem dX5_init_37 : decode cX5_init 37 = .ok (.sipush 480, 3) := by decide +kernel
theorem dX5_init_40 : decode cX5_init 40 = .ok (.newarray .int, 2) := by decide +kernel
theorem dX5_init_42 : decode cX5_init 42 = .ok (.putfield 22, 3) := by decide +kernel
theorem dX5_init_45 : decode cX5_init 45 = .ok (.aload_n 0, 1) := by decide +kernel
theorem dX5_init_46 : decode cX5_init 46 = .ok (.sipush 480, 3) := by decide +kernel
theorem dX5_init_49 : decode cX5_init 49 = .ok (.newarray .int, 2) := by decide +kernel
theorem dX5_init_51 : decode cX5_init 51 = .ok (.putfield 25, 3) := by decide +kernel
theorem dX5_init_54 : decode cX5_init 54 = .ok (.aload_n 0, 1) := by decide +kernel
theorem dX5_init_55 : decode cX5_init 55 = .ok (.sipush 480, 3) := by decide +kernel
theorem dX5_init_58 : decode cX5_init 58 = .ok (.newarray .int, 2) := by decide +kernel
theorem dX5_init_60 : decode cX5_init 60 = .ok (.putfield 28, 3) := by decide +kernel
theorem dX5_init_63 : decode cX5_init 63 = .ok (.aload_n 0, 1) := by decide +kernel
theorem dX5_init_64 : decode cX5_init 64 = .ok (.sipush 480, 3) := by decide +kernel
theorem dX5_init_67 : decode cX5_init 67 = .ok (.newarray .int, 2) := by decide +kernel
theorem dX5_init_69 : decode cX5_init 69 = .ok (.putfield 31, 3) := by decide +kernel
theorem dX5_init_72 : decode cX5_init 72 = .ok (.aload_n 0, 1) := by decide +kernel
theorem dX5_init_73 : decode cX5_init 73 = .ok (.sipush 250, 3) := by decide +kernel
theorem dX5_init_76 : decode cX5_init 76 = .ok (.newarray .int, 2) := by decide +kernel
theorem dX5_init_78 : decode cX5_init 78 = .ok (.putfield 34, 3) := by decide +kernel
theorem dX5_init_81 : decode cX5_init 81 = .ok (.iconst 0, 1) := by decide +kernel
theorem dX5_init_82 : decode cX5_init 82 = .ok (.istore_n 1, 1) := by decide +kernel
theorem dX5_init_83 : decode cX5_init 83 = .ok (.iload_n 1, 1) := by decide +kernel
theorem dX5_init_84 : decode cX5_init 84 = .ok (.bipush 6, 2) := by decide +kernel
theorem dX5_init_86 : decode cX5_init 86 = .ok (.if_icmp .ge 16, 3) := by decide +kernel
theorem dX5_init_89 : decode cX5_init 89 = .ok (.aload_n 0, 1) := by decide +kernel
theorem dX5_init_90 : decode cX5_init 90 = .ok (.getfield 7, 3) := by decide +kernel
theorem dX5_init_93 : decode cX5_init 93 = .ok (.iload_n 1, 1) := by decide +kernel
theorem dX5_init_94 : decode cX5_init 94 = .ok (.iconst (-1), 1) := by decide +kernel
theorem dX5_init_95 : decode cX5_init 95 = .ok (.iastore, 1) := by decide +kernel
theorem dX5_init_96 : decode cX5_init 96 = .ok (.iinc 1 1, 3) := by decide +kernel
theorem dX5_init_99 : decode cX5_init 99 = .ok (.goto (-16), 3) := by decide +kernel
theorem dX5_init_102 : decode cX5_init 102 = .ok (.return_, 1) := by decide +kernel
theorem dX5_in_0 : decode cX5_in 0 = .ok (.iload_n 0, 1) := by decide +kernel
theorem dX5_in_1 : decode cX5_in 1 = .ok (.iload_n 1, 1) := by decide +kernel
theorem dX5_in_2 : decode cX5_in 2 = .ok (.if_icmp .lt 12, 3) := by decide +kernel
theorem dX5_in_5 : decode cX5_in 5 = .ok (.iload_n 0, 1) := by decide +kernel
theorem dX5_in_6 : decode cX5_in 6 = .ok (.iload_n 2, 1) := by decide +kernel
theorem dX5_in_7 : decode cX5_in 7 = .ok (.if_icmp .gt 7, 3) := by decide +kernel
theorem dX5_in_10 : decode cX5_in 10 = .ok (.iconst 1, 1) := by decide +kernel
theorem dX5_in_11 : decode cX5_in 11 = .ok (.goto 4, 3) := by decide +kernel
theorem dX5_in_14 : decode cX5_in 14 = .ok (.iconst 0, 1) := by decide +kernel
theorem dX5_in_15 : decode cX5_in 15 = .ok (.ireturn, 1) := by decide +kernel
set_option maxRecDepth 20000 in
theorem ggX5_isPlace_X5_in : GoodIn wsX5_isPlace wsX5_in := goodIn_r _ [4] (by decide +kernel) (by decide +kernel)
set_option maxRecDepth 20000 in
theorem gX5_isPlace_X5_in : GoodIn wsX5_isPlace (va_wsS RX5 41 yX5_in wsX5_in) := goodIn_app (goodIn_of _ (by decide +kernel)) ggX5_isPlace_X5_in
theorem dX5_isPlace_0 : decode cX5_isPlace 0 = .ok (.iload_n 0, 1) := by decide +kernel
theorem dX5_isPlace_1 : decode cX5_isPlace 1 = .ok (.iconst 0, 1) := by decide +kernel
theorem dX5_isPlace_2 : decode cX5_isPlace 2 = .ok (.iconst 5, 1) := by decide +kernel
theorem dX5_isPlace_3 : decode cX5_isPlace 3 = .ok (.invokestatic 41, 3) := by decide +kernel
theorem dX5_isPlace_6 : decode cX5_isPlace 6 = .ok (.ireturn, 1) := by decide +kernel
theorem dX5_made_0 : decode cX5_made 0 = .ok (.aload_n 0, 1) := by decide +kernel
theorem dX5_made_1 : decode cX5_made 1 = .ok (.getfield 13, 3) := by decide +kernel
theorem dX5_made_4 : decode cX5_made 4 = .ok (.aload_n 0, 1) := by decide +kernel
theorem dX5_made_5 : decode cX5_made 5 = .ok (.getfield 45, 3) := by decide +kernel
theorem dX5_made_8 : decode cX5_made 8 = .ok (.iconst 0, 1) := by decide +kernel
theorem dX5_made_9 : decode cX5_made 9 = .ok (.iastore, 1) := by decide +kernel
theorem dX5_made_10 : decode cX5_made 10 = .ok (.aload_n 0, 1) := by decide +kernel
theorem dX5_made_11 : decode cX5_made 11 = .ok (.getfield 16, 3) := by decide +kernel
theorem dX5_made_14 : decode cX5_made 14 = .ok (.aload_n 0, 1) := by decide +kernel
theorem dX5_made_15 : decode cX5_made 15 = .ok (.getfield 45, 3) := by decide +kernel
theorem dX5_made_18 : decode cX5_made 18 = .ok (.iconst 0, 1) := by decide +kernel
theorem dX5_made_19 : decode cX5_made 19 = .ok (.iastore, 1) := by decide +kernel
theorem dX5_made_20 : decode cX5_made 20 = .ok (.aload_n 0, 1) := by decide +kernel
theorem dX5_made_21 : decode cX5_made 21 = .ok (.getfield 7, 3) := by decide +kernel
theorem dX5_made_24 : decode cX5_made 24 = .ok (.iload_n 1, 1) := by decide +kernel
theorem dX5_made_25 : decode cX5_made 25 = .ok (.aload_n 0, 1) := by decide +kernel
theorem dX5_made_26 : decode cX5_made 26 = .ok (.getfield 45, 3) := by decide +kernel
theorem dX5_made_29 : decode cX5_made 29 = .ok (.iastore, 1) := by decide +kernel
theorem dX5_made_30 : decode cX5_made 30 = .ok (.aload_n 0, 1) := by decide +kernel
theorem dX5_made_31 : decode cX5_made 31 = .ok (.dup, 1) := by decide +kernel
theorem dX5_made_32 : decode cX5_made 32 = .ok (.getfield 45, 3) := by decide +kernel
theorem dX5_made_35 : decode cX5_made 35 = .ok (.iconst 1, 1) := by decide +kernel
theorem dX5_made_36 : decode cX5_made 36 = .ok (.iadd, 1) := by decide +kernel
theorem dX5_made_37 : decode cX5_made 37 = .ok (.putfield 45, 3) := by decide +kernel
theorem dX5_made_40 : decode cX5_made 40 = .ok (.aload_n 0, 1) := by decide +kernel
theorem dX5_made_41 : decode cX5_made 41 = .ok (.getfield 45, 3) := by decide +kernel
theorem dX5_made_44 : decode cX5_made 44 = .ok (.iconst 1, 1) := by decide +kernel
theorem dX5_made_45 : decode cX5_made 45 = .ok (.isub, 1) := by decide +kernel
theorem dX5_made_46 : decode cX5_made 46 = .ok (.ireturn, 1) := by decide +kernel
set_option maxRecDepth 20000 in
theorem ggX5_thing_X5_isPlace : GoodIn wsX5_thing wsX5_isPlace := goodIn_r _ [6, 7, 8, 5, 9] (by decide +kernel) (by decide +kernel)
set_option maxRecDepth 20000 in
theorem gX5_thing_X5_isPlace : GoodIn wsX5_thing (va_wsS RX5 48 yX5_isPlace wsX5_isPlace) := goodIn_app (goodIn_of _ (by decide +kernel)) ggX5_thing_X5_isPlace
set_option maxRecDepth 20000 in
theorem ggX5_thing_X5_made : GoodIn wsX5_thing wsX5_made := goodIn_r _ [13, 14, 2, 15, 16, 17, 18, 19, 20, 21, 22, 23, 24, 25, 26, 27, 28, 29, 30, 31, 32, 33, 34, 35, 36, 37, 38] (by decide +kernel) (by decide +kernel)
set_option maxRecDepth 20000 in
theorem gX5_thing_X5_made : GoodIn wsX5_thing (wsV RX5 52 RX5 yX5_made wsX5_made) := goodIn_app (goodIn_of _ (by decide +kernel)) ggX5_thing_X5_made
theorem dX5_thing_0 : decode cX5_thing 0 = .ok (.aload_n 0, 1) := by decide +kernel
theorem dX5_thing_1 : decode cX5_thing 1 = .ok (.iconst 0, 1) := by decide +kernel
theorem dX5_thing_2 : decode cX5_thing 2 = .ok (.putfield 37, 3) := by decide +kernel
theorem dX5_thing_5 : decode cX5_thing 5 = .ok (.iload_n 1, 1) := by decide +kernel
theorem dX5_thing_6 : decode cX5_thing 6 = .ok (.invokestatic 48, 3) := by decide +kernel
theorem dX5_thing_9 : decode cX5_thing 9 = .ok (.ifCond .ne 8, 3) := by decide +kernel
theorem dX5_thing_12 : decode cX5_thing 12 = .ok (.bipush (-2), 2) := by decide +kernel
theorem dX5_thing_14 : decode cX5_thing 14 = .ok (.goto 22, 3) := by decide +kernel
theorem dX5_thing_17 : decode cX5_thing 17 = .ok (.aload_n 0, 1) := by decide +kernel
theorem dX5_thing_18 : decode cX5_thing 18 = .ok (.getfield 45, 3) := by decide +kernel
theorem dX5_thing_21 : decode cX5_thing 21 = .ok (.bipush 60, 2) := by decide +kernel
theorem dX5_thing_23 : decode cX5_thing 23 = .ok (.if_icmp .ne 8, 3) := by decide +kernel
theorem dX5_thing_26 : decode cX5_thing 26 = .ok (.bipush (-3), 2) := by decide +kernel
theorem dX5_thing_28 : decode cX5_thing 28 = .ok (.goto 8, 3) := by decide +kernel
theorem dX5_thing_31 : decode cX5_thing 31 = .ok (.aload_n 0, 1) := by decide +kernel
theorem dX5_thing_32 : decode cX5_thing 32 = .ok (.iload_n 1, 1) := by decide +kernel
theorem dX5_thing_33 : decode cX5_thing 33 = .ok (.invokevirtual 52, 3) := by decide +kernel
theorem dX5_thing_36 : decode cX5_thing 36 = .ok (.ireturn, 1) := by decide +kernel
set_option maxRecDepth 20000 in
theorem ggX5_set_X5_isPlace : GoodIn wsX5_set wsX5_isPlace := goodIn_r _ [6, 7, 8, 5, 9] (by decide +kernel) (by decide +kernel)
set_option maxRecDepth 20000 in
theorem gX5_set_X5_isPlace : GoodIn wsX5_set (va_wsS RX5 48 yX5_isPlace wsX5_isPlace) := goodIn_app (goodIn_of _ (by decide +kernel)) ggX5_set_X5_isPlace
set_option maxRecDepth 20000 in
theorem ggX5_set_X5_in : GoodIn wsX5_set wsX5_in := goodIn_r _ [9] (by decide +kernel) (by decide +kernel)
set_option maxRecDepth 20000 in
theorem gX5_set_X5_in : GoodIn wsX5_set (va_wsS RX5 41 yX5_in wsX5_in) := goodIn_app (goodIn_of _ (by decide +kernel)) ggX5_set_X5_in
theorem dX5_set_0 : decode cX5_set 0 = .ok (.aload_n 0, 1) := by decide +kernel
theorem dX5_set_1 : decode cX5_set 1 = .ok (.iconst 0, 1) := by decide +kernel
theorem dX5_set_2 : decode cX5_set 2 = .ok (.putfield 37, 3) := by decide +kernel
theorem dX5_set_5 : decode cX5_set 5 = .ok (.iload_n 1, 1) := by decide +kernel
theorem dX5_set_6 : decode cX5_set 6 = .ok (.invokestatic 48, 3) := by decide +kernel
theorem dX5_set_9 : decode cX5_set 9 = .ok (.ifCond .eq 12, 3) := by decide +kernel
theorem dX5_set_12 : decode cX5_set 12 = .ok (.iload_n 2, 1) := by decide +kernel
theorem dX5_set_13 : decode cX5_set 13 = .ok (.iconst (-1), 1) := by decide +kernel
theorem dX5_set_14 : decode cX5_set 14 = .ok (.iconst 5, 1) := by decide +kernel
theorem dX5_set_15 : decode cX5_set 15 = .ok (.invokestatic 41, 3) := by decide +kernel
theorem dX5_set_18 : decode cX5_set 18 = .ok (.ifCond .ne 6, 3) := by decide +kernel
theorem dX5_set_21 : decode cX5_set 21 = .ok (.bipush (-2), 2) := by decide +kernel
theorem dX5_set_23 : decode cX5_set 23 = .ok (.ireturn, 1) := by decide +kernel
theorem dX5_set_24 : decode cX5_set 24 = .ok (.aload_n 0, 1) := by decide +kernel
theorem dX5_set_25 : decode cX5_set 25 = .ok (.getfield 7, 3) := by decide +kernel
theorem dX5_set_28 : decode cX5_set 28 = .ok (.iload_n 1, 1) := by decide +kernel
theorem dX5_set_29 : decode cX5_set 29 = .ok (.iload_n 2, 1) := by decide +kernel
theorem dX5_set_30 : decode cX5_set 30 = .ok (.iconst (-1), 1) := by decide +kernel
theorem dX5_set_31 : decode cX5_set 31 = .ok (.if_icmp .ne 7, 3) := by decide +kernel
theorem dX5_set_34 : decode cX5_set 34 = .ok (.iconst (-1), 1) := by decide +kernel
theorem dX5_set_35 : decode cX5_set 35 = .ok (.goto 9, 3) := by decide +kernel
theorem dX5_set_38 : decode cX5_set 38 = .ok (.aload_n 0, 1) := by decide +kernel
theorem dX5_set_39 : decode cX5_set 39 = .ok (.getfield 7, 3) := by decide +kernel
theorem dX5_set_42 : decode cX5_set 42 = .ok (.iload_n 2, 1) := by decide +kernel
theorem dX5_set_43 : decode cX5_set 43 = .ok (.iaload, 1) := by decide +kernel
theorem dX5_set_44 : decode cX5_set 44 = .ok (.iastore, 1) := by decide +kernel
theorem dX5_set_45 : decode cX5_set 45 = .ok (.aload_n 0, 1) := by decide +kernel
theorem dX5_set_46 : decode cX5_set 46 = .ok (.getfield 7, 3) := by decide +kernel
theorem dX5_set_49 : decode cX5_set 49 = .ok (.iload_n 1, 1) := by decide +kernel
theorem dX5_set_50 : decode cX5_set 50 = .ok (.iaload, 1) := by decide +kernel
theorem dX5_set_51 : decode cX5_set 51 = .ok (.ireturn, 1) := by decide +kernel
theorem dX5_isBelow_0 : decode cX5_isBelow 0 = .ok (.iload_n 1, 1) := by decide +kernel
theorem dX5_isBelow_1 : decode cX5_isBelow 1 = .ok (.iload_n 0, 1) := by decide +kernel
theorem dX5_isBelow_2 : decode cX5_isBelow 2 = .ok (.if_icmp .le 13, 3) := by decide +kernel
theorem dX5_isBelow_5 : decode cX5_isBelow 5 = .ok (.iload_n 1, 1) := by decide +kernel
theorem dX5_isBelow_6 : decode cX5_isBelow 6 = .ok (.bipush 40, 2) := by decide +kernel
theorem dX5_isBelow_8 : decode cX5_isBelow 8 = .ok (.if_icmp .ge 7, 3) := by decide +kernel
theorem dX5_isBelow_11 : decode cX5_isBelow 11 = .ok (.iconst 1, 1) := by decide +kernel
theorem dX5_isBelow_12 : decode cX5_isBelow 12 = .ok (.goto 4, 3) := by decide +kernel
theorem dX5_isBelow_15 : decode cX5_isBelow 15 = .ok (.iconst 0, 1) := by decide +kernel
theorem dX5_isBelow_16 : decode cX5_isBelow 16 = .ok (.ireturn, 1) := by decide +kernel
set_option maxRecDepth 20000 in
theorem ggX5_isRight_X5_isPlace : GoodIn wsX5_isRight wsX5_isPlace := goodIn_r _ [4, 5, 6, 3, 7] (by decide +kernel) (by decide +kernel)
set_option maxRecDepth 20000 in
theorem gX5_isRight_X5_isPlace : GoodIn wsX5_isRight (va_wsS RX5 48 yX5_isPlace wsX5_isPlace) := goodIn_app (goodIn_of _ (by decide +kernel)) ggX5_isRight_X5_isPlace
set_option maxRecDepth 20000 in
theorem ggX5_isRight_X5_isBelow : GoodIn wsX5_isRight wsX5_isBelow := goodIn_r _ [10] (by decide +kernel) (by decide +kernel)
set_option maxRecDepth 20000 in
theorem gX5_isRight_X5_isBelow : GoodIn wsX5_isRight (va_wsS RX5 56 yX5_isBelow wsX5_isBelow) := goodIn_app (goodIn_of _ (by decide +kernel)) ggX5_isRight_X5_isBelow
set_option maxRecDepth 20000 in
theorem ggX5_isRight_X5_in : GoodIn wsX5_isRight wsX5_in := goodIn_r _ [7] (by decide +kernel) (by decide +kernel)
set_option maxRecDepth 20000 in
theorem gX5_isRight_X5_in : GoodIn wsX5_isRight (va_wsS RX5 41 yX5_in wsX5_in) := goodIn_app (goodIn_of _ (by decide +kernel)) ggX5_isRight_X5_in
theorem dX5_isRight_0 : decode cX5_isRight 0 = .ok (.iload_n 1, 1) := by decide +kernel
theorem dX5_isRight_1 : decode cX5_isRight 1 = .ok (.tableswitch 211 1 13 #[67, 88, 211, 211, 211, 111, 119, 152, 175, 181, 186, 206, 206], 67) := by decide +kernel
theorem dX5_isRight_68 : decode cX5_isRight 68 = .ok (.iload_n 2, 1) := by decide +kernel
theorem dX5_isRight_69 : decode cX5_isRight 69 = .ok (.invokestatic 48, 3) := by decide +kernel
theorem dX5_isRight_72 : decode cX5_isRight 72 = .ok (.ifCond .eq 15, 3) := by decide +kernel
theorem dX5_isRight_75 : decode cX5_isRight 75 = .ok (.iload_n 0, 1) := by decide +kernel
theorem dX5_isRight_76 : decode cX5_isRight 76 = .ok (.iload_n 3, 1) := by decide +kernel
theorem dX5_isRight_77 : decode cX5_isRight 77 = .ok (.invokestatic 56, 3) := by decide +kernel
theorem dX5_isRight_80 : decode cX5_isRight 80 = .ok (.ifCond .eq 7, 3) := by decide +kernel
theorem dX5_isRight_83 : decode cX5_isRight 83 = .ok (.iconst 1, 1) := by decide +kernel
theorem dX5_isRight_84 : decode cX5_isRight 84 = .ok (.goto 4, 3) := by decide +kernel
theorem dX5_isRight_87 : decode cX5_isRight 87 = .ok (.iconst 0, 1) := by decide +kernel
theorem dX5_isRight_88 : decode cX5_isRight 88 = .ok (.ireturn, 1) := by decide +kernel
theorem dX5_isRight_89 : decode cX5_isRight 89 = .ok (.iload_n 2, 1) := by decide +kernel
theorem dX5_isRight_90 : decode cX5_isRight 90 = .ok (.iconst 0, 1) := by decide +kernel
theorem dX5_isRight_91 : decode cX5_isRight 91 = .ok (.iconst 5, 1) := by decide +kernel
theorem dX5_isRight_92 : decode cX5_isRight 92 = .ok (.invokestatic 41, 3) := by decide +kernel
theorem dX5_isRight_95 : decode cX5_isRight 95 = .ok (.ifCond .eq 15, 3) := by decide +kernel
theorem dX5_isRight_98 : decode cX5_isRight 98 = .ok (.iload_n 0, 1) := by decide +kernel
theorem dX5_isRight_99 : decode cX5_isRight 99 = .ok (.iload_n 3, 1) := by decide +kernel
theorem dX5_isRight_100 : decode cX5_isRight 100 = .ok (.invokestatic 56, 3) := by decide +kernel
theorem dX5_isRight_103 : decode cX5_isRight 103 = .ok (.ifCond .eq 7, 3) := by decide +kernel
theorem dX5_isRight_106 : decode cX5_isRight 106 = .ok (.iconst 1, 1) := by decide +kernel
theorem dX5_isRight_107 : decode cX5_isRight 107 = .ok (.goto 4, 3) := by decide +kernel
theorem dX5_isRight_110 : decode cX5_isRight 110 = .ok (.iconst 0, 1) := by decide +kernel
theorem dX5_isRight_111 : decode cX5_isRight 111 = .ok (.ireturn, 1) := by decide +kernel
theorem dX5_isRight_112 : decode cX5_isRight 112 = .ok (.iload_n 2, 1) := by decide +kernel
theorem dX5_isRight_113 : decode cX5_isRight 113 = .ok (.iconst 1, 1) := by decide +kernel
theorem dX5_isRight_114 : decode cX5_isRight 114 = .ok (.bipush 9, 2) := by decide +kernel
theorem dX5_isRight_116 : decode cX5_isRight 116 = .ok (.invokestatic 41, 3) := by decide +kernel
theorem dX5_isRight_119 : decode cX5_isRight 119 = .ok (.ireturn, 1) := by decide +kernel
theorem dX5_isRight_120 : decode cX5_isRight 120 = .ok (.iload_n 2, 1) := by decide +kernel
theorem dX5_isRight_121 : decode cX5_isRight 121 = .ok (.iconst 0, 1) := by decide +kernel
theorem dX5_isRight_122 : decode cX5_isRight 122 = .ok (.bipush 13, 2) := by decide +kernel
theorem dX5_isRight_124 : decode cX5_isRight 124 = .ok (.invokestatic 41, 3) := by decide +kernel
theorem dX5_isRight_127 : decode cX5_isRight 127 = .ok (.ifCond .eq 24, 3) := by decide +kernel
theorem dX5_isRight_130 : decode cX5_isRight 130 = .ok (.iload_n 0, 1) := by decide +kernel
theorem dX5_isRight_131 : decode cX5_isRight 131 = .ok (.iload_n 3, 1) := by decide +kernel
theorem dX5_isRight_132 : decode cX5_isRight 132 = .ok (.invokestatic 56, 3) := by decide +kernel
theorem dX5_isRight_135 : decode cX5_isRight 135 = .ok (.ifCond .eq 16, 3) := by decide +kernel
theorem dX5_isRight_138 : decode cX5_isRight 138 = .ok (.iload_n 0, 1) := by decide +kernel
theorem dX5_isRight_139 : decode cX5_isRight 139 = .ok (.iload 4, 2) := by decide +kernel
theorem dX5_isRight_141 : decode cX5_isRight 141 = .ok (.invokestatic 56, 3) := by decide +kernel
theorem dX5_isRight_144 : decode cX5_isRight 144 = .ok (.ifCond .eq 7, 3) := by decide +kernel
theorem dX5_isRight_147 : decode cX5_isRight 147 = .ok (.iconst 1, 1) := by decide +kernel
theorem dX5_isRight_148 : decode cX5_isRight 148 = .ok (.goto 4, 3) := by decide +kernel
theorem dX5_isRight_151 : decode cX5_isRight 151 = .ok (.iconst 0, 1) := by decide +kernel
theorem dX5_isRight_152 : decode cX5_isRight 152 = .ok (.ireturn, 1) := by decide +kernel
theorem dX5_isRight_153 : decode cX5_isRight 153 = .ok (.iload_n 0, 1) := by decide +kernel
theorem dX5_isRight_154 : decode cX5_isRight 154 = .ok (.iload_n 3, 1) := by decide +kernel
theorem dX5_isRight_155 : decode cX5_isRight 155 = .ok (.invokestatic 56, 3) := by decide +kernel
theorem dX5_isRight_158 : decode cX5_isRight 158 = .ok (.ifCond .eq 16, 3) := by decide +kernel
theorem dX5_isRight_161 : decode cX5_isRight 161 = .ok (.iload_n 0, 1) := by decide +kernel
theorem dX5_isRight_162 : decode cX5_isRight 162 = .ok (.iload 4, 2) := by decide +kernel
theorem dX5_isRight_164 : decode cX5_isRight 164 = .ok (.invokestatic 56, 3) := by decide +kernel
theorem dX5_isRight_167 : decode cX5_isRight 167 = .ok (.ifCond .eq 7, 3) := by decide +kernel
theorem dX5_isRight_170 : decode cX5_isRight 170 = .ok (.iconst 1, 1) := by decide +kernel
theorem dX5_isRight_171 : decode cX5_isRight 171 = .ok (.goto 4, 3) := by decide +kernel
theorem dX5_isRight_174 : decode cX5_isRight 174 = .ok (.iconst 0, 1) := by decide +kernel
theorem dX5_isRight_175 : decode cX5_isRight 175 = .ok (.ireturn, 1) := by decide +kernel
theorem dX5_isRight_176 : decode cX5_isRight 176 = .ok (.iload_n 0, 1) := by decide +kernel
theorem dX5_isRight_177 : decode cX5_isRight 177 = .ok (.iload_n 3, 1) := by decide +kernel
theorem dX5_isRight_178 : decode cX5_isRight 178 = .ok (.invokestatic 56, 3) := by decide +kernel
theorem dX5_isRight_181 : decode cX5_isRight 181 = .ok (.ireturn, 1) := by decide +kernel
theorem dX5_isRight_182 : decode cX5_isRight 182 = .ok (.iload_n 3, 1) := by decide +kernel
theorem dX5_isRight_183 : decode cX5_isRight 183 = .ok (.invokestatic 48, 3) := by decide +kernel
theorem dX5_isRight_186 : decode cX5_isRight 186 = .ok (.ireturn, 1) := by decide +kernel
theorem dX5_isRight_187 : decode cX5_isRight 187 = .ok (.iload_n 2, 1) := by decide +kernel
theorem dX5_isRight_188 : decode cX5_isRight 188 = .ok (.invokestatic 48, 3) := by decide +kernel
theorem dX5_isRight_191 : decode cX5_isRight 191 = .ok (.ifCond .eq 14, 3) := by decide +kernel
theorem dX5_isRight_194 : decode cX5_isRight 194 = .ok (.iload_n 3, 1) := by decide +kernel
theorem dX5_isRight_195 : decode cX5_isRight 195 = .ok (.invokestatic 48, 3) := by decide +kernel
theorem dX5_isRight_198 : decode cX5_isRight 198 = .ok (.ifCond .eq 7, 3) := by decide +kernel
theorem dX5_isRight_201 : decode cX5_isRight 201 = .ok (.iconst 1, 1) := by decide +kernel
theorem dX5_isRight_202 : decode cX5_isRight 202 = .ok (.goto 4, 3) := by decide +kernel
theorem dX5_isRight_205 : decode cX5_isRight 205 = .ok (.iconst 0, 1) := by decide +kernel
theorem dX5_isRight_206 : decode cX5_isRight 206 = .ok (.ireturn, 1) := by decide +kernel
theorem dX5_isRight_207 : decode cX5_isRight 207 = .ok (.iload_n 2, 1) := by decide +kernel
theorem dX5_isRight_208 : decode cX5_isRight 208 = .ok (.invokestatic 48, 3) := by decide +kernel
theorem dX5_isRight_211 : decode cX5_isRight 211 = .ok (.ireturn, 1) := by decide +kernel
theorem dX5_isRight_212 : decode cX5_isRight 212 = .ok (.iconst 1, 1) := by decide +kernel
theorem dX5_isRight_213 : decode cX5_isRight 213 = .ok (.ireturn, 1) := by decide +kernel
set_option maxRecDepth 20000 in
theorem ggX5_step_X5_in : GoodIn wsX5_step wsX5_in := goodIn_r _ [11] (by decide +kernel) (by decide +kernel)
set_option maxRecDepth 20000 in
theorem gX5_step_X5_in : GoodIn wsX5_step (va_wsS RX5 41 yX5_in wsX5_in) := goodIn_app (goodIn_of _ (by decide +kernel)) ggX5_step_X5_in
set_option maxRecDepth 20000 in
theorem ggX5_step_X5_isRight : GoodIn wsX5_step wsX5_isRight := goodIn_r _ [14, 15, 16, 10, 17, 8, 9, 11, 18, 19, 20] (by decide +kernel) (by decide +kernel)
set_option maxRecDepth 20000 in
theorem gX5_step_X5_isRight : GoodIn wsX5_step (va_wsS RX5 60 yX5_isRight wsX5_isRight) := goodIn_app (goodIn_of _ (by decide +kernel)) ggX5_step_X5_isRight
theorem dX5_step_0 : decode cX5_step 0 = .ok (.aload_n 0, 1) := by decide +kernel
theorem dX5_step_1 : decode cX5_step 1 = .ok (.iconst 0, 1) := by decide +kernel
theorem dX5_step_2 : decode cX5_step 2 = .ok (.putfield 37, 3) := by decide +kernel
theorem dX5_step_5 : decode cX5_step 5 = .ok (.iload_n 1, 1) := by decide +kernel
theorem dX5_step_6 : decode cX5_step 6 = .ok (.iconst 0, 1) := by decide +kernel
theorem dX5_step_7 : decode cX5_step 7 = .ok (.bipush 39, 2) := by decide +kernel
theorem dX5_step_9 : decode cX5_step 9 = .ok (.invokestatic 41, 3) := by decide +kernel
theorem dX5_step_12 : decode cX5_step 12 = .ok (.ifCond .eq 26, 3) := by decide +kernel
theorem dX5_step_15 : decode cX5_step 15 = .ok (.iload_n 2, 1) := by decide +kernel
theorem dX5_step_16 : decode cX5_step 16 = .ok (.iconst 0, 1) := by decide +kernel
theorem dX5_step_17 : decode cX5_step 17 = .ok (.bipush 14, 2) := by decide +kernel
theorem dX5_step_19 : decode cX5_step 19 = .ok (.invokestatic 41, 3) := by decide +kernel
theorem dX5_step_22 : decode cX5_step 22 = .ok (.ifCond .eq 16, 3) := by decide +kernel
theorem dX5_step_25 : decode cX5_step 25 = .ok (.iload_n 1, 1) := by decide +kernel
theorem dX5_step_26 : decode cX5_step 26 = .ok (.iload_n 2, 1) := by decide +kernel
theorem dX5_step_27 : decode cX5_step 27 = .ok (.iload_n 3, 1) := by decide +kernel
theorem dX5_step_28 : decode cX5_step 28 = .ok (.iload 4, 2) := by decide +kernel
theorem dX5_step_30 : decode cX5_step 30 = .ok (.iload 5, 2) := by decide +kernel
theorem dX5_step_32 : decode cX5_step 32 = .ok (.invokestatic 60, 3) := by decide +kernel
theorem dX5_step_35 : decode cX5_step 35 = .ok (.ifCond .ne 6, 3) := by decide +kernel
theorem dX5_step_38 : decode cX5_step 38 = .ok (.bipush (-2), 2) := by decide +kernel
theorem dX5_step_40 : decode cX5_step 40 = .ok (.ireturn, 1) := by decide +kernel
theorem dX5_step_41 : decode cX5_step 41 = .ok (.aload_n 0, 1) := by decide +kernel
theorem dX5_step_42 : decode cX5_step 42 = .ok (.getfield 19, 3) := by decide +kernel
theorem dX5_step_45 : decode cX5_step 45 = .ok (.iload_n 1, 1) := by decide +kernel
theorem dX5_step_46 : decode cX5_step 46 = .ok (.iaload, 1) := by decide +kernel
theorem dX5_step_47 : decode cX5_step 47 = .ok (.bipush 12, 2) := by decide +kernel
theorem dX5_step_49 : decode cX5_step 49 = .ok (.if_icmp .eq 13, 3) := by decide +kernel
theorem dX5_step_52 : decode cX5_step 52 = .ok (.aload_n 0, 1) := by decide +kernel
theorem dX5_step_53 : decode cX5_step 53 = .ok (.getfield 64, 3) := by decide +kernel
theorem dX5_step_56 : decode cX5_step 56 = .ok (.sipush 150, 3) := by decide +kernel
theorem dX5_step_59 : decode cX5_step 59 = .ok (.if_icmp .ne 6, 3) := by decide +kernel
theorem dX5_step_62 : decode cX5_step 62 = .ok (.bipush (-3), 2) := by decide +kernel
theorem dX5_step_64 : decode cX5_step 64 = .ok (.ireturn, 1) := by decide +kernel
theorem dX5_step_65 : decode cX5_step 65 = .ok (.bipush 12, 2) := by decide +kernel
theorem dX5_step_67 : decode cX5_step 67 = .ok (.iload_n 1, 1) := by decide +kernel
theorem dX5_step_68 : decode cX5_step 68 = .ok (.imul, 1) := by decide +kernel
theorem dX5_step_69 : decode cX5_step 69 = .ok (.aload_n 0, 1) := by decide +kernel
theorem dX5_step_70 : decode cX5_step 70 = .ok (.getfield 19, 3) := by decide +kernel
theorem dX5_step_73 : decode cX5_step 73 = .ok (.iload_n 1, 1) := by decide +kernel
theorem dX5_step_74 : decode cX5_step 74 = .ok (.iaload, 1) := by decide +kernel
theorem dX5_step_75 : decode cX5_step 75 = .ok (.iadd, 1) := by decide +kernel
theorem dX5_step_76 : decode cX5_step 76 = .ok (.istore 6, 2) := by decide +kernel
theorem dX5_step_78 : decode cX5_step 78 = .ok (.aload_n 0, 1) := by decide +kernel
theorem dX5_step_79 : decode cX5_step 79 = .ok (.getfield 22, 3) := by decide +kernel
theorem dX5_step_82 : decode cX5_step 82 = .ok (.iload 6, 2) := by decide +kernel
theorem dX5_step_84 : decode cX5_step 84 = .ok (.iload_n 2, 1) := by decide +kernel
theorem dX5_step_85 : decode cX5_step 85 = .ok (.iastore, 1) := by decide +kernel
theorem dX5_step_86 : decode cX5_step 86 = .ok (.aload_n 0, 1) := by decide +kernel
theorem dX5_step_87 : decode cX5_step 87 = .ok (.getfield 25, 3) := by decide +kernel
theorem dX5_step_90 : decode cX5_step 90 = .ok (.iload 6, 2) := by decide +kernel
theorem dX5_step_92 : decode cX5_step 92 = .ok (.iload_n 3, 1) := by decide +kernel
theorem dX5_step_93 : decode cX5_step 93 = .ok (.iastore, 1) := by decide +kernel
theorem dX5_step_94 : decode cX5_step 94 = .ok (.aload_n 0, 1) := by decide +kernel
theorem dX5_step_95 : decode cX5_step 95 = .ok (.getfield 28, 3) := by decide +kernel
theorem dX5_step_98 : decode cX5_step 98 = .ok (.iload 6, 2) := by decide +kernel
theorem dX5_step_100 : decode cX5_step 100 = .ok (.iload 4, 2) := by decide +kernel
theorem dX5_step_102 : decode cX5_step 102 = .ok (.iastore, 1) := by decide +kernel
theorem dX5_step_103 : decode cX5_step 103 = .ok (.aload_n 0, 1) := by decide +kernel
theorem dX5_step_104 : decode cX5_step 104 = .ok (.getfield 31, 3) := by decide +kernel
theorem dX5_step_107 : decode cX5_step 107 = .ok (.iload 6, 2) := by decide +kernel
theorem dX5_step_109 : decode cX5_step 109 = .ok (.iload 5, 2) := by decide +kernel
theorem dX5_step_111 : decode cX5_step 111 = .ok (.iastore, 1) := by decide +kernel
theorem dX5_step_112 : decode cX5_step 112 = .ok (.aload_n 0, 1) := by decide +kernel
theorem dX5_step_113 : decode cX5_step 113 = .ok (.getfield 19, 3) := by decide +kernel
theorem dX5_step_116 : decode cX5_step 116 = .ok (.iload_n 1, 1) := by decide +kernel
theorem dX5_step_117 : decode cX5_step 117 = .ok (.dup2, 1) := by decide +kernel
theorem dX5_step_118 : decode cX5_step 118 = .ok (.iaload, 1) := by decide +kernel
theorem dX5_step_119 : decode cX5_step 119 = .ok (.iconst 1, 1) := by decide +kernel
theorem dX5_step_120 : decode cX5_step 120 = .ok (.iadd, 1) := by decide +kernel
theorem dX5_step_121 : decode cX5_step 121 = .ok (.iastore, 1) := by decide +kernel
