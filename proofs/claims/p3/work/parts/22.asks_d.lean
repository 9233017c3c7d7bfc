theorem dX1_answer_0 : decode cX1_answer 0 = .ok (.aload_n 0, 1) := by decide +kernel
theorem dX1_answer_1 : decode cX1_answer 1 = .ok (.iconst 0, 1) := by decide +kernel
theorem dX1_answer_10 : decode cX1_answer 10 = .ok (.aload_n 0, 1) := by decide +kernel
theorem dX1_answer_11 : decode cX1_answer 11 = .ok (.aload_n 1, 1) := by decide +kernel
theorem dX1_answer_12 : decode cX1_answer 12 = .ok (.getfield 22, 3) := by decide +kernel
theorem dX1_answer_15 : decode cX1_answer 15 = .ok (.iload_n 2, 1) := by decide +kernel
theorem dX1_answer_16 : decode cX1_answer 16 = .ok (.iaload, 1) := by decide +kernel
theorem dX1_answer_17 : decode cX1_answer 17 = .ok (.putfield 27, 3) := by decide +kernel
theorem dX1_answer_2 : decode cX1_answer 2 = .ok (.putfield 15, 3) := by decide +kernel
theorem dX1_answer_20 : decode cX1_answer 20 = .ok (.aload_n 0, 1) := by decide +kernel
theorem dX1_answer_21 : decode cX1_answer 21 = .ok (.aload_n 1, 1) := by decide +kernel
theorem dX1_answer_22 : decode cX1_answer 22 = .ok (.getfield 30, 3) := by decide +kernel
theorem dX1_answer_25 : decode cX1_answer 25 = .ok (.iload_n 2, 1) := by decide +kernel
theorem dX1_answer_26 : decode cX1_answer 26 = .ok (.iaload, 1) := by decide +kernel
theorem dX1_answer_27 : decode cX1_answer 27 = .ok (.putfield 33, 3) := by decide +kernel
theorem dX1_answer_30 : decode cX1_answer 30 = .ok (.aload_n 0, 1) := by decide +kernel
theorem dX1_answer_31 : decode cX1_answer 31 = .ok (.aload_n 1, 1) := by decide +kernel
theorem dX1_answer_32 : decode cX1_answer 32 = .ok (.getfield 36, 3) := by decide +kernel
theorem dX1_answer_35 : decode cX1_answer 35 = .ok (.iload_n 2, 1) := by decide +kernel
theorem dX1_answer_36 : decode cX1_answer 36 = .ok (.iaload, 1) := by decide +kernel
theorem dX1_answer_37 : decode cX1_answer 37 = .ok (.putfield 39, 3) := by decide +kernel
theorem dX1_answer_40 : decode cX1_answer 40 = .ok (.aload_n 0, 1) := by decide +kernel
theorem dX1_answer_41 : decode cX1_answer 41 = .ok (.iload_n 3, 1) := by decide +kernel
theorem dX1_answer_42 : decode cX1_answer 42 = .ok (.iconst 0, 1) := by decide +kernel
theorem dX1_answer_43 : decode cX1_answer 43 = .ok (.invokevirtual 42, 3) := by decide +kernel
theorem dX1_answer_46 : decode cX1_answer 46 = .ok (.ireturn, 1) := by decide +kernel
theorem dX1_answer_5 : decode cX1_answer 5 = .ok (.aload_n 0, 1) := by decide +kernel
theorem dX1_answer_6 : decode cX1_answer 6 = .ok (.iload_n 2, 1) := by decide +kernel
theorem dX1_answer_7 : decode cX1_answer 7 = .ok (.putfield 19, 3) := by decide +kernel
theorem dX1_askAnew_0 : decode cX1_askAnew 0 = .ok (.aload_n 0, 1) := by decide +kernel
theorem dX1_askAnew_1 : decode cX1_askAnew 1 = .ok (.aload_n 0, 1) := by decide +kernel
theorem dX1_askAnew_10 : decode cX1_askAnew 10 = .ok (.ireturn, 1) := by decide +kernel
theorem dX1_askAnew_2 : decode cX1_askAnew 2 = .ok (.iload_n 1, 1) := by decide +kernel
theorem dX1_askAnew_3 : decode cX1_askAnew 3 = .ok (.invokevirtual 46, 3) := by decide +kernel
theorem dX1_askAnew_6 : decode cX1_askAnew 6 = .ok (.iload_n 2, 1) := by decide +kernel
theorem dX1_askAnew_7 : decode cX1_askAnew 7 = .ok (.invokevirtual 50, 3) := by decide +kernel
theorem dX1_begin_0 : decode cX1_begin 0 = .ok (.iload_n 2, 1) := by decide +kernel
theorem dX1_begin_1 : decode cX1_begin 1 = .ok (.bipush 16, 2) := by decide +kernel
theorem dX1_begin_10 : decode cX1_begin 10 = .ok (.invokevirtual 62, 3) := by decide +kernel
theorem dX1_begin_100 : decode cX1_begin 100 = .ok (.iload_n 3, 1) := by decide +kernel
theorem dX1_begin_101 : decode cX1_begin 101 = .ok (.invokevirtual 50, 3) := by decide +kernel
theorem dX1_begin_104 : decode cX1_begin 104 = .ok (.aload_n 0, 1) := by decide +kernel
theorem dX1_begin_105 : decode cX1_begin 105 = .ok (.iconst 1, 1) := by decide +kernel
theorem dX1_begin_106 : decode cX1_begin 106 = .ok (.iload_n 3, 1) := by decide +kernel
theorem dX1_begin_107 : decode cX1_begin 107 = .ok (.invokevirtual 42, 3) := by decide +kernel
theorem dX1_begin_110 : decode cX1_begin 110 = .ok (.iadd, 1) := by decide +kernel
theorem dX1_begin_111 : decode cX1_begin 111 = .ok (.ireturn, 1) := by decide +kernel
theorem dX1_begin_112 : decode cX1_begin 112 = .ok (.aload_n 0, 1) := by decide +kernel
theorem dX1_begin_113 : decode cX1_begin 113 = .ok (.bipush 11, 2) := by decide +kernel
theorem dX1_begin_115 : decode cX1_begin 115 = .ok (.iload_n 3, 1) := by decide +kernel
theorem dX1_begin_116 : decode cX1_begin 116 = .ok (.invokevirtual 50, 3) := by decide +kernel
theorem dX1_begin_119 : decode cX1_begin 119 = .ok (.ineg, 1) := by decide +kernel
theorem dX1_begin_120 : decode cX1_begin 120 = .ok (.ireturn, 1) := by decide +kernel
theorem dX1_begin_121 : decode cX1_begin 121 = .ok (.aload_n 0, 1) := by decide +kernel
theorem dX1_begin_122 : decode cX1_begin 122 = .ok (.bipush 10, 2) := by decide +kernel
theorem dX1_begin_124 : decode cX1_begin 124 = .ok (.iload_n 3, 1) := by decide +kernel
theorem dX1_begin_125 : decode cX1_begin 125 = .ok (.invokevirtual 50, 3) := by decide +kernel
theorem dX1_begin_128 : decode cX1_begin 128 = .ok (.bipush 100, 2) := by decide +kernel
theorem dX1_begin_13 : decode cX1_begin 13 = .ok (.iload_n 2, 1) := by decide +kernel
theorem dX1_begin_130 : decode cX1_begin 130 = .ok (.isub, 1) := by decide +kernel
theorem dX1_begin_131 : decode cX1_begin 131 = .ok (.ireturn, 1) := by decide +kernel
theorem dX1_begin_132 : decode cX1_begin 132 = .ok (.aload_n 0, 1) := by decide +kernel
theorem dX1_begin_133 : decode cX1_begin 133 = .ok (.bipush 13, 2) := by decide +kernel
theorem dX1_begin_135 : decode cX1_begin 135 = .ok (.iload_n 3, 1) := by decide +kernel
theorem dX1_begin_136 : decode cX1_begin 136 = .ok (.invokevirtual 50, 3) := by decide +kernel
theorem dX1_begin_139 : decode cX1_begin 139 = .ok (.iconst 2, 1) := by decide +kernel
theorem dX1_begin_14 : decode cX1_begin 14 = .ok (.iconst 1, 1) := by decide +kernel
theorem dX1_begin_140 : decode cX1_begin 140 = .ok (.imul, 1) := by decide +kernel
theorem dX1_begin_141 : decode cX1_begin 141 = .ok (.ireturn, 1) := by decide +kernel
theorem dX1_begin_142 : decode cX1_begin 142 = .ok (.aload_n 0, 1) := by decide +kernel
theorem dX1_begin_143 : decode cX1_begin 143 = .ok (.getfield 19, 3) := by decide +kernel
theorem dX1_begin_146 : decode cX1_begin 146 = .ok (.ireturn, 1) := by decide +kernel
theorem dX1_begin_147 : decode cX1_begin 147 = .ok (.aload_n 0, 1) := by decide +kernel
theorem dX1_begin_148 : decode cX1_begin 148 = .ok (.bipush 20, 2) := by decide +kernel
theorem dX1_begin_15 : decode cX1_begin 15 = .ok (.iadd, 1) := by decide +kernel
theorem dX1_begin_150 : decode cX1_begin 150 = .ok (.iload_n 3, 1) := by decide +kernel
theorem dX1_begin_151 : decode cX1_begin 151 = .ok (.invokevirtual 50, 3) := by decide +kernel
theorem dX1_begin_154 : decode cX1_begin 154 = .ok (.aload_n 0, 1) := by decide +kernel
theorem dX1_begin_155 : decode cX1_begin 155 = .ok (.getfield 33, 3) := by decide +kernel
theorem dX1_begin_158 : decode cX1_begin 158 = .ok (.iadd, 1) := by decide +kernel
theorem dX1_begin_159 : decode cX1_begin 159 = .ok (.ireturn, 1) := by decide +kernel
theorem dX1_begin_16 : decode cX1_begin 16 = .ok (.istore_n 3, 1) := by decide +kernel
theorem dX1_begin_160 : decode cX1_begin 160 = .ok (.aload_n 0, 1) := by decide +kernel
theorem dX1_begin_161 : decode cX1_begin 161 = .ok (.bipush 21, 2) := by decide +kernel
theorem dX1_begin_163 : decode cX1_begin 163 = .ok (.iload_n 3, 1) := by decide +kernel
theorem dX1_begin_164 : decode cX1_begin 164 = .ok (.invokevirtual 50, 3) := by decide +kernel
theorem dX1_begin_167 : decode cX1_begin 167 = .ok (.sipush 1000, 3) := by decide +kernel
theorem dX1_begin_17 : decode cX1_begin 17 = .ok (.iload_n 1, 1) := by decide +kernel
theorem dX1_begin_170 : decode cX1_begin 170 = .ok (.isub, 1) := by decide +kernel
theorem dX1_begin_171 : decode cX1_begin 171 = .ok (.ireturn, 1) := by decide +kernel
theorem dX1_begin_172 : decode cX1_begin 172 = .ok (.aload_n 0, 1) := by decide +kernel
theorem dX1_begin_173 : decode cX1_begin 173 = .ok (.bipush 20, 2) := by decide +kernel
theorem dX1_begin_175 : decode cX1_begin 175 = .ok (.iload_n 3, 1) := by decide +kernel
theorem dX1_begin_176 : decode cX1_begin 176 = .ok (.invokevirtual 50, 3) := by decide +kernel
theorem dX1_begin_179 : decode cX1_begin 179 = .ok (.aload_n 0, 1) := by decide +kernel
theorem dX1_begin_18 : decode cX1_begin 18 = .ok (.tableswitch 179 10 24 #[74, 79, 94, 103, 114, 179, 179, 179, 179, 179, 124, 129, 142, 154, 169], 74) := by decide +kernel
theorem dX1_begin_180 : decode cX1_begin 180 = .ok (.iconst 0, 1) := by decide +kernel
theorem dX1_begin_181 : decode cX1_begin 181 = .ok (.iload_n 3, 1) := by decide +kernel
theorem dX1_begin_182 : decode cX1_begin 182 = .ok (.invokevirtual 42, 3) := by decide +kernel
theorem dX1_begin_185 : decode cX1_begin 185 = .ok (.isub, 1) := by decide +kernel
theorem dX1_begin_186 : decode cX1_begin 186 = .ok (.ireturn, 1) := by decide +kernel
theorem dX1_begin_187 : decode cX1_begin 187 = .ok (.aload_n 0, 1) := by decide +kernel
theorem dX1_begin_188 : decode cX1_begin 188 = .ok (.bipush 21, 2) := by decide +kernel
theorem dX1_begin_190 : decode cX1_begin 190 = .ok (.iload_n 3, 1) := by decide +kernel
theorem dX1_begin_191 : decode cX1_begin 191 = .ok (.invokevirtual 50, 3) := by decide +kernel
theorem dX1_begin_194 : decode cX1_begin 194 = .ok (.iconst 2, 1) := by decide +kernel
theorem dX1_begin_195 : decode cX1_begin 195 = .ok (.imul, 1) := by decide +kernel
theorem dX1_begin_196 : decode cX1_begin 196 = .ok (.ireturn, 1) := by decide +kernel
theorem dX1_begin_197 : decode cX1_begin 197 = .ok (.iconst 0, 1) := by decide +kernel
theorem dX1_begin_198 : decode cX1_begin 198 = .ok (.ireturn, 1) := by decide +kernel
theorem dX1_begin_3 : decode cX1_begin 3 = .ok (.if_icmp .lt 5, 3) := by decide +kernel
theorem dX1_begin_6 : decode cX1_begin 6 = .ok (.iconst 0, 1) := by decide +kernel
theorem dX1_begin_7 : decode cX1_begin 7 = .ok (.ireturn, 1) := by decide +kernel
theorem dX1_begin_8 : decode cX1_begin 8 = .ok (.aload_n 0, 1) := by decide +kernel
theorem dX1_begin_9 : decode cX1_begin 9 = .ok (.iload_n 1, 1) := by decide +kernel
theorem dX1_begin_92 : decode cX1_begin 92 = .ok (.aload_n 0, 1) := by decide +kernel
theorem dX1_begin_93 : decode cX1_begin 93 = .ok (.getfield 39, 3) := by decide +kernel
theorem dX1_begin_96 : decode cX1_begin 96 = .ok (.ireturn, 1) := by decide +kernel
theorem dX1_begin_97 : decode cX1_begin 97 = .ok (.aload_n 0, 1) := by decide +kernel
theorem dX1_begin_98 : decode cX1_begin 98 = .ok (.bipush 10, 2) := by decide +kernel
theorem dX1_bodyFor_0 : decode cX1_bodyFor 0 = .ok (.aload_n 0, 1) := by decide +kernel
theorem dX1_bodyFor_1 : decode cX1_bodyFor 1 = .ok (.getfield 27, 3) := by decide +kernel
theorem dX1_bodyFor_11 : decode cX1_bodyFor 11 = .ok (.arraylength, 1) := by decide +kernel
theorem dX1_bodyFor_12 : decode cX1_bodyFor 12 = .ok (.if_icmp .ge 54, 3) := by decide +kernel
theorem dX1_bodyFor_15 : decode cX1_bodyFor 15 = .ok (.iload_n 2, 1) := by decide +kernel
theorem dX1_bodyFor_16 : decode cX1_bodyFor 16 = .ok (.ifCond .le 50, 3) := by decide +kernel
theorem dX1_bodyFor_19 : decode cX1_bodyFor 19 = .ok (.iload_n 2, 1) := by decide +kernel
theorem dX1_bodyFor_20 : decode cX1_bodyFor 20 = .ok (.getstatic 53, 3) := by decide +kernel
theorem dX1_bodyFor_23 : decode cX1_bodyFor 23 = .ok (.arraylength, 1) := by decide +kernel
theorem dX1_bodyFor_24 : decode cX1_bodyFor 24 = .ok (.if_icmp .ge 42, 3) := by decide +kernel
theorem dX1_bodyFor_27 : decode cX1_bodyFor 27 = .ok (.iload_n 1, 1) := by decide +kernel
theorem dX1_bodyFor_28 : decode cX1_bodyFor 28 = .ok (.ifCond .ne 11, 3) := by decide +kernel
theorem dX1_bodyFor_31 : decode cX1_bodyFor 31 = .ok (.getstatic 56, 3) := by decide +kernel
theorem dX1_bodyFor_34 : decode cX1_bodyFor 34 = .ok (.iload_n 2, 1) := by decide +kernel
theorem dX1_bodyFor_35 : decode cX1_bodyFor 35 = .ok (.iaload, 1) := by decide +kernel
theorem dX1_bodyFor_36 : decode cX1_bodyFor 36 = .ok (.goto 8, 3) := by decide +kernel
theorem dX1_bodyFor_39 : decode cX1_bodyFor 39 = .ok (.getstatic 59, 3) := by decide +kernel
theorem dX1_bodyFor_4 : decode cX1_bodyFor 4 = .ok (.istore_n 2, 1) := by decide +kernel
theorem dX1_bodyFor_42 : decode cX1_bodyFor 42 = .ok (.iload_n 2, 1) := by decide +kernel
theorem dX1_bodyFor_43 : decode cX1_bodyFor 43 = .ok (.iaload, 1) := by decide +kernel
theorem dX1_bodyFor_44 : decode cX1_bodyFor 44 = .ok (.istore 4, 2) := by decide +kernel
theorem dX1_bodyFor_46 : decode cX1_bodyFor 46 = .ok (.iload 4, 2) := by decide +kernel
theorem dX1_bodyFor_48 : decode cX1_bodyFor 48 = .ok (.ifCond .eq 6, 3) := by decide +kernel
theorem dX1_bodyFor_5 : decode cX1_bodyFor 5 = .ok (.iconst 0, 1) := by decide +kernel
theorem dX1_bodyFor_51 : decode cX1_bodyFor 51 = .ok (.iload 4, 2) := by decide +kernel
theorem dX1_bodyFor_53 : decode cX1_bodyFor 53 = .ok (.ireturn, 1) := by decide +kernel
theorem dX1_bodyFor_54 : decode cX1_bodyFor 54 = .ok (.getstatic 53, 3) := by decide +kernel
theorem dX1_bodyFor_57 : decode cX1_bodyFor 57 = .ok (.iload_n 2, 1) := by decide +kernel
theorem dX1_bodyFor_58 : decode cX1_bodyFor 58 = .ok (.iaload, 1) := by decide +kernel
theorem dX1_bodyFor_59 : decode cX1_bodyFor 59 = .ok (.istore_n 2, 1) := by decide +kernel
theorem dX1_bodyFor_6 : decode cX1_bodyFor 6 = .ok (.istore_n 3, 1) := by decide +kernel
theorem dX1_bodyFor_60 : decode cX1_bodyFor 60 = .ok (.iinc 3 1, 3) := by decide +kernel
theorem dX1_bodyFor_63 : decode cX1_bodyFor 63 = .ok (.goto (-56), 3) := by decide +kernel
theorem dX1_bodyFor_66 : decode cX1_bodyFor 66 = .ok (.iload_n 1, 1) := by decide +kernel
theorem dX1_bodyFor_67 : decode cX1_bodyFor 67 = .ok (.ifCond .ne 11, 3) := by decide +kernel
theorem dX1_bodyFor_7 : decode cX1_bodyFor 7 = .ok (.iload_n 3, 1) := by decide +kernel
theorem dX1_bodyFor_70 : decode cX1_bodyFor 70 = .ok (.getstatic 56, 3) := by decide +kernel
theorem dX1_bodyFor_73 : decode cX1_bodyFor 73 = .ok (.iconst 0, 1) := by decide +kernel
theorem dX1_bodyFor_74 : decode cX1_bodyFor 74 = .ok (.iaload, 1) := by decide +kernel
theorem dX1_bodyFor_75 : decode cX1_bodyFor 75 = .ok (.goto 8, 3) := by decide +kernel
theorem dX1_bodyFor_78 : decode cX1_bodyFor 78 = .ok (.getstatic 59, 3) := by decide +kernel
theorem dX1_bodyFor_8 : decode cX1_bodyFor 8 = .ok (.getstatic 53, 3) := by decide +kernel
theorem dX1_bodyFor_81 : decode cX1_bodyFor 81 = .ok (.iconst 0, 1) := by decide +kernel
theorem dX1_bodyFor_82 : decode cX1_bodyFor 82 = .ok (.iaload, 1) := by decide +kernel
theorem dX1_bodyFor_83 : decode cX1_bodyFor 83 = .ok (.ireturn, 1) := by decide +kernel
theorem dX1_isAsk_0 : decode cX1_isAsk 0 = .ok (.iload_n 0, 1) := by decide +kernel
theorem dX1_isAsk_1 : decode cX1_isAsk 1 = .ok (.ifCond .eq 8, 3) := by decide +kernel
theorem dX1_isAsk_10 : decode cX1_isAsk 10 = .ok (.goto 4, 3) := by decide +kernel
theorem dX1_isAsk_13 : decode cX1_isAsk 13 = .ok (.iconst 0, 1) := by decide +kernel
theorem dX1_isAsk_14 : decode cX1_isAsk 14 = .ok (.ireturn, 1) := by decide +kernel
theorem dX1_isAsk_4 : decode cX1_isAsk 4 = .ok (.iload_n 0, 1) := by decide +kernel
theorem dX1_isAsk_5 : decode cX1_isAsk 5 = .ok (.iconst 1, 1) := by decide +kernel
theorem dX1_isAsk_6 : decode cX1_isAsk 6 = .ok (.if_icmp .ne 7, 3) := by decide +kernel
theorem dX1_isAsk_9 : decode cX1_isAsk 9 = .ok (.iconst 1, 1) := by decide +kernel
theorem dX1_leave_0 : decode cX1_leave 0 = .ok (.aload_n 0, 1) := by decide +kernel
theorem dX1_leave_1 : decode cX1_leave 1 = .ok (.getfield 15, 3) := by decide +kernel
theorem dX1_leave_10 : decode cX1_leave 10 = .ok (.getfield 11, 3) := by decide +kernel
theorem dX1_leave_13 : decode cX1_leave 13 = .ok (.aload_n 0, 1) := by decide +kernel
theorem dX1_leave_14 : decode cX1_leave 14 = .ok (.getfield 15, 3) := by decide +kernel
theorem dX1_leave_17 : decode cX1_leave 17 = .ok (.iload_n 1, 1) := by decide +kernel
theorem dX1_leave_18 : decode cX1_leave 18 = .ok (.iastore, 1) := by decide +kernel
theorem dX1_leave_19 : decode cX1_leave 19 = .ok (.aload_n 0, 1) := by decide +kernel
theorem dX1_leave_20 : decode cX1_leave 20 = .ok (.dup, 1) := by decide +kernel
theorem dX1_leave_21 : decode cX1_leave 21 = .ok (.getfield 15, 3) := by decide +kernel
theorem dX1_leave_24 : decode cX1_leave 24 = .ok (.iconst 1, 1) := by decide +kernel
theorem dX1_leave_25 : decode cX1_leave 25 = .ok (.iadd, 1) := by decide +kernel
theorem dX1_leave_26 : decode cX1_leave 26 = .ok (.putfield 15, 3) := by decide +kernel
theorem dX1_leave_29 : decode cX1_leave 29 = .ok (.return_, 1) := by decide +kernel
theorem dX1_leave_4 : decode cX1_leave 4 = .ok (.bipush 16, 2) := by decide +kernel
theorem dX1_leave_6 : decode cX1_leave 6 = .ok (.if_icmp .ge 23, 3) := by decide +kernel
theorem dX1_leave_9 : decode cX1_leave 9 = .ok (.aload_n 0, 1) := by decide +kernel
set_option maxRecDepth 20000 in
theorem ggX1_answer_X1_askAnew : GoodIn wsX1_answer wsX1_askAnew := goodIn_r _ [13, 14, 15, 16, 12, 17, 4, 18, 19, 20, 21, 22, 23, 8, 2, 6, 24, 25, 26, 27, 1, 28, 9, 10, 11, 29, 30, 31, 32, 33, 34] (by decide +kernel) (by decide +kernel)
set_option maxRecDepth 20000 in
theorem gX1_answer_X1_askAnew : GoodIn wsX1_answer (wsV RX1 42 RX1 yX1_askAnew wsX1_askAnew) := goodIn_app (goodIn_of _ (by decide +kernel)) ggX1_answer_X1_askAnew
set_option maxRecDepth 20000 in
theorem ggX1_askAnew_X1_begin : GoodIn wsX1_askAnew wsX1_begin := goodIn_r _ [12, 13, 14, 15, 16, 17, 18, 4, 19, 20, 21, 9, 10, 11, 22, 23, 24, 0, 1, 2, 3, 5, 6, 7, 8, 25, 26, 27, 28, 29, 30] (by decide +kernel) (by decide +kernel)
set_option maxRecDepth 20000 in
theorem gX1_askAnew_X1_begin : GoodIn wsX1_askAnew (wsV RX1 50 RX1 yX1_begin wsX1_begin) := goodIn_app (goodIn_of _ (by decide +kernel)) ggX1_askAnew_X1_begin
set_option maxRecDepth 20000 in
theorem ggX1_askAnew_X1_bodyFor : GoodIn wsX1_askAnew wsX1_bodyFor := goodIn_r _ [5, 6, 7, 8, 25, 26, 27, 28, 29, 30] (by decide +kernel) (by decide +kernel)
set_option maxRecDepth 20000 in
theorem gX1_askAnew_X1_bodyFor : GoodIn wsX1_askAnew (wsV RX1 46 RX1 yX1_bodyFor wsX1_bodyFor) := goodIn_app (goodIn_of _ (by decide +kernel)) ggX1_askAnew_X1_bodyFor
set_option maxRecDepth 20000 in
theorem ggX1_begin_X1_askAnew : GoodIn wsX1_begin wsX1_askAnew := goodIn_r _ [17, 18, 19, 20, 7, 21, 22, 23, 24, 11, 12, 13, 0, 1, 2, 3, 4, 5, 6, 8, 9, 10, 14, 15, 16, 25, 26, 27, 28, 29, 30] (by decide +kernel) (by decide +kernel)
set_option maxRecDepth 20000 in
theorem gX1_begin_X1_askAnew : GoodIn wsX1_begin (wsV RX1 42 RX1 yX1_askAnew wsX1_askAnew) := goodIn_app (goodIn_of _ (by decide +kernel)) ggX1_begin_X1_askAnew
set_option maxRecDepth 20000 in
theorem ggX1_begin_X1_begin : GoodIn wsX1_begin wsX1_begin := goodIn_r _ [0, 1, 2, 3, 4, 5, 6, 7, 8, 9, 10, 11, 12, 13, 14, 15, 16, 17, 18, 19, 20, 21, 22, 23, 24, 25, 26, 27, 28, 29, 30] (by decide +kernel) (by decide +kernel)
set_option maxRecDepth 20000 in
theorem gX1_begin_X1_begin : GoodIn wsX1_begin (wsV RX1 50 RX1 yX1_begin wsX1_begin) := goodIn_app (goodIn_of _ (by decide +kernel)) ggX1_begin_X1_begin
set_option maxRecDepth 20000 in
theorem ggX1_begin_X1_leave : GoodIn wsX1_begin wsX1_leave := goodIn_r _ [8, 9, 10, 25, 26, 27, 28, 29, 30] (by decide +kernel) (by decide +kernel)
set_option maxRecDepth 20000 in
theorem gX1_begin_X1_leave : GoodIn wsX1_begin (wsV RX1 62 RX1 yX1_leave wsX1_leave) := goodIn_app (goodIn_of _ (by decide +kernel)) ggX1_begin_X1_leave
set_option maxRecDepth 20000 in
theorem i_X1_answer_X1 : ∀ w ∈ u_ws RX1 TX1 6, w ∈ wsX1_answer := by decide +kernel
set_option maxRecDepth 20000 in
theorem i_X1_answer_X3 : ∀ w ∈ u_ws RX3 TX3 13, w ∈ wsX1_answer := by decide +kernel
set_option maxRecDepth 20000 in
theorem i_X1_begin_X1 : ∀ w ∈ u_ws RX1 TX1 6, w ∈ wsX1_begin := by decide +kernel
set_option maxRecDepth 20000 in
theorem i_X1_bodyFor_X1 : ∀ w ∈ u_ws RX1 TX1 6, w ∈ wsX1_bodyFor := by decide +kernel
set_option maxRecDepth 20000 in
theorem i_X1_leave_X1 : ∀ w ∈ u_ws RX1 TX1 6, w ∈ wsX1_leave := by decide +kernel
