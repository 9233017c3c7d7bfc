theorem dX3_becomeLike_0 : decode cX3_becomeLike 0 = .ok (.aload_n 0, 1) := by decide +kernel
theorem dX3_becomeLike_1 : decode cX3_becomeLike 1 = .ok (.aload_n 1, 1) := by decide +kernel
theorem dX3_becomeLike_10 : decode cX3_becomeLike 10 = .ok (.getfield 31, 3) := by decide +kernel
theorem dX3_becomeLike_100 : decode cX3_becomeLike 100 = .ok (.getfield 18, 3) := by decide +kernel
theorem dX3_becomeLike_103 : decode cX3_becomeLike 103 = .ok (.iconst 0, 1) := by decide +kernel
theorem dX3_becomeLike_104 : decode cX3_becomeLike 104 = .ok (.bipush 6, 2) := by decide +kernel
theorem dX3_becomeLike_106 : decode cX3_becomeLike 106 = .ok (.invokestatic 52, 3) := by decide +kernel
theorem dX3_becomeLike_109 : decode cX3_becomeLike 109 = .ok (.aload_n 1, 1) := by decide +kernel
theorem dX3_becomeLike_110 : decode cX3_becomeLike 110 = .ok (.getfield 21, 3) := by decide +kernel
theorem dX3_becomeLike_113 : decode cX3_becomeLike 113 = .ok (.iconst 0, 1) := by decide +kernel
theorem dX3_becomeLike_114 : decode cX3_becomeLike 114 = .ok (.aload_n 0, 1) := by decide +kernel
theorem dX3_becomeLike_115 : decode cX3_becomeLike 115 = .ok (.getfield 21, 3) := by decide +kernel
theorem dX3_becomeLike_118 : decode cX3_becomeLike 118 = .ok (.iconst 0, 1) := by decide +kernel
theorem dX3_becomeLike_119 : decode cX3_becomeLike 119 = .ok (.bipush 6, 2) := by decide +kernel
theorem dX3_becomeLike_121 : decode cX3_becomeLike 121 = .ok (.invokestatic 52, 3) := by decide +kernel
theorem dX3_becomeLike_124 : decode cX3_becomeLike 124 = .ok (.aload_n 1, 1) := by decide +kernel
theorem dX3_becomeLike_125 : decode cX3_becomeLike 125 = .ok (.getfield 24, 3) := by decide +kernel
theorem dX3_becomeLike_128 : decode cX3_becomeLike 128 = .ok (.iconst 0, 1) := by decide +kernel
theorem dX3_becomeLike_129 : decode cX3_becomeLike 129 = .ok (.aload_n 0, 1) := by decide +kernel
theorem dX3_becomeLike_13 : decode cX3_becomeLike 13 = .ok (.putfield 31, 3) := by decide +kernel
theorem dX3_becomeLike_130 : decode cX3_becomeLike 130 = .ok (.getfield 24, 3) := by decide +kernel
theorem dX3_becomeLike_133 : decode cX3_becomeLike 133 = .ok (.iconst 0, 1) := by decide +kernel
theorem dX3_becomeLike_134 : decode cX3_becomeLike 134 = .ok (.bipush 6, 2) := by decide +kernel
theorem dX3_becomeLike_136 : decode cX3_becomeLike 136 = .ok (.invokestatic 52, 3) := by decide +kernel
theorem dX3_becomeLike_139 : decode cX3_becomeLike 139 = .ok (.return_, 1) := by decide +kernel
theorem dX3_becomeLike_16 : decode cX3_becomeLike 16 = .ok (.aload_n 0, 1) := by decide +kernel
theorem dX3_becomeLike_17 : decode cX3_becomeLike 17 = .ok (.aload_n 1, 1) := by decide +kernel
theorem dX3_becomeLike_18 : decode cX3_becomeLike 18 = .ok (.getfield 34, 3) := by decide +kernel
theorem dX3_becomeLike_2 : decode cX3_becomeLike 2 = .ok (.getfield 27, 3) := by decide +kernel
theorem dX3_becomeLike_21 : decode cX3_becomeLike 21 = .ok (.putfield 34, 3) := by decide +kernel
theorem dX3_becomeLike_24 : decode cX3_becomeLike 24 = .ok (.aload_n 0, 1) := by decide +kernel
theorem dX3_becomeLike_25 : decode cX3_becomeLike 25 = .ok (.aload_n 1, 1) := by decide +kernel
theorem dX3_becomeLike_26 : decode cX3_becomeLike 26 = .ok (.getfield 37, 3) := by decide +kernel
theorem dX3_becomeLike_29 : decode cX3_becomeLike 29 = .ok (.putfield 37, 3) := by decide +kernel
theorem dX3_becomeLike_32 : decode cX3_becomeLike 32 = .ok (.aload_n 0, 1) := by decide +kernel
theorem dX3_becomeLike_33 : decode cX3_becomeLike 33 = .ok (.aload_n 1, 1) := by decide +kernel
theorem dX3_becomeLike_34 : decode cX3_becomeLike 34 = .ok (.getfield 40, 3) := by decide +kernel
theorem dX3_becomeLike_37 : decode cX3_becomeLike 37 = .ok (.putfield 40, 3) := by decide +kernel
theorem dX3_becomeLike_40 : decode cX3_becomeLike 40 = .ok (.aload_n 0, 1) := by decide +kernel
theorem dX3_becomeLike_41 : decode cX3_becomeLike 41 = .ok (.aload_n 1, 1) := by decide +kernel
theorem dX3_becomeLike_42 : decode cX3_becomeLike 42 = .ok (.getfield 43, 3) := by decide +kernel
theorem dX3_becomeLike_45 : decode cX3_becomeLike 45 = .ok (.putfield 43, 3) := by decide +kernel
theorem dX3_becomeLike_48 : decode cX3_becomeLike 48 = .ok (.aload_n 0, 1) := by decide +kernel
theorem dX3_becomeLike_49 : decode cX3_becomeLike 49 = .ok (.aload_n 1, 1) := by decide +kernel
theorem dX3_becomeLike_5 : decode cX3_becomeLike 5 = .ok (.putfield 27, 3) := by decide +kernel
theorem dX3_becomeLike_50 : decode cX3_becomeLike 50 = .ok (.getfield 46, 3) := by decide +kernel
theorem dX3_becomeLike_53 : decode cX3_becomeLike 53 = .ok (.putfield 46, 3) := by decide +kernel
theorem dX3_becomeLike_56 : decode cX3_becomeLike 56 = .ok (.aload_n 0, 1) := by decide +kernel
theorem dX3_becomeLike_57 : decode cX3_becomeLike 57 = .ok (.aload_n 1, 1) := by decide +kernel
theorem dX3_becomeLike_58 : decode cX3_becomeLike 58 = .ok (.getfield 49, 3) := by decide +kernel
theorem dX3_becomeLike_61 : decode cX3_becomeLike 61 = .ok (.putfield 49, 3) := by decide +kernel
theorem dX3_becomeLike_64 : decode cX3_becomeLike 64 = .ok (.aload_n 1, 1) := by decide +kernel
theorem dX3_becomeLike_65 : decode cX3_becomeLike 65 = .ok (.getfield 9, 3) := by decide +kernel
theorem dX3_becomeLike_68 : decode cX3_becomeLike 68 = .ok (.iconst 0, 1) := by decide +kernel
theorem dX3_becomeLike_69 : decode cX3_becomeLike 69 = .ok (.aload_n 0, 1) := by decide +kernel
theorem dX3_becomeLike_70 : decode cX3_becomeLike 70 = .ok (.getfield 9, 3) := by decide +kernel
theorem dX3_becomeLike_73 : decode cX3_becomeLike 73 = .ok (.iconst 0, 1) := by decide +kernel
theorem dX3_becomeLike_74 : decode cX3_becomeLike 74 = .ok (.bipush 6, 2) := by decide +kernel
theorem dX3_becomeLike_76 : decode cX3_becomeLike 76 = .ok (.invokestatic 52, 3) := by decide +kernel
theorem dX3_becomeLike_79 : decode cX3_becomeLike 79 = .ok (.aload_n 1, 1) := by decide +kernel
theorem dX3_becomeLike_8 : decode cX3_becomeLike 8 = .ok (.aload_n 0, 1) := by decide +kernel
theorem dX3_becomeLike_80 : decode cX3_becomeLike 80 = .ok (.getfield 15, 3) := by decide +kernel
theorem dX3_becomeLike_83 : decode cX3_becomeLike 83 = .ok (.iconst 0, 1) := by decide +kernel
theorem dX3_becomeLike_84 : decode cX3_becomeLike 84 = .ok (.aload_n 0, 1) := by decide +kernel
theorem dX3_becomeLike_85 : decode cX3_becomeLike 85 = .ok (.getfield 15, 3) := by decide +kernel
theorem dX3_becomeLike_88 : decode cX3_becomeLike 88 = .ok (.iconst 0, 1) := by decide +kernel
theorem dX3_becomeLike_89 : decode cX3_becomeLike 89 = .ok (.bipush 6, 2) := by decide +kernel
theorem dX3_becomeLike_9 : decode cX3_becomeLike 9 = .ok (.aload_n 1, 1) := by decide +kernel
theorem dX3_becomeLike_91 : decode cX3_becomeLike 91 = .ok (.invokestatic 52, 3) := by decide +kernel
theorem dX3_becomeLike_94 : decode cX3_becomeLike 94 = .ok (.aload_n 1, 1) := by decide +kernel
theorem dX3_becomeLike_95 : decode cX3_becomeLike 95 = .ok (.getfield 18, 3) := by decide +kernel
theorem dX3_becomeLike_98 : decode cX3_becomeLike 98 = .ok (.iconst 0, 1) := by decide +kernel
theorem dX3_becomeLike_99 : decode cX3_becomeLike 99 = .ok (.aload_n 0, 1) := by decide +kernel
theorem dX3_begin_0 : decode cX3_begin 0 = .ok (.aload_n 0, 1) := by decide +kernel
theorem dX3_begin_1 : decode cX3_begin 1 = .ok (.iconst 0, 1) := by decide +kernel
theorem dX3_begin_10 : decode cX3_begin 10 = .ok (.aload_n 0, 1) := by decide +kernel
theorem dX3_begin_11 : decode cX3_begin 11 = .ok (.iconst 0, 1) := by decide +kernel
theorem dX3_begin_12 : decode cX3_begin 12 = .ok (.putfield 34, 3) := by decide +kernel
theorem dX3_begin_15 : decode cX3_begin 15 = .ok (.aload_n 0, 1) := by decide +kernel
theorem dX3_begin_16 : decode cX3_begin 16 = .ok (.iconst 1, 1) := by decide +kernel
theorem dX3_begin_17 : decode cX3_begin 17 = .ok (.putfield 37, 3) := by decide +kernel
theorem dX3_begin_2 : decode cX3_begin 2 = .ok (.putfield 27, 3) := by decide +kernel
theorem dX3_begin_20 : decode cX3_begin 20 = .ok (.aload_n 0, 1) := by decide +kernel
theorem dX3_begin_21 : decode cX3_begin 21 = .ok (.iconst 0, 1) := by decide +kernel
theorem dX3_begin_22 : decode cX3_begin 22 = .ok (.putfield 40, 3) := by decide +kernel
theorem dX3_begin_25 : decode cX3_begin 25 = .ok (.aload_n 0, 1) := by decide +kernel
theorem dX3_begin_26 : decode cX3_begin 26 = .ok (.iconst 0, 1) := by decide +kernel
theorem dX3_begin_27 : decode cX3_begin 27 = .ok (.putfield 43, 3) := by decide +kernel
theorem dX3_begin_30 : decode cX3_begin 30 = .ok (.aload_n 0, 1) := by decide +kernel
theorem dX3_begin_31 : decode cX3_begin 31 = .ok (.iconst 0, 1) := by decide +kernel
theorem dX3_begin_32 : decode cX3_begin 32 = .ok (.putfield 46, 3) := by decide +kernel
theorem dX3_begin_35 : decode cX3_begin 35 = .ok (.aload_n 0, 1) := by decide +kernel
theorem dX3_begin_36 : decode cX3_begin 36 = .ok (.iconst 0, 1) := by decide +kernel
theorem dX3_begin_37 : decode cX3_begin 37 = .ok (.putfield 49, 3) := by decide +kernel
theorem dX3_begin_40 : decode cX3_begin 40 = .ok (.return_, 1) := by decide +kernel
theorem dX3_begin_5 : decode cX3_begin 5 = .ok (.aload_n 0, 1) := by decide +kernel
theorem dX3_begin_6 : decode cX3_begin 6 = .ok (.iconst 0, 1) := by decide +kernel
theorem dX3_begin_7 : decode cX3_begin 7 = .ok (.putfield 31, 3) := by decide +kernel
theorem dX3_driftOf_0 : decode cX3_driftOf 0 = .ok (.iload_n 2, 1) := by decide +kernel
theorem dX3_driftOf_1 : decode cX3_driftOf 1 = .ok (.iconst 2, 1) := by decide +kernel
theorem dX3_driftOf_10 : decode cX3_driftOf 10 = .ok (.tableswitch 43 1 4 #[30, 32, 36, 40], 30) := by decide +kernel
theorem dX3_driftOf_2 : decode cX3_driftOf 2 = .ok (.isub, 1) := by decide +kernel
theorem dX3_driftOf_3 : decode cX3_driftOf 3 = .ok (.istore_n 3, 1) := by decide +kernel
theorem dX3_driftOf_4 : decode cX3_driftOf 4 = .ok (.aload_n 0, 1) := by decide +kernel
theorem dX3_driftOf_40 : decode cX3_driftOf 40 = .ok (.iload_n 3, 1) := by decide +kernel
theorem dX3_driftOf_41 : decode cX3_driftOf 41 = .ok (.ireturn, 1) := by decide +kernel
theorem dX3_driftOf_42 : decode cX3_driftOf 42 = .ok (.iload_n 3, 1) := by decide +kernel
theorem dX3_driftOf_43 : decode cX3_driftOf 43 = .ok (.iconst 2, 1) := by decide +kernel
theorem dX3_driftOf_44 : decode cX3_driftOf 44 = .ok (.idiv, 1) := by decide +kernel
theorem dX3_driftOf_45 : decode cX3_driftOf 45 = .ok (.ireturn, 1) := by decide +kernel
theorem dX3_driftOf_46 : decode cX3_driftOf 46 = .ok (.iload_n 3, 1) := by decide +kernel
theorem dX3_driftOf_47 : decode cX3_driftOf 47 = .ok (.iconst 2, 1) := by decide +kernel
theorem dX3_driftOf_48 : decode cX3_driftOf 48 = .ok (.imul, 1) := by decide +kernel
theorem dX3_driftOf_49 : decode cX3_driftOf 49 = .ok (.ireturn, 1) := by decide +kernel
theorem dX3_driftOf_5 : decode cX3_driftOf 5 = .ok (.getfield 15, 3) := by decide +kernel
theorem dX3_driftOf_50 : decode cX3_driftOf 50 = .ok (.iload_n 3, 1) := by decide +kernel
theorem dX3_driftOf_51 : decode cX3_driftOf 51 = .ok (.ineg, 1) := by decide +kernel
theorem dX3_driftOf_52 : decode cX3_driftOf 52 = .ok (.ireturn, 1) := by decide +kernel
theorem dX3_driftOf_53 : decode cX3_driftOf 53 = .ok (.iconst 0, 1) := by decide +kernel
theorem dX3_driftOf_54 : decode cX3_driftOf 54 = .ok (.ireturn, 1) := by decide +kernel
theorem dX3_driftOf_8 : decode cX3_driftOf 8 = .ok (.iload_n 1, 1) := by decide +kernel
theorem dX3_driftOf_9 : decode cX3_driftOf 9 = .ok (.iaload, 1) := by decide +kernel
theorem dX3_grindsAt_0 : decode cX3_grindsAt 0 = .ok (.aload_n 0, 1) := by decide +kernel
theorem dX3_grindsAt_1 : decode cX3_grindsAt 1 = .ok (.getfield 37, 3) := by decide +kernel
theorem dX3_grindsAt_10 : decode cX3_grindsAt 10 = .ok (.getfield 31, 3) := by decide +kernel
theorem dX3_grindsAt_13 : decode cX3_grindsAt 13 = .ok (.isub, 1) := by decide +kernel
theorem dX3_grindsAt_14 : decode cX3_grindsAt 14 = .ok (.goto 9, 3) := by decide +kernel
theorem dX3_grindsAt_17 : decode cX3_grindsAt 17 = .ok (.aload_n 0, 1) := by decide +kernel
theorem dX3_grindsAt_18 : decode cX3_grindsAt 18 = .ok (.getfield 31, 3) := by decide +kernel
theorem dX3_grindsAt_21 : decode cX3_grindsAt 21 = .ok (.iload_n 1, 1) := by decide +kernel
theorem dX3_grindsAt_22 : decode cX3_grindsAt 22 = .ok (.isub, 1) := by decide +kernel
theorem dX3_grindsAt_23 : decode cX3_grindsAt 23 = .ok (.istore_n 3, 1) := by decide +kernel
theorem dX3_grindsAt_24 : decode cX3_grindsAt 24 = .ok (.iload_n 2, 1) := by decide +kernel
theorem dX3_grindsAt_25 : decode cX3_grindsAt 25 = .ok (.iconst 2, 1) := by decide +kernel
theorem dX3_grindsAt_26 : decode cX3_grindsAt 26 = .ok (.if_icmp .eq 19, 3) := by decide +kernel
theorem dX3_grindsAt_29 : decode cX3_grindsAt 29 = .ok (.iload_n 3, 1) := by decide +kernel
theorem dX3_grindsAt_30 : decode cX3_grindsAt 30 = .ok (.ifCond .lt 15, 3) := by decide +kernel
theorem dX3_grindsAt_33 : decode cX3_grindsAt 33 = .ok (.iload_n 3, 1) := by decide +kernel
theorem dX3_grindsAt_34 : decode cX3_grindsAt 34 = .ok (.aload_n 0, 1) := by decide +kernel
theorem dX3_grindsAt_35 : decode cX3_grindsAt 35 = .ok (.getfield 34, 3) := by decide +kernel
theorem dX3_grindsAt_38 : decode cX3_grindsAt 38 = .ok (.if_icmp .gt 7, 3) := by decide +kernel
theorem dX3_grindsAt_4 : decode cX3_grindsAt 4 = .ok (.iconst 1, 1) := by decide +kernel
theorem dX3_grindsAt_41 : decode cX3_grindsAt 41 = .ok (.iconst 1, 1) := by decide +kernel
theorem dX3_grindsAt_42 : decode cX3_grindsAt 42 = .ok (.goto 4, 3) := by decide +kernel
theorem dX3_grindsAt_45 : decode cX3_grindsAt 45 = .ok (.iconst 0, 1) := by decide +kernel
theorem dX3_grindsAt_46 : decode cX3_grindsAt 46 = .ok (.ireturn, 1) := by decide +kernel
theorem dX3_grindsAt_5 : decode cX3_grindsAt 5 = .ok (.if_icmp .ne 12, 3) := by decide +kernel
theorem dX3_grindsAt_8 : decode cX3_grindsAt 8 = .ok (.iload_n 1, 1) := by decide +kernel
theorem dX3_grindsAt_9 : decode cX3_grindsAt 9 = .ok (.aload_n 0, 1) := by decide +kernel
theorem dX3_hasCell_0 : decode cX3_hasCell 0 = .ok (.iload_n 1, 1) := by decide +kernel
theorem dX3_hasCell_1 : decode cX3_hasCell 1 = .ok (.ifCond .lt 15, 3) := by decide +kernel
theorem dX3_hasCell_12 : decode cX3_hasCell 12 = .ok (.iconst 1, 1) := by decide +kernel
theorem dX3_hasCell_13 : decode cX3_hasCell 13 = .ok (.goto 4, 3) := by decide +kernel
theorem dX3_hasCell_16 : decode cX3_hasCell 16 = .ok (.iconst 0, 1) := by decide +kernel
theorem dX3_hasCell_17 : decode cX3_hasCell 17 = .ok (.ireturn, 1) := by decide +kernel
theorem dX3_hasCell_4 : decode cX3_hasCell 4 = .ok (.iload_n 1, 1) := by decide +kernel
theorem dX3_hasCell_5 : decode cX3_hasCell 5 = .ok (.aload_n 0, 1) := by decide +kernel
theorem dX3_hasCell_6 : decode cX3_hasCell 6 = .ok (.getfield 27, 3) := by decide +kernel
theorem dX3_hasCell_9 : decode cX3_hasCell 9 = .ok (.if_icmp .ge 7, 3) := by decide +kernel
theorem dX3_hasSound_0 : decode cX3_hasSound 0 = .ok (.iload_n 1, 1) := by decide +kernel
theorem dX3_hasSound_1 : decode cX3_hasSound 1 = .ok (.ifCond .lt 15, 3) := by decide +kernel
theorem dX3_hasSound_12 : decode cX3_hasSound 12 = .ok (.iconst 1, 1) := by decide +kernel
theorem dX3_hasSound_13 : decode cX3_hasSound 13 = .ok (.goto 4, 3) := by decide +kernel
theorem dX3_hasSound_16 : decode cX3_hasSound 16 = .ok (.iconst 0, 1) := by decide +kernel
theorem dX3_hasSound_17 : decode cX3_hasSound 17 = .ok (.ireturn, 1) := by decide +kernel
theorem dX3_hasSound_4 : decode cX3_hasSound 4 = .ok (.iload_n 1, 1) := by decide +kernel
theorem dX3_hasSound_5 : decode cX3_hasSound 5 = .ok (.aload_n 0, 1) := by decide +kernel
theorem dX3_hasSound_6 : decode cX3_hasSound 6 = .ok (.getfield 49, 3) := by decide +kernel
theorem dX3_hasSound_9 : decode cX3_hasSound 9 = .ok (.if_icmp .ge 7, 3) := by decide +kernel
theorem dX3_hasWind_0 : decode cX3_hasWind 0 = .ok (.iload_n 1, 1) := by decide +kernel
theorem dX3_hasWind_1 : decode cX3_hasWind 1 = .ok (.ifCond .lt 15, 3) := by decide +kernel
theorem dX3_hasWind_12 : decode cX3_hasWind 12 = .ok (.iconst 1, 1) := by decide +kernel
theorem dX3_hasWind_13 : decode cX3_hasWind 13 = .ok (.goto 4, 3) := by decide +kernel
theorem dX3_hasWind_16 : decode cX3_hasWind 16 = .ok (.iconst 0, 1) := by decide +kernel
theorem dX3_hasWind_17 : decode cX3_hasWind 17 = .ok (.ireturn, 1) := by decide +kernel
theorem dX3_hasWind_4 : decode cX3_hasWind 4 = .ok (.iload_n 1, 1) := by decide +kernel
theorem dX3_hasWind_5 : decode cX3_hasWind 5 = .ok (.aload_n 0, 1) := by decide +kernel
theorem dX3_hasWind_6 : decode cX3_hasWind 6 = .ok (.getfield 46, 3) := by decide +kernel
theorem dX3_hasWind_9 : decode cX3_hasWind 9 = .ok (.if_icmp .ge 7, 3) := by decide +kernel
theorem dX3_isLoose_0 : decode cX3_isLoose 0 = .ok (.aload_n 0, 1) := by decide +kernel
theorem dX3_isLoose_1 : decode cX3_isLoose 1 = .ok (.getfield 24, 3) := by decide +kernel
theorem dX3_isLoose_10 : decode cX3_isLoose 10 = .ok (.goto 4, 3) := by decide +kernel
theorem dX3_isLoose_13 : decode cX3_isLoose 13 = .ok (.iconst 0, 1) := by decide +kernel
theorem dX3_isLoose_14 : decode cX3_isLoose 14 = .ok (.ireturn, 1) := by decide +kernel
theorem dX3_isLoose_4 : decode cX3_isLoose 4 = .ok (.iload_n 1, 1) := by decide +kernel
theorem dX3_isLoose_5 : decode cX3_isLoose 5 = .ok (.iaload, 1) := by decide +kernel
theorem dX3_isLoose_6 : decode cX3_isLoose 6 = .ok (.ifCond .ne 7, 3) := by decide +kernel
theorem dX3_isLoose_9 : decode cX3_isLoose 9 = .ok (.iconst 1, 1) := by decide +kernel
theorem dX3_isTold_0 : decode cX3_isTold 0 = .ok (.aload_n 0, 1) := by decide +kernel
theorem dX3_isTold_1 : decode cX3_isTold 1 = .ok (.getfield 27, 3) := by decide +kernel
theorem dX3_isTold_11 : decode cX3_isTold 11 = .ok (.iconst 0, 1) := by decide +kernel
theorem dX3_isTold_12 : decode cX3_isTold 12 = .ok (.ireturn, 1) := by decide +kernel
theorem dX3_isTold_4 : decode cX3_isTold 4 = .ok (.ifCond .le 7, 3) := by decide +kernel
theorem dX3_isTold_7 : decode cX3_isTold 7 = .ok (.iconst 1, 1) := by decide +kernel
theorem dX3_isTold_8 : decode cX3_isTold 8 = .ok (.goto 4, 3) := by decide +kernel
theorem dX3_letLoose_0 : decode cX3_letLoose 0 = .ok (.aload_n 0, 1) := by decide +kernel
theorem dX3_letLoose_1 : decode cX3_letLoose 1 = .ok (.getfield 18, 3) := by decide +kernel
theorem dX3_letLoose_11 : decode cX3_letLoose 11 = .ok (.iload_n 1, 1) := by decide +kernel
theorem dX3_letLoose_12 : decode cX3_letLoose 12 = .ok (.iload_n 3, 1) := by decide +kernel
theorem dX3_letLoose_13 : decode cX3_letLoose 13 = .ok (.iastore, 1) := by decide +kernel
theorem dX3_letLoose_14 : decode cX3_letLoose 14 = .ok (.aload_n 0, 1) := by decide +kernel
theorem dX3_letLoose_15 : decode cX3_letLoose 15 = .ok (.getfield 24, 3) := by decide +kernel
theorem dX3_letLoose_18 : decode cX3_letLoose 18 = .ok (.iload_n 1, 1) := by decide +kernel
theorem dX3_letLoose_19 : decode cX3_letLoose 19 = .ok (.iconst 0, 1) := by decide +kernel
theorem dX3_letLoose_20 : decode cX3_letLoose 20 = .ok (.iastore, 1) := by decide +kernel
theorem dX3_letLoose_21 : decode cX3_letLoose 21 = .ok (.return_, 1) := by decide +kernel
theorem dX3_letLoose_4 : decode cX3_letLoose 4 = .ok (.iload_n 1, 1) := by decide +kernel
theorem dX3_letLoose_5 : decode cX3_letLoose 5 = .ok (.iload_n 2, 1) := by decide +kernel
theorem dX3_letLoose_6 : decode cX3_letLoose 6 = .ok (.iastore, 1) := by decide +kernel
theorem dX3_letLoose_7 : decode cX3_letLoose 7 = .ok (.aload_n 0, 1) := by decide +kernel
theorem dX3_letLoose_8 : decode cX3_letLoose 8 = .ok (.getfield 21, 3) := by decide +kernel
theorem dX3_loudBehindHour_0 : decode cX3_loudBehindHour 0 = .ok (.aload_n 0, 1) := by decide +kernel
theorem dX3_loudBehindHour_1 : decode cX3_loudBehindHour 1 = .ok (.getfield 15, 3) := by decide +kernel
theorem dX3_loudBehindHour_32 : decode cX3_loudBehindHour 32 = .ok (.aload_n 0, 1) := by decide +kernel
theorem dX3_loudBehindHour_33 : decode cX3_loudBehindHour 33 = .ok (.getfield 21, 3) := by decide +kernel
theorem dX3_loudBehindHour_36 : decode cX3_loudBehindHour 36 = .ok (.iload_n 1, 1) := by decide +kernel
theorem dX3_loudBehindHour_37 : decode cX3_loudBehindHour 37 = .ok (.iaload, 1) := by decide +kernel
theorem dX3_loudBehindHour_38 : decode cX3_loudBehindHour 38 = .ok (.iconst 1, 1) := by decide +kernel
theorem dX3_loudBehindHour_39 : decode cX3_loudBehindHour 39 = .ok (.isub, 1) := by decide +kernel
theorem dX3_loudBehindHour_4 : decode cX3_loudBehindHour 4 = .ok (.iload_n 1, 1) := by decide +kernel
theorem dX3_loudBehindHour_40 : decode cX3_loudBehindHour 40 = .ok (.ireturn, 1) := by decide +kernel
theorem dX3_loudBehindHour_41 : decode cX3_loudBehindHour 41 = .ok (.aload_n 0, 1) := by decide +kernel
theorem dX3_loudBehindHour_42 : decode cX3_loudBehindHour 42 = .ok (.getfield 21, 3) := by decide +kernel
theorem dX3_loudBehindHour_45 : decode cX3_loudBehindHour 45 = .ok (.iload_n 1, 1) := by decide +kernel
theorem dX3_loudBehindHour_46 : decode cX3_loudBehindHour 46 = .ok (.iaload, 1) := by decide +kernel
theorem dX3_loudBehindHour_47 : decode cX3_loudBehindHour 47 = .ok (.iconst 1, 1) := by decide +kernel
theorem dX3_loudBehindHour_48 : decode cX3_loudBehindHour 48 = .ok (.iadd, 1) := by decide +kernel
theorem dX3_loudBehindHour_49 : decode cX3_loudBehindHour 49 = .ok (.bipush 20, 2) := by decide +kernel
theorem dX3_loudBehindHour_5 : decode cX3_loudBehindHour 5 = .ok (.iaload, 1) := by decide +kernel
theorem dX3_loudBehindHour_51 : decode cX3_loudBehindHour 51 = .ok (.invokestatic 63, 3) := by decide +kernel
theorem dX3_loudBehindHour_54 : decode cX3_loudBehindHour 54 = .ok (.ireturn, 1) := by decide +kernel
theorem dX3_loudBehindHour_55 : decode cX3_loudBehindHour 55 = .ok (.aload_n 0, 1) := by decide +kernel
theorem dX3_loudBehindHour_56 : decode cX3_loudBehindHour 56 = .ok (.getfield 21, 3) := by decide +kernel
theorem dX3_loudBehindHour_59 : decode cX3_loudBehindHour 59 = .ok (.iload_n 1, 1) := by decide +kernel
theorem dX3_loudBehindHour_6 : decode cX3_loudBehindHour 6 = .ok (.lookupswitch 49 #[(4, 26), (5, 35)], 26) := by decide +kernel
theorem dX3_loudBehindHour_60 : decode cX3_loudBehindHour 60 = .ok (.iaload, 1) := by decide +kernel
theorem dX3_loudBehindHour_61 : decode cX3_loudBehindHour 61 = .ok (.ireturn, 1) := by decide +kernel
theorem dX3_loudOf_0 : decode cX3_loudOf 0 = .ok (.iconst 0, 1) := by decide +kernel
theorem dX3_loudOf_1 : decode cX3_loudOf 1 = .ok (.istore_n 2, 1) := by decide +kernel
theorem dX3_loudOf_12 : decode cX3_loudOf 12 = .ok (.iload_n 2, 1) := by decide +kernel
theorem dX3_loudOf_13 : decode cX3_loudOf 13 = .ok (.iload_n 1, 1) := by decide +kernel
theorem dX3_loudOf_14 : decode cX3_loudOf 14 = .ok (.iload_n 3, 1) := by decide +kernel
theorem dX3_loudOf_15 : decode cX3_loudOf 15 = .ok (.ishr, 1) := by decide +kernel
theorem dX3_loudOf_16 : decode cX3_loudOf 16 = .ok (.iconst 1, 1) := by decide +kernel
theorem dX3_loudOf_17 : decode cX3_loudOf 17 = .ok (.iand, 1) := by decide +kernel
theorem dX3_loudOf_18 : decode cX3_loudOf 18 = .ok (.iconst 1, 1) := by decide +kernel
theorem dX3_loudOf_19 : decode cX3_loudOf 19 = .ok (.if_icmp .ne 12, 3) := by decide +kernel
theorem dX3_loudOf_2 : decode cX3_loudOf 2 = .ok (.iconst 0, 1) := by decide +kernel
theorem dX3_loudOf_22 : decode cX3_loudOf 22 = .ok (.aload_n 0, 1) := by decide +kernel
theorem dX3_loudOf_23 : decode cX3_loudOf 23 = .ok (.getfield 21, 3) := by decide +kernel
theorem dX3_loudOf_26 : decode cX3_loudOf 26 = .ok (.iload_n 3, 1) := by decide +kernel
theorem dX3_loudOf_27 : decode cX3_loudOf 27 = .ok (.iaload, 1) := by decide +kernel
theorem dX3_loudOf_28 : decode cX3_loudOf 28 = .ok (.goto 4, 3) := by decide +kernel
theorem dX3_loudOf_3 : decode cX3_loudOf 3 = .ok (.istore_n 3, 1) := by decide +kernel
theorem dX3_loudOf_31 : decode cX3_loudOf 31 = .ok (.iconst 0, 1) := by decide +kernel
theorem dX3_loudOf_32 : decode cX3_loudOf 32 = .ok (.iadd, 1) := by decide +kernel
theorem dX3_loudOf_33 : decode cX3_loudOf 33 = .ok (.istore_n 2, 1) := by decide +kernel
theorem dX3_loudOf_34 : decode cX3_loudOf 34 = .ok (.iinc 3 1, 3) := by decide +kernel
theorem dX3_loudOf_37 : decode cX3_loudOf 37 = .ok (.goto (-33), 3) := by decide +kernel
theorem dX3_loudOf_4 : decode cX3_loudOf 4 = .ok (.iload_n 3, 1) := by decide +kernel
theorem dX3_loudOf_40 : decode cX3_loudOf 40 = .ok (.iload_n 2, 1) := by decide +kernel
theorem dX3_loudOf_41 : decode cX3_loudOf 41 = .ok (.ireturn, 1) := by decide +kernel
theorem dX3_loudOf_5 : decode cX3_loudOf 5 = .ok (.aload_n 0, 1) := by decide +kernel
theorem dX3_loudOf_6 : decode cX3_loudOf 6 = .ok (.getfield 49, 3) := by decide +kernel
theorem dX3_loudOf_9 : decode cX3_loudOf 9 = .ok (.if_icmp .ge 31, 3) := by decide +kernel
theorem dX3_mealBehind_0 : decode cX3_mealBehind 0 = .ok (.iconst 0, 1) := by decide +kernel
theorem dX3_mealBehind_1 : decode cX3_mealBehind 1 = .ok (.istore_n 2, 1) := by decide +kernel
theorem dX3_mealBehind_11 : decode cX3_mealBehind 11 = .ok (.iinc 2 1, 3) := by decide +kernel
theorem dX3_mealBehind_14 : decode cX3_mealBehind 14 = .ok (.goto (-12), 3) := by decide +kernel
theorem dX3_mealBehind_17 : decode cX3_mealBehind 17 = .ok (.aload_n 0, 1) := by decide +kernel
theorem dX3_mealBehind_18 : decode cX3_mealBehind 18 = .ok (.getfield 43, 3) := by decide +kernel
theorem dX3_mealBehind_2 : decode cX3_mealBehind 2 = .ok (.iload_n 2, 1) := by decide +kernel
theorem dX3_mealBehind_21 : decode cX3_mealBehind 21 = .ok (.ireturn, 1) := by decide +kernel
theorem dX3_mealBehind_3 : decode cX3_mealBehind 3 = .ok (.iload_n 1, 1) := by decide +kernel
theorem dX3_mealBehind_4 : decode cX3_mealBehind 4 = .ok (.if_icmp .ge 13, 3) := by decide +kernel
theorem dX3_mealBehind_7 : decode cX3_mealBehind 7 = .ok (.aload_n 0, 1) := by decide +kernel
theorem dX3_mealBehind_8 : decode cX3_mealBehind 8 = .ok (.invokevirtual 94, 3) := by decide +kernel
theorem dX3_passOnly_0 : decode cX3_passOnly 0 = .ok (.iconst 0, 1) := by decide +kernel
theorem dX3_passOnly_1 : decode cX3_passOnly 1 = .ok (.istore_n 3, 1) := by decide +kernel
theorem dX3_passOnly_10 : decode cX3_passOnly 10 = .ok (.iconst 0, 1) := by decide +kernel
theorem dX3_passOnly_11 : decode cX3_passOnly 11 = .ok (.invokevirtual 87, 3) := by decide +kernel
theorem dX3_passOnly_14 : decode cX3_passOnly 14 = .ok (.invokevirtual 90, 3) := by decide +kernel
theorem dX3_passOnly_17 : decode cX3_passOnly 17 = .ok (.aload_n 0, 1) := by decide +kernel
theorem dX3_passOnly_18 : decode cX3_passOnly 18 = .ok (.dup, 1) := by decide +kernel
theorem dX3_passOnly_19 : decode cX3_passOnly 19 = .ok (.getfield 40, 3) := by decide +kernel
theorem dX3_passOnly_2 : decode cX3_passOnly 2 = .ok (.iload_n 3, 1) := by decide +kernel
theorem dX3_passOnly_22 : decode cX3_passOnly 22 = .ok (.iconst 1, 1) := by decide +kernel
theorem dX3_passOnly_23 : decode cX3_passOnly 23 = .ok (.iadd, 1) := by decide +kernel
theorem dX3_passOnly_24 : decode cX3_passOnly 24 = .ok (.putfield 40, 3) := by decide +kernel
theorem dX3_passOnly_27 : decode cX3_passOnly 27 = .ok (.iinc 3 1, 3) := by decide +kernel
theorem dX3_passOnly_3 : decode cX3_passOnly 3 = .ok (.iload_n 2, 1) := by decide +kernel
theorem dX3_passOnly_30 : decode cX3_passOnly 30 = .ok (.goto (-28), 3) := by decide +kernel
theorem dX3_passOnly_33 : decode cX3_passOnly 33 = .ok (.return_, 1) := by decide +kernel
theorem dX3_passOnly_4 : decode cX3_passOnly 4 = .ok (.if_icmp .ge 29, 3) := by decide +kernel
theorem dX3_passOnly_7 : decode cX3_passOnly 7 = .ok (.aload_n 0, 1) := by decide +kernel
theorem dX3_passOnly_8 : decode cX3_passOnly 8 = .ok (.iload_n 1, 1) := by decide +kernel
theorem dX3_passOnly_9 : decode cX3_passOnly 9 = .ok (.aload_n 0, 1) := by decide +kernel
theorem dX3_passSound_0 : decode cX3_passSound 0 = .ok (.aload_n 0, 1) := by decide +kernel
theorem dX3_passSound_1 : decode cX3_passSound 1 = .ok (.iload_n 1, 1) := by decide +kernel
theorem dX3_passSound_10 : decode cX3_passSound 10 = .ok (.getfield 18, 3) := by decide +kernel
theorem dX3_passSound_13 : decode cX3_passSound 13 = .ok (.iload_n 1, 1) := by decide +kernel
theorem dX3_passSound_14 : decode cX3_passSound 14 = .ok (.iaload, 1) := by decide +kernel
theorem dX3_passSound_15 : decode cX3_passSound 15 = .ok (.aload_n 0, 1) := by decide +kernel
theorem dX3_passSound_16 : decode cX3_passSound 16 = .ok (.iload_n 1, 1) := by decide +kernel
theorem dX3_passSound_17 : decode cX3_passSound 17 = .ok (.iload_n 2, 1) := by decide +kernel
theorem dX3_passSound_18 : decode cX3_passSound 18 = .ok (.invokevirtual 69, 3) := by decide +kernel
theorem dX3_passSound_2 : decode cX3_passSound 2 = .ok (.invokevirtual 58, 3) := by decide +kernel
theorem dX3_passSound_21 : decode cX3_passSound 21 = .ok (.iadd, 1) := by decide +kernel
theorem dX3_passSound_22 : decode cX3_passSound 22 = .ok (.istore_n 3, 1) := by decide +kernel
theorem dX3_passSound_23 : decode cX3_passSound 23 = .ok (.aload_n 0, 1) := by decide +kernel
theorem dX3_passSound_24 : decode cX3_passSound 24 = .ok (.iload_n 1, 1) := by decide +kernel
theorem dX3_passSound_25 : decode cX3_passSound 25 = .ok (.invokevirtual 72, 3) := by decide +kernel
theorem dX3_passSound_28 : decode cX3_passSound 28 = .ok (.istore 4, 2) := by decide +kernel
theorem dX3_passSound_30 : decode cX3_passSound 30 = .ok (.aload_n 0, 1) := by decide +kernel
theorem dX3_passSound_31 : decode cX3_passSound 31 = .ok (.iload_n 3, 1) := by decide +kernel
theorem dX3_passSound_32 : decode cX3_passSound 32 = .ok (.invokevirtual 76, 3) := by decide +kernel
theorem dX3_passSound_35 : decode cX3_passSound 35 = .ok (.ifCond .eq 8, 3) := by decide +kernel
theorem dX3_passSound_38 : decode cX3_passSound 38 = .ok (.iload 4, 2) := by decide +kernel
theorem dX3_passSound_40 : decode cX3_passSound 40 = .ok (.ifCond .gt 11, 3) := by decide +kernel
theorem dX3_passSound_43 : decode cX3_passSound 43 = .ok (.aload_n 0, 1) := by decide +kernel
theorem dX3_passSound_44 : decode cX3_passSound 44 = .ok (.getfield 24, 3) := by decide +kernel
theorem dX3_passSound_47 : decode cX3_passSound 47 = .ok (.iload_n 1, 1) := by decide +kernel
theorem dX3_passSound_48 : decode cX3_passSound 48 = .ok (.iconst 2, 1) := by decide +kernel
theorem dX3_passSound_49 : decode cX3_passSound 49 = .ok (.iastore, 1) := by decide +kernel
theorem dX3_passSound_5 : decode cX3_passSound 5 = .ok (.ifCond .ne 4, 3) := by decide +kernel
theorem dX3_passSound_50 : decode cX3_passSound 50 = .ok (.return_, 1) := by decide +kernel
theorem dX3_passSound_51 : decode cX3_passSound 51 = .ok (.aload_n 0, 1) := by decide +kernel
theorem dX3_passSound_52 : decode cX3_passSound 52 = .ok (.iload_n 1, 1) := by decide +kernel
theorem dX3_passSound_53 : decode cX3_passSound 53 = .ok (.iload_n 3, 1) := by decide +kernel
theorem dX3_passSound_54 : decode cX3_passSound 54 = .ok (.iload 4, 2) := by decide +kernel
theorem dX3_passSound_56 : decode cX3_passSound 56 = .ok (.invokevirtual 79, 3) := by decide +kernel
theorem dX3_passSound_59 : decode cX3_passSound 59 = .ok (.aload_n 0, 1) := by decide +kernel
theorem dX3_passSound_60 : decode cX3_passSound 60 = .ok (.iload_n 3, 1) := by decide +kernel
theorem dX3_passSound_61 : decode cX3_passSound 61 = .ok (.iload_n 2, 1) := by decide +kernel
theorem dX3_passSound_62 : decode cX3_passSound 62 = .ok (.invokevirtual 83, 3) := by decide +kernel
theorem dX3_passSound_65 : decode cX3_passSound 65 = .ok (.ifCond .eq 27, 3) := by decide +kernel
theorem dX3_passSound_68 : decode cX3_passSound 68 = .ok (.aload_n 0, 1) := by decide +kernel
theorem dX3_passSound_69 : decode cX3_passSound 69 = .ok (.getfield 24, 3) := by decide +kernel
theorem dX3_passSound_72 : decode cX3_passSound 72 = .ok (.iload_n 1, 1) := by decide +kernel
theorem dX3_passSound_73 : decode cX3_passSound 73 = .ok (.iconst 1, 1) := by decide +kernel
theorem dX3_passSound_74 : decode cX3_passSound 74 = .ok (.iastore, 1) := by decide +kernel
theorem dX3_passSound_75 : decode cX3_passSound 75 = .ok (.aload_n 0, 1) := by decide +kernel
theorem dX3_passSound_76 : decode cX3_passSound 76 = .ok (.aload_n 0, 1) := by decide +kernel
theorem dX3_passSound_77 : decode cX3_passSound 77 = .ok (.getfield 43, 3) := by decide +kernel
theorem dX3_passSound_8 : decode cX3_passSound 8 = .ok (.return_, 1) := by decide +kernel
theorem dX3_passSound_80 : decode cX3_passSound 80 = .ok (.iload 4, 2) := by decide +kernel
theorem dX3_passSound_82 : decode cX3_passSound 82 = .ok (.iadd, 1) := by decide +kernel
theorem dX3_passSound_83 : decode cX3_passSound 83 = .ok (.sipush 999, 3) := by decide +kernel
theorem dX3_passSound_86 : decode cX3_passSound 86 = .ok (.invokestatic 63, 3) := by decide +kernel
theorem dX3_passSound_89 : decode cX3_passSound 89 = .ok (.putfield 43, 3) := by decide +kernel
theorem dX3_passSound_9 : decode cX3_passSound 9 = .ok (.aload_n 0, 1) := by decide +kernel
theorem dX3_passSound_92 : decode cX3_passSound 92 = .ok (.return_, 1) := by decide +kernel
theorem dX3_pass_0 : decode cX3_pass 0 = .ok (.aload_n 0, 1) := by decide +kernel
theorem dX3_pass_1 : decode cX3_pass 1 = .ok (.iconst 0, 1) := by decide +kernel
theorem dX3_pass_10 : decode cX3_pass 10 = .ok (.getfield 49, 3) := by decide +kernel
theorem dX3_pass_13 : decode cX3_pass 13 = .ok (.if_icmp .ge 15, 3) := by decide +kernel
theorem dX3_pass_16 : decode cX3_pass 16 = .ok (.aload_n 0, 1) := by decide +kernel
theorem dX3_pass_17 : decode cX3_pass 17 = .ok (.iload_n 2, 1) := by decide +kernel
theorem dX3_pass_18 : decode cX3_pass 18 = .ok (.iload_n 1, 1) := by decide +kernel
theorem dX3_pass_19 : decode cX3_pass 19 = .ok (.invokevirtual 90, 3) := by decide +kernel
theorem dX3_pass_2 : decode cX3_pass 2 = .ok (.invokevirtual 87, 3) := by decide +kernel
theorem dX3_pass_22 : decode cX3_pass 22 = .ok (.iinc 2 1, 3) := by decide +kernel
theorem dX3_pass_25 : decode cX3_pass 25 = .ok (.goto (-17), 3) := by decide +kernel
theorem dX3_pass_28 : decode cX3_pass 28 = .ok (.aload_n 0, 1) := by decide +kernel
theorem dX3_pass_29 : decode cX3_pass 29 = .ok (.dup, 1) := by decide +kernel
theorem dX3_pass_30 : decode cX3_pass 30 = .ok (.getfield 40, 3) := by decide +kernel
theorem dX3_pass_33 : decode cX3_pass 33 = .ok (.iconst 1, 1) := by decide +kernel
theorem dX3_pass_34 : decode cX3_pass 34 = .ok (.iadd, 1) := by decide +kernel
theorem dX3_pass_35 : decode cX3_pass 35 = .ok (.putfield 40, 3) := by decide +kernel
theorem dX3_pass_38 : decode cX3_pass 38 = .ok (.return_, 1) := by decide +kernel
theorem dX3_pass_5 : decode cX3_pass 5 = .ok (.istore_n 1, 1) := by decide +kernel
theorem dX3_pass_6 : decode cX3_pass 6 = .ok (.iconst 0, 1) := by decide +kernel
theorem dX3_pass_7 : decode cX3_pass 7 = .ok (.istore_n 2, 1) := by decide +kernel
theorem dX3_pass_8 : decode cX3_pass 8 = .ok (.iload_n 2, 1) := by decide +kernel
theorem dX3_pass_9 : decode cX3_pass 9 = .ok (.aload_n 0, 1) := by decide +kernel
theorem dX3_soundsThatAre_0 : decode cX3_soundsThatAre 0 = .ok (.iconst 0, 1) := by decide +kernel
theorem dX3_soundsThatAre_1 : decode cX3_soundsThatAre 1 = .ok (.istore_n 2, 1) := by decide +kernel
theorem dX3_soundsThatAre_12 : decode cX3_soundsThatAre 12 = .ok (.iload_n 2, 1) := by decide +kernel
theorem dX3_soundsThatAre_13 : decode cX3_soundsThatAre 13 = .ok (.aload_n 0, 1) := by decide +kernel
theorem dX3_soundsThatAre_14 : decode cX3_soundsThatAre 14 = .ok (.getfield 24, 3) := by decide +kernel
theorem dX3_soundsThatAre_17 : decode cX3_soundsThatAre 17 = .ok (.iload_n 3, 1) := by decide +kernel
theorem dX3_soundsThatAre_18 : decode cX3_soundsThatAre 18 = .ok (.iaload, 1) := by decide +kernel
theorem dX3_soundsThatAre_19 : decode cX3_soundsThatAre 19 = .ok (.iload_n 1, 1) := by decide +kernel
theorem dX3_soundsThatAre_2 : decode cX3_soundsThatAre 2 = .ok (.iconst 0, 1) := by decide +kernel
theorem dX3_soundsThatAre_20 : decode cX3_soundsThatAre 20 = .ok (.if_icmp .ne 9, 3) := by decide +kernel
theorem dX3_soundsThatAre_23 : decode cX3_soundsThatAre 23 = .ok (.iconst 1, 1) := by decide +kernel
theorem dX3_soundsThatAre_24 : decode cX3_soundsThatAre 24 = .ok (.iload_n 3, 1) := by decide +kernel
theorem dX3_soundsThatAre_25 : decode cX3_soundsThatAre 25 = .ok (.ishl, 1) := by decide +kernel
theorem dX3_soundsThatAre_26 : decode cX3_soundsThatAre 26 = .ok (.goto 4, 3) := by decide +kernel
theorem dX3_soundsThatAre_29 : decode cX3_soundsThatAre 29 = .ok (.iconst 0, 1) := by decide +kernel
theorem dX3_soundsThatAre_3 : decode cX3_soundsThatAre 3 = .ok (.istore_n 3, 1) := by decide +kernel
theorem dX3_soundsThatAre_30 : decode cX3_soundsThatAre 30 = .ok (.ior, 1) := by decide +kernel
theorem dX3_soundsThatAre_31 : decode cX3_soundsThatAre 31 = .ok (.istore_n 2, 1) := by decide +kernel
theorem dX3_soundsThatAre_32 : decode cX3_soundsThatAre 32 = .ok (.iinc 3 1, 3) := by decide +kernel
theorem dX3_soundsThatAre_35 : decode cX3_soundsThatAre 35 = .ok (.goto (-31), 3) := by decide +kernel
theorem dX3_soundsThatAre_38 : decode cX3_soundsThatAre 38 = .ok (.iload_n 2, 1) := by decide +kernel
theorem dX3_soundsThatAre_39 : decode cX3_soundsThatAre 39 = .ok (.ireturn, 1) := by decide +kernel
theorem dX3_soundsThatAre_4 : decode cX3_soundsThatAre 4 = .ok (.iload_n 3, 1) := by decide +kernel
theorem dX3_soundsThatAre_5 : decode cX3_soundsThatAre 5 = .ok (.aload_n 0, 1) := by decide +kernel
theorem dX3_soundsThatAre_6 : decode cX3_soundsThatAre 6 = .ok (.getfield 49, 3) := by decide +kernel
theorem dX3_soundsThatAre_9 : decode cX3_soundsThatAre 9 = .ok (.if_icmp .ge 29, 3) := by decide +kernel
theorem dX3_tellOf_0 : decode cX3_tellOf 0 = .ok (.iload_n 2, 1) := by decide +kernel
theorem dX3_tellOf_1 : decode cX3_tellOf 1 = .ok (.ifCond .ne 23, 3) := by decide +kernel
theorem dX3_tellOf_12 : decode cX3_tellOf 12 = .ok (.aload_n 0, 1) := by decide +kernel
theorem dX3_tellOf_13 : decode cX3_tellOf 13 = .ok (.getfield 18, 3) := by decide +kernel
theorem dX3_tellOf_16 : decode cX3_tellOf 16 = .ok (.iload_n 1, 1) := by decide +kernel
theorem dX3_tellOf_17 : decode cX3_tellOf 17 = .ok (.iaload, 1) := by decide +kernel
theorem dX3_tellOf_18 : decode cX3_tellOf 18 = .ok (.goto 5, 3) := by decide +kernel
theorem dX3_tellOf_21 : decode cX3_tellOf 21 = .ok (.ldc 62, 2) := by decide +kernel
theorem dX3_tellOf_23 : decode cX3_tellOf 23 = .ok (.ireturn, 1) := by decide +kernel
theorem dX3_tellOf_24 : decode cX3_tellOf 24 = .ok (.iload_n 2, 1) := by decide +kernel
theorem dX3_tellOf_25 : decode cX3_tellOf 25 = .ok (.iconst 1, 1) := by decide +kernel
theorem dX3_tellOf_26 : decode cX3_tellOf 26 = .ok (.if_icmp .ne 12, 3) := by decide +kernel
theorem dX3_tellOf_29 : decode cX3_tellOf 29 = .ok (.aload_n 0, 1) := by decide +kernel
theorem dX3_tellOf_30 : decode cX3_tellOf 30 = .ok (.getfield 24, 3) := by decide +kernel
theorem dX3_tellOf_33 : decode cX3_tellOf 33 = .ok (.iload_n 1, 1) := by decide +kernel
theorem dX3_tellOf_34 : decode cX3_tellOf 34 = .ok (.iaload, 1) := by decide +kernel
theorem dX3_tellOf_35 : decode cX3_tellOf 35 = .ok (.goto 9, 3) := by decide +kernel
theorem dX3_tellOf_38 : decode cX3_tellOf 38 = .ok (.aload_n 0, 1) := by decide +kernel
theorem dX3_tellOf_39 : decode cX3_tellOf 39 = .ok (.getfield 21, 3) := by decide +kernel
theorem dX3_tellOf_4 : decode cX3_tellOf 4 = .ok (.aload_n 0, 1) := by decide +kernel
theorem dX3_tellOf_42 : decode cX3_tellOf 42 = .ok (.iload_n 1, 1) := by decide +kernel
theorem dX3_tellOf_43 : decode cX3_tellOf 43 = .ok (.iaload, 1) := by decide +kernel
theorem dX3_tellOf_44 : decode cX3_tellOf 44 = .ok (.ireturn, 1) := by decide +kernel
theorem dX3_tellOf_5 : decode cX3_tellOf 5 = .ok (.iload_n 1, 1) := by decide +kernel
theorem dX3_tellOf_6 : decode cX3_tellOf 6 = .ok (.invokevirtual 58, 3) := by decide +kernel
theorem dX3_tellOf_9 : decode cX3_tellOf 9 = .ok (.ifCond .eq 12, 3) := by decide +kernel
theorem dX3_turnCap_0 : decode cX3_turnCap 0 = .ok (.aload_n 0, 1) := by decide +kernel
theorem dX3_turnCap_1 : decode cX3_turnCap 1 = .ok (.iconst 1, 1) := by decide +kernel
theorem dX3_turnCap_10 : decode cX3_turnCap 10 = .ok (.return_, 1) := by decide +kernel
theorem dX3_turnCap_2 : decode cX3_turnCap 2 = .ok (.aload_n 0, 1) := by decide +kernel
theorem dX3_turnCap_3 : decode cX3_turnCap 3 = .ok (.getfield 37, 3) := by decide +kernel
theorem dX3_turnCap_6 : decode cX3_turnCap 6 = .ok (.isub, 1) := by decide +kernel
theorem dX3_turnCap_7 : decode cX3_turnCap 7 = .ok (.putfield 37, 3) := by decide +kernel
theorem dX3_turnWind_0 : decode cX3_turnWind 0 = .ok (.aload_n 0, 1) := by decide +kernel
theorem dX3_turnWind_1 : decode cX3_turnWind 1 = .ok (.getfield 46, 3) := by decide +kernel
theorem dX3_turnWind_11 : decode cX3_turnWind 11 = .ok (.aload_n 0, 1) := by decide +kernel
theorem dX3_turnWind_12 : decode cX3_turnWind 12 = .ok (.getfield 46, 3) := by decide +kernel
theorem dX3_turnWind_15 : decode cX3_turnWind 15 = .ok (.irem, 1) := by decide +kernel
theorem dX3_turnWind_16 : decode cX3_turnWind 16 = .ok (.istore_n 1, 1) := by decide +kernel
theorem dX3_turnWind_17 : decode cX3_turnWind 17 = .ok (.aload_n 0, 1) := by decide +kernel
theorem dX3_turnWind_18 : decode cX3_turnWind 18 = .ok (.getfield 9, 3) := by decide +kernel
theorem dX3_turnWind_21 : decode cX3_turnWind 21 = .ok (.iload_n 1, 1) := by decide +kernel
theorem dX3_turnWind_22 : decode cX3_turnWind 22 = .ok (.iconst 4, 1) := by decide +kernel
theorem dX3_turnWind_23 : decode cX3_turnWind 23 = .ok (.aload_n 0, 1) := by decide +kernel
theorem dX3_turnWind_24 : decode cX3_turnWind 24 = .ok (.getfield 9, 3) := by decide +kernel
theorem dX3_turnWind_27 : decode cX3_turnWind 27 = .ok (.iload_n 1, 1) := by decide +kernel
theorem dX3_turnWind_28 : decode cX3_turnWind 28 = .ok (.iaload, 1) := by decide +kernel
theorem dX3_turnWind_29 : decode cX3_turnWind 29 = .ok (.isub, 1) := by decide +kernel
theorem dX3_turnWind_30 : decode cX3_turnWind 30 = .ok (.iastore, 1) := by decide +kernel
theorem dX3_turnWind_31 : decode cX3_turnWind 31 = .ok (.return_, 1) := by decide +kernel
theorem dX3_turnWind_4 : decode cX3_turnWind 4 = .ok (.ifCond .le 27, 3) := by decide +kernel
theorem dX3_turnWind_7 : decode cX3_turnWind 7 = .ok (.aload_n 0, 1) := by decide +kernel
theorem dX3_turnWind_8 : decode cX3_turnWind 8 = .ok (.getfield 40, 3) := by decide +kernel
theorem dX3_windOn_0 : decode cX3_windOn 0 = .ok (.aload_n 0, 1) := by decide +kernel
theorem dX3_windOn_1 : decode cX3_windOn 1 = .ok (.getfield 46, 3) := by decide +kernel
theorem dX3_windOn_11 : decode cX3_windOn 11 = .ok (.aload_n 0, 1) := by decide +kernel
theorem dX3_windOn_12 : decode cX3_windOn 12 = .ok (.getfield 9, 3) := by decide +kernel
theorem dX3_windOn_15 : decode cX3_windOn 15 = .ok (.aload_n 0, 1) := by decide +kernel
theorem dX3_windOn_16 : decode cX3_windOn 16 = .ok (.getfield 40, 3) := by decide +kernel
theorem dX3_windOn_19 : decode cX3_windOn 19 = .ok (.iload_n 1, 1) := by decide +kernel
theorem dX3_windOn_20 : decode cX3_windOn 20 = .ok (.iadd, 1) := by decide +kernel
theorem dX3_windOn_21 : decode cX3_windOn 21 = .ok (.aload_n 0, 1) := by decide +kernel
theorem dX3_windOn_22 : decode cX3_windOn 22 = .ok (.getfield 46, 3) := by decide +kernel
theorem dX3_windOn_25 : decode cX3_windOn 25 = .ok (.irem, 1) := by decide +kernel
theorem dX3_windOn_26 : decode cX3_windOn 26 = .ok (.iaload, 1) := by decide +kernel
theorem dX3_windOn_27 : decode cX3_windOn 27 = .ok (.ireturn, 1) := by decide +kernel
theorem dX3_windOn_4 : decode cX3_windOn 4 = .ok (.ifCond .gt 7, 3) := by decide +kernel
theorem dX3_windOn_7 : decode cX3_windOn 7 = .ok (.iconst 2, 1) := by decide +kernel
theorem dX3_windOn_8 : decode cX3_windOn 8 = .ok (.goto 19, 3) := by decide +kernel
set_option maxRecDepth 20000 in
theorem ggX3_mealBehind_X3_pass : GoodIn wsX3_mealBehind wsX3_pass := goodIn_r _ [6, 7, 8, 9, 10, 11, 5, 12, 13, 14, 15, 16, 17, 18, 19, 20, 1, 21, 22, 23, 24, 25, 26, 27, 28, 29, 30, 31, 32, 33, 34, 35, 36, 37, 38, 39, 40, 41, 42, 43, 44, 45, 46, 47, 48, 49, 50, 51, 52, 53, 54, 55, 56, 57, 58, 59, 60, 61, 62, 63, 64, 65, 66, 67] (by decide +kernel) (by decide +kernel)
set_option maxRecDepth 20000 in
theorem gX3_mealBehind_X3_pass : GoodIn wsX3_mealBehind (wsV RX3 94 RX3 yX3_pass wsX3_pass) := goodIn_app (goodIn_of _ (by decide +kernel)) ggX3_mealBehind_X3_pass
set_option maxRecDepth 20000 in
theorem ggX3_passOnly_X3_passSound : GoodIn wsX3_passOnly wsX3_passSound := goodIn_r _ [12, 13, 14, 15, 16, 17, 18, 19, 20, 21, 22, 5, 23, 24, 25, 26, 27, 28, 29, 30, 31, 32, 33, 34, 35, 36, 37, 38, 39, 40, 41, 42, 43, 44, 45, 46, 47, 48, 49, 50, 51, 52, 53, 54, 55, 56, 57, 58, 59, 60, 61, 62] (by decide +kernel) (by decide +kernel)
set_option maxRecDepth 20000 in
theorem gX3_passOnly_X3_passSound : GoodIn wsX3_passOnly (wsV RX3 90 RX3 yX3_passSound wsX3_passSound) := goodIn_app (goodIn_of _ (by decide +kernel)) ggX3_passOnly_X3_passSound
set_option maxRecDepth 20000 in
theorem ggX3_passOnly_X3_windOn : GoodIn wsX3_passOnly wsX3_windOn := goodIn_r _ [6, 7, 8, 1, 50, 51, 52, 53, 54, 55, 56, 57, 58, 59, 60, 61, 62] (by decide +kernel) (by decide +kernel)
set_option maxRecDepth 20000 in
theorem gX3_passOnly_X3_windOn : GoodIn wsX3_passOnly (wsV RX3 87 RX3 yX3_windOn wsX3_windOn) := goodIn_app (goodIn_of _ (by decide +kernel)) ggX3_passOnly_X3_windOn
set_option maxRecDepth 20000 in
theorem ggX3_passSound_X3_driftOf : GoodIn wsX3_passSound wsX3_driftOf := goodIn_r _ [16, 17, 39, 40, 41, 42, 43, 44, 45, 46, 47, 48, 49, 50, 51] (by decide +kernel) (by decide +kernel)
set_option maxRecDepth 20000 in
theorem gX3_passSound_X3_driftOf : GoodIn wsX3_passSound (wsV RX3 69 RX3 yX3_driftOf wsX3_driftOf) := goodIn_app (goodIn_of _ (by decide +kernel)) ggX3_passSound_X3_driftOf
set_option maxRecDepth 20000 in
theorem ggX3_passSound_X3_grindsAt : GoodIn wsX3_passSound wsX3_grindsAt := goodIn_r _ [35, 36, 37, 38, 39, 40, 41, 42, 43, 44, 45, 46, 47, 48, 49, 50, 51] (by decide +kernel) (by decide +kernel)
set_option maxRecDepth 20000 in
theorem gX3_passSound_X3_grindsAt : GoodIn wsX3_passSound (wsV RX3 83 RX3 yX3_grindsAt wsX3_grindsAt) := goodIn_app (goodIn_of _ (by decide +kernel)) ggX3_passSound_X3_grindsAt
set_option maxRecDepth 20000 in
theorem ggX3_passSound_X3_hasCell : GoodIn wsX3_passSound wsX3_hasCell := goodIn_r _ [26, 27, 39, 40, 41, 42, 43, 44, 45, 46, 47, 48, 49, 50, 51] (by decide +kernel) (by decide +kernel)
set_option maxRecDepth 20000 in
theorem gX3_passSound_X3_hasCell : GoodIn wsX3_passSound (wsV RX3 76 RX3 yX3_hasCell wsX3_hasCell) := goodIn_app (goodIn_of _ (by decide +kernel)) ggX3_passSound_X3_hasCell
set_option maxRecDepth 20000 in
theorem ggX3_passSound_X3_isLoose : GoodIn wsX3_passSound wsX3_isLoose := goodIn_r _ [12, 2, 39, 40, 41, 42, 43, 44, 45, 46, 47, 48, 49, 50, 51] (by decide +kernel) (by decide +kernel)
set_option maxRecDepth 20000 in
theorem gX3_passSound_X3_isLoose : GoodIn wsX3_passSound (wsV RX3 58 RX3 yX3_isLoose wsX3_isLoose) := goodIn_app (goodIn_of _ (by decide +kernel)) ggX3_passSound_X3_isLoose
set_option maxRecDepth 20000 in
theorem ggX3_passSound_X3_letLoose : GoodIn wsX3_passSound wsX3_letLoose := goodIn_r _ [31, 1, 22, 2, 39, 40, 41, 42, 43, 44, 45, 46, 47, 48, 49, 50, 51] (by decide +kernel) (by decide +kernel)
set_option maxRecDepth 20000 in
theorem gX3_passSound_X3_letLoose : GoodIn wsX3_passSound (wsV RX3 79 RX3 yX3_letLoose wsX3_letLoose) := goodIn_app (goodIn_of _ (by decide +kernel)) ggX3_passSound_X3_letLoose
set_option maxRecDepth 20000 in
theorem ggX3_passSound_X3_loudBehindHour : GoodIn wsX3_passSound wsX3_loudBehindHour := goodIn_r _ [21, 17, 22, 4, 5, 6, 7, 39, 40, 41, 42, 43, 44, 45, 46, 47, 48, 49, 50, 51] (by decide +kernel) (by decide +kernel)
set_option maxRecDepth 20000 in
theorem gX3_passSound_X3_loudBehindHour : GoodIn wsX3_passSound (wsV RX3 72 RX3 yX3_loudBehindHour wsX3_loudBehindHour) := goodIn_app (goodIn_of _ (by decide +kernel)) ggX3_passSound_X3_loudBehindHour
set_option maxRecDepth 20000 in
theorem ggX3_pass_X3_passSound : GoodIn wsX3_pass wsX3_passSound := goodIn_r _ [13, 14, 15, 16, 17, 18, 19, 20, 21, 22, 23, 6, 24, 25, 26, 27, 28, 29, 30, 31, 32, 33, 34, 35, 36, 37, 38, 39, 40, 41, 42, 43, 44, 45, 46, 47, 48, 49, 50, 51, 52, 53, 54, 55, 56, 57, 58, 59, 60, 61, 62, 63] (by decide +kernel) (by decide +kernel)
set_option maxRecDepth 20000 in
theorem gX3_pass_X3_passSound : GoodIn wsX3_pass (wsV RX3 90 RX3 yX3_passSound wsX3_passSound) := goodIn_app (goodIn_of _ (by decide +kernel)) ggX3_pass_X3_passSound
set_option maxRecDepth 20000 in
theorem ggX3_pass_X3_windOn : GoodIn wsX3_pass wsX3_windOn := goodIn_r _ [7, 8, 9, 2, 51, 52, 53, 54, 55, 56, 57, 58, 59, 60, 61, 62, 63] (by decide +kernel) (by decide +kernel)
set_option maxRecDepth 20000 in
theorem gX3_pass_X3_windOn : GoodIn wsX3_pass (wsV RX3 87 RX3 yX3_windOn wsX3_windOn) := goodIn_app (goodIn_of _ (by decide +kernel)) ggX3_pass_X3_windOn
set_option maxRecDepth 20000 in
theorem ggX3_tellOf_X3_isLoose : GoodIn wsX3_tellOf wsX3_isLoose := goodIn_r _ [9, 3, 10, 11, 12, 13, 14, 15, 16, 17, 18, 19, 20, 21, 22] (by decide +kernel) (by decide +kernel)
set_option maxRecDepth 20000 in
theorem gX3_tellOf_X3_isLoose : GoodIn wsX3_tellOf (wsV RX3 58 RX3 yX3_isLoose wsX3_isLoose) := goodIn_app (goodIn_of _ (by decide +kernel)) ggX3_tellOf_X3_isLoose
set_option maxRecDepth 20000 in
theorem i_X3_becomeLike_X3 : ∀ w ∈ u_ws RX3 TX3 13, w ∈ wsX3_becomeLike := by decide +kernel
set_option maxRecDepth 20000 in
theorem i_X3_begin_X3 : ∀ w ∈ u_ws RX3 TX3 13, w ∈ wsX3_begin := by decide +kernel
set_option maxRecDepth 20000 in
theorem i_X3_driftOf_X3 : ∀ w ∈ u_ws RX3 TX3 13, w ∈ wsX3_driftOf := by decide +kernel
set_option maxRecDepth 20000 in
theorem i_X3_grindsAt_X3 : ∀ w ∈ u_ws RX3 TX3 13, w ∈ wsX3_grindsAt := by decide +kernel
set_option maxRecDepth 20000 in
theorem i_X3_hasCell_X3 : ∀ w ∈ u_ws RX3 TX3 13, w ∈ wsX3_hasCell := by decide +kernel
set_option maxRecDepth 20000 in
theorem i_X3_hasSound_X3 : ∀ w ∈ u_ws RX3 TX3 13, w ∈ wsX3_hasSound := by decide +kernel
set_option maxRecDepth 20000 in
theorem i_X3_hasWind_X3 : ∀ w ∈ u_ws RX3 TX3 13, w ∈ wsX3_hasWind := by decide +kernel
set_option maxRecDepth 20000 in
theorem i_X3_isLoose_X3 : ∀ w ∈ u_ws RX3 TX3 13, w ∈ wsX3_isLoose := by decide +kernel
set_option maxRecDepth 20000 in
theorem i_X3_isTold_X3 : ∀ w ∈ u_ws RX3 TX3 13, w ∈ wsX3_isTold := by decide +kernel
set_option maxRecDepth 20000 in
theorem i_X3_letLoose_X3 : ∀ w ∈ u_ws RX3 TX3 13, w ∈ wsX3_letLoose := by decide +kernel
set_option maxRecDepth 20000 in
theorem i_X3_loudBehindHour_X3 : ∀ w ∈ u_ws RX3 TX3 13, w ∈ wsX3_loudBehindHour := by decide +kernel
set_option maxRecDepth 20000 in
theorem i_X3_loudOf_X3 : ∀ w ∈ u_ws RX3 TX3 13, w ∈ wsX3_loudOf := by decide +kernel
set_option maxRecDepth 20000 in
theorem i_X3_mealBehind_X3 : ∀ w ∈ u_ws RX3 TX3 13, w ∈ wsX3_mealBehind := by decide +kernel
set_option maxRecDepth 20000 in
theorem i_X3_pass_X3 : ∀ w ∈ u_ws RX3 TX3 13, w ∈ wsX3_pass := by decide +kernel
set_option maxRecDepth 20000 in
theorem i_X3_passOnly_X3 : ∀ w ∈ u_ws RX3 TX3 13, w ∈ wsX3_passOnly := by decide +kernel
set_option maxRecDepth 20000 in
theorem i_X3_passSound_X3 : ∀ w ∈ u_ws RX3 TX3 13, w ∈ wsX3_passSound := by decide +kernel
set_option maxRecDepth 20000 in
theorem i_X3_soundsThatAre_X3 : ∀ w ∈ u_ws RX3 TX3 13, w ∈ wsX3_soundsThatAre := by decide +kernel
set_option maxRecDepth 20000 in
theorem i_X3_tellOf_X3 : ∀ w ∈ u_ws RX3 TX3 13, w ∈ wsX3_tellOf := by decide +kernel
set_option maxRecDepth 20000 in
theorem i_X3_turnCap_X3 : ∀ w ∈ u_ws RX3 TX3 13, w ∈ wsX3_turnCap := by decide +kernel
set_option maxRecDepth 20000 in
theorem i_X3_turnWind_X3 : ∀ w ∈ u_ws RX3 TX3 13, w ∈ wsX3_turnWind := by decide +kernel
set_option maxRecDepth 20000 in
theorem i_X3_windOn_X3 : ∀ w ∈ u_ws RX3 TX3 13, w ∈ wsX3_windOn := by decide +kernel
