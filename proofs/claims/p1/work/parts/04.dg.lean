theorem dJ6_bitCount_0f7a4_0 : decode cJ6_bitCount_0f7a4 0 = .ok (.iload_n 0, 1) := by decide +kernel
theorem dJ6_bitCount_0f7a4_1 : decode cJ6_bitCount_0f7a4 1 = .ok (.iload_n 0, 1) := by decide +kernel
theorem dJ6_bitCount_0f7a4_10 : decode cJ6_bitCount_0f7a4 10 = .ok (.iload_n 0, 1) := by decide +kernel
theorem dJ6_bitCount_0f7a4_11 : decode cJ6_bitCount_0f7a4 11 = .ok (.ldc_w 266, 3) := by decide +kernel
theorem dJ6_bitCount_0f7a4_14 : decode cJ6_bitCount_0f7a4 14 = .ok (.iand, 1) := by decide +kernel
theorem dJ6_bitCount_0f7a4_15 : decode cJ6_bitCount_0f7a4 15 = .ok (.iload_n 0, 1) := by decide +kernel
theorem dJ6_bitCount_0f7a4_16 : decode cJ6_bitCount_0f7a4 16 = .ok (.iconst 2, 1) := by decide +kernel
theorem dJ6_bitCount_0f7a4_17 : decode cJ6_bitCount_0f7a4 17 = .ok (.iushr, 1) := by decide +kernel
theorem dJ6_bitCount_0f7a4_18 : decode cJ6_bitCount_0f7a4 18 = .ok (.ldc_w 266, 3) := by decide +kernel
theorem dJ6_bitCount_0f7a4_2 : decode cJ6_bitCount_0f7a4 2 = .ok (.iconst 1, 1) := by decide +kernel
theorem dJ6_bitCount_0f7a4_21 : decode cJ6_bitCount_0f7a4 21 = .ok (.iand, 1) := by decide +kernel
theorem dJ6_bitCount_0f7a4_22 : decode cJ6_bitCount_0f7a4 22 = .ok (.iadd, 1) := by decide +kernel
theorem dJ6_bitCount_0f7a4_23 : decode cJ6_bitCount_0f7a4 23 = .ok (.istore_n 0, 1) := by decide +kernel
theorem dJ6_bitCount_0f7a4_24 : decode cJ6_bitCount_0f7a4 24 = .ok (.iload_n 0, 1) := by decide +kernel
theorem dJ6_bitCount_0f7a4_25 : decode cJ6_bitCount_0f7a4 25 = .ok (.iload_n 0, 1) := by decide +kernel
theorem dJ6_bitCount_0f7a4_26 : decode cJ6_bitCount_0f7a4 26 = .ok (.iconst 4, 1) := by decide +kernel
theorem dJ6_bitCount_0f7a4_27 : decode cJ6_bitCount_0f7a4 27 = .ok (.iushr, 1) := by decide +kernel
theorem dJ6_bitCount_0f7a4_28 : decode cJ6_bitCount_0f7a4 28 = .ok (.iadd, 1) := by decide +kernel
theorem dJ6_bitCount_0f7a4_29 : decode cJ6_bitCount_0f7a4 29 = .ok (.ldc_w 267, 3) := by decide +kernel
theorem dJ6_bitCount_0f7a4_3 : decode cJ6_bitCount_0f7a4 3 = .ok (.iushr, 1) := by decide +kernel
theorem dJ6_bitCount_0f7a4_32 : decode cJ6_bitCount_0f7a4 32 = .ok (.iand, 1) := by decide +kernel
theorem dJ6_bitCount_0f7a4_33 : decode cJ6_bitCount_0f7a4 33 = .ok (.istore_n 0, 1) := by decide +kernel
theorem dJ6_bitCount_0f7a4_34 : decode cJ6_bitCount_0f7a4 34 = .ok (.iload_n 0, 1) := by decide +kernel
theorem dJ6_bitCount_0f7a4_35 : decode cJ6_bitCount_0f7a4 35 = .ok (.iload_n 0, 1) := by decide +kernel
theorem dJ6_bitCount_0f7a4_36 : decode cJ6_bitCount_0f7a4 36 = .ok (.bipush 8, 2) := by decide +kernel
theorem dJ6_bitCount_0f7a4_38 : decode cJ6_bitCount_0f7a4 38 = .ok (.iushr, 1) := by decide +kernel
theorem dJ6_bitCount_0f7a4_39 : decode cJ6_bitCount_0f7a4 39 = .ok (.iadd, 1) := by decide +kernel
theorem dJ6_bitCount_0f7a4_4 : decode cJ6_bitCount_0f7a4 4 = .ok (.ldc_w 265, 3) := by decide +kernel
theorem dJ6_bitCount_0f7a4_40 : decode cJ6_bitCount_0f7a4 40 = .ok (.istore_n 0, 1) := by decide +kernel
theorem dJ6_bitCount_0f7a4_41 : decode cJ6_bitCount_0f7a4 41 = .ok (.iload_n 0, 1) := by decide +kernel
theorem dJ6_bitCount_0f7a4_42 : decode cJ6_bitCount_0f7a4 42 = .ok (.iload_n 0, 1) := by decide +kernel
theorem dJ6_bitCount_0f7a4_43 : decode cJ6_bitCount_0f7a4 43 = .ok (.bipush 16, 2) := by decide +kernel
theorem dJ6_bitCount_0f7a4_45 : decode cJ6_bitCount_0f7a4 45 = .ok (.iushr, 1) := by decide +kernel
theorem dJ6_bitCount_0f7a4_46 : decode cJ6_bitCount_0f7a4 46 = .ok (.iadd, 1) := by decide +kernel
theorem dJ6_bitCount_0f7a4_47 : decode cJ6_bitCount_0f7a4 47 = .ok (.istore_n 0, 1) := by decide +kernel
theorem dJ6_bitCount_0f7a4_48 : decode cJ6_bitCount_0f7a4 48 = .ok (.iload_n 0, 1) := by decide +kernel
theorem dJ6_bitCount_0f7a4_49 : decode cJ6_bitCount_0f7a4 49 = .ok (.bipush 63, 2) := by decide +kernel
theorem dJ6_bitCount_0f7a4_51 : decode cJ6_bitCount_0f7a4 51 = .ok (.iand, 1) := by decide +kernel
theorem dJ6_bitCount_0f7a4_52 : decode cJ6_bitCount_0f7a4 52 = .ok (.ireturn, 1) := by decide +kernel
theorem dJ6_bitCount_0f7a4_7 : decode cJ6_bitCount_0f7a4 7 = .ok (.iand, 1) := by decide +kernel
theorem dJ6_bitCount_0f7a4_8 : decode cJ6_bitCount_0f7a4 8 = .ok (.isub, 1) := by decide +kernel
theorem dJ6_bitCount_0f7a4_9 : decode cJ6_bitCount_0f7a4 9 = .ok (.istore_n 0, 1) := by decide +kernel
theorem dJ7_fill_53178_0 : decode cJ7_fill_53178 0 = .ok (.iconst 0, 1) := by decide +kernel
theorem dJ7_fill_53178_1 : decode cJ7_fill_53178 1 = .ok (.istore_n 2, 1) := by decide +kernel
theorem dJ7_fill_53178_10 : decode cJ7_fill_53178 10 = .ok (.aload_n 0, 1) := by decide +kernel
theorem dJ7_fill_53178_11 : decode cJ7_fill_53178 11 = .ok (.iload_n 2, 1) := by decide +kernel
theorem dJ7_fill_53178_12 : decode cJ7_fill_53178 12 = .ok (.iload_n 1, 1) := by decide +kernel
theorem dJ7_fill_53178_13 : decode cJ7_fill_53178 13 = .ok (.iastore, 1) := by decide +kernel
theorem dJ7_fill_53178_14 : decode cJ7_fill_53178 14 = .ok (.iinc 2 1, 3) := by decide +kernel
theorem dJ7_fill_53178_17 : decode cJ7_fill_53178 17 = .ok (.goto (-12), 3) := by decide +kernel
theorem dJ7_fill_53178_2 : decode cJ7_fill_53178 2 = .ok (.aload_n 0, 1) := by decide +kernel
theorem dJ7_fill_53178_20 : decode cJ7_fill_53178 20 = .ok (.return_, 1) := by decide +kernel
theorem dJ7_fill_53178_3 : decode cJ7_fill_53178 3 = .ok (.arraylength, 1) := by decide +kernel
theorem dJ7_fill_53178_4 : decode cJ7_fill_53178 4 = .ok (.istore_n 3, 1) := by decide +kernel
theorem dJ7_fill_53178_5 : decode cJ7_fill_53178 5 = .ok (.iload_n 2, 1) := by decide +kernel
theorem dJ7_fill_53178_6 : decode cJ7_fill_53178 6 = .ok (.iload_n 3, 1) := by decide +kernel
theorem dJ7_fill_53178_7 : decode cJ7_fill_53178 7 = .ok (.if_icmp .ge 13, 3) := by decide +kernel
theorem dX0_init_0 : decode cX0_init 0 = .ok (.aload_n 0, 1) := by decide +kernel
theorem dX0_init_1 : decode cX0_init 1 = .ok (.invokespecial 1, 3) := by decide +kernel
theorem dX0_init_10 : decode cX0_init 10 = .ok (.putfield 11, 3) := by decide +kernel
theorem dX0_init_13 : decode cX0_init 13 = .ok (.iconst 0, 1) := by decide +kernel
theorem dX0_init_14 : decode cX0_init 14 = .ok (.istore_n 1, 1) := by decide +kernel
theorem dX0_init_15 : decode cX0_init 15 = .ok (.iload_n 1, 1) := by decide +kernel
theorem dX0_init_16 : decode cX0_init 16 = .ok (.bipush 24, 2) := by decide +kernel
theorem dX0_init_18 : decode cX0_init 18 = .ok (.if_icmp .ge 22, 3) := by decide +kernel
theorem dX0_init_21 : decode cX0_init 21 = .ok (.aload_n 0, 1) := by decide +kernel
theorem dX0_init_22 : decode cX0_init 22 = .ok (.getfield 11, 3) := by decide +kernel
theorem dX0_init_25 : decode cX0_init 25 = .ok (.iload_n 1, 1) := by decide +kernel
theorem dX0_init_26 : decode cX0_init 26 = .ok (.new 9, 3) := by decide +kernel
theorem dX0_init_29 : decode cX0_init 29 = .ok (.dup, 1) := by decide +kernel
theorem dX0_init_30 : decode cX0_init 30 = .ok (.invokespecial 15, 3) := by decide +kernel
theorem dX0_init_33 : decode cX0_init 33 = .ok (.aastore, 1) := by decide +kernel
theorem dX0_init_34 : decode cX0_init 34 = .ok (.iinc 1 1, 3) := by decide +kernel
theorem dX0_init_37 : decode cX0_init 37 = .ok (.goto (-22), 3) := by decide +kernel
theorem dX0_init_4 : decode cX0_init 4 = .ok (.aload_n 0, 1) := by decide +kernel
theorem dX0_init_40 : decode cX0_init 40 = .ok (.return_, 1) := by decide +kernel
theorem dX0_init_5 : decode cX0_init 5 = .ok (.bipush 24, 2) := by decide +kernel
theorem dX0_init_7 : decode cX0_init 7 = .ok (.anewarray 9, 3) := by decide +kernel
theorem dX1_init_0 : decode cX1_init 0 = .ok (.aload_n 0, 1) := by decide +kernel
theorem dX1_init_1 : decode cX1_init 1 = .ok (.invokespecial 3, 3) := by decide +kernel
theorem dX1_init_12 : decode cX1_init 12 = .ok (.return_, 1) := by decide +kernel
theorem dX1_init_4 : decode cX1_init 4 = .ok (.aload_n 0, 1) := by decide +kernel
theorem dX1_init_5 : decode cX1_init 5 = .ok (.bipush 16, 2) := by decide +kernel
theorem dX1_init_7 : decode cX1_init 7 = .ok (.newarray .int, 2) := by decide +kernel
theorem dX1_init_9 : decode cX1_init 9 = .ok (.putfield 11, 3) := by decide +kernel
theorem dX2_init_0 : decode cX2_init 0 = .ok (.aload_n 0, 1) := by decide +kernel
theorem dX2_init_1 : decode cX2_init 1 = .ok (.invokespecial 3, 3) := by decide +kernel
theorem dX2_init_10 : decode cX2_init 10 = .ok (.putfield 13, 3) := by decide +kernel
theorem dX2_init_13 : decode cX2_init 13 = .ok (.iconst 0, 1) := by decide +kernel
theorem dX2_init_14 : decode cX2_init 14 = .ok (.istore_n 1, 1) := by decide +kernel
theorem dX2_init_15 : decode cX2_init 15 = .ok (.iload_n 1, 1) := by decide +kernel
theorem dX2_init_16 : decode cX2_init 16 = .ok (.bipush 8, 2) := by decide +kernel
theorem dX2_init_18 : decode cX2_init 18 = .ok (.if_icmp .gt 22, 3) := by decide +kernel
theorem dX2_init_21 : decode cX2_init 21 = .ok (.aload_n 0, 1) := by decide +kernel
theorem dX2_init_22 : decode cX2_init 22 = .ok (.getfield 13, 3) := by decide +kernel
theorem dX2_init_25 : decode cX2_init 25 = .ok (.iload_n 1, 1) := by decide +kernel
theorem dX2_init_26 : decode cX2_init 26 = .ok (.new 11, 3) := by decide +kernel
theorem dX2_init_29 : decode cX2_init 29 = .ok (.dup, 1) := by decide +kernel
theorem dX2_init_30 : decode cX2_init 30 = .ok (.invokespecial 17, 3) := by decide +kernel
theorem dX2_init_33 : decode cX2_init 33 = .ok (.aastore, 1) := by decide +kernel
theorem dX2_init_34 : decode cX2_init 34 = .ok (.iinc 1 1, 3) := by decide +kernel
theorem dX2_init_37 : decode cX2_init 37 = .ok (.goto (-22), 3) := by decide +kernel
theorem dX2_init_4 : decode cX2_init 4 = .ok (.aload_n 0, 1) := by decide +kernel
theorem dX2_init_40 : decode cX2_init 40 = .ok (.return_, 1) := by decide +kernel
theorem dX2_init_5 : decode cX2_init 5 = .ok (.bipush 9, 2) := by decide +kernel
theorem dX2_init_7 : decode cX2_init 7 = .ok (.anewarray 11, 3) := by decide +kernel
theorem dX3_begin_0 : decode cX3_begin 0 = .ok (.aload_n 0, 1) := by decide +kernel
theorem dX3_begin_1 : decode cX3_begin 1 = .ok (.iconst 0, 1) := by decide +kernel
theorem dX3_begin_10 : decode cX3_begin 10 = .ok (.aload_n 0, 1) := by decide +kernel
theorem dX3_begin_11 : decode cX3_begin 11 = .ok (.iconst 0, 1) := by decide +kernel
theorem dX3_begin_12 : decode cX3_begin 12 = .ok (.putfield 34, 3) := by decide +kernel
theorem dX3_begin_15 : decode cX3_begin 15 = .ok (.aload_n 0, 1) := by decide +kernel
theorem dX3_begin_16 : decode cX3_begin 16 = .ok (.iconst 1, 1) := by decide +kernel
theorem dX3_begin_17 : decode cX3_begin 17 = .ok (.putfield 37, 3) := by decide +kernel
theorem dX3_begin_2 : decode cX3_begin 2 = .ok (.putfield 27, 3) := by decide +kernel
theorem dX3_begin_20 : decode cX3_begin 20 = .ok (.aload_n 0, 1) := by decide +kernel
theorem dX3_begin_21 : decode cX3_begin 21 = .ok (.iconst 0, 1) := by decide +kernel
theorem dX3_begin_22 : decode cX3_begin 22 = .ok (.putfield 40, 3) := by decide +kernel
theorem dX3_begin_25 : decode cX3_begin 25 = .ok (.aload_n 0, 1) := by decide +kernel
theorem dX3_begin_26 : decode cX3_begin 26 = .ok (.iconst 0, 1) := by decide +kernel
theorem dX3_begin_27 : decode cX3_begin 27 = .ok (.putfield 43, 3) := by decide +kernel
theorem dX3_begin_30 : decode cX3_begin 30 = .ok (.aload_n 0, 1) := by decide +kernel
theorem dX3_begin_31 : decode cX3_begin 31 = .ok (.iconst 0, 1) := by decide +kernel
theorem dX3_begin_32 : decode cX3_begin 32 = .ok (.putfield 46, 3) := by decide +kernel
theorem dX3_begin_35 : decode cX3_begin 35 = .ok (.aload_n 0, 1) := by decide +kernel
theorem dX3_begin_36 : decode cX3_begin 36 = .ok (.iconst 0, 1) := by decide +kernel
theorem dX3_begin_37 : decode cX3_begin 37 = .ok (.putfield 49, 3) := by decide +kernel
theorem dX3_begin_40 : decode cX3_begin 40 = .ok (.return_, 1) := by decide +kernel
theorem dX3_begin_5 : decode cX3_begin 5 = .ok (.aload_n 0, 1) := by decide +kernel
theorem dX3_begin_6 : decode cX3_begin 6 = .ok (.iconst 0, 1) := by decide +kernel
theorem dX3_begin_7 : decode cX3_begin 7 = .ok (.putfield 31, 3) := by decide +kernel
theorem dX3_hasSound_0 : decode cX3_hasSound 0 = .ok (.iload_n 1, 1) := by decide +kernel
theorem dX3_hasSound_1 : decode cX3_hasSound 1 = .ok (.ifCond .lt 15, 3) := by decide +kernel
theorem dX3_hasSound_16 : decode cX3_hasSound 16 = .ok (.iconst 0, 1) := by decide +kernel
theorem dX3_hasSound_17 : decode cX3_hasSound 17 = .ok (.ireturn, 1) := by decide +kernel
theorem dX3_hasSound_4 : decode cX3_hasSound 4 = .ok (.iload_n 1, 1) := by decide +kernel
theorem dX3_hasSound_5 : decode cX3_hasSound 5 = .ok (.aload_n 0, 1) := by decide +kernel
theorem dX3_hasSound_6 : decode cX3_hasSound 6 = .ok (.getfield 49, 3) := by decide +kernel
theorem dX3_hasSound_9 : decode cX3_hasSound 9 = .ok (.if_icmp .ge 7, 3) := by decide +kernel
theorem dX3_hasWind_0 : decode cX3_hasWind 0 = .ok (.iload_n 1, 1) := by decide +kernel
theorem dX3_hasWind_1 : decode cX3_hasWind 1 = .ok (.ifCond .lt 15, 3) := by decide +kernel
theorem dX3_hasWind_16 : decode cX3_hasWind 16 = .ok (.iconst 0, 1) := by decide +kernel
theorem dX3_hasWind_17 : decode cX3_hasWind 17 = .ok (.ireturn, 1) := by decide +kernel
theorem dX3_hasWind_4 : decode cX3_hasWind 4 = .ok (.iload_n 1, 1) := by decide +kernel
theorem dX3_hasWind_5 : decode cX3_hasWind 5 = .ok (.aload_n 0, 1) := by decide +kernel
theorem dX3_hasWind_6 : decode cX3_hasWind 6 = .ok (.getfield 46, 3) := by decide +kernel
theorem dX3_hasWind_9 : decode cX3_hasWind 9 = .ok (.if_icmp .ge 7, 3) := by decide +kernel
theorem dX3_init_0 : decode cX3_init 0 = .ok (.aload_n 0, 1) := by decide +kernel
theorem dX3_init_1 : decode cX3_init 1 = .ok (.invokespecial 3, 3) := by decide +kernel
theorem dX3_init_12 : decode cX3_init 12 = .ok (.aload_n 0, 1) := by decide +kernel
theorem dX3_init_13 : decode cX3_init 13 = .ok (.bipush 6, 2) := by decide +kernel
theorem dX3_init_15 : decode cX3_init 15 = .ok (.newarray .int, 2) := by decide +kernel
theorem dX3_init_17 : decode cX3_init 17 = .ok (.putfield 15, 3) := by decide +kernel
theorem dX3_init_20 : decode cX3_init 20 = .ok (.aload_n 0, 1) := by decide +kernel
theorem dX3_init_21 : decode cX3_init 21 = .ok (.bipush 6, 2) := by decide +kernel
theorem dX3_init_23 : decode cX3_init 23 = .ok (.newarray .int, 2) := by decide +kernel
theorem dX3_init_25 : decode cX3_init 25 = .ok (.putfield 18, 3) := by decide +kernel
theorem dX3_init_28 : decode cX3_init 28 = .ok (.aload_n 0, 1) := by decide +kernel
theorem dX3_init_29 : decode cX3_init 29 = .ok (.bipush 6, 2) := by decide +kernel
theorem dX3_init_31 : decode cX3_init 31 = .ok (.newarray .int, 2) := by decide +kernel
theorem dX3_init_33 : decode cX3_init 33 = .ok (.putfield 21, 3) := by decide +kernel
theorem dX3_init_36 : decode cX3_init 36 = .ok (.aload_n 0, 1) := by decide +kernel
theorem dX3_init_37 : decode cX3_init 37 = .ok (.bipush 6, 2) := by decide +kernel
theorem dX3_init_39 : decode cX3_init 39 = .ok (.newarray .int, 2) := by decide +kernel
theorem dX3_init_4 : decode cX3_init 4 = .ok (.aload_n 0, 1) := by decide +kernel
theorem dX3_init_41 : decode cX3_init 41 = .ok (.putfield 24, 3) := by decide +kernel
theorem dX3_init_44 : decode cX3_init 44 = .ok (.return_, 1) := by decide +kernel
theorem dX3_init_5 : decode cX3_init 5 = .ok (.bipush 6, 2) := by decide +kernel
theorem dX3_init_7 : decode cX3_init 7 = .ok (.newarray .int, 2) := by decide +kernel
theorem dX3_init_9 : decode cX3_init 9 = .ok (.putfield 9, 3) := by decide +kernel
theorem dX3_isTold_0 : decode cX3_isTold 0 = .ok (.aload_n 0, 1) := by decide +kernel
theorem dX3_isTold_1 : decode cX3_isTold 1 = .ok (.getfield 27, 3) := by decide +kernel
theorem dX3_isTold_11 : decode cX3_isTold 11 = .ok (.iconst 0, 1) := by decide +kernel
theorem dX3_isTold_12 : decode cX3_isTold 12 = .ok (.ireturn, 1) := by decide +kernel
theorem dX3_isTold_4 : decode cX3_isTold 4 = .ok (.ifCond .le 7, 3) := by decide +kernel
theorem dX3_soundsThatAre_0 : decode cX3_soundsThatAre 0 = .ok (.iconst 0, 1) := by decide +kernel
theorem dX3_soundsThatAre_1 : decode cX3_soundsThatAre 1 = .ok (.istore_n 2, 1) := by decide +kernel
theorem dX3_soundsThatAre_2 : decode cX3_soundsThatAre 2 = .ok (.iconst 0, 1) := by decide +kernel
theorem dX3_soundsThatAre_3 : decode cX3_soundsThatAre 3 = .ok (.istore_n 3, 1) := by decide +kernel
theorem dX3_soundsThatAre_38 : decode cX3_soundsThatAre 38 = .ok (.iload_n 2, 1) := by decide +kernel
theorem dX3_soundsThatAre_39 : decode cX3_soundsThatAre 39 = .ok (.ireturn, 1) := by decide +kernel
theorem dX3_soundsThatAre_4 : decode cX3_soundsThatAre 4 = .ok (.iload_n 3, 1) := by decide +kernel
theorem dX3_soundsThatAre_5 : decode cX3_soundsThatAre 5 = .ok (.aload_n 0, 1) := by decide +kernel
theorem dX3_soundsThatAre_6 : decode cX3_soundsThatAre 6 = .ok (.getfield 49, 3) := by decide +kernel
theorem dX3_soundsThatAre_9 : decode cX3_soundsThatAre 9 = .ok (.if_icmp .ge 29, 3) := by decide +kernel
theorem dX4_init_0 : decode cX4_init 0 = .ok (.aload_n 0, 1) := by decide +kernel
theorem dX4_init_1 : decode cX4_init 1 = .ok (.invokespecial 1, 3) := by decide +kernel
theorem dX4_init_12 : decode cX4_init 12 = .ok (.putfield 10, 3) := by decide +kernel
theorem dX4_init_15 : decode cX4_init 15 = .ok (.aload_n 0, 1) := by decide +kernel
theorem dX4_init_16 : decode cX4_init 16 = .ok (.new 7, 3) := by decide +kernel
theorem dX4_init_19 : decode cX4_init 19 = .ok (.dup, 1) := by decide +kernel
theorem dX4_init_20 : decode cX4_init 20 = .ok (.invokespecial 9, 3) := by decide +kernel
theorem dX4_init_23 : decode cX4_init 23 = .ok (.putfield 16, 3) := by decide +kernel
theorem dX4_init_26 : decode cX4_init 26 = .ok (.return_, 1) := by decide +kernel
theorem dX4_init_4 : decode cX4_init 4 = .ok (.aload_n 0, 1) := by decide +kernel
theorem dX4_init_5 : decode cX4_init 5 = .ok (.new 7, 3) := by decide +kernel
theorem dX4_init_8 : decode cX4_init 8 = .ok (.dup, 1) := by decide +kernel
theorem dX4_init_9 : decode cX4_init 9 = .ok (.invokespecial 9, 3) := by decide +kernel
theorem dX5_findingOfMove_0 : decode cX5_findingOfMove 0 = .ok (.aload_n 0, 1) := by decide +kernel
theorem dX5_findingOfMove_1 : decode cX5_findingOfMove 1 = .ok (.iload_n 1, 1) := by decide +kernel
theorem dX5_findingOfMove_16 : decode cX5_findingOfMove 16 = .ok (.iconst 1, 1) := by decide +kernel
theorem dX5_findingOfMove_17 : decode cX5_findingOfMove 17 = .ok (.ireturn, 1) := by decide +kernel
theorem dX5_findingOfMove_2 : decode cX5_findingOfMove 2 = .ok (.invokevirtual 29, 3) := by decide +kernel
theorem dX5_findingOfMove_5 : decode cX5_findingOfMove 5 = .ok (.ifCond .ne 11, 3) := by decide +kernel
theorem dX5_findingOf_0 : decode cX5_findingOf 0 = .ok (.aload_n 0, 1) := by decide +kernel
theorem dX5_findingOf_1 : decode cX5_findingOf 1 = .ok (.iload_n 1, 1) := by decide +kernel
theorem dX5_findingOf_2 : decode cX5_findingOf 2 = .ok (.invokevirtual 29, 3) := by decide +kernel
theorem dX5_findingOf_5 : decode cX5_findingOf 5 = .ok (.ifCond .eq 5, 3) := by decide +kernel
theorem dX5_findingOf_8 : decode cX5_findingOf 8 = .ok (.iconst 1, 1) := by decide +kernel
theorem dX5_findingOf_9 : decode cX5_findingOf 9 = .ok (.ireturn, 1) := by decide +kernel
theorem dX5_init_0 : decode cX5_init 0 = .ok (.aload_n 0, 1) := by decide +kernel
theorem dX5_init_1 : decode cX5_init 1 = .ok (.invokespecial 3, 3) := by decide +kernel
theorem dX5_init_13 : decode cX5_init 13 = .ok (.putfield 13, 3) := by decide +kernel
theorem dX5_init_16 : decode cX5_init 16 = .ok (.aload_n 0, 1) := by decide +kernel
theorem dX5_init_17 : decode cX5_init 17 = .ok (.bipush 8, 2) := by decide +kernel
theorem dX5_init_19 : decode cX5_init 19 = .ok (.newarray .int, 2) := by decide +kernel
theorem dX5_init_21 : decode cX5_init 21 = .ok (.putfield 16, 3) := by decide +kernel
theorem dX5_init_24 : decode cX5_init 24 = .ok (.aload_n 0, 1) := by decide +kernel
theorem dX5_init_25 : decode cX5_init 25 = .ok (.bipush 8, 2) := by decide +kernel
theorem dX5_init_27 : decode cX5_init 27 = .ok (.newarray .int, 2) := by decide +kernel
theorem dX5_init_29 : decode cX5_init 29 = .ok (.putfield 20, 3) := by decide +kernel
theorem dX5_init_32 : decode cX5_init 32 = .ok (.aload_n 0, 1) := by decide +kernel
theorem dX5_init_33 : decode cX5_init 33 = .ok (.getfield 16, 3) := by decide +kernel
theorem dX5_init_36 : decode cX5_init 36 = .ok (.iconst (-1), 1) := by decide +kernel
theorem dX5_init_37 : decode cX5_init 37 = .ok (.invokestatic 23, 3) := by decide +kernel
theorem dX5_init_4 : decode cX5_init 4 = .ok (.aload_n 0, 1) := by decide +kernel
theorem dX5_init_40 : decode cX5_init 40 = .ok (.return_, 1) := by decide +kernel
theorem dX5_init_5 : decode cX5_init 5 = .ok (.bipush 8, 2) := by decide +kernel
theorem dX5_init_7 : decode cX5_init 7 = .ok (.bipush 40, 2) := by decide +kernel
theorem dX5_init_9 : decode cX5_init 9 = .ok (.multianewarray 11 2, 4) := by decide +kernel
theorem dX5_isLane_0 : decode cX5_isLane 0 = .ok (.iload_n 0, 1) := by decide +kernel
theorem dX5_isLane_1 : decode cX5_isLane 1 = .ok (.ifCond .lt 12, 3) := by decide +kernel
theorem dX5_isLane_10 : decode cX5_isLane 10 = .ok (.goto 4, 3) := by decide +kernel
theorem dX5_isLane_13 : decode cX5_isLane 13 = .ok (.iconst 0, 1) := by decide +kernel
theorem dX5_isLane_14 : decode cX5_isLane 14 = .ok (.ireturn, 1) := by decide +kernel
theorem dX5_isLane_4 : decode cX5_isLane 4 = .ok (.iload_n 0, 1) := by decide +kernel
theorem dX5_isLane_5 : decode cX5_isLane 5 = .ok (.iconst 2, 1) := by decide +kernel
theorem dX5_isLane_6 : decode cX5_isLane 6 = .ok (.if_icmp .gt 7, 3) := by decide +kernel
theorem dX5_isLane_9 : decode cX5_isLane 9 = .ok (.iconst 1, 1) := by decide +kernel
theorem dX5_isMissing_0 : decode cX5_isMissing 0 = .ok (.aload_n 0, 1) := by decide +kernel
theorem dX5_isMissing_1 : decode cX5_isMissing 1 = .ok (.getfield 16, 3) := by decide +kernel
theorem dX5_isMissing_10 : decode cX5_isMissing 10 = .ok (.iconst 1, 1) := by decide +kernel
theorem dX5_isMissing_11 : decode cX5_isMissing 11 = .ok (.goto 4, 3) := by decide +kernel
theorem dX5_isMissing_15 : decode cX5_isMissing 15 = .ok (.ireturn, 1) := by decide +kernel
theorem dX5_isMissing_4 : decode cX5_isMissing 4 = .ok (.iload_n 1, 1) := by decide +kernel
theorem dX5_isMissing_5 : decode cX5_isMissing 5 = .ok (.iaload, 1) := by decide +kernel
theorem dX5_isMissing_6 : decode cX5_isMissing 6 = .ok (.iconst (-1), 1) := by decide +kernel
theorem dX5_isMissing_7 : decode cX5_isMissing 7 = .ok (.if_icmp .ne 7, 3) := by decide +kernel
theorem dX5_isRow_0 : decode cX5_isRow 0 = .ok (.iload_n 0, 1) := by decide +kernel
theorem dX5_isRow_1 : decode cX5_isRow 1 = .ok (.ifCond .lt 13, 3) := by decide +kernel
theorem dX5_isRow_10 : decode cX5_isRow 10 = .ok (.iconst 1, 1) := by decide +kernel
theorem dX5_isRow_11 : decode cX5_isRow 11 = .ok (.goto 4, 3) := by decide +kernel
theorem dX5_isRow_14 : decode cX5_isRow 14 = .ok (.iconst 0, 1) := by decide +kernel
theorem dX5_isRow_15 : decode cX5_isRow 15 = .ok (.ireturn, 1) := by decide +kernel
theorem dX5_isRow_4 : decode cX5_isRow 4 = .ok (.iload_n 0, 1) := by decide +kernel
theorem dX5_isRow_5 : decode cX5_isRow 5 = .ok (.bipush 8, 2) := by decide +kernel
theorem dX5_isRow_7 : decode cX5_isRow 7 = .ok (.if_icmp .ge 7, 3) := by decide +kernel
theorem dX5_make_0 : decode cX5_make 0 = .ok (.aload_n 0, 1) := by decide +kernel
theorem dX5_make_1 : decode cX5_make 1 = .ok (.getfield 16, 3) := by decide +kernel
theorem dX5_make_11 : decode cX5_make 11 = .ok (.iload_n 1, 1) := by decide +kernel
theorem dX5_make_12 : decode cX5_make 12 = .ok (.iload_n 3, 1) := by decide +kernel
theorem dX5_make_13 : decode cX5_make 13 = .ok (.iastore, 1) := by decide +kernel
theorem dX5_make_14 : decode cX5_make 14 = .ok (.aload_n 0, 1) := by decide +kernel
theorem dX5_make_15 : decode cX5_make 15 = .ok (.getfield 13, 3) := by decide +kernel
theorem dX5_make_18 : decode cX5_make 18 = .ok (.iload_n 1, 1) := by decide +kernel
theorem dX5_make_19 : decode cX5_make 19 = .ok (.aaload, 1) := by decide +kernel
theorem dX5_make_20 : decode cX5_make 20 = .ok (.iconst 0, 1) := by decide +kernel
theorem dX5_make_21 : decode cX5_make 21 = .ok (.invokestatic 23, 3) := by decide +kernel
theorem dX5_make_24 : decode cX5_make 24 = .ok (.return_, 1) := by decide +kernel
theorem dX5_make_4 : decode cX5_make 4 = .ok (.iload_n 1, 1) := by decide +kernel
theorem dX5_make_5 : decode cX5_make 5 = .ok (.iload_n 2, 1) := by decide +kernel
theorem dX5_make_6 : decode cX5_make 6 = .ok (.iastore, 1) := by decide +kernel
theorem dX5_make_7 : decode cX5_make 7 = .ok (.aload_n 0, 1) := by decide +kernel
theorem dX5_make_8 : decode cX5_make 8 = .ok (.getfield 20, 3) := by decide +kernel
theorem dX5_present_0 : decode cX5_present 0 = .ok (.iconst 0, 1) := by decide +kernel
theorem dX5_present_1 : decode cX5_present 1 = .ok (.istore_n 1, 1) := by decide +kernel
theorem dX5_present_10 : decode cX5_present 10 = .ok (.iload_n 1, 1) := by decide +kernel
theorem dX5_present_11 : decode cX5_present 11 = .ok (.aload_n 0, 1) := by decide +kernel
theorem dX5_present_12 : decode cX5_present 12 = .ok (.iload_n 2, 1) := by decide +kernel
theorem dX5_present_13 : decode cX5_present 13 = .ok (.invokevirtual 29, 3) := by decide +kernel
theorem dX5_present_16 : decode cX5_present 16 = .ok (.ifCond .eq 7, 3) := by decide +kernel
theorem dX5_present_19 : decode cX5_present 19 = .ok (.iconst 0, 1) := by decide +kernel
theorem dX5_present_2 : decode cX5_present 2 = .ok (.iconst 0, 1) := by decide +kernel
theorem dX5_present_20 : decode cX5_present 20 = .ok (.goto 4, 3) := by decide +kernel
theorem dX5_present_24 : decode cX5_present 24 = .ok (.iadd, 1) := by decide +kernel
theorem dX5_present_25 : decode cX5_present 25 = .ok (.istore_n 1, 1) := by decide +kernel
theorem dX5_present_26 : decode cX5_present 26 = .ok (.iinc 2 1, 3) := by decide +kernel
theorem dX5_present_29 : decode cX5_present 29 = .ok (.goto (-25), 3) := by decide +kernel
theorem dX5_present_3 : decode cX5_present 3 = .ok (.istore_n 2, 1) := by decide +kernel
theorem dX5_present_32 : decode cX5_present 32 = .ok (.iload_n 1, 1) := by decide +kernel
theorem dX5_present_33 : decode cX5_present 33 = .ok (.ireturn, 1) := by decide +kernel
theorem dX5_present_4 : decode cX5_present 4 = .ok (.iload_n 2, 1) := by decide +kernel
theorem dX5_present_5 : decode cX5_present 5 = .ok (.bipush 8, 2) := by decide +kernel
theorem dX5_present_7 : decode cX5_present 7 = .ok (.if_icmp .ge 25, 3) := by decide +kernel
theorem dX6_append_0 : decode cX6_append 0 = .ok (.aload_n 0, 1) := by decide +kernel
theorem dX6_append_1 : decode cX6_append 1 = .ok (.invokevirtual 26, 3) := by decide +kernel
theorem dX6_append_11 : decode cX6_append 11 = .ok (.aload_n 0, 1) := by decide +kernel
theorem dX6_append_12 : decode cX6_append 12 = .ok (.getfield 22, 3) := by decide +kernel
theorem dX6_append_15 : decode cX6_append 15 = .ok (.iload_n 1, 1) := by decide +kernel
theorem dX6_append_16 : decode cX6_append 16 = .ok (.iastore, 1) := by decide +kernel
theorem dX6_append_17 : decode cX6_append 17 = .ok (.aload_n 0, 1) := by decide +kernel
theorem dX6_append_18 : decode cX6_append 18 = .ok (.dup, 1) := by decide +kernel
theorem dX6_append_19 : decode cX6_append 19 = .ok (.getfield 22, 3) := by decide +kernel
theorem dX6_append_22 : decode cX6_append 22 = .ok (.iconst 1, 1) := by decide +kernel
theorem dX6_append_23 : decode cX6_append 23 = .ok (.iadd, 1) := by decide +kernel
theorem dX6_append_24 : decode cX6_append 24 = .ok (.putfield 22, 3) := by decide +kernel
theorem dX6_append_27 : decode cX6_append 27 = .ok (.aload_n 0, 1) := by decide +kernel
theorem dX6_append_28 : decode cX6_append 28 = .ok (.getfield 22, 3) := by decide +kernel
theorem dX6_append_31 : decode cX6_append 31 = .ok (.ireturn, 1) := by decide +kernel
theorem dX6_append_4 : decode cX6_append 4 = .ok (.ifCond .ne 23, 3) := by decide +kernel
theorem dX6_append_7 : decode cX6_append 7 = .ok (.aload_n 0, 1) := by decide +kernel
theorem dX6_append_8 : decode cX6_append 8 = .ok (.getfield 11, 3) := by decide +kernel
theorem dX6_byteAt_0 : decode cX6_byteAt 0 = .ok (.iload_n 1, 1) := by decide +kernel
theorem dX6_byteAt_1 : decode cX6_byteAt 1 = .ok (.ifCond .lt 20, 3) := by decide +kernel
theorem dX6_byteAt_21 : decode cX6_byteAt 21 = .ok (.iconst (-1), 1) := by decide +kernel
theorem dX6_byteAt_22 : decode cX6_byteAt 22 = .ok (.ireturn, 1) := by decide +kernel
theorem dX6_byteAt_4 : decode cX6_byteAt 4 = .ok (.iload_n 1, 1) := by decide +kernel
theorem dX6_byteAt_5 : decode cX6_byteAt 5 = .ok (.aload_n 0, 1) := by decide +kernel
theorem dX6_byteAt_6 : decode cX6_byteAt 6 = .ok (.getfield 22, 3) := by decide +kernel
theorem dX6_byteAt_9 : decode cX6_byteAt 9 = .ok (.if_icmp .ge 12, 3) := by decide +kernel
theorem dX6_fail_0 : decode cX6_fail 0 = .ok (.aload_n 0, 1) := by decide +kernel
theorem dX6_fail_1 : decode cX6_fail 1 = .ok (.getfield 30, 3) := by decide +kernel
theorem dX6_fail_12 : decode cX6_fail 12 = .ok (.aload_n 0, 1) := by decide +kernel
theorem dX6_fail_13 : decode cX6_fail 13 = .ok (.aload_n 0, 1) := by decide +kernel
theorem dX6_fail_14 : decode cX6_fail 14 = .ok (.getfield 36, 3) := by decide +kernel
theorem dX6_fail_17 : decode cX6_fail 17 = .ok (.putfield 33, 3) := by decide +kernel
theorem dX6_fail_20 : decode cX6_fail 20 = .ok (.return_, 1) := by decide +kernel
theorem dX6_fail_4 : decode cX6_fail 4 = .ok (.ifCond .ne 16, 3) := by decide +kernel
theorem dX6_fail_7 : decode cX6_fail 7 = .ok (.aload_n 0, 1) := by decide +kernel
theorem dX6_fail_8 : decode cX6_fail 8 = .ok (.iload_n 1, 1) := by decide +kernel
theorem dX6_fail_9 : decode cX6_fail 9 = .ok (.putfield 30, 3) := by decide +kernel
theorem dX6_figuresHere_0 : decode cX6_figuresHere 0 = .ok (.iconst 0, 1) := by decide +kernel
theorem dX6_figuresHere_1 : decode cX6_figuresHere 1 = .ok (.istore_n 1, 1) := by decide +kernel
theorem dX6_figuresHere_10 : decode cX6_figuresHere 10 = .ok (.getfield 36, 3) := by decide +kernel
theorem dX6_figuresHere_13 : decode cX6_figuresHere 13 = .ok (.iload_n 1, 1) := by decide +kernel
theorem dX6_figuresHere_14 : decode cX6_figuresHere 14 = .ok (.iadd, 1) := by decide +kernel
theorem dX6_figuresHere_15 : decode cX6_figuresHere 15 = .ok (.invokevirtual 71, 3) := by decide +kernel
theorem dX6_figuresHere_18 : decode cX6_figuresHere 18 = .ok (.invokestatic 104, 3) := by decide +kernel
theorem dX6_figuresHere_2 : decode cX6_figuresHere 2 = .ok (.iload_n 1, 1) := by decide +kernel
theorem dX6_figuresHere_21 : decode cX6_figuresHere 21 = .ok (.ifCond .eq 9, 3) := by decide +kernel
theorem dX6_figuresHere_3 : decode cX6_figuresHere 3 = .ok (.bipush 120, 2) := by decide +kernel
theorem dX6_figuresHere_30 : decode cX6_figuresHere 30 = .ok (.iload_n 1, 1) := by decide +kernel
theorem dX6_figuresHere_31 : decode cX6_figuresHere 31 = .ok (.ireturn, 1) := by decide +kernel
theorem dX6_figuresHere_5 : decode cX6_figuresHere 5 = .ok (.if_icmp .ge 25, 3) := by decide +kernel
theorem dX6_figuresHere_8 : decode cX6_figuresHere 8 = .ok (.aload_n 0, 1) := by decide +kernel
theorem dX6_figuresHere_9 : decode cX6_figuresHere 9 = .ok (.aload_n 0, 1) := by decide +kernel
theorem dX6_init_0 : decode cX6_init 0 = .ok (.aload_n 0, 1) := by decide +kernel
theorem dX6_init_1 : decode cX6_init 1 = .ok (.invokespecial 3, 3) := by decide +kernel
theorem dX6_init_12 : decode cX6_init 12 = .ok (.aload_n 0, 1) := by decide +kernel
theorem dX6_init_13 : decode cX6_init 13 = .ok (.new 15, 3) := by decide +kernel
theorem dX6_init_16 : decode cX6_init 16 = .ok (.dup, 1) := by decide +kernel
theorem dX6_init_17 : decode cX6_init 17 = .ok (.invokespecial 17, 3) := by decide +kernel
theorem dX6_init_20 : decode cX6_init 20 = .ok (.putfield 18, 3) := by decide +kernel
theorem dX6_init_23 : decode cX6_init 23 = .ok (.return_, 1) := by decide +kernel
theorem dX6_init_4 : decode cX6_init 4 = .ok (.aload_n 0, 1) := by decide +kernel
theorem dX6_init_5 : decode cX6_init 5 = .ok (.bipush 120, 2) := by decide +kernel
theorem dX6_init_7 : decode cX6_init 7 = .ok (.newarray .int, 2) := by decide +kernel
theorem dX6_init_9 : decode cX6_init 9 = .ok (.putfield 11, 3) := by decide +kernel
theorem dX6_isFigure_0 : decode cX6_isFigure 0 = .ok (.iload_n 0, 1) := by decide +kernel
theorem dX6_isFigure_1 : decode cX6_isFigure 1 = .ok (.bipush 48, 2) := by decide +kernel
theorem dX6_isFigure_16 : decode cX6_isFigure 16 = .ok (.iconst 0, 1) := by decide +kernel
theorem dX6_isFigure_17 : decode cX6_isFigure 17 = .ok (.ireturn, 1) := by decide +kernel
theorem dX6_isFigure_3 : decode cX6_isFigure 3 = .ok (.if_icmp .lt 13, 3) := by decide +kernel
theorem dX6_isFull_0 : decode cX6_isFull 0 = .ok (.aload_n 0, 1) := by decide +kernel
theorem dX6_isFull_1 : decode cX6_isFull 1 = .ok (.getfield 22, 3) := by decide +kernel
theorem dX6_isFull_13 : decode cX6_isFull 13 = .ok (.iconst 0, 1) := by decide +kernel
theorem dX6_isFull_14 : decode cX6_isFull 14 = .ok (.ireturn, 1) := by decide +kernel
theorem dX6_isFull_4 : decode cX6_isFull 4 = .ok (.bipush 120, 2) := by decide +kernel
theorem dX6_isFull_6 : decode cX6_isFull 6 = .ok (.if_icmp .lt 7, 3) := by decide +kernel
theorem dX6_kindOf_0 : decode cX6_kindOf 0 = .ok (.iload_n 0, 1) := by decide +kernel
theorem dX6_kindOf_1 : decode cX6_kindOf 1 = .ok (.lookupswitch 61 #[(98, 53), (100, 57), (104, 55), (115, 59), (118, 51)], 51) := by decide +kernel
theorem dX6_kindOf_62 : decode cX6_kindOf 62 = .ok (.iconst 0, 1) := by decide +kernel
theorem dX6_kindOf_63 : decode cX6_kindOf 63 = .ok (.ireturn, 1) := by decide +kernel
theorem dX6_readByte_0 : decode cX6_readByte 0 = .ok (.aload_n 0, 1) := by decide +kernel
theorem dX6_readByte_1 : decode cX6_readByte 1 = .ok (.aload_n 0, 1) := by decide +kernel
theorem dX6_readByte_2 : decode cX6_readByte 2 = .ok (.getfield 36, 3) := by decide +kernel
theorem dX6_readByte_25 : decode cX6_readByte 25 = .ok (.aload_n 0, 1) := by decide +kernel
theorem dX6_readByte_26 : decode cX6_readByte 26 = .ok (.iconst 1, 1) := by decide +kernel
theorem dX6_readByte_27 : decode cX6_readByte 27 = .ok (.invokevirtual 78, 3) := by decide +kernel
theorem dX6_readByte_30 : decode cX6_readByte 30 = .ok (.return_, 1) := by decide +kernel
theorem dX6_readByte_5 : decode cX6_readByte 5 = .ok (.invokevirtual 71, 3) := by decide +kernel
theorem dX6_readByte_8 : decode cX6_readByte 8 = .ok (.iload_n 1, 1) := by decide +kernel
theorem dX6_readByte_9 : decode cX6_readByte 9 = .ok (.if_icmp .ne 16, 3) := by decide +kernel
theorem dX6_readLaw_0 : decode cX6_readLaw 0 = .ok (.aload_n 0, 1) := by decide +kernel
theorem dX6_readLaw_1 : decode cX6_readLaw 1 = .ok (.bipush 109, 2) := by decide +kernel
theorem dX6_readLaw_10 : decode cX6_readLaw 10 = .ok (.aload_n 0, 1) := by decide +kernel
theorem dX6_readLaw_11 : decode cX6_readLaw 11 = .ok (.iconst 5, 1) := by decide +kernel
theorem dX6_readLaw_12 : decode cX6_readLaw 12 = .ok (.bipush 15, 2) := by decide +kernel
theorem dX6_readLaw_14 : decode cX6_readLaw 14 = .ok (.invokevirtual 55, 3) := by decide +kernel
theorem dX6_readLaw_17 : decode cX6_readLaw 17 = .ok (.putfield 59, 3) := by decide +kernel
theorem dX6_readLaw_20 : decode cX6_readLaw 20 = .ok (.aload_n 0, 1) := by decide +kernel
theorem dX6_readLaw_21 : decode cX6_readLaw 21 = .ok (.bipush 44, 2) := by decide +kernel
theorem dX6_readLaw_23 : decode cX6_readLaw 23 = .ok (.invokevirtual 51, 3) := by decide +kernel
theorem dX6_readLaw_26 : decode cX6_readLaw 26 = .ok (.aload_n 0, 1) := by decide +kernel
theorem dX6_readLaw_27 : decode cX6_readLaw 27 = .ok (.getfield 18, 3) := by decide +kernel
theorem dX6_readLaw_3 : decode cX6_readLaw 3 = .ok (.invokevirtual 51, 3) := by decide +kernel
theorem dX6_readLaw_30 : decode cX6_readLaw 30 = .ok (.aload_n 0, 1) := by decide +kernel
theorem dX6_readLaw_31 : decode cX6_readLaw 31 = .ok (.iconst 0, 1) := by decide +kernel
theorem dX6_readLaw_32 : decode cX6_readLaw 32 = .ok (.aload_n 0, 1) := by decide +kernel
theorem dX6_readLaw_33 : decode cX6_readLaw 33 = .ok (.getfield 18, 3) := by decide +kernel
theorem dX6_readLaw_36 : decode cX6_readLaw 36 = .ok (.getfield 59, 3) := by decide +kernel
theorem dX6_readLaw_39 : decode cX6_readLaw 39 = .ok (.iconst 1, 1) := by decide +kernel
theorem dX6_readLaw_40 : decode cX6_readLaw 40 = .ok (.isub, 1) := by decide +kernel
theorem dX6_readLaw_41 : decode cX6_readLaw 41 = .ok (.invokevirtual 55, 3) := by decide +kernel
theorem dX6_readLaw_44 : decode cX6_readLaw 44 = .ok (.putfield 62, 3) := by decide +kernel
theorem dX6_readLaw_47 : decode cX6_readLaw 47 = .ok (.aload_n 0, 1) := by decide +kernel
theorem dX6_readLaw_48 : decode cX6_readLaw 48 = .ok (.bipush 44, 2) := by decide +kernel
theorem dX6_readLaw_50 : decode cX6_readLaw 50 = .ok (.invokevirtual 51, 3) := by decide +kernel
theorem dX6_readLaw_53 : decode cX6_readLaw 53 = .ok (.aload_n 0, 1) := by decide +kernel
theorem dX6_readLaw_54 : decode cX6_readLaw 54 = .ok (.getfield 18, 3) := by decide +kernel
theorem dX6_readLaw_57 : decode cX6_readLaw 57 = .ok (.aload_n 0, 1) := by decide +kernel
theorem dX6_readLaw_58 : decode cX6_readLaw 58 = .ok (.iconst 0, 1) := by decide +kernel
theorem dX6_readLaw_59 : decode cX6_readLaw 59 = .ok (.iconst 4, 1) := by decide +kernel
theorem dX6_readLaw_6 : decode cX6_readLaw 6 = .ok (.aload_n 0, 1) := by decide +kernel
theorem dX6_readLaw_60 : decode cX6_readLaw 60 = .ok (.invokevirtual 55, 3) := by decide +kernel
theorem dX6_readLaw_63 : decode cX6_readLaw 63 = .ok (.putfield 65, 3) := by decide +kernel
theorem dX6_readLaw_66 : decode cX6_readLaw 66 = .ok (.aload_n 0, 1) := by decide +kernel
theorem dX6_readLaw_67 : decode cX6_readLaw 67 = .ok (.bipush 59, 2) := by decide +kernel
theorem dX6_readLaw_69 : decode cX6_readLaw 69 = .ok (.invokevirtual 51, 3) := by decide +kernel
theorem dX6_readLaw_7 : decode cX6_readLaw 7 = .ok (.getfield 18, 3) := by decide +kernel
theorem dX6_readLaw_72 : decode cX6_readLaw 72 = .ok (.return_, 1) := by decide +kernel
theorem dX6_readNumber_0 : decode cX6_readNumber 0 = .ok (.aload_n 0, 1) := by decide +kernel
theorem dX6_readNumber_1 : decode cX6_readNumber 1 = .ok (.invokevirtual 100, 3) := by decide +kernel
theorem dX6_readNumber_15 : decode cX6_readNumber 15 = .ok (.aload_n 0, 1) := by decide +kernel
theorem dX6_readNumber_16 : decode cX6_readNumber 16 = .ok (.iconst 1, 1) := by decide +kernel
theorem dX6_readNumber_17 : decode cX6_readNumber 17 = .ok (.invokevirtual 78, 3) := by decide +kernel
theorem dX6_readNumber_20 : decode cX6_readNumber 20 = .ok (.iconst 0, 1) := by decide +kernel
theorem dX6_readNumber_21 : decode cX6_readNumber 21 = .ok (.ireturn, 1) := by decide +kernel
theorem dX6_readNumber_4 : decode cX6_readNumber 4 = .ok (.istore_n 3, 1) := by decide +kernel
theorem dX6_readNumber_5 : decode cX6_readNumber 5 = .ok (.iload_n 3, 1) := by decide +kernel
theorem dX6_readNumber_6 : decode cX6_readNumber 6 = .ok (.iconst 1, 1) := by decide +kernel
theorem dX6_readNumber_7 : decode cX6_readNumber 7 = .ok (.if_icmp .lt 8, 3) := by decide +kernel
theorem dX6_readSound_0 : decode cX6_readSound 0 = .ok (.aload_n 0, 1) := by decide +kernel
theorem dX6_readSound_1 : decode cX6_readSound 1 = .ok (.aload_n 0, 1) := by decide +kernel
theorem dX6_readSound_11 : decode cX6_readSound 11 = .ok (.istore_n 1, 1) := by decide +kernel
theorem dX6_readSound_12 : decode cX6_readSound 12 = .ok (.iload_n 1, 1) := by decide +kernel
theorem dX6_readSound_13 : decode cX6_readSound 13 = .ok (.ifCond .ne 11, 3) := by decide +kernel
theorem dX6_readSound_138 : decode cX6_readSound 138 = .ok (.return_, 1) := by decide +kernel
theorem dX6_readSound_16 : decode cX6_readSound 16 = .ok (.aload_n 0, 1) := by decide +kernel
theorem dX6_readSound_17 : decode cX6_readSound 17 = .ok (.iconst 1, 1) := by decide +kernel
theorem dX6_readSound_18 : decode cX6_readSound 18 = .ok (.invokevirtual 78, 3) := by decide +kernel
theorem dX6_readSound_2 : decode cX6_readSound 2 = .ok (.getfield 36, 3) := by decide +kernel
theorem dX6_readSound_21 : decode cX6_readSound 21 = .ok (.goto 20, 3) := by decide +kernel
theorem dX6_readSound_41 : decode cX6_readSound 41 = .ok (.aload_n 0, 1) := by decide +kernel
theorem dX6_readSound_42 : decode cX6_readSound 42 = .ok (.dup, 1) := by decide +kernel
theorem dX6_readSound_43 : decode cX6_readSound 43 = .ok (.getfield 36, 3) := by decide +kernel
theorem dX6_readSound_46 : decode cX6_readSound 46 = .ok (.iconst 1, 1) := by decide +kernel
theorem dX6_readSound_47 : decode cX6_readSound 47 = .ok (.iadd, 1) := by decide +kernel
theorem dX6_readSound_48 : decode cX6_readSound 48 = .ok (.putfield 36, 3) := by decide +kernel
theorem dX6_readSound_5 : decode cX6_readSound 5 = .ok (.invokevirtual 71, 3) := by decide +kernel
theorem dX6_readSound_51 : decode cX6_readSound 51 = .ok (.aload_n 0, 1) := by decide +kernel
theorem dX6_readSound_52 : decode cX6_readSound 52 = .ok (.iconst 0, 1) := by decide +kernel
theorem dX6_readSound_53 : decode cX6_readSound 53 = .ok (.aload_n 0, 1) := by decide +kernel
theorem dX6_readSound_54 : decode cX6_readSound 54 = .ok (.getfield 18, 3) := by decide +kernel
theorem dX6_readSound_57 : decode cX6_readSound 57 = .ok (.getfield 59, 3) := by decide +kernel
theorem dX6_readSound_60 : decode cX6_readSound 60 = .ok (.iconst 1, 1) := by decide +kernel
theorem dX6_readSound_61 : decode cX6_readSound 61 = .ok (.isub, 1) := by decide +kernel
theorem dX6_readSound_62 : decode cX6_readSound 62 = .ok (.invokevirtual 55, 3) := by decide +kernel
theorem dX6_readSound_65 : decode cX6_readSound 65 = .ok (.istore_n 2, 1) := by decide +kernel
theorem dX6_readSound_66 : decode cX6_readSound 66 = .ok (.aload_n 0, 1) := by decide +kernel
theorem dX6_readSound_67 : decode cX6_readSound 67 = .ok (.bipush 44, 2) := by decide +kernel
theorem dX6_readSound_69 : decode cX6_readSound 69 = .ok (.invokevirtual 51, 3) := by decide +kernel
theorem dX6_readSound_72 : decode cX6_readSound 72 = .ok (.aload_n 0, 1) := by decide +kernel
theorem dX6_readSound_73 : decode cX6_readSound 73 = .ok (.iconst 1, 1) := by decide +kernel
theorem dX6_readSound_74 : decode cX6_readSound 74 = .ok (.bipush 20, 2) := by decide +kernel
theorem dX6_readSound_76 : decode cX6_readSound 76 = .ok (.invokevirtual 55, 3) := by decide +kernel
theorem dX6_readSound_79 : decode cX6_readSound 79 = .ok (.istore_n 3, 1) := by decide +kernel
theorem dX6_readSound_8 : decode cX6_readSound 8 = .ok (.invokestatic 87, 3) := by decide +kernel
theorem dX6_readSound_80 : decode cX6_readSound 80 = .ok (.aload_n 0, 1) := by decide +kernel
theorem dX6_readSound_81 : decode cX6_readSound 81 = .ok (.bipush 59, 2) := by decide +kernel
theorem dX6_readSound_83 : decode cX6_readSound 83 = .ok (.invokevirtual 51, 3) := by decide +kernel
theorem dX6_readSound_86 : decode cX6_readSound 86 = .ok (.aload_n 0, 1) := by decide +kernel
theorem dX6_readSound_87 : decode cX6_readSound 87 = .ok (.getfield 30, 3) := by decide +kernel
theorem dX6_readSound_90 : decode cX6_readSound 90 = .ok (.ifCond .ne 48, 3) := by decide +kernel
theorem dX6_readSounds_0 : decode cX6_readSounds 0 = .ok (.aload_n 0, 1) := by decide +kernel
theorem dX6_readSounds_1 : decode cX6_readSounds 1 = .ok (.invokevirtual 84, 3) := by decide +kernel
theorem dX6_readSounds_12 : decode cX6_readSounds 12 = .ok (.aload_n 0, 1) := by decide +kernel
theorem dX6_readSounds_13 : decode cX6_readSounds 13 = .ok (.getfield 30, 3) := by decide +kernel
theorem dX6_readSounds_16 : decode cX6_readSounds 16 = .ok (.ifCond .ne 25, 3) := by decide +kernel
theorem dX6_readSounds_4 : decode cX6_readSounds 4 = .ok (.iconst 0, 1) := by decide +kernel
theorem dX6_readSounds_41 : decode cX6_readSounds 41 = .ok (.return_, 1) := by decide +kernel
theorem dX6_readSounds_5 : decode cX6_readSounds 5 = .ok (.istore_n 1, 1) := by decide +kernel
theorem dX6_readSounds_6 : decode cX6_readSounds 6 = .ok (.iload_n 1, 1) := by decide +kernel
theorem dX6_readSounds_7 : decode cX6_readSounds 7 = .ok (.bipush 6, 2) := by decide +kernel
theorem dX6_readSounds_9 : decode cX6_readSounds 9 = .ok (.if_icmp .ge 32, 3) := by decide +kernel
theorem dX6_readWind_0 : decode cX6_readWind 0 = .ok (.aload_n 0, 1) := by decide +kernel
theorem dX6_readWind_1 : decode cX6_readWind 1 = .ok (.getfield 30, 3) := by decide +kernel
theorem dX6_readWind_37 : decode cX6_readWind 37 = .ok (.aload_n 0, 1) := by decide +kernel
theorem dX6_readWind_38 : decode cX6_readWind 38 = .ok (.bipush 119, 2) := by decide +kernel
theorem dX6_readWind_4 : decode cX6_readWind 4 = .ok (.ifCond .ne 33, 3) := by decide +kernel
theorem dX6_readWind_40 : decode cX6_readWind 40 = .ok (.invokevirtual 51, 3) := by decide +kernel
theorem dX6_readWind_43 : decode cX6_readWind 43 = .ok (.aload_n 0, 1) := by decide +kernel
theorem dX6_readWind_44 : decode cX6_readWind 44 = .ok (.iconst 0, 1) := by decide +kernel
theorem dX6_readWind_45 : decode cX6_readWind 45 = .ok (.iconst 4, 1) := by decide +kernel
theorem dX6_readWind_46 : decode cX6_readWind 46 = .ok (.invokevirtual 55, 3) := by decide +kernel
theorem dX6_readWind_49 : decode cX6_readWind 49 = .ok (.istore_n 1, 1) := by decide +kernel
theorem dX6_readWind_50 : decode cX6_readWind 50 = .ok (.aload_n 0, 1) := by decide +kernel
theorem dX6_readWind_51 : decode cX6_readWind 51 = .ok (.bipush 59, 2) := by decide +kernel
theorem dX6_readWind_53 : decode cX6_readWind 53 = .ok (.invokevirtual 51, 3) := by decide +kernel
theorem dX6_readWind_56 : decode cX6_readWind 56 = .ok (.aload_n 0, 1) := by decide +kernel
theorem dX6_readWind_57 : decode cX6_readWind 57 = .ok (.getfield 30, 3) := by decide +kernel
theorem dX6_readWind_60 : decode cX6_readWind 60 = .ok (.ifCond .ne 32, 3) := by decide +kernel
theorem dX6_readWind_92 : decode cX6_readWind 92 = .ok (.return_, 1) := by decide +kernel
theorem dX6_readWinds_0 : decode cX6_readWinds 0 = .ok (.aload_n 0, 1) := by decide +kernel
theorem dX6_readWinds_1 : decode cX6_readWinds 1 = .ok (.invokevirtual 68, 3) := by decide +kernel
theorem dX6_readWinds_12 : decode cX6_readWinds 12 = .ok (.aload_n 0, 1) := by decide +kernel
theorem dX6_readWinds_13 : decode cX6_readWinds 13 = .ok (.getfield 30, 3) := by decide +kernel
theorem dX6_readWinds_16 : decode cX6_readWinds 16 = .ok (.ifCond .ne 26, 3) := by decide +kernel
theorem dX6_readWinds_4 : decode cX6_readWinds 4 = .ok (.iconst 0, 1) := by decide +kernel
theorem dX6_readWinds_42 : decode cX6_readWinds 42 = .ok (.return_, 1) := by decide +kernel
theorem dX6_readWinds_5 : decode cX6_readWinds 5 = .ok (.istore_n 1, 1) := by decide +kernel
theorem dX6_readWinds_6 : decode cX6_readWinds 6 = .ok (.iload_n 1, 1) := by decide +kernel
theorem dX6_readWinds_7 : decode cX6_readWinds 7 = .ok (.bipush 6, 2) := by decide +kernel
theorem dX6_readWinds_9 : decode cX6_readWinds 9 = .ok (.if_icmp .ge 33, 3) := by decide +kernel
theorem dX6_read_0 : decode cX6_read 0 = .ok (.aload_n 0, 1) := by decide +kernel
theorem dX6_read_1 : decode cX6_read 1 = .ok (.iconst 0, 1) := by decide +kernel
theorem dX6_read_10 : decode cX6_read 10 = .ok (.aload_n 0, 1) := by decide +kernel
theorem dX6_read_11 : decode cX6_read 11 = .ok (.iconst 0, 1) := by decide +kernel
theorem dX6_read_12 : decode cX6_read 12 = .ok (.putfield 36, 3) := by decide +kernel
theorem dX6_read_15 : decode cX6_read 15 = .ok (.aload_n 0, 1) := by decide +kernel
theorem dX6_read_16 : decode cX6_read 16 = .ok (.getfield 18, 3) := by decide +kernel
theorem dX6_read_19 : decode cX6_read 19 = .ok (.invokevirtual 39, 3) := by decide +kernel
theorem dX6_read_2 : decode cX6_read 2 = .ok (.putfield 30, 3) := by decide +kernel
theorem dX6_read_22 : decode cX6_read 22 = .ok (.aload_n 0, 1) := by decide +kernel
theorem dX6_read_23 : decode cX6_read 23 = .ok (.invokevirtual 42, 3) := by decide +kernel
theorem dX6_read_26 : decode cX6_read 26 = .ok (.aload_n 0, 1) := by decide +kernel
theorem dX6_read_27 : decode cX6_read 27 = .ok (.invokevirtual 45, 3) := by decide +kernel
theorem dX6_read_30 : decode cX6_read 30 = .ok (.aload_n 0, 1) := by decide +kernel
theorem dX6_read_31 : decode cX6_read 31 = .ok (.invokevirtual 48, 3) := by decide +kernel
theorem dX6_read_34 : decode cX6_read 34 = .ok (.aload_n 0, 1) := by decide +kernel
theorem dX6_read_35 : decode cX6_read 35 = .ok (.iconst 0, 1) := by decide +kernel
theorem dX6_read_36 : decode cX6_read 36 = .ok (.putfield 22, 3) := by decide +kernel
theorem dX6_read_39 : decode cX6_read 39 = .ok (.aload_n 0, 1) := by decide +kernel
theorem dX6_read_40 : decode cX6_read 40 = .ok (.getfield 30, 3) := by decide +kernel
theorem dX6_read_43 : decode cX6_read 43 = .ok (.ireturn, 1) := by decide +kernel
theorem dX6_read_5 : decode cX6_read 5 = .ok (.aload_n 0, 1) := by decide +kernel
theorem dX6_read_6 : decode cX6_read 6 = .ok (.iconst 0, 1) := by decide +kernel
theorem dX6_read_7 : decode cX6_read 7 = .ok (.putfield 33, 3) := by decide +kernel
theorem dX7_ahead_0 : decode cX7_ahead 0 = .ok (.aload_n 0, 1) := by decide +kernel
theorem dX7_ahead_1 : decode cX7_ahead 1 = .ok (.getfield 26, 3) := by decide +kernel
theorem dX7_ahead_27 : decode cX7_ahead 27 = .ok (.ldc 72, 2) := by decide +kernel
theorem dX7_ahead_29 : decode cX7_ahead 29 = .ok (.ireturn, 1) := by decide +kernel
theorem dX7_ahead_4 : decode cX7_ahead 4 = .ok (.iload_n 1, 1) := by decide +kernel
theorem dX7_ahead_5 : decode cX7_ahead 5 = .ok (.invokevirtual 173, 3) := by decide +kernel
theorem dX7_ahead_8 : decode cX7_ahead 8 = .ok (.ifCond .eq 19, 3) := by decide +kernel
theorem dX7_as_0 : decode cX7_as 0 = .ok (.aload_n 0, 1) := by decide +kernel
theorem dX7_as_1 : decode cX7_as 1 = .ok (.getfield 26, 3) := by decide +kernel
theorem dX7_as_20 : decode cX7_as 20 = .ok (.ldc 72, 2) := by decide +kernel
theorem dX7_as_22 : decode cX7_as 22 = .ok (.ireturn, 1) := by decide +kernel
theorem dX7_as_4 : decode cX7_as 4 = .ok (.iload_n 1, 1) := by decide +kernel
theorem dX7_as_5 : decode cX7_as 5 = .ok (.invokevirtual 173, 3) := by decide +kernel
theorem dX7_as_8 : decode cX7_as 8 = .ok (.ifCond .eq 12, 3) := by decide +kernel
theorem dX7_ask_0 : decode cX7_ask 0 = .ok (.aload_n 0, 1) := by decide +kernel
theorem dX7_ask_1 : decode cX7_ask 1 = .ok (.getfield 26, 3) := by decide +kernel
theorem dX7_ask_18 : decode cX7_ask 18 = .ok (.ldc 72, 2) := by decide +kernel
theorem dX7_ask_20 : decode cX7_ask 20 = .ok (.ireturn, 1) := by decide +kernel
theorem dX7_ask_4 : decode cX7_ask 4 = .ok (.iload_n 1, 1) := by decide +kernel
theorem dX7_ask_5 : decode cX7_ask 5 = .ok (.invokevirtual 173, 3) := by decide +kernel
theorem dX7_ask_8 : decode cX7_ask 8 = .ok (.ifCond .eq 10, 3) := by decide +kernel
theorem dX7_byTurns_0 : decode cX7_byTurns 0 = .ok (.aload_n 0, 1) := by decide +kernel
theorem dX7_byTurns_1 : decode cX7_byTurns 1 = .ok (.getfield 26, 3) := by decide +kernel
theorem dX7_byTurns_10 : decode cX7_byTurns 10 = .ok (.ldc 141, 2) := by decide +kernel
theorem dX7_byTurns_12 : decode cX7_byTurns 12 = .ok (.ireturn, 1) := by decide +kernel
theorem dX7_byTurns_4 : decode cX7_byTurns 4 = .ok (.invokevirtual 145, 3) := by decide +kernel
theorem dX7_byTurns_7 : decode cX7_byTurns 7 = .ok (.ifCond .ne 6, 3) := by decide +kernel
theorem dX7_calm_0 : decode cX7_calm 0 = .ok (.aload_n 0, 1) := by decide +kernel
theorem dX7_calm_1 : decode cX7_calm 1 = .ok (.getfield 26, 3) := by decide +kernel
theorem dX7_calm_39 : decode cX7_calm 39 = .ok (.ldc2_w 267, 3) := by decide +kernel
theorem dX7_calm_4 : decode cX7_calm 4 = .ok (.iload_n 1, 1) := by decide +kernel
theorem dX7_calm_42 : decode cX7_calm 42 = .ok (.lreturn, 1) := by decide +kernel
theorem dX7_calm_5 : decode cX7_calm 5 = .ok (.invokevirtual 173, 3) := by decide +kernel
theorem dX7_calm_8 : decode cX7_calm 8 = .ok (.ifCond .eq 31, 3) := by decide +kernel
theorem dX7_cap_0 : decode cX7_cap 0 = .ok (.aload_n 0, 1) := by decide +kernel
theorem dX7_cap_1 : decode cX7_cap 1 = .ok (.getfield 26, 3) := by decide +kernel
theorem dX7_cap_10 : decode cX7_cap 10 = .ok (.ldc 141, 2) := by decide +kernel
theorem dX7_cap_12 : decode cX7_cap 12 = .ok (.ireturn, 1) := by decide +kernel
theorem dX7_cap_4 : decode cX7_cap 4 = .ok (.invokevirtual 145, 3) := by decide +kernel
theorem dX7_cap_7 : decode cX7_cap 7 = .ok (.ifCond .ne 6, 3) := by decide +kernel
theorem dX7_caps_0 : decode cX7_caps 0 = .ok (.aload_n 0, 1) := by decide +kernel
theorem dX7_caps_1 : decode cX7_caps 1 = .ok (.getfield 26, 3) := by decide +kernel
theorem dX7_caps_10 : decode cX7_caps 10 = .ok (.ldc 141, 2) := by decide +kernel
theorem dX7_caps_12 : decode cX7_caps 12 = .ok (.ireturn, 1) := by decide +kernel
theorem dX7_caps_4 : decode cX7_caps 4 = .ok (.invokevirtual 145, 3) := by decide +kernel
theorem dX7_caps_7 : decode cX7_caps 7 = .ok (.ifCond .ne 6, 3) := by decide +kernel
theorem dX7_copy_0 : decode cX7_copy 0 = .ok (.iload_n 1, 1) := by decide +kernel
theorem dX7_copy_1 : decode cX7_copy 1 = .ok (.invokestatic 65, 3) := by decide +kernel
theorem dX7_copy_11 : decode cX7_copy 11 = .ok (.ifCond .ne 6, 3) := by decide +kernel
theorem dX7_copy_14 : decode cX7_copy 14 = .ok (.ldc 72, 2) := by decide +kernel
theorem dX7_copy_16 : decode cX7_copy 16 = .ok (.ireturn, 1) := by decide +kernel
theorem dX7_copy_17 : decode cX7_copy 17 = .ok (.aload_n 0, 1) := by decide +kernel
theorem dX7_copy_18 : decode cX7_copy 18 = .ok (.getfield 10, 3) := by decide +kernel
theorem dX7_copy_21 : decode cX7_copy 21 = .ok (.iload_n 1, 1) := by decide +kernel
theorem dX7_copy_22 : decode cX7_copy 22 = .ok (.iload_n 2, 1) := by decide +kernel
theorem dX7_copy_23 : decode cX7_copy 23 = .ok (.iload_n 3, 1) := by decide +kernel
theorem dX7_copy_24 : decode cX7_copy 24 = .ok (.iload 4, 2) := by decide +kernel
theorem dX7_copy_26 : decode cX7_copy 26 = .ok (.iload 5, 2) := by decide +kernel
theorem dX7_copy_28 : decode cX7_copy 28 = .ok (.invokevirtual 91, 3) := by decide +kernel
theorem dX7_copy_31 : decode cX7_copy 31 = .ok (.istore 6, 2) := by decide +kernel
theorem dX7_copy_33 : decode cX7_copy 33 = .ok (.iload 6, 2) := by decide +kernel
theorem dX7_copy_35 : decode cX7_copy 35 = .ok (.ifCond .eq 10, 3) := by decide +kernel
theorem dX7_copy_38 : decode cX7_copy 38 = .ok (.aload_n 0, 1) := by decide +kernel
theorem dX7_copy_39 : decode cX7_copy 39 = .ok (.iload 6, 2) := by decide +kernel
theorem dX7_copy_4 : decode cX7_copy 4 = .ok (.ifCond .eq 10, 3) := by decide +kernel
theorem dX7_copy_41 : decode cX7_copy 41 = .ok (.invokevirtual 73, 3) := by decide +kernel
theorem dX7_copy_44 : decode cX7_copy 44 = .ok (.ireturn, 1) := by decide +kernel
theorem dX7_copy_7 : decode cX7_copy 7 = .ok (.iload_n 3, 1) := by decide +kernel
theorem dX7_copy_8 : decode cX7_copy 8 = .ok (.invokestatic 65, 3) := by decide +kernel
theorem dX7_count_0 : decode cX7_count 0 = .ok (.iload_n 1, 1) := by decide +kernel
theorem dX7_count_1 : decode cX7_count 1 = .ok (.tableswitch 115 0 7 #[47, 55, 63, 71, 79, 87, 99, 107], 47) := by decide +kernel
theorem dX7_count_100 : decode cX7_count 100 = .ok (.aload_n 0, 1) := by decide +kernel
theorem dX7_count_101 : decode cX7_count 101 = .ok (.getfield 33, 3) := by decide +kernel
theorem dX7_count_104 : decode cX7_count 104 = .ok (.getfield 138, 3) := by decide +kernel
theorem dX7_count_107 : decode cX7_count 107 = .ok (.ireturn, 1) := by decide +kernel
theorem dX7_count_108 : decode cX7_count 108 = .ok (.aload_n 0, 1) := by decide +kernel
theorem dX7_count_109 : decode cX7_count 109 = .ok (.getfield 19, 3) := by decide +kernel
theorem dX7_count_112 : decode cX7_count 112 = .ok (.getfield 322, 3) := by decide +kernel
theorem dX7_count_115 : decode cX7_count 115 = .ok (.ireturn, 1) := by decide +kernel
theorem dX7_count_116 : decode cX7_count 116 = .ok (.ldc 72, 2) := by decide +kernel
theorem dX7_count_118 : decode cX7_count 118 = .ok (.ireturn, 1) := by decide +kernel
theorem dX7_count_48 : decode cX7_count 48 = .ok (.aload_n 0, 1) := by decide +kernel
theorem dX7_count_49 : decode cX7_count 49 = .ok (.getfield 10, 3) := by decide +kernel
theorem dX7_count_52 : decode cX7_count 52 = .ok (.invokevirtual 319, 3) := by decide +kernel
theorem dX7_count_55 : decode cX7_count 55 = .ok (.ireturn, 1) := by decide +kernel
theorem dX7_count_56 : decode cX7_count 56 = .ok (.aload_n 0, 1) := by decide +kernel
theorem dX7_count_57 : decode cX7_count 57 = .ok (.getfield 26, 3) := by decide +kernel
theorem dX7_count_60 : decode cX7_count 60 = .ok (.getfield 135, 3) := by decide +kernel
theorem dX7_count_63 : decode cX7_count 63 = .ok (.ireturn, 1) := by decide +kernel
theorem dX7_count_64 : decode cX7_count 64 = .ok (.aload_n 0, 1) := by decide +kernel
theorem dX7_count_65 : decode cX7_count 65 = .ok (.getfield 26, 3) := by decide +kernel
theorem dX7_count_68 : decode cX7_count 68 = .ok (.getfield 269, 3) := by decide +kernel
theorem dX7_count_71 : decode cX7_count 71 = .ok (.ireturn, 1) := by decide +kernel
theorem dX7_count_72 : decode cX7_count 72 = .ok (.aload_n 0, 1) := by decide +kernel
theorem dX7_count_73 : decode cX7_count 73 = .ok (.getfield 26, 3) := by decide +kernel
theorem dX7_count_76 : decode cX7_count 76 = .ok (.getfield 148, 3) := by decide +kernel
theorem dX7_count_79 : decode cX7_count 79 = .ok (.ireturn, 1) := by decide +kernel
theorem dX7_count_80 : decode cX7_count 80 = .ok (.aload_n 0, 1) := by decide +kernel
theorem dX7_count_81 : decode cX7_count 81 = .ok (.getfield 26, 3) := by decide +kernel
theorem dX7_count_84 : decode cX7_count 84 = .ok (.getfield 157, 3) := by decide +kernel
theorem dX7_count_87 : decode cX7_count 87 = .ok (.ireturn, 1) := by decide +kernel
theorem dX7_count_88 : decode cX7_count 88 = .ok (.aload_n 0, 1) := by decide +kernel
theorem dX7_count_89 : decode cX7_count 89 = .ok (.getfield 26, 3) := by decide +kernel
theorem dX7_count_92 : decode cX7_count 92 = .ok (.iconst 0, 1) := by decide +kernel
theorem dX7_count_93 : decode cX7_count 93 = .ok (.invokevirtual 185, 3) := by decide +kernel
theorem dX7_count_96 : decode cX7_count 96 = .ok (.invokestatic 296, 3) := by decide +kernel
theorem dX7_count_99 : decode cX7_count 99 = .ok (.ireturn, 1) := by decide +kernel
theorem dX7_drawn_0 : decode cX7_drawn 0 = .ok (.aload_n 0, 1) := by decide +kernel
theorem dX7_drawn_1 : decode cX7_drawn 1 = .ok (.getfield 26, 3) := by decide +kernel
theorem dX7_drawn_10 : decode cX7_drawn 10 = .ok (.ldc 141, 2) := by decide +kernel
theorem dX7_drawn_12 : decode cX7_drawn 12 = .ok (.ireturn, 1) := by decide +kernel
theorem dX7_drawn_4 : decode cX7_drawn 4 = .ok (.invokevirtual 145, 3) := by decide +kernel
theorem dX7_drawn_7 : decode cX7_drawn 7 = .ok (.ifCond .ne 6, 3) := by decide +kernel
theorem dX7_drop_0 : decode cX7_drop 0 = .ok (.iload_n 1, 1) := by decide +kernel
theorem dX7_drop_1 : decode cX7_drop 1 = .ok (.invokestatic 65, 3) := by decide +kernel
theorem dX7_drop_10 : decode cX7_drop 10 = .ok (.aload_n 0, 1) := by decide +kernel
theorem dX7_drop_11 : decode cX7_drop 11 = .ok (.getfield 10, 3) := by decide +kernel
theorem dX7_drop_14 : decode cX7_drop 14 = .ok (.iload_n 1, 1) := by decide +kernel
theorem dX7_drop_15 : decode cX7_drop 15 = .ok (.invokevirtual 99, 3) := by decide +kernel
theorem dX7_drop_18 : decode cX7_drop 18 = .ok (.ifCond .eq 9, 3) := by decide +kernel
theorem dX7_drop_21 : decode cX7_drop 21 = .ok (.aload_n 0, 1) := by decide +kernel
theorem dX7_drop_22 : decode cX7_drop 22 = .ok (.iconst 1, 1) := by decide +kernel
theorem dX7_drop_23 : decode cX7_drop 23 = .ok (.invokevirtual 73, 3) := by decide +kernel
theorem dX7_drop_26 : decode cX7_drop 26 = .ok (.ireturn, 1) := by decide +kernel
theorem dX7_drop_4 : decode cX7_drop 4 = .ok (.ifCond .ne 6, 3) := by decide +kernel
theorem dX7_drop_7 : decode cX7_drop 7 = .ok (.ldc 72, 2) := by decide +kernel
theorem dX7_drop_9 : decode cX7_drop 9 = .ok (.ireturn, 1) := by decide +kernel
theorem dX7_fault_0 : decode cX7_fault 0 = .ok (.aload_n 0, 1) := by decide +kernel
theorem dX7_fault_1 : decode cX7_fault 1 = .ok (.getfield 117, 3) := by decide +kernel
theorem dX7_fault_4 : decode cX7_fault 4 = .ok (.ireturn, 1) := by decide +kernel
theorem dX7_feed_0 : decode cX7_feed 0 = .ok (.iload_n 1, 1) := by decide +kernel
theorem dX7_feed_1 : decode cX7_feed 1 = .ok (.ifCond .lt 10, 3) := by decide +kernel
theorem dX7_feed_11 : decode cX7_feed 11 = .ok (.ldc 72, 2) := by decide +kernel
theorem dX7_feed_13 : decode cX7_feed 13 = .ok (.ireturn, 1) := by decide +kernel
theorem dX7_feed_14 : decode cX7_feed 14 = .ok (.aload_n 0, 1) := by decide +kernel
theorem dX7_feed_15 : decode cX7_feed 15 = .ok (.getfield 19, 3) := by decide +kernel
theorem dX7_feed_18 : decode cX7_feed 18 = .ok (.invokevirtual 105, 3) := by decide +kernel
theorem dX7_feed_21 : decode cX7_feed 21 = .ok (.ifCond .eq 6, 3) := by decide +kernel
theorem dX7_feed_27 : decode cX7_feed 27 = .ok (.aload_n 0, 1) := by decide +kernel
theorem dX7_feed_28 : decode cX7_feed 28 = .ok (.getfield 19, 3) := by decide +kernel
theorem dX7_feed_31 : decode cX7_feed 31 = .ok (.iload_n 1, 1) := by decide +kernel
theorem dX7_feed_32 : decode cX7_feed 32 = .ok (.invokevirtual 110, 3) := by decide +kernel
theorem dX7_feed_35 : decode cX7_feed 35 = .ok (.ireturn, 1) := by decide +kernel
theorem dX7_feed_4 : decode cX7_feed 4 = .ok (.iload_n 1, 1) := by decide +kernel
theorem dX7_feed_5 : decode cX7_feed 5 = .ok (.sipush 255, 3) := by decide +kernel
theorem dX7_feed_8 : decode cX7_feed 8 = .ok (.if_icmp .le 6, 3) := by decide +kernel
theorem dX7_foundNothing_0 : decode cX7_foundNothing 0 = .ok (.aload_n 0, 1) := by decide +kernel
theorem dX7_foundNothing_1 : decode cX7_foundNothing 1 = .ok (.iconst 0, 1) := by decide +kernel
theorem dX7_foundNothing_2 : decode cX7_foundNothing 2 = .ok (.putfield 323, 3) := by decide +kernel
theorem dX7_foundNothing_5 : decode cX7_foundNothing 5 = .ok (.iload_n 1, 1) := by decide +kernel
theorem dX7_foundNothing_6 : decode cX7_foundNothing 6 = .ok (.ireturn, 1) := by decide +kernel
theorem dX7_found_0 : decode cX7_found 0 = .ok (.aload_n 0, 1) := by decide +kernel
theorem dX7_found_1 : decode cX7_found 1 = .ok (.iload_n 1, 1) := by decide +kernel
theorem dX7_found_10 : decode cX7_found 10 = .ok (.ireturn, 1) := by decide +kernel
theorem dX7_found_2 : decode cX7_found 2 = .ok (.putfield 323, 3) := by decide +kernel
theorem dX7_found_5 : decode cX7_found 5 = .ok (.ldc_w 326, 3) := by decide +kernel
theorem dX7_found_8 : decode cX7_found 8 = .ok (.iload_n 1, 1) := by decide +kernel
theorem dX7_found_9 : decode cX7_found 9 = .ok (.isub, 1) := by decide +kernel
theorem dX7_gust_0 : decode cX7_gust 0 = .ok (.aload_n 0, 1) := by decide +kernel
theorem dX7_gust_1 : decode cX7_gust 1 = .ok (.getfield 26, 3) := by decide +kernel
theorem dX7_gust_10 : decode cX7_gust 10 = .ok (.ldc 141, 2) := by decide +kernel
theorem dX7_gust_12 : decode cX7_gust 12 = .ok (.ireturn, 1) := by decide +kernel
theorem dX7_gust_4 : decode cX7_gust 4 = .ok (.invokevirtual 145, 3) := by decide +kernel
theorem dX7_gust_7 : decode cX7_gust 7 = .ok (.ifCond .ne 6, 3) := by decide +kernel
theorem dX7_gusts_0 : decode cX7_gusts 0 = .ok (.iload_n 1, 1) := by decide +kernel
theorem dX7_gusts_1 : decode cX7_gusts 1 = .ok (.iconst (-1), 1) := by decide +kernel
theorem dX7_gusts_10 : decode cX7_gusts 10 = .ok (.invokevirtual 166, 3) := by decide +kernel
theorem dX7_gusts_13 : decode cX7_gusts 13 = .ok (.ifCond .eq 23, 3) := by decide +kernel
theorem dX7_gusts_16 : decode cX7_gusts 16 = .ok (.aload_n 0, 1) := by decide +kernel
theorem dX7_gusts_17 : decode cX7_gusts 17 = .ok (.getfield 26, 3) := by decide +kernel
theorem dX7_gusts_2 : decode cX7_gusts 2 = .ok (.if_icmp .eq 14, 3) := by decide +kernel
theorem dX7_gusts_20 : decode cX7_gusts 20 = .ok (.iload_n 2, 1) := by decide +kernel
theorem dX7_gusts_21 : decode cX7_gusts 21 = .ok (.invokevirtual 173, 3) := by decide +kernel
theorem dX7_gusts_24 : decode cX7_gusts 24 = .ok (.ifCond .eq 12, 3) := by decide +kernel
theorem dX7_gusts_36 : decode cX7_gusts 36 = .ok (.ldc 72, 2) := by decide +kernel
theorem dX7_gusts_38 : decode cX7_gusts 38 = .ok (.ireturn, 1) := by decide +kernel
theorem dX7_gusts_5 : decode cX7_gusts 5 = .ok (.aload_n 0, 1) := by decide +kernel
theorem dX7_gusts_6 : decode cX7_gusts 6 = .ok (.getfield 26, 3) := by decide +kernel
theorem dX7_gusts_9 : decode cX7_gusts 9 = .ok (.iload_n 1, 1) := by decide +kernel
theorem dX7_had_0 : decode cX7_had 0 = .ok (.aload_n 0, 1) := by decide +kernel
theorem dX7_had_1 : decode cX7_had 1 = .ok (.getfield 26, 3) := by decide +kernel
theorem dX7_had_10 : decode cX7_had 10 = .ok (.ldc 141, 2) := by decide +kernel
theorem dX7_had_12 : decode cX7_had 12 = .ok (.ireturn, 1) := by decide +kernel
theorem dX7_had_4 : decode cX7_had 4 = .ok (.invokevirtual 145, 3) := by decide +kernel
theorem dX7_had_7 : decode cX7_had 7 = .ok (.ifCond .ne 6, 3) := by decide +kernel
theorem dX7_hours_0 : decode cX7_hours 0 = .ok (.aload_n 0, 1) := by decide +kernel
theorem dX7_hours_1 : decode cX7_hours 1 = .ok (.getfield 26, 3) := by decide +kernel
theorem dX7_hours_10 : decode cX7_hours 10 = .ok (.ldc 141, 2) := by decide +kernel
theorem dX7_hours_12 : decode cX7_hours 12 = .ok (.ireturn, 1) := by decide +kernel
theorem dX7_hours_4 : decode cX7_hours 4 = .ok (.invokevirtual 145, 3) := by decide +kernel
theorem dX7_hours_7 : decode cX7_hours 7 = .ok (.ifCond .ne 6, 3) := by decide +kernel
theorem dX7_image_0 : decode cX7_image 0 = .ok (.iload_n 1, 1) := by decide +kernel
theorem dX7_image_1 : decode cX7_image 1 = .ok (.ifCond .lt 12, 3) := by decide +kernel
theorem dX7_image_10 : decode cX7_image 10 = .ok (.if_icmp .lt 6, 3) := by decide +kernel
theorem dX7_image_13 : decode cX7_image 13 = .ok (.ldc 72, 2) := by decide +kernel
theorem dX7_image_15 : decode cX7_image 15 = .ok (.ireturn, 1) := by decide +kernel
theorem dX7_image_16 : decode cX7_image 16 = .ok (.aload_n 0, 1) := by decide +kernel
theorem dX7_image_17 : decode cX7_image 17 = .ok (.getfield 26, 3) := by decide +kernel
theorem dX7_image_20 : decode cX7_image 20 = .ok (.invokevirtual 145, 3) := by decide +kernel
theorem dX7_image_23 : decode cX7_image 23 = .ok (.ifCond .ne 6, 3) := by decide +kernel
theorem dX7_image_26 : decode cX7_image 26 = .ok (.ldc 141, 2) := by decide +kernel
theorem dX7_image_28 : decode cX7_image 28 = .ok (.ireturn, 1) := by decide +kernel
theorem dX7_image_4 : decode cX7_image 4 = .ok (.iload_n 1, 1) := by decide +kernel
theorem dX7_image_5 : decode cX7_image 5 = .ok (.aload_n 0, 1) := by decide +kernel
theorem dX7_image_6 : decode cX7_image 6 = .ok (.getfield 37, 3) := by decide +kernel
theorem dX7_image_9 : decode cX7_image 9 = .ok (.arraylength, 1) := by decide +kernel
theorem dX7_init_0 : decode cX7_init 0 = .ok (.aload_n 0, 1) := by decide +kernel
theorem dX7_init_1 : decode cX7_init 1 = .ok (.invokespecial 1, 3) := by decide +kernel
theorem dX7_init_102 : decode cX7_init 102 = .ok (.dup, 1) := by decide +kernel
theorem dX7_init_103 : decode cX7_init 103 = .ok (.invokespecial 53, 3) := by decide +kernel
theorem dX7_init_106 : decode cX7_init 106 = .ok (.putfield 54, 3) := by decide +kernel
theorem dX7_init_109 : decode cX7_init 109 = .ok (.aload_n 0, 1) := by decide +kernel
theorem dX7_init_110 : decode cX7_init 110 = .ok (.new 58, 3) := by decide +kernel
theorem dX7_init_113 : decode cX7_init 113 = .ok (.dup, 1) := by decide +kernel
theorem dX7_init_114 : decode cX7_init 114 = .ok (.invokespecial 60, 3) := by decide +kernel
theorem dX7_init_117 : decode cX7_init 117 = .ok (.putfield 61, 3) := by decide +kernel
theorem dX7_init_12 : decode cX7_init 12 = .ok (.putfield 10, 3) := by decide +kernel
theorem dX7_init_120 : decode cX7_init 120 = .ok (.return_, 1) := by decide +kernel
theorem dX7_init_15 : decode cX7_init 15 = .ok (.aload_n 0, 1) := by decide +kernel
theorem dX7_init_16 : decode cX7_init 16 = .ok (.new 16, 3) := by decide +kernel
theorem dX7_init_19 : decode cX7_init 19 = .ok (.dup, 1) := by decide +kernel
theorem dX7_init_20 : decode cX7_init 20 = .ok (.invokespecial 18, 3) := by decide +kernel
theorem dX7_init_23 : decode cX7_init 23 = .ok (.putfield 19, 3) := by decide +kernel
theorem dX7_init_26 : decode cX7_init 26 = .ok (.aload_n 0, 1) := by decide +kernel
theorem dX7_init_27 : decode cX7_init 27 = .ok (.new 23, 3) := by decide +kernel
theorem dX7_init_30 : decode cX7_init 30 = .ok (.dup, 1) := by decide +kernel
theorem dX7_init_31 : decode cX7_init 31 = .ok (.invokespecial 25, 3) := by decide +kernel
theorem dX7_init_34 : decode cX7_init 34 = .ok (.putfield 26, 3) := by decide +kernel
theorem dX7_init_37 : decode cX7_init 37 = .ok (.aload_n 0, 1) := by decide +kernel
theorem dX7_init_38 : decode cX7_init 38 = .ok (.new 30, 3) := by decide +kernel
theorem dX7_init_4 : decode cX7_init 4 = .ok (.aload_n 0, 1) := by decide +kernel
theorem dX7_init_41 : decode cX7_init 41 = .ok (.dup, 1) := by decide +kernel
theorem dX7_init_42 : decode cX7_init 42 = .ok (.invokespecial 32, 3) := by decide +kernel
theorem dX7_init_45 : decode cX7_init 45 = .ok (.putfield 33, 3) := by decide +kernel
theorem dX7_init_48 : decode cX7_init 48 = .ok (.aload_n 0, 1) := by decide +kernel
theorem dX7_init_49 : decode cX7_init 49 = .ok (.iconst 2, 1) := by decide +kernel
theorem dX7_init_5 : decode cX7_init 5 = .ok (.new 7, 3) := by decide +kernel
theorem dX7_init_50 : decode cX7_init 50 = .ok (.anewarray 23, 3) := by decide +kernel
theorem dX7_init_53 : decode cX7_init 53 = .ok (.dup, 1) := by decide +kernel
theorem dX7_init_54 : decode cX7_init 54 = .ok (.iconst 0, 1) := by decide +kernel
theorem dX7_init_55 : decode cX7_init 55 = .ok (.new 23, 3) := by decide +kernel
theorem dX7_init_58 : decode cX7_init 58 = .ok (.dup, 1) := by decide +kernel
theorem dX7_init_59 : decode cX7_init 59 = .ok (.invokespecial 25, 3) := by decide +kernel
theorem dX7_init_62 : decode cX7_init 62 = .ok (.aastore, 1) := by decide +kernel
theorem dX7_init_63 : decode cX7_init 63 = .ok (.dup, 1) := by decide +kernel
theorem dX7_init_64 : decode cX7_init 64 = .ok (.iconst 1, 1) := by decide +kernel
theorem dX7_init_65 : decode cX7_init 65 = .ok (.new 23, 3) := by decide +kernel
theorem dX7_init_68 : decode cX7_init 68 = .ok (.dup, 1) := by decide +kernel
theorem dX7_init_69 : decode cX7_init 69 = .ok (.invokespecial 25, 3) := by decide +kernel
theorem dX7_init_72 : decode cX7_init 72 = .ok (.aastore, 1) := by decide +kernel
theorem dX7_init_73 : decode cX7_init 73 = .ok (.putfield 37, 3) := by decide +kernel
theorem dX7_init_76 : decode cX7_init 76 = .ok (.aload_n 0, 1) := by decide +kernel
theorem dX7_init_77 : decode cX7_init 77 = .ok (.new 23, 3) := by decide +kernel
theorem dX7_init_8 : decode cX7_init 8 = .ok (.dup, 1) := by decide +kernel
theorem dX7_init_80 : decode cX7_init 80 = .ok (.dup, 1) := by decide +kernel
theorem dX7_init_81 : decode cX7_init 81 = .ok (.invokespecial 25, 3) := by decide +kernel
theorem dX7_init_84 : decode cX7_init 84 = .ok (.putfield 41, 3) := by decide +kernel
theorem dX7_init_87 : decode cX7_init 87 = .ok (.aload_n 0, 1) := by decide +kernel
theorem dX7_init_88 : decode cX7_init 88 = .ok (.new 44, 3) := by decide +kernel
theorem dX7_init_9 : decode cX7_init 9 = .ok (.invokespecial 9, 3) := by decide +kernel
theorem dX7_init_91 : decode cX7_init 91 = .ok (.dup, 1) := by decide +kernel
theorem dX7_init_92 : decode cX7_init 92 = .ok (.invokespecial 46, 3) := by decide +kernel
theorem dX7_init_95 : decode cX7_init 95 = .ok (.putfield 47, 3) := by decide +kernel
theorem dX7_init_98 : decode cX7_init 98 = .ok (.aload_n 0, 1) := by decide +kernel
theorem dX7_init_99 : decode cX7_init 99 = .ok (.new 51, 3) := by decide +kernel
theorem dX7_kind_0 : decode cX7_kind 0 = .ok (.aload_n 0, 1) := by decide +kernel
theorem dX7_kind_1 : decode cX7_kind 1 = .ok (.getfield 26, 3) := by decide +kernel
theorem dX7_kind_23 : decode cX7_kind 23 = .ok (.ldc 72, 2) := by decide +kernel
theorem dX7_kind_25 : decode cX7_kind 25 = .ok (.ireturn, 1) := by decide +kernel
theorem dX7_kind_4 : decode cX7_kind 4 = .ok (.iload_n 1, 1) := by decide +kernel
theorem dX7_kind_5 : decode cX7_kind 5 = .ok (.invokevirtual 173, 3) := by decide +kernel
theorem dX7_kind_8 : decode cX7_kind 8 = .ok (.ifCond .eq 15, 3) := by decide +kernel
theorem dX7_level_0 : decode cX7_level 0 = .ok (.aload_n 0, 1) := by decide +kernel
theorem dX7_level_1 : decode cX7_level 1 = .ok (.getfield 19, 3) := by decide +kernel
theorem dX7_level_12 : decode cX7_level 12 = .ok (.aload_n 0, 1) := by decide +kernel
theorem dX7_level_13 : decode cX7_level 13 = .ok (.iload_n 1, 1) := by decide +kernel
theorem dX7_level_14 : decode cX7_level 14 = .ok (.putfield 117, 3) := by decide +kernel
theorem dX7_level_17 : decode cX7_level 17 = .ok (.ldc 121, 2) := by decide +kernel
theorem dX7_level_19 : decode cX7_level 19 = .ok (.aload_n 0, 1) := by decide +kernel
theorem dX7_level_20 : decode cX7_level 20 = .ok (.getfield 19, 3) := by decide +kernel
theorem dX7_level_23 : decode cX7_level 23 = .ok (.getfield 122, 3) := by decide +kernel
theorem dX7_level_26 : decode cX7_level 26 = .ok (.isub, 1) := by decide +kernel
theorem dX7_level_27 : decode cX7_level 27 = .ok (.ireturn, 1) := by decide +kernel
theorem dX7_level_4 : decode cX7_level 4 = .ok (.invokevirtual 113, 3) := by decide +kernel
theorem dX7_level_7 : decode cX7_level 7 = .ok (.istore_n 1, 1) := by decide +kernel
theorem dX7_level_8 : decode cX7_level 8 = .ok (.iload_n 1, 1) := by decide +kernel
theorem dX7_level_9 : decode cX7_level 9 = .ok (.ifCond .eq 19, 3) := by decide +kernel
theorem dX7_loose_0 : decode cX7_loose 0 = .ok (.aload_n 0, 1) := by decide +kernel
theorem dX7_loose_1 : decode cX7_loose 1 = .ok (.getfield 26, 3) := by decide +kernel
theorem dX7_loose_33 : decode cX7_loose 33 = .ok (.ldc 72, 2) := by decide +kernel
theorem dX7_loose_35 : decode cX7_loose 35 = .ok (.ireturn, 1) := by decide +kernel
theorem dX7_loose_4 : decode cX7_loose 4 = .ok (.iload_n 1, 1) := by decide +kernel
theorem dX7_loose_5 : decode cX7_loose 5 = .ok (.invokevirtual 173, 3) := by decide +kernel
theorem dX7_loose_8 : decode cX7_loose 8 = .ok (.ifCond .eq 25, 3) := by decide +kernel
theorem dX7_meal_0 : decode cX7_meal 0 = .ok (.aload_n 0, 1) := by decide +kernel
theorem dX7_meal_1 : decode cX7_meal 1 = .ok (.getfield 26, 3) := by decide +kernel
theorem dX7_meal_10 : decode cX7_meal 10 = .ok (.ldc 141, 2) := by decide +kernel
theorem dX7_meal_12 : decode cX7_meal 12 = .ok (.ireturn, 1) := by decide +kernel
theorem dX7_meal_4 : decode cX7_meal 4 = .ok (.invokevirtual 145, 3) := by decide +kernel
theorem dX7_meal_7 : decode cX7_meal 7 = .ok (.ifCond .ne 6, 3) := by decide +kernel
theorem dX7_restore_0 : decode cX7_restore 0 = .ok (.iload_n 1, 1) := by decide +kernel
theorem dX7_restore_1 : decode cX7_restore 1 = .ok (.ifCond .lt 12, 3) := by decide +kernel
theorem dX7_restore_10 : decode cX7_restore 10 = .ok (.if_icmp .lt 6, 3) := by decide +kernel
theorem dX7_restore_13 : decode cX7_restore 13 = .ok (.ldc 72, 2) := by decide +kernel
theorem dX7_restore_15 : decode cX7_restore 15 = .ok (.ireturn, 1) := by decide +kernel
theorem dX7_restore_16 : decode cX7_restore 16 = .ok (.aload_n 0, 1) := by decide +kernel
theorem dX7_restore_17 : decode cX7_restore 17 = .ok (.getfield 37, 3) := by decide +kernel
theorem dX7_restore_20 : decode cX7_restore 20 = .ok (.iload_n 1, 1) := by decide +kernel
theorem dX7_restore_21 : decode cX7_restore 21 = .ok (.aaload, 1) := by decide +kernel
theorem dX7_restore_22 : decode cX7_restore 22 = .ok (.invokevirtual 145, 3) := by decide +kernel
theorem dX7_restore_25 : decode cX7_restore 25 = .ok (.ifCond .ne 6, 3) := by decide +kernel
theorem dX7_restore_28 : decode cX7_restore 28 = .ok (.ldc 141, 2) := by decide +kernel
theorem dX7_restore_30 : decode cX7_restore 30 = .ok (.ireturn, 1) := by decide +kernel
theorem dX7_restore_4 : decode cX7_restore 4 = .ok (.iload_n 1, 1) := by decide +kernel
theorem dX7_restore_5 : decode cX7_restore 5 = .ok (.aload_n 0, 1) := by decide +kernel
theorem dX7_restore_6 : decode cX7_restore 6 = .ok (.getfield 37, 3) := by decide +kernel
theorem dX7_restore_9 : decode cX7_restore 9 = .ok (.arraylength, 1) := by decide +kernel
theorem dX7_row_0 : decode cX7_row 0 = .ok (.iload_n 1, 1) := by decide +kernel
theorem dX7_row_1 : decode cX7_row 1 = .ok (.invokestatic 65, 3) := by decide +kernel
theorem dX7_row_11 : decode cX7_row 11 = .ok (.ifCond .eq 9, 3) := by decide +kernel
theorem dX7_row_14 : decode cX7_row 14 = .ok (.iload_n 3, 1) := by decide +kernel
theorem dX7_row_15 : decode cX7_row 15 = .ok (.bipush 40, 2) := by decide +kernel
theorem dX7_row_17 : decode cX7_row 17 = .ok (.if_icmp .le 6, 3) := by decide +kernel
theorem dX7_row_20 : decode cX7_row 20 = .ok (.ldc 72, 2) := by decide +kernel
theorem dX7_row_22 : decode cX7_row 22 = .ok (.ireturn, 1) := by decide +kernel
theorem dX7_row_23 : decode cX7_row 23 = .ok (.iload_n 3, 1) := by decide +kernel
theorem dX7_row_24 : decode cX7_row 24 = .ok (.ifCond .ge 9, 3) := by decide +kernel
theorem dX7_row_27 : decode cX7_row 27 = .ok (.aload_n 0, 1) := by decide +kernel
theorem dX7_row_28 : decode cX7_row 28 = .ok (.iconst 4, 1) := by decide +kernel
theorem dX7_row_29 : decode cX7_row 29 = .ok (.invokevirtual 73, 3) := by decide +kernel
theorem dX7_row_32 : decode cX7_row 32 = .ok (.ireturn, 1) := by decide +kernel
theorem dX7_row_33 : decode cX7_row 33 = .ok (.aload_n 0, 1) := by decide +kernel
theorem dX7_row_34 : decode cX7_row 34 = .ok (.getfield 10, 3) := by decide +kernel
theorem dX7_row_37 : decode cX7_row 37 = .ok (.iload_n 1, 1) := by decide +kernel
theorem dX7_row_38 : decode cX7_row 38 = .ok (.iload_n 2, 1) := by decide +kernel
theorem dX7_row_39 : decode cX7_row 39 = .ok (.iload_n 3, 1) := by decide +kernel
theorem dX7_row_4 : decode cX7_row 4 = .ok (.ifCond .eq 16, 3) := by decide +kernel
theorem dX7_row_40 : decode cX7_row 40 = .ok (.invokevirtual 77, 3) := by decide +kernel
theorem dX7_row_43 : decode cX7_row 43 = .ok (.aload_n 0, 1) := by decide +kernel
theorem dX7_row_44 : decode cX7_row 44 = .ok (.iload_n 3, 1) := by decide +kernel
theorem dX7_row_45 : decode cX7_row 45 = .ok (.invokevirtual 81, 3) := by decide +kernel
theorem dX7_row_48 : decode cX7_row 48 = .ok (.ireturn, 1) := by decide +kernel
theorem dX7_row_7 : decode cX7_row 7 = .ok (.iload_n 2, 1) := by decide +kernel
theorem dX7_row_8 : decode cX7_row 8 = .ok (.invokestatic 69, 3) := by decide +kernel
theorem dX7_sack_0 : decode cX7_sack 0 = .ok (.aload_n 0, 1) := by decide +kernel
theorem dX7_sack_1 : decode cX7_sack 1 = .ok (.getfield 26, 3) := by decide +kernel
theorem dX7_sack_10 : decode cX7_sack 10 = .ok (.ldc 141, 2) := by decide +kernel
theorem dX7_sack_12 : decode cX7_sack 12 = .ok (.ireturn, 1) := by decide +kernel
theorem dX7_sack_4 : decode cX7_sack 4 = .ok (.invokevirtual 145, 3) := by decide +kernel
theorem dX7_sack_7 : decode cX7_sack 7 = .ok (.ifCond .ne 6, 3) := by decide +kernel
theorem dX7_sell_0 : decode cX7_sell 0 = .ok (.aload_n 0, 1) := by decide +kernel
theorem dX7_sell_1 : decode cX7_sell 1 = .ok (.getfield 26, 3) := by decide +kernel
theorem dX7_sell_10 : decode cX7_sell 10 = .ok (.ldc 141, 2) := by decide +kernel
theorem dX7_sell_12 : decode cX7_sell 12 = .ok (.ireturn, 1) := by decide +kernel
theorem dX7_sell_4 : decode cX7_sell 4 = .ok (.invokevirtual 145, 3) := by decide +kernel
theorem dX7_sell_7 : decode cX7_sell 7 = .ok (.ifCond .ne 6, 3) := by decide +kernel
theorem dX7_set_0 : decode cX7_set 0 = .ok (.iload_n 1, 1) := by decide +kernel
theorem dX7_set_1 : decode cX7_set 1 = .ok (.invokestatic 65, 3) := by decide +kernel
theorem dX7_set_10 : decode cX7_set 10 = .ok (.aload_n 0, 1) := by decide +kernel
theorem dX7_set_11 : decode cX7_set 11 = .ok (.getfield 10, 3) := by decide +kernel
theorem dX7_set_14 : decode cX7_set 14 = .ok (.iload_n 1, 1) := by decide +kernel
theorem dX7_set_15 : decode cX7_set 15 = .ok (.iload_n 2, 1) := by decide +kernel
theorem dX7_set_16 : decode cX7_set 16 = .ok (.iconst 1, 1) := by decide +kernel
theorem dX7_set_17 : decode cX7_set 17 = .ok (.invokevirtual 84, 3) := by decide +kernel
theorem dX7_set_20 : decode cX7_set 20 = .ok (.istore 4, 2) := by decide +kernel
theorem dX7_set_22 : decode cX7_set 22 = .ok (.iload 4, 2) := by decide +kernel
theorem dX7_set_24 : decode cX7_set 24 = .ok (.ifCond .eq 10, 3) := by decide +kernel
theorem dX7_set_27 : decode cX7_set 27 = .ok (.aload_n 0, 1) := by decide +kernel
theorem dX7_set_28 : decode cX7_set 28 = .ok (.iload 4, 2) := by decide +kernel
theorem dX7_set_30 : decode cX7_set 30 = .ok (.invokevirtual 73, 3) := by decide +kernel
theorem dX7_set_33 : decode cX7_set 33 = .ok (.ireturn, 1) := by decide +kernel
theorem dX7_set_4 : decode cX7_set 4 = .ok (.ifCond .ne 6, 3) := by decide +kernel
theorem dX7_set_7 : decode cX7_set 7 = .ok (.ldc 72, 2) := by decide +kernel
theorem dX7_set_9 : decode cX7_set 9 = .ok (.ireturn, 1) := by decide +kernel
theorem dX7_share_0 : decode cX7_share 0 = .ok (.aload_n 0, 1) := by decide +kernel
theorem dX7_share_1 : decode cX7_share 1 = .ok (.getfield 26, 3) := by decide +kernel
theorem dX7_share_22 : decode cX7_share 22 = .ok (.ldc 72, 2) := by decide +kernel
theorem dX7_share_24 : decode cX7_share 24 = .ok (.ireturn, 1) := by decide +kernel
theorem dX7_share_4 : decode cX7_share 4 = .ok (.iload_n 1, 1) := by decide +kernel
theorem dX7_share_5 : decode cX7_share 5 = .ok (.invokevirtual 173, 3) := by decide +kernel
theorem dX7_share_8 : decode cX7_share 8 = .ok (.ifCond .eq 14, 3) := by decide +kernel
theorem dX7_site_0 : decode cX7_site 0 = .ok (.aload_n 0, 1) := by decide +kernel
theorem dX7_site_1 : decode cX7_site 1 = .ok (.getfield 26, 3) := by decide +kernel
theorem dX7_site_10 : decode cX7_site 10 = .ok (.ldc 141, 2) := by decide +kernel
theorem dX7_site_12 : decode cX7_site 12 = .ok (.ireturn, 1) := by decide +kernel
theorem dX7_site_4 : decode cX7_site 4 = .ok (.invokevirtual 145, 3) := by decide +kernel
theorem dX7_site_7 : decode cX7_site 7 = .ok (.ifCond .ne 6, 3) := by decide +kernel
theorem dX7_sound_0 : decode cX7_sound 0 = .ok (.aload_n 0, 1) := by decide +kernel
theorem dX7_sound_1 : decode cX7_sound 1 = .ok (.getfield 26, 3) := by decide +kernel
theorem dX7_sound_20 : decode cX7_sound 20 = .ok (.ldc 72, 2) := by decide +kernel
theorem dX7_sound_22 : decode cX7_sound 22 = .ok (.ireturn, 1) := by decide +kernel
theorem dX7_sound_4 : decode cX7_sound 4 = .ok (.iload_n 1, 1) := by decide +kernel
theorem dX7_sound_5 : decode cX7_sound 5 = .ok (.invokevirtual 173, 3) := by decide +kernel
theorem dX7_sound_8 : decode cX7_sound 8 = .ok (.ifCond .eq 12, 3) := by decide +kernel
theorem dX7_stand_0 : decode cX7_stand 0 = .ok (.aload_n 0, 1) := by decide +kernel
theorem dX7_stand_1 : decode cX7_stand 1 = .ok (.getfield 26, 3) := by decide +kernel
theorem dX7_stand_10 : decode cX7_stand 10 = .ok (.ldc 141, 2) := by decide +kernel
theorem dX7_stand_12 : decode cX7_stand 12 = .ok (.ireturn, 1) := by decide +kernel
theorem dX7_stand_4 : decode cX7_stand 4 = .ok (.invokevirtual 145, 3) := by decide +kernel
theorem dX7_stand_7 : decode cX7_stand 7 = .ok (.ifCond .ne 6, 3) := by decide +kernel
theorem dX7_status_0 : decode cX7_status 0 = .ok (.aload_n 0, 1) := by decide +kernel
theorem dX7_status_1 : decode cX7_status 1 = .ok (.getfield 323, 3) := by decide +kernel
theorem dX7_status_4 : decode cX7_status 4 = .ok (.ireturn, 1) := by decide +kernel
theorem dX7_trace_0 : decode cX7_trace 0 = .ok (.iload_n 1, 1) := by decide +kernel
theorem dX7_trace_1 : decode cX7_trace 1 = .ok (.ifCond .lt 26, 3) := by decide +kernel
theorem dX7_trace_12 : decode cX7_trace 12 = .ok (.if_icmp .ge 15, 3) := by decide +kernel
theorem dX7_trace_27 : decode cX7_trace 27 = .ok (.ldc 220, 2) := by decide +kernel
theorem dX7_trace_29 : decode cX7_trace 29 = .ok (.ireturn, 1) := by decide +kernel
theorem dX7_trace_4 : decode cX7_trace 4 = .ok (.iload_n 1, 1) := by decide +kernel
theorem dX7_trace_5 : decode cX7_trace 5 = .ok (.aload_n 0, 1) := by decide +kernel
theorem dX7_trace_6 : decode cX7_trace 6 = .ok (.getfield 61, 3) := by decide +kernel
theorem dX7_trace_9 : decode cX7_trace 9 = .ok (.getfield 313, 3) := by decide +kernel
theorem dX7_undo_0 : decode cX7_undo 0 = .ok (.aload_n 0, 1) := by decide +kernel
theorem dX7_undo_1 : decode cX7_undo 1 = .ok (.getfield 33, 3) := by decide +kernel
theorem dX7_undo_10 : decode cX7_undo 10 = .ok (.ldc 141, 2) := by decide +kernel
theorem dX7_undo_12 : decode cX7_undo 12 = .ok (.ireturn, 1) := by decide +kernel
theorem dX7_undo_4 : decode cX7_undo 4 = .ok (.getfield 138, 3) := by decide +kernel
theorem dX7_undo_7 : decode cX7_undo 7 = .ok (.ifCond .ne 6, 3) := by decide +kernel
theorem dX7_when_0 : decode cX7_when 0 = .ok (.aload_n 0, 1) := by decide +kernel
theorem dX7_when_1 : decode cX7_when 1 = .ok (.getfield 26, 3) := by decide +kernel
theorem dX7_when_21 : decode cX7_when 21 = .ok (.ldc 72, 2) := by decide +kernel
theorem dX7_when_23 : decode cX7_when 23 = .ok (.ireturn, 1) := by decide +kernel
theorem dX7_when_4 : decode cX7_when 4 = .ok (.iload_n 1, 1) := by decide +kernel
theorem dX7_when_5 : decode cX7_when 5 = .ok (.invokevirtual 173, 3) := by decide +kernel
theorem dX7_when_8 : decode cX7_when 8 = .ok (.ifCond .eq 13, 3) := by decide +kernel
theorem dX7_who_0 : decode cX7_who 0 = .ok (.aload_n 0, 1) := by decide +kernel
theorem dX7_who_1 : decode cX7_who 1 = .ok (.getfield 26, 3) := by decide +kernel
theorem dX7_who_29 : decode cX7_who 29 = .ok (.ldc 72, 2) := by decide +kernel
theorem dX7_who_31 : decode cX7_who 31 = .ok (.ireturn, 1) := by decide +kernel
theorem dX7_who_4 : decode cX7_who 4 = .ok (.iload_n 1, 1) := by decide +kernel
theorem dX7_who_5 : decode cX7_who 5 = .ok (.invokevirtual 173, 3) := by decide +kernel
theorem dX7_who_8 : decode cX7_who 8 = .ok (.ifCond .eq 21, 3) := by decide +kernel
theorem dX7_wind_0 : decode cX7_wind 0 = .ok (.aload_n 0, 1) := by decide +kernel
theorem dX7_wind_1 : decode cX7_wind 1 = .ok (.getfield 26, 3) := by decide +kernel
theorem dX7_wind_20 : decode cX7_wind 20 = .ok (.ldc 72, 2) := by decide +kernel
theorem dX7_wind_22 : decode cX7_wind 22 = .ok (.ireturn, 1) := by decide +kernel
theorem dX7_wind_4 : decode cX7_wind 4 = .ok (.iload_n 1, 1) := by decide +kernel
theorem dX7_wind_5 : decode cX7_wind 5 = .ok (.invokevirtual 166, 3) := by decide +kernel
theorem dX7_wind_8 : decode cX7_wind 8 = .ok (.ifCond .eq 12, 3) := by decide +kernel
theorem dX8_ahead_0 : decode cX8_ahead 0 = .ok (.aload_n 0, 1) := by decide +kernel
theorem dX8_ahead_1 : decode cX8_ahead 1 = .ok (.iload_n 1, 1) := by decide +kernel
theorem dX8_ahead_2 : decode cX8_ahead 2 = .ok (.invokevirtual 173, 3) := by decide +kernel
theorem dX8_ahead_32 : decode cX8_ahead 32 = .ok (.ldc 67, 2) := by decide +kernel
theorem dX8_ahead_34 : decode cX8_ahead 34 = .ok (.ireturn, 1) := by decide +kernel
theorem dX8_ahead_5 : decode cX8_ahead 5 = .ok (.ifCond .eq 27, 3) := by decide +kernel
theorem dX8_as_0 : decode cX8_as 0 = .ok (.aload_n 0, 1) := by decide +kernel
theorem dX8_as_1 : decode cX8_as 1 = .ok (.iload_n 1, 1) := by decide +kernel
theorem dX8_as_2 : decode cX8_as 2 = .ok (.invokevirtual 173, 3) := by decide +kernel
theorem dX8_as_20 : decode cX8_as 20 = .ok (.ldc 67, 2) := by decide +kernel
theorem dX8_as_22 : decode cX8_as 22 = .ok (.ireturn, 1) := by decide +kernel
theorem dX8_as_5 : decode cX8_as 5 = .ok (.ifCond .eq 15, 3) := by decide +kernel
theorem dX8_ask_0 : decode cX8_ask 0 = .ok (.aload_n 0, 1) := by decide +kernel
theorem dX8_ask_1 : decode cX8_ask 1 = .ok (.iload_n 1, 1) := by decide +kernel
theorem dX8_ask_18 : decode cX8_ask 18 = .ok (.ldc 67, 2) := by decide +kernel
theorem dX8_ask_2 : decode cX8_ask 2 = .ok (.invokevirtual 173, 3) := by decide +kernel
theorem dX8_ask_20 : decode cX8_ask 20 = .ok (.ireturn, 1) := by decide +kernel
theorem dX8_ask_5 : decode cX8_ask 5 = .ok (.ifCond .eq 13, 3) := by decide +kernel
theorem dX8_byTurns_0 : decode cX8_byTurns 0 = .ok (.aload_n 0, 1) := by decide +kernel
theorem dX8_byTurns_1 : decode cX8_byTurns 1 = .ok (.getfield 138, 3) := by decide +kernel
theorem dX8_byTurns_4 : decode cX8_byTurns 4 = .ok (.ifCond .ne 6, 3) := by decide +kernel
theorem dX8_byTurns_7 : decode cX8_byTurns 7 = .ok (.ldc 161, 2) := by decide +kernel
theorem dX8_byTurns_9 : decode cX8_byTurns 9 = .ok (.ireturn, 1) := by decide +kernel
theorem dX8_calm_0 : decode cX8_calm 0 = .ok (.aload_n 0, 1) := by decide +kernel
theorem dX8_calm_1 : decode cX8_calm 1 = .ok (.iload_n 1, 1) := by decide +kernel
theorem dX8_calm_2 : decode cX8_calm 2 = .ok (.invokevirtual 173, 3) := by decide +kernel
theorem dX8_calm_40 : decode cX8_calm 40 = .ok (.ldc2_w 240, 3) := by decide +kernel
theorem dX8_calm_43 : decode cX8_calm 43 = .ok (.lreturn, 1) := by decide +kernel
theorem dX8_calm_5 : decode cX8_calm 5 = .ok (.ifCond .eq 35, 3) := by decide +kernel
theorem dX8_cap_0 : decode cX8_cap 0 = .ok (.aload_n 0, 1) := by decide +kernel
theorem dX8_cap_1 : decode cX8_cap 1 = .ok (.getfield 138, 3) := by decide +kernel
theorem dX8_cap_4 : decode cX8_cap 4 = .ok (.ifCond .ne 6, 3) := by decide +kernel
theorem dX8_cap_7 : decode cX8_cap 7 = .ok (.ldc 161, 2) := by decide +kernel
theorem dX8_cap_9 : decode cX8_cap 9 = .ok (.ireturn, 1) := by decide +kernel
theorem dX8_caps_0 : decode cX8_caps 0 = .ok (.aload_n 0, 1) := by decide +kernel
theorem dX8_caps_1 : decode cX8_caps 1 = .ok (.getfield 138, 3) := by decide +kernel
theorem dX8_caps_4 : decode cX8_caps 4 = .ok (.ifCond .ne 6, 3) := by decide +kernel
theorem dX8_caps_7 : decode cX8_caps 7 = .ok (.ldc 161, 2) := by decide +kernel
theorem dX8_caps_9 : decode cX8_caps 9 = .ok (.ireturn, 1) := by decide +kernel
theorem dX8_copy_0 : decode cX8_copy 0 = .ok (.iload_n 1, 1) := by decide +kernel
theorem dX8_copy_1 : decode cX8_copy 1 = .ok (.invokestatic 61, 3) := by decide +kernel
theorem dX8_copy_11 : decode cX8_copy 11 = .ok (.ifCond .ne 6, 3) := by decide +kernel
theorem dX8_copy_14 : decode cX8_copy 14 = .ok (.ldc 67, 2) := by decide +kernel
theorem dX8_copy_16 : decode cX8_copy 16 = .ok (.ireturn, 1) := by decide +kernel
theorem dX8_copy_17 : decode cX8_copy 17 = .ok (.aload_n 0, 1) := by decide +kernel
theorem dX8_copy_18 : decode cX8_copy 18 = .ok (.getfield 13, 3) := by decide +kernel
theorem dX8_copy_21 : decode cX8_copy 21 = .ok (.iload_n 1, 1) := by decide +kernel
theorem dX8_copy_22 : decode cX8_copy 22 = .ok (.iaload, 1) := by decide +kernel
theorem dX8_copy_23 : decode cX8_copy 23 = .ok (.ifCond .lt 12, 3) := by decide +kernel
theorem dX8_copy_35 : decode cX8_copy 35 = .ok (.aload_n 0, 1) := by decide +kernel
theorem dX8_copy_36 : decode cX8_copy 36 = .ok (.iconst 1, 1) := by decide +kernel
theorem dX8_copy_37 : decode cX8_copy 37 = .ok (.invokevirtual 68, 3) := by decide +kernel
theorem dX8_copy_4 : decode cX8_copy 4 = .ok (.ifCond .eq 10, 3) := by decide +kernel
theorem dX8_copy_40 : decode cX8_copy 40 = .ok (.ireturn, 1) := by decide +kernel
theorem dX8_copy_7 : decode cX8_copy 7 = .ok (.iload_n 3, 1) := by decide +kernel
theorem dX8_copy_8 : decode cX8_copy 8 = .ok (.invokestatic 61, 3) := by decide +kernel
theorem dX8_count_0 : decode cX8_count 0 = .ok (.iconst 0, 1) := by decide +kernel
theorem dX8_count_1 : decode cX8_count 1 = .ok (.istore_n 2, 1) := by decide +kernel
theorem dX8_count_10 : decode cX8_count 10 = .ok (.iload_n 2, 1) := by decide +kernel
theorem dX8_count_100 : decode cX8_count 100 = .ok (.iconst 5, 1) := by decide +kernel
theorem dX8_count_101 : decode cX8_count 101 = .ok (.iaload, 1) := by decide +kernel
theorem dX8_count_102 : decode cX8_count 102 = .ok (.ireturn, 1) := by decide +kernel
theorem dX8_count_103 : decode cX8_count 103 = .ok (.aload_n 0, 1) := by decide +kernel
theorem dX8_count_104 : decode cX8_count 104 = .ok (.getfield 19, 3) := by decide +kernel
theorem dX8_count_107 : decode cX8_count 107 = .ok (.bipush 7, 2) := by decide +kernel
theorem dX8_count_109 : decode cX8_count 109 = .ok (.iaload, 1) := by decide +kernel
theorem dX8_count_11 : decode cX8_count 11 = .ok (.aload_n 0, 1) := by decide +kernel
theorem dX8_count_110 : decode cX8_count 110 = .ok (.ireturn, 1) := by decide +kernel
theorem dX8_count_111 : decode cX8_count 111 = .ok (.aload_n 0, 1) := by decide +kernel
theorem dX8_count_112 : decode cX8_count 112 = .ok (.iconst 0, 1) := by decide +kernel
theorem dX8_count_113 : decode cX8_count 113 = .ok (.invokevirtual 182, 3) := by decide +kernel
theorem dX8_count_116 : decode cX8_count 116 = .ok (.invokestatic 254, 3) := by decide +kernel
theorem dX8_count_119 : decode cX8_count 119 = .ok (.ireturn, 1) := by decide +kernel
theorem dX8_count_12 : decode cX8_count 12 = .ok (.getfield 13, 3) := by decide +kernel
theorem dX8_count_120 : decode cX8_count 120 = .ok (.aload_n 0, 1) := by decide +kernel
theorem dX8_count_121 : decode cX8_count 121 = .ok (.getfield 142, 3) := by decide +kernel
theorem dX8_count_124 : decode cX8_count 124 = .ok (.ireturn, 1) := by decide +kernel
theorem dX8_count_125 : decode cX8_count 125 = .ok (.aload_n 0, 1) := by decide +kernel
theorem dX8_count_126 : decode cX8_count 126 = .ok (.getfield 81, 3) := by decide +kernel
theorem dX8_count_129 : decode cX8_count 129 = .ok (.ireturn, 1) := by decide +kernel
theorem dX8_count_130 : decode cX8_count 130 = .ok (.ldc 67, 2) := by decide +kernel
theorem dX8_count_132 : decode cX8_count 132 = .ok (.ireturn, 1) := by decide +kernel
theorem dX8_count_15 : decode cX8_count 15 = .ok (.iload_n 3, 1) := by decide +kernel
theorem dX8_count_16 : decode cX8_count 16 = .ok (.iaload, 1) := by decide +kernel
theorem dX8_count_17 : decode cX8_count 17 = .ok (.ifCond .lt 7, 3) := by decide +kernel
theorem dX8_count_2 : decode cX8_count 2 = .ok (.iconst 0, 1) := by decide +kernel
theorem dX8_count_24 : decode cX8_count 24 = .ok (.iconst 0, 1) := by decide +kernel
theorem dX8_count_25 : decode cX8_count 25 = .ok (.iadd, 1) := by decide +kernel
theorem dX8_count_26 : decode cX8_count 26 = .ok (.istore_n 2, 1) := by decide +kernel
theorem dX8_count_27 : decode cX8_count 27 = .ok (.iinc 3 1, 3) := by decide +kernel
theorem dX8_count_3 : decode cX8_count 3 = .ok (.istore_n 3, 1) := by decide +kernel
theorem dX8_count_30 : decode cX8_count 30 = .ok (.goto (-26), 3) := by decide +kernel
theorem dX8_count_33 : decode cX8_count 33 = .ok (.iload_n 1, 1) := by decide +kernel
theorem dX8_count_34 : decode cX8_count 34 = .ok (.tableswitch 96 0 7 #[46, 48, 55, 62, 69, 77, 86, 91], 46) := by decide +kernel
theorem dX8_count_4 : decode cX8_count 4 = .ok (.iload_n 3, 1) := by decide +kernel
theorem dX8_count_5 : decode cX8_count 5 = .ok (.bipush 8, 2) := by decide +kernel
theorem dX8_count_7 : decode cX8_count 7 = .ok (.if_icmp .ge 26, 3) := by decide +kernel
theorem dX8_count_80 : decode cX8_count 80 = .ok (.iload_n 2, 1) := by decide +kernel
theorem dX8_count_81 : decode cX8_count 81 = .ok (.ireturn, 1) := by decide +kernel
theorem dX8_count_82 : decode cX8_count 82 = .ok (.aload_n 0, 1) := by decide +kernel
theorem dX8_count_83 : decode cX8_count 83 = .ok (.getfield 19, 3) := by decide +kernel
theorem dX8_count_86 : decode cX8_count 86 = .ok (.iconst 4, 1) := by decide +kernel
theorem dX8_count_87 : decode cX8_count 87 = .ok (.iaload, 1) := by decide +kernel
theorem dX8_count_88 : decode cX8_count 88 = .ok (.ireturn, 1) := by decide +kernel
theorem dX8_count_89 : decode cX8_count 89 = .ok (.aload_n 0, 1) := by decide +kernel
theorem dX8_count_90 : decode cX8_count 90 = .ok (.getfield 19, 3) := by decide +kernel
theorem dX8_count_93 : decode cX8_count 93 = .ok (.iconst 3, 1) := by decide +kernel
theorem dX8_count_94 : decode cX8_count 94 = .ok (.iaload, 1) := by decide +kernel
theorem dX8_count_95 : decode cX8_count 95 = .ok (.ireturn, 1) := by decide +kernel
theorem dX8_count_96 : decode cX8_count 96 = .ok (.aload_n 0, 1) := by decide +kernel
theorem dX8_count_97 : decode cX8_count 97 = .ok (.getfield 19, 3) := by decide +kernel
theorem dX8_drawn_0 : decode cX8_drawn 0 = .ok (.aload_n 0, 1) := by decide +kernel
theorem dX8_drawn_1 : decode cX8_drawn 1 = .ok (.getfield 138, 3) := by decide +kernel
theorem dX8_drawn_4 : decode cX8_drawn 4 = .ok (.ifCond .ne 6, 3) := by decide +kernel
theorem dX8_drawn_7 : decode cX8_drawn 7 = .ok (.ldc 161, 2) := by decide +kernel
theorem dX8_drawn_9 : decode cX8_drawn 9 = .ok (.ireturn, 1) := by decide +kernel
theorem dX8_drop_0 : decode cX8_drop 0 = .ok (.iload_n 1, 1) := by decide +kernel
theorem dX8_drop_1 : decode cX8_drop 1 = .ok (.invokestatic 61, 3) := by decide +kernel
theorem dX8_drop_10 : decode cX8_drop 10 = .ok (.aload_n 0, 1) := by decide +kernel
theorem dX8_drop_11 : decode cX8_drop 11 = .ok (.getfield 13, 3) := by decide +kernel
theorem dX8_drop_14 : decode cX8_drop 14 = .ok (.iload_n 1, 1) := by decide +kernel
theorem dX8_drop_15 : decode cX8_drop 15 = .ok (.iaload, 1) := by decide +kernel
theorem dX8_drop_16 : decode cX8_drop 16 = .ok (.ifCond .ge 9, 3) := by decide +kernel
theorem dX8_drop_19 : decode cX8_drop 19 = .ok (.aload_n 0, 1) := by decide +kernel
theorem dX8_drop_20 : decode cX8_drop 20 = .ok (.iconst 1, 1) := by decide +kernel
theorem dX8_drop_21 : decode cX8_drop 21 = .ok (.invokevirtual 68, 3) := by decide +kernel
theorem dX8_drop_24 : decode cX8_drop 24 = .ok (.ireturn, 1) := by decide +kernel
theorem dX8_drop_4 : decode cX8_drop 4 = .ok (.ifCond .ne 6, 3) := by decide +kernel
theorem dX8_drop_7 : decode cX8_drop 7 = .ok (.ldc 67, 2) := by decide +kernel
theorem dX8_drop_9 : decode cX8_drop 9 = .ok (.ireturn, 1) := by decide +kernel
theorem dX8_fault_0 : decode cX8_fault 0 = .ok (.aload_n 0, 1) := by decide +kernel
theorem dX8_fault_1 : decode cX8_fault 1 = .ok (.getfield 134, 3) := by decide +kernel
theorem dX8_fault_4 : decode cX8_fault 4 = .ok (.ireturn, 1) := by decide +kernel
theorem dX8_faults_0 : decode cX8_faults 0 = .ok (.aload_n 0, 1) := by decide +kernel
theorem dX8_faults_1 : decode cX8_faults 1 = .ok (.iload_n 1, 1) := by decide +kernel
theorem dX8_faults_2 : decode cX8_faults 2 = .ok (.putfield 105, 3) := by decide +kernel
theorem dX8_faults_5 : decode cX8_faults 5 = .ok (.iconst 0, 1) := by decide +kernel
theorem dX8_faults_6 : decode cX8_faults 6 = .ok (.ireturn, 1) := by decide +kernel
theorem dX8_feed_0 : decode cX8_feed 0 = .ok (.iload_n 1, 1) := by decide +kernel
theorem dX8_feed_1 : decode cX8_feed 1 = .ok (.i2l, 1) := by decide +kernel
theorem dX8_feed_12 : decode cX8_feed 12 = .ok (.ldc 67, 2) := by decide +kernel
theorem dX8_feed_14 : decode cX8_feed 14 = .ok (.ireturn, 1) := by decide +kernel
theorem dX8_feed_15 : decode cX8_feed 15 = .ok (.aload_n 0, 1) := by decide +kernel
theorem dX8_feed_16 : decode cX8_feed 16 = .ok (.getfield 81, 3) := by decide +kernel
theorem dX8_feed_19 : decode cX8_feed 19 = .ok (.bipush 120, 2) := by decide +kernel
theorem dX8_feed_2 : decode cX8_feed 2 = .ok (.lconst 0, 1) := by decide +kernel
theorem dX8_feed_21 : decode cX8_feed 21 = .ok (.if_icmp .ne 6, 3) := by decide +kernel
theorem dX8_feed_27 : decode cX8_feed 27 = .ok (.aload_n 0, 1) := by decide +kernel
theorem dX8_feed_28 : decode cX8_feed 28 = .ok (.getfield 25, 3) := by decide +kernel
theorem dX8_feed_3 : decode cX8_feed 3 = .ok (.ldc2_w 79, 3) := by decide +kernel
theorem dX8_feed_31 : decode cX8_feed 31 = .ok (.aload_n 0, 1) := by decide +kernel
theorem dX8_feed_32 : decode cX8_feed 32 = .ok (.getfield 81, 3) := by decide +kernel
theorem dX8_feed_35 : decode cX8_feed 35 = .ok (.iload_n 1, 1) := by decide +kernel
theorem dX8_feed_36 : decode cX8_feed 36 = .ok (.iastore, 1) := by decide +kernel
theorem dX8_feed_37 : decode cX8_feed 37 = .ok (.aload_n 0, 1) := by decide +kernel
theorem dX8_feed_38 : decode cX8_feed 38 = .ok (.dup, 1) := by decide +kernel
theorem dX8_feed_39 : decode cX8_feed 39 = .ok (.getfield 81, 3) := by decide +kernel
theorem dX8_feed_42 : decode cX8_feed 42 = .ok (.iconst 1, 1) := by decide +kernel
theorem dX8_feed_43 : decode cX8_feed 43 = .ok (.iadd, 1) := by decide +kernel
theorem dX8_feed_44 : decode cX8_feed 44 = .ok (.putfield 81, 3) := by decide +kernel
theorem dX8_feed_47 : decode cX8_feed 47 = .ok (.aload_n 0, 1) := by decide +kernel
theorem dX8_feed_48 : decode cX8_feed 48 = .ok (.getfield 81, 3) := by decide +kernel
theorem dX8_feed_51 : decode cX8_feed 51 = .ok (.ireturn, 1) := by decide +kernel
theorem dX8_feed_6 : decode cX8_feed 6 = .ok (.invokestatic 57, 3) := by decide +kernel
theorem dX8_feed_9 : decode cX8_feed 9 = .ok (.ifCond .ne 6, 3) := by decide +kernel
theorem dX8_find_0 : decode cX8_find 0 = .ok (.aload_n 0, 1) := by decide +kernel
theorem dX8_find_1 : decode cX8_find 1 = .ok (.iload_n 1, 1) := by decide +kernel
theorem dX8_find_2 : decode cX8_find 2 = .ok (.putfield 50, 3) := by decide +kernel
theorem dX8_find_5 : decode cX8_find 5 = .ok (.ldc 54, 2) := by decide +kernel
theorem dX8_find_7 : decode cX8_find 7 = .ok (.iload_n 1, 1) := by decide +kernel
theorem dX8_find_8 : decode cX8_find 8 = .ok (.isub, 1) := by decide +kernel
theorem dX8_find_9 : decode cX8_find 9 = .ok (.ireturn, 1) := by decide +kernel
theorem dX8_gust_0 : decode cX8_gust 0 = .ok (.aload_n 0, 1) := by decide +kernel
theorem dX8_gust_1 : decode cX8_gust 1 = .ok (.getfield 138, 3) := by decide +kernel
theorem dX8_gust_4 : decode cX8_gust 4 = .ok (.ifCond .ne 8, 3) := by decide +kernel
theorem dX8_gust_41 : decode cX8_gust 41 = .ok (.ireturn, 1) := by decide +kernel
theorem dX8_gust_7 : decode cX8_gust 7 = .ok (.ldc 161, 2) := by decide +kernel
theorem dX8_gust_9 : decode cX8_gust 9 = .ok (.goto 32, 3) := by decide +kernel
theorem dX8_gusts_0 : decode cX8_gusts 0 = .ok (.iload_n 1, 1) := by decide +kernel
theorem dX8_gusts_1 : decode cX8_gusts 1 = .ok (.i2l, 1) := by decide +kernel
theorem dX8_gusts_10 : decode cX8_gusts 10 = .ok (.iaload, 1) := by decide +kernel
theorem dX8_gusts_11 : decode cX8_gusts 11 = .ok (.iconst 1, 1) := by decide +kernel
theorem dX8_gusts_12 : decode cX8_gusts 12 = .ok (.isub, 1) := by decide +kernel
theorem dX8_gusts_13 : decode cX8_gusts 13 = .ok (.i2l, 1) := by decide +kernel
theorem dX8_gusts_14 : decode cX8_gusts 14 = .ok (.invokestatic 57, 3) := by decide +kernel
theorem dX8_gusts_17 : decode cX8_gusts 17 = .ok (.ifCond .eq 31, 3) := by decide +kernel
theorem dX8_gusts_2 : decode cX8_gusts 2 = .ok (.ldc2_w 236, 3) := by decide +kernel
theorem dX8_gusts_20 : decode cX8_gusts 20 = .ok (.aload_n 0, 1) := by decide +kernel
theorem dX8_gusts_21 : decode cX8_gusts 21 = .ok (.iload_n 2, 1) := by decide +kernel
theorem dX8_gusts_22 : decode cX8_gusts 22 = .ok (.invokevirtual 173, 3) := by decide +kernel
theorem dX8_gusts_25 : decode cX8_gusts 25 = .ok (.ifCond .eq 23, 3) := by decide +kernel
theorem dX8_gusts_48 : decode cX8_gusts 48 = .ok (.ldc 67, 2) := by decide +kernel
theorem dX8_gusts_5 : decode cX8_gusts 5 = .ok (.aload_n 0, 1) := by decide +kernel
theorem dX8_gusts_50 : decode cX8_gusts 50 = .ok (.ireturn, 1) := by decide +kernel
theorem dX8_gusts_6 : decode cX8_gusts 6 = .ok (.getfield 19, 3) := by decide +kernel
theorem dX8_gusts_9 : decode cX8_gusts 9 = .ok (.iconst 3, 1) := by decide +kernel
theorem dX8_had_0 : decode cX8_had 0 = .ok (.aload_n 0, 1) := by decide +kernel
theorem dX8_had_1 : decode cX8_had 1 = .ok (.getfield 138, 3) := by decide +kernel
theorem dX8_had_4 : decode cX8_had 4 = .ok (.ifCond .ne 6, 3) := by decide +kernel
theorem dX8_had_7 : decode cX8_had 7 = .ok (.ldc 161, 2) := by decide +kernel
theorem dX8_had_9 : decode cX8_had 9 = .ok (.ireturn, 1) := by decide +kernel
theorem dX8_hours_0 : decode cX8_hours 0 = .ok (.aload_n 0, 1) := by decide +kernel
theorem dX8_hours_1 : decode cX8_hours 1 = .ok (.getfield 138, 3) := by decide +kernel
theorem dX8_hours_4 : decode cX8_hours 4 = .ok (.ifCond .ne 6, 3) := by decide +kernel
theorem dX8_hours_7 : decode cX8_hours 7 = .ok (.ldc 161, 2) := by decide +kernel
theorem dX8_hours_9 : decode cX8_hours 9 = .ok (.ireturn, 1) := by decide +kernel
theorem dX8_image_0 : decode cX8_image 0 = .ok (.iload_n 1, 1) := by decide +kernel
theorem dX8_image_1 : decode cX8_image 1 = .ok (.i2l, 1) := by decide +kernel
theorem dX8_image_10 : decode cX8_image 10 = .ok (.ldc 67, 2) := by decide +kernel
theorem dX8_image_12 : decode cX8_image 12 = .ok (.ireturn, 1) := by decide +kernel
theorem dX8_image_13 : decode cX8_image 13 = .ok (.aload_n 0, 1) := by decide +kernel
theorem dX8_image_14 : decode cX8_image 14 = .ok (.getfield 138, 3) := by decide +kernel
theorem dX8_image_17 : decode cX8_image 17 = .ok (.ifCond .ne 6, 3) := by decide +kernel
theorem dX8_image_2 : decode cX8_image 2 = .ok (.lconst 0, 1) := by decide +kernel
theorem dX8_image_20 : decode cX8_image 20 = .ok (.ldc 161, 2) := by decide +kernel
theorem dX8_image_22 : decode cX8_image 22 = .ok (.ireturn, 1) := by decide +kernel
theorem dX8_image_3 : decode cX8_image 3 = .ok (.lconst 1, 1) := by decide +kernel
theorem dX8_image_4 : decode cX8_image 4 = .ok (.invokestatic 57, 3) := by decide +kernel
theorem dX8_image_7 : decode cX8_image 7 = .ok (.ifCond .ne 6, 3) := by decide +kernel
theorem dX8_in_0 : decode cX8_in 0 = .ok (.lload_n 0, 1) := by decide +kernel
theorem dX8_in_1 : decode cX8_in 1 = .ok (.lload_n 2, 1) := by decide +kernel
theorem dX8_in_10 : decode cX8_in 10 = .ok (.ifCond .gt 7, 3) := by decide +kernel
theorem dX8_in_13 : decode cX8_in 13 = .ok (.iconst 1, 1) := by decide +kernel
theorem dX8_in_14 : decode cX8_in 14 = .ok (.goto 4, 3) := by decide +kernel
theorem dX8_in_17 : decode cX8_in 17 = .ok (.iconst 0, 1) := by decide +kernel
theorem dX8_in_18 : decode cX8_in 18 = .ok (.ireturn, 1) := by decide +kernel
theorem dX8_in_2 : decode cX8_in 2 = .ok (.lcmp, 1) := by decide +kernel
theorem dX8_in_3 : decode cX8_in 3 = .ok (.ifCond .lt 14, 3) := by decide +kernel
theorem dX8_in_6 : decode cX8_in 6 = .ok (.lload_n 0, 1) := by decide +kernel
theorem dX8_in_7 : decode cX8_in 7 = .ok (.lload 4, 2) := by decide +kernel
theorem dX8_in_9 : decode cX8_in 9 = .ok (.lcmp, 1) := by decide +kernel
theorem dX8_init_0 : decode cX8_init 0 = .ok (.aload_n 0, 1) := by decide +kernel
theorem dX8_init_1 : decode cX8_init 1 = .ok (.invokespecial 1, 3) := by decide +kernel
theorem dX8_init_101 : decode cX8_init 101 = .ok (.aload_n 0, 1) := by decide +kernel
theorem dX8_init_102 : decode cX8_init 102 = .ok (.bipush 16, 2) := by decide +kernel
theorem dX8_init_104 : decode cX8_init 104 = .ok (.newarray .int, 2) := by decide +kernel
theorem dX8_init_106 : decode cX8_init 106 = .ok (.putfield 47, 3) := by decide +kernel
theorem dX8_init_109 : decode cX8_init 109 = .ok (.iconst 0, 1) := by decide +kernel
theorem dX8_init_110 : decode cX8_init 110 = .ok (.istore_n 1, 1) := by decide +kernel
theorem dX8_init_111 : decode cX8_init 111 = .ok (.iload_n 1, 1) := by decide +kernel
theorem dX8_init_112 : decode cX8_init 112 = .ok (.bipush 8, 2) := by decide +kernel
theorem dX8_init_114 : decode cX8_init 114 = .ok (.if_icmp .ge 16, 3) := by decide +kernel
theorem dX8_init_117 : decode cX8_init 117 = .ok (.aload_n 0, 1) := by decide +kernel
theorem dX8_init_118 : decode cX8_init 118 = .ok (.getfield 13, 3) := by decide +kernel
theorem dX8_init_12 : decode cX8_init 12 = .ok (.aload_n 0, 1) := by decide +kernel
theorem dX8_init_121 : decode cX8_init 121 = .ok (.iload_n 1, 1) := by decide +kernel
theorem dX8_init_122 : decode cX8_init 122 = .ok (.iconst (-1), 1) := by decide +kernel
theorem dX8_init_123 : decode cX8_init 123 = .ok (.iastore, 1) := by decide +kernel
theorem dX8_init_124 : decode cX8_init 124 = .ok (.iinc 1 1, 3) := by decide +kernel
theorem dX8_init_127 : decode cX8_init 127 = .ok (.goto (-16), 3) := by decide +kernel
theorem dX8_init_13 : decode cX8_init 13 = .ok (.bipush 8, 2) := by decide +kernel
theorem dX8_init_130 : decode cX8_init 130 = .ok (.return_, 1) := by decide +kernel
theorem dX8_init_15 : decode cX8_init 15 = .ok (.newarray .int, 2) := by decide +kernel
theorem dX8_init_17 : decode cX8_init 17 = .ok (.putfield 13, 3) := by decide +kernel
theorem dX8_init_20 : decode cX8_init 20 = .ok (.aload_n 0, 1) := by decide +kernel
theorem dX8_init_21 : decode cX8_init 21 = .ok (.sipush 320, 3) := by decide +kernel
theorem dX8_init_24 : decode cX8_init 24 = .ok (.newarray .int, 2) := by decide +kernel
theorem dX8_init_26 : decode cX8_init 26 = .ok (.putfield 16, 3) := by decide +kernel
theorem dX8_init_29 : decode cX8_init 29 = .ok (.aload_n 0, 1) := by decide +kernel
theorem dX8_init_30 : decode cX8_init 30 = .ok (.bipush 38, 2) := by decide +kernel
theorem dX8_init_32 : decode cX8_init 32 = .ok (.newarray .int, 2) := by decide +kernel
theorem dX8_init_34 : decode cX8_init 34 = .ok (.putfield 19, 3) := by decide +kernel
theorem dX8_init_37 : decode cX8_init 37 = .ok (.aload_n 0, 1) := by decide +kernel
theorem dX8_init_38 : decode cX8_init 38 = .ok (.bipush 40, 2) := by decide +kernel
theorem dX8_init_4 : decode cX8_init 4 = .ok (.aload_n 0, 1) := by decide +kernel
theorem dX8_init_40 : decode cX8_init 40 = .ok (.newarray .int, 2) := by decide +kernel
theorem dX8_init_42 : decode cX8_init 42 = .ok (.putfield 22, 3) := by decide +kernel
theorem dX8_init_45 : decode cX8_init 45 = .ok (.aload_n 0, 1) := by decide +kernel
theorem dX8_init_46 : decode cX8_init 46 = .ok (.bipush 120, 2) := by decide +kernel
theorem dX8_init_48 : decode cX8_init 48 = .ok (.newarray .int, 2) := by decide +kernel
theorem dX8_init_5 : decode cX8_init 5 = .ok (.bipush 8, 2) := by decide +kernel
theorem dX8_init_50 : decode cX8_init 50 = .ok (.putfield 25, 3) := by decide +kernel
theorem dX8_init_53 : decode cX8_init 53 = .ok (.aload_n 0, 1) := by decide +kernel
theorem dX8_init_54 : decode cX8_init 54 = .ok (.bipush 38, 2) := by decide +kernel
theorem dX8_init_56 : decode cX8_init 56 = .ok (.newarray .int, 2) := by decide +kernel
theorem dX8_init_58 : decode cX8_init 58 = .ok (.putfield 28, 3) := by decide +kernel
theorem dX8_init_61 : decode cX8_init 61 = .ok (.aload_n 0, 1) := by decide +kernel
theorem dX8_init_62 : decode cX8_init 62 = .ok (.sipush 912, 3) := by decide +kernel
theorem dX8_init_65 : decode cX8_init 65 = .ok (.newarray .int, 2) := by decide +kernel
theorem dX8_init_67 : decode cX8_init 67 = .ok (.putfield 31, 3) := by decide +kernel
theorem dX8_init_7 : decode cX8_init 7 = .ok (.newarray .int, 2) := by decide +kernel
theorem dX8_init_70 : decode cX8_init 70 = .ok (.aload_n 0, 1) := by decide +kernel
theorem dX8_init_71 : decode cX8_init 71 = .ok (.bipush 38, 2) := by decide +kernel
theorem dX8_init_73 : decode cX8_init 73 = .ok (.newarray .int, 2) := by decide +kernel
theorem dX8_init_75 : decode cX8_init 75 = .ok (.putfield 34, 3) := by decide +kernel
theorem dX8_init_78 : decode cX8_init 78 = .ok (.aload_n 0, 1) := by decide +kernel
theorem dX8_init_79 : decode cX8_init 79 = .ok (.bipush 16, 2) := by decide +kernel
theorem dX8_init_81 : decode cX8_init 81 = .ok (.newarray .int, 2) := by decide +kernel
theorem dX8_init_83 : decode cX8_init 83 = .ok (.putfield 37, 3) := by decide +kernel
theorem dX8_init_86 : decode cX8_init 86 = .ok (.aload_n 0, 1) := by decide +kernel
theorem dX8_init_87 : decode cX8_init 87 = .ok (.iconst 2, 1) := by decide +kernel
theorem dX8_init_88 : decode cX8_init 88 = .ok (.newarray .boolean, 2) := by decide +kernel
theorem dX8_init_9 : decode cX8_init 9 = .ok (.putfield 7, 3) := by decide +kernel
theorem dX8_init_90 : decode cX8_init 90 = .ok (.putfield 40, 3) := by decide +kernel
theorem dX8_init_93 : decode cX8_init 93 = .ok (.aload_n 0, 1) := by decide +kernel
theorem dX8_init_94 : decode cX8_init 94 = .ok (.bipush 76, 2) := by decide +kernel
theorem dX8_init_96 : decode cX8_init 96 = .ok (.newarray .int, 2) := by decide +kernel
theorem dX8_init_98 : decode cX8_init 98 = .ok (.putfield 44, 3) := by decide +kernel
theorem dX8_isRow_0 : decode cX8_isRow 0 = .ok (.iload_n 0, 1) := by decide +kernel
theorem dX8_isRow_1 : decode cX8_isRow 1 = .ok (.i2l, 1) := by decide +kernel
theorem dX8_isRow_2 : decode cX8_isRow 2 = .ok (.lconst 0, 1) := by decide +kernel
theorem dX8_isRow_3 : decode cX8_isRow 3 = .ok (.ldc2_w 55, 3) := by decide +kernel
theorem dX8_isRow_6 : decode cX8_isRow 6 = .ok (.invokestatic 57, 3) := by decide +kernel
theorem dX8_isRow_9 : decode cX8_isRow 9 = .ok (.ireturn, 1) := by decide +kernel
theorem dX8_isSound_0 : decode cX8_isSound 0 = .ok (.iload_n 1, 1) := by decide +kernel
theorem dX8_isSound_1 : decode cX8_isSound 1 = .ok (.i2l, 1) := by decide +kernel
theorem dX8_isSound_10 : decode cX8_isSound 10 = .ok (.isub, 1) := by decide +kernel
theorem dX8_isSound_11 : decode cX8_isSound 11 = .ok (.i2l, 1) := by decide +kernel
theorem dX8_isSound_12 : decode cX8_isSound 12 = .ok (.invokestatic 57, 3) := by decide +kernel
theorem dX8_isSound_15 : decode cX8_isSound 15 = .ok (.ireturn, 1) := by decide +kernel
theorem dX8_isSound_2 : decode cX8_isSound 2 = .ok (.lconst 0, 1) := by decide +kernel
theorem dX8_isSound_3 : decode cX8_isSound 3 = .ok (.aload_n 0, 1) := by decide +kernel
theorem dX8_isSound_4 : decode cX8_isSound 4 = .ok (.getfield 19, 3) := by decide +kernel
theorem dX8_isSound_7 : decode cX8_isSound 7 = .ok (.iconst 4, 1) := by decide +kernel
theorem dX8_isSound_8 : decode cX8_isSound 8 = .ok (.iaload, 1) := by decide +kernel
theorem dX8_isSound_9 : decode cX8_isSound 9 = .ok (.iconst 1, 1) := by decide +kernel
theorem dX8_kind_0 : decode cX8_kind 0 = .ok (.aload_n 0, 1) := by decide +kernel
theorem dX8_kind_1 : decode cX8_kind 1 = .ok (.iload_n 1, 1) := by decide +kernel
theorem dX8_kind_2 : decode cX8_kind 2 = .ok (.invokevirtual 173, 3) := by decide +kernel
theorem dX8_kind_20 : decode cX8_kind 20 = .ok (.ldc 67, 2) := by decide +kernel
theorem dX8_kind_22 : decode cX8_kind 22 = .ok (.ireturn, 1) := by decide +kernel
theorem dX8_kind_5 : decode cX8_kind 5 = .ok (.ifCond .eq 15, 3) := by decide +kernel
theorem dX8_level_0 : decode cX8_level 0 = .ok (.aload_n 0, 1) := by decide +kernel
theorem dX8_level_1 : decode cX8_level 1 = .ok (.invokevirtual 131, 3) := by decide +kernel
theorem dX8_level_10 : decode cX8_level 10 = .ok (.iload_n 1, 1) := by decide +kernel
theorem dX8_level_11 : decode cX8_level 11 = .ok (.ifCond .ne 19, 3) := by decide +kernel
theorem dX8_level_14 : decode cX8_level 14 = .ok (.aload_n 0, 1) := by decide +kernel
theorem dX8_level_15 : decode cX8_level 15 = .ok (.aload_n 0, 1) := by decide +kernel
theorem dX8_level_16 : decode cX8_level 16 = .ok (.getfield 105, 3) := by decide +kernel
theorem dX8_level_19 : decode cX8_level 19 = .ok (.putfield 134, 3) := by decide +kernel
theorem dX8_level_22 : decode cX8_level 22 = .ok (.ldc 137, 2) := by decide +kernel
theorem dX8_level_24 : decode cX8_level 24 = .ok (.aload_n 0, 1) := by decide +kernel
theorem dX8_level_25 : decode cX8_level 25 = .ok (.getfield 88, 3) := by decide +kernel
theorem dX8_level_28 : decode cX8_level 28 = .ok (.isub, 1) := by decide +kernel
theorem dX8_level_29 : decode cX8_level 29 = .ok (.ireturn, 1) := by decide +kernel
theorem dX8_level_4 : decode cX8_level 4 = .ok (.istore_n 1, 1) := by decide +kernel
theorem dX8_level_5 : decode cX8_level 5 = .ok (.aload_n 0, 1) := by decide +kernel
theorem dX8_level_6 : decode cX8_level 6 = .ok (.iconst 0, 1) := by decide +kernel
theorem dX8_level_7 : decode cX8_level 7 = .ok (.putfield 81, 3) := by decide +kernel
theorem dX8_loose_0 : decode cX8_loose 0 = .ok (.aload_n 0, 1) := by decide +kernel
theorem dX8_loose_1 : decode cX8_loose 1 = .ok (.iload_n 1, 1) := by decide +kernel
theorem dX8_loose_2 : decode cX8_loose 2 = .ok (.invokevirtual 173, 3) := by decide +kernel
theorem dX8_loose_28 : decode cX8_loose 28 = .ok (.ldc 67, 2) := by decide +kernel
theorem dX8_loose_30 : decode cX8_loose 30 = .ok (.ireturn, 1) := by decide +kernel
theorem dX8_loose_5 : decode cX8_loose 5 = .ok (.ifCond .eq 23, 3) := by decide +kernel
theorem dX8_meal_0 : decode cX8_meal 0 = .ok (.aload_n 0, 1) := by decide +kernel
theorem dX8_meal_1 : decode cX8_meal 1 = .ok (.getfield 138, 3) := by decide +kernel
theorem dX8_meal_4 : decode cX8_meal 4 = .ok (.ifCond .ne 6, 3) := by decide +kernel
theorem dX8_meal_7 : decode cX8_meal 7 = .ok (.ldc 161, 2) := by decide +kernel
theorem dX8_meal_9 : decode cX8_meal 9 = .ok (.ireturn, 1) := by decide +kernel
theorem dX8_nextToken_0 : decode cX8_nextToken 0 = .ok (.aload_n 0, 1) := by decide +kernel
theorem dX8_nextToken_1 : decode cX8_nextToken 1 = .ok (.aload_n 0, 1) := by decide +kernel
theorem dX8_nextToken_10 : decode cX8_nextToken 10 = .ok (.getfield 85, 3) := by decide +kernel
theorem dX8_nextToken_119 : decode cX8_nextToken 119 = .ok (.aload_n 0, 1) := by decide +kernel
theorem dX8_nextToken_120 : decode cX8_nextToken 120 = .ok (.getfield 85, 3) := by decide +kernel
theorem dX8_nextToken_123 : decode cX8_nextToken 123 = .ok (.aload_n 0, 1) := by decide +kernel
theorem dX8_nextToken_124 : decode cX8_nextToken 124 = .ok (.getfield 88, 3) := by decide +kernel
theorem dX8_nextToken_127 : decode cX8_nextToken 127 = .ok (.if_icmp .le 28, 3) := by decide +kernel
theorem dX8_nextToken_13 : decode cX8_nextToken 13 = .ok (.aload_n 0, 1) := by decide +kernel
theorem dX8_nextToken_14 : decode cX8_nextToken 14 = .ok (.getfield 81, 3) := by decide +kernel
theorem dX8_nextToken_155 : decode cX8_nextToken 155 = .ok (.aload_n 0, 1) := by decide +kernel
theorem dX8_nextToken_156 : decode cX8_nextToken 156 = .ok (.getfield 91, 3) := by decide +kernel
theorem dX8_nextToken_159 : decode cX8_nextToken 159 = .ok (.ifCond .ne 70, 3) := by decide +kernel
theorem dX8_nextToken_17 : decode cX8_nextToken 17 = .ok (.if_icmp .ne 7, 3) := by decide +kernel
theorem dX8_nextToken_2 : decode cX8_nextToken 2 = .ok (.getfield 85, 3) := by decide +kernel
theorem dX8_nextToken_20 : decode cX8_nextToken 20 = .ok (.iconst 3, 1) := by decide +kernel
theorem dX8_nextToken_21 : decode cX8_nextToken 21 = .ok (.goto 4, 3) := by decide +kernel
theorem dX8_nextToken_229 : decode cX8_nextToken 229 = .ok (.return_, 1) := by decide +kernel
theorem dX8_nextToken_25 : decode cX8_nextToken 25 = .ok (.putfield 91, 3) := by decide +kernel
theorem dX8_nextToken_28 : decode cX8_nextToken 28 = .ok (.aload_n 0, 1) := by decide +kernel
theorem dX8_nextToken_29 : decode cX8_nextToken 29 = .ok (.iconst 0, 1) := by decide +kernel
theorem dX8_nextToken_30 : decode cX8_nextToken 30 = .ok (.putfield 94, 3) := by decide +kernel
theorem dX8_nextToken_33 : decode cX8_nextToken 33 = .ok (.aload_n 0, 1) := by decide +kernel
theorem dX8_nextToken_34 : decode cX8_nextToken 34 = .ok (.getfield 85, 3) := by decide +kernel
theorem dX8_nextToken_37 : decode cX8_nextToken 37 = .ok (.aload_n 0, 1) := by decide +kernel
theorem dX8_nextToken_38 : decode cX8_nextToken 38 = .ok (.getfield 81, 3) := by decide +kernel
theorem dX8_nextToken_41 : decode cX8_nextToken 41 = .ok (.if_icmp .ge 78, 3) := by decide +kernel
theorem dX8_nextToken_5 : decode cX8_nextToken 5 = .ok (.putfield 88, 3) := by decide +kernel
theorem dX8_nextToken_8 : decode cX8_nextToken 8 = .ok (.aload_n 0, 1) := by decide +kernel
theorem dX8_nextToken_9 : decode cX8_nextToken 9 = .ok (.aload_n 0, 1) := by decide +kernel
theorem dX8_ones_0 : decode cX8_ones 0 = .ok (.iconst 0, 1) := by decide +kernel
theorem dX8_ones_1 : decode cX8_ones 1 = .ok (.istore_n 1, 1) := by decide +kernel
theorem dX8_ones_2 : decode cX8_ones 2 = .ok (.iload_n 0, 1) := by decide +kernel
theorem dX8_ones_20 : decode cX8_ones 20 = .ok (.iload_n 1, 1) := by decide +kernel
theorem dX8_ones_21 : decode cX8_ones 21 = .ok (.ireturn, 1) := by decide +kernel
theorem dX8_ones_3 : decode cX8_ones 3 = .ok (.istore_n 2, 1) := by decide +kernel
theorem dX8_ones_4 : decode cX8_ones 4 = .ok (.iload_n 2, 1) := by decide +kernel
theorem dX8_ones_5 : decode cX8_ones 5 = .ok (.ifCond .eq 15, 3) := by decide +kernel
theorem dX8_readLevel_0 : decode cX8_readLevel 0 = .ok (.aload_n 0, 1) := by decide +kernel
theorem dX8_readLevel_1 : decode cX8_readLevel 1 = .ok (.iconst 0, 1) := by decide +kernel
theorem dX8_readLevel_10 : decode cX8_readLevel 10 = .ok (.if_icmp .ge 16, 3) := by decide +kernel
theorem dX8_readLevel_13 : decode cX8_readLevel 13 = .ok (.aload_n 0, 1) := by decide +kernel
theorem dX8_readLevel_14 : decode cX8_readLevel 14 = .ok (.getfield 28, 3) := by decide +kernel
theorem dX8_readLevel_17 : decode cX8_readLevel 17 = .ok (.iload_n 1, 1) := by decide +kernel
theorem dX8_readLevel_18 : decode cX8_readLevel 18 = .ok (.iconst 0, 1) := by decide +kernel
theorem dX8_readLevel_19 : decode cX8_readLevel 19 = .ok (.iastore, 1) := by decide +kernel
theorem dX8_readLevel_2 : decode cX8_readLevel 2 = .ok (.putfield 85, 3) := by decide +kernel
theorem dX8_readLevel_20 : decode cX8_readLevel 20 = .ok (.iinc 1 1, 3) := by decide +kernel
theorem dX8_readLevel_23 : decode cX8_readLevel 23 = .ok (.goto (-16), 3) := by decide +kernel
theorem dX8_readLevel_26 : decode cX8_readLevel 26 = .ok (.aload_n 0, 1) := by decide +kernel
theorem dX8_readLevel_27 : decode cX8_readLevel 27 = .ok (.getfield 28, 3) := by decide +kernel
theorem dX8_readLevel_30 : decode cX8_readLevel 30 = .ok (.bipush 6, 2) := by decide +kernel
theorem dX8_readLevel_32 : decode cX8_readLevel 32 = .ok (.iconst 1, 1) := by decide +kernel
theorem dX8_readLevel_33 : decode cX8_readLevel 33 = .ok (.iastore, 1) := by decide +kernel
theorem dX8_readLevel_34 : decode cX8_readLevel 34 = .ok (.aload_n 0, 1) := by decide +kernel
theorem dX8_readLevel_35 : decode cX8_readLevel 35 = .ok (.invokevirtual 111, 3) := by decide +kernel
theorem dX8_readLevel_38 : decode cX8_readLevel 38 = .ok (.aload_n 0, 1) := by decide +kernel
theorem dX8_readLevel_39 : decode cX8_readLevel 39 = .ok (.bipush 109, 2) := by decide +kernel
theorem dX8_readLevel_41 : decode cX8_readLevel 41 = .ok (.invokevirtual 114, 3) := by decide +kernel
theorem dX8_readLevel_44 : decode cX8_readLevel 44 = .ok (.ifCond .eq 54, 3) := by decide +kernel
theorem dX8_readLevel_5 : decode cX8_readLevel 5 = .ok (.iconst 0, 1) := by decide +kernel
theorem dX8_readLevel_6 : decode cX8_readLevel 6 = .ok (.istore_n 1, 1) := by decide +kernel
theorem dX8_readLevel_7 : decode cX8_readLevel 7 = .ok (.iload_n 1, 1) := by decide +kernel
theorem dX8_readLevel_8 : decode cX8_readLevel 8 = .ok (.bipush 38, 2) := by decide +kernel
theorem dX8_readLevel_98 : decode cX8_readLevel 98 = .ok (.iconst 0, 1) := by decide +kernel
theorem dX8_readLevel_99 : decode cX8_readLevel 99 = .ok (.ireturn, 1) := by decide +kernel
theorem dX8_restore_0 : decode cX8_restore 0 = .ok (.iload_n 1, 1) := by decide +kernel
theorem dX8_restore_1 : decode cX8_restore 1 = .ok (.i2l, 1) := by decide +kernel
theorem dX8_restore_10 : decode cX8_restore 10 = .ok (.ldc 67, 2) := by decide +kernel
theorem dX8_restore_12 : decode cX8_restore 12 = .ok (.ireturn, 1) := by decide +kernel
theorem dX8_restore_13 : decode cX8_restore 13 = .ok (.aload_n 0, 1) := by decide +kernel
theorem dX8_restore_14 : decode cX8_restore 14 = .ok (.getfield 40, 3) := by decide +kernel
theorem dX8_restore_17 : decode cX8_restore 17 = .ok (.iload_n 1, 1) := by decide +kernel
theorem dX8_restore_18 : decode cX8_restore 18 = .ok (.baload, 1) := by decide +kernel
theorem dX8_restore_19 : decode cX8_restore 19 = .ok (.ifCond .ne 6, 3) := by decide +kernel
theorem dX8_restore_2 : decode cX8_restore 2 = .ok (.lconst 0, 1) := by decide +kernel
theorem dX8_restore_22 : decode cX8_restore 22 = .ok (.ldc 161, 2) := by decide +kernel
theorem dX8_restore_24 : decode cX8_restore 24 = .ok (.ireturn, 1) := by decide +kernel
theorem dX8_restore_3 : decode cX8_restore 3 = .ok (.lconst 1, 1) := by decide +kernel
theorem dX8_restore_4 : decode cX8_restore 4 = .ok (.invokestatic 57, 3) := by decide +kernel
theorem dX8_restore_7 : decode cX8_restore 7 = .ok (.ifCond .ne 6, 3) := by decide +kernel
theorem dX8_row_0 : decode cX8_row 0 = .ok (.iload_n 1, 1) := by decide +kernel
theorem dX8_row_1 : decode cX8_row 1 = .ok (.invokestatic 61, 3) := by decide +kernel
theorem dX8_row_10 : decode cX8_row 10 = .ok (.ldc2_w 65, 3) := by decide +kernel
theorem dX8_row_13 : decode cX8_row 13 = .ok (.invokestatic 57, 3) := by decide +kernel
theorem dX8_row_16 : decode cX8_row 16 = .ok (.ifCond .eq 9, 3) := by decide +kernel
theorem dX8_row_19 : decode cX8_row 19 = .ok (.iload_n 3, 1) := by decide +kernel
theorem dX8_row_20 : decode cX8_row 20 = .ok (.bipush 40, 2) := by decide +kernel
theorem dX8_row_22 : decode cX8_row 22 = .ok (.if_icmp .le 6, 3) := by decide +kernel
theorem dX8_row_25 : decode cX8_row 25 = .ok (.ldc 67, 2) := by decide +kernel
theorem dX8_row_27 : decode cX8_row 27 = .ok (.ireturn, 1) := by decide +kernel
theorem dX8_row_28 : decode cX8_row 28 = .ok (.iload_n 3, 1) := by decide +kernel
theorem dX8_row_29 : decode cX8_row 29 = .ok (.ifCond .ge 9, 3) := by decide +kernel
theorem dX8_row_32 : decode cX8_row 32 = .ok (.aload_n 0, 1) := by decide +kernel
theorem dX8_row_33 : decode cX8_row 33 = .ok (.iconst 4, 1) := by decide +kernel
theorem dX8_row_34 : decode cX8_row 34 = .ok (.invokevirtual 68, 3) := by decide +kernel
theorem dX8_row_37 : decode cX8_row 37 = .ok (.ireturn, 1) := by decide +kernel
theorem dX8_row_38 : decode cX8_row 38 = .ok (.aload_n 0, 1) := by decide +kernel
theorem dX8_row_39 : decode cX8_row 39 = .ok (.getfield 7, 3) := by decide +kernel
theorem dX8_row_4 : decode cX8_row 4 = .ok (.ifCond .eq 21, 3) := by decide +kernel
theorem dX8_row_42 : decode cX8_row 42 = .ok (.iload_n 1, 1) := by decide +kernel
theorem dX8_row_43 : decode cX8_row 43 = .ok (.iload_n 2, 1) := by decide +kernel
theorem dX8_row_44 : decode cX8_row 44 = .ok (.iastore, 1) := by decide +kernel
theorem dX8_row_45 : decode cX8_row 45 = .ok (.aload_n 0, 1) := by decide +kernel
theorem dX8_row_46 : decode cX8_row 46 = .ok (.getfield 13, 3) := by decide +kernel
theorem dX8_row_49 : decode cX8_row 49 = .ok (.iload_n 1, 1) := by decide +kernel
theorem dX8_row_50 : decode cX8_row 50 = .ok (.iload_n 3, 1) := by decide +kernel
theorem dX8_row_51 : decode cX8_row 51 = .ok (.iastore, 1) := by decide +kernel
theorem dX8_row_52 : decode cX8_row 52 = .ok (.iconst 0, 1) := by decide +kernel
theorem dX8_row_53 : decode cX8_row 53 = .ok (.istore 4, 2) := by decide +kernel
theorem dX8_row_55 : decode cX8_row 55 = .ok (.iload 4, 2) := by decide +kernel
theorem dX8_row_57 : decode cX8_row 57 = .ok (.bipush 40, 2) := by decide +kernel
theorem dX8_row_59 : decode cX8_row 59 = .ok (.if_icmp .ge 22, 3) := by decide +kernel
theorem dX8_row_62 : decode cX8_row 62 = .ok (.aload_n 0, 1) := by decide +kernel
theorem dX8_row_63 : decode cX8_row 63 = .ok (.getfield 16, 3) := by decide +kernel
theorem dX8_row_66 : decode cX8_row 66 = .ok (.bipush 40, 2) := by decide +kernel
theorem dX8_row_68 : decode cX8_row 68 = .ok (.iload_n 1, 1) := by decide +kernel
theorem dX8_row_69 : decode cX8_row 69 = .ok (.imul, 1) := by decide +kernel
theorem dX8_row_7 : decode cX8_row 7 = .ok (.iload_n 2, 1) := by decide +kernel
theorem dX8_row_70 : decode cX8_row 70 = .ok (.iload 4, 2) := by decide +kernel
theorem dX8_row_72 : decode cX8_row 72 = .ok (.iadd, 1) := by decide +kernel
theorem dX8_row_73 : decode cX8_row 73 = .ok (.iconst 0, 1) := by decide +kernel
theorem dX8_row_74 : decode cX8_row 74 = .ok (.iastore, 1) := by decide +kernel
theorem dX8_row_75 : decode cX8_row 75 = .ok (.iinc 4 1, 3) := by decide +kernel
theorem dX8_row_78 : decode cX8_row 78 = .ok (.goto (-23), 3) := by decide +kernel
theorem dX8_row_8 : decode cX8_row 8 = .ok (.i2l, 1) := by decide +kernel
theorem dX8_row_81 : decode cX8_row 81 = .ok (.aload_n 0, 1) := by decide +kernel
theorem dX8_row_82 : decode cX8_row 82 = .ok (.iload_n 3, 1) := by decide +kernel
theorem dX8_row_83 : decode cX8_row 83 = .ok (.invokevirtual 72, 3) := by decide +kernel
theorem dX8_row_86 : decode cX8_row 86 = .ok (.ireturn, 1) := by decide +kernel
theorem dX8_row_9 : decode cX8_row 9 = .ok (.lconst 0, 1) := by decide +kernel
theorem dX8_sack_0 : decode cX8_sack 0 = .ok (.aload_n 0, 1) := by decide +kernel
theorem dX8_sack_1 : decode cX8_sack 1 = .ok (.getfield 138, 3) := by decide +kernel
theorem dX8_sack_4 : decode cX8_sack 4 = .ok (.ifCond .ne 6, 3) := by decide +kernel
theorem dX8_sack_7 : decode cX8_sack 7 = .ok (.ldc 161, 2) := by decide +kernel
theorem dX8_sack_9 : decode cX8_sack 9 = .ok (.ireturn, 1) := by decide +kernel
theorem dX8_sell_0 : decode cX8_sell 0 = .ok (.aload_n 0, 1) := by decide +kernel
theorem dX8_sell_1 : decode cX8_sell 1 = .ok (.getfield 138, 3) := by decide +kernel
theorem dX8_sell_4 : decode cX8_sell 4 = .ok (.ifCond .ne 6, 3) := by decide +kernel
theorem dX8_sell_7 : decode cX8_sell 7 = .ok (.ldc 161, 2) := by decide +kernel
theorem dX8_sell_9 : decode cX8_sell 9 = .ok (.ireturn, 1) := by decide +kernel
theorem dX8_set_0 : decode cX8_set 0 = .ok (.iload_n 1, 1) := by decide +kernel
theorem dX8_set_1 : decode cX8_set 1 = .ok (.invokestatic 61, 3) := by decide +kernel
theorem dX8_set_10 : decode cX8_set 10 = .ok (.aload_n 0, 1) := by decide +kernel
theorem dX8_set_11 : decode cX8_set 11 = .ok (.getfield 13, 3) := by decide +kernel
theorem dX8_set_14 : decode cX8_set 14 = .ok (.iload_n 1, 1) := by decide +kernel
theorem dX8_set_15 : decode cX8_set 15 = .ok (.iaload, 1) := by decide +kernel
theorem dX8_set_16 : decode cX8_set 16 = .ok (.ifCond .ge 9, 3) := by decide +kernel
theorem dX8_set_19 : decode cX8_set 19 = .ok (.aload_n 0, 1) := by decide +kernel
theorem dX8_set_20 : decode cX8_set 20 = .ok (.iconst 1, 1) := by decide +kernel
theorem dX8_set_21 : decode cX8_set 21 = .ok (.invokevirtual 68, 3) := by decide +kernel
theorem dX8_set_24 : decode cX8_set 24 = .ok (.ireturn, 1) := by decide +kernel
theorem dX8_set_4 : decode cX8_set 4 = .ok (.ifCond .ne 6, 3) := by decide +kernel
theorem dX8_set_7 : decode cX8_set 7 = .ok (.ldc 67, 2) := by decide +kernel
theorem dX8_set_9 : decode cX8_set 9 = .ok (.ireturn, 1) := by decide +kernel
theorem dX8_share_0 : decode cX8_share 0 = .ok (.aload_n 0, 1) := by decide +kernel
theorem dX8_share_1 : decode cX8_share 1 = .ok (.iload_n 1, 1) := by decide +kernel
theorem dX8_share_2 : decode cX8_share 2 = .ok (.invokevirtual 173, 3) := by decide +kernel
theorem dX8_share_20 : decode cX8_share 20 = .ok (.ldc 67, 2) := by decide +kernel
theorem dX8_share_22 : decode cX8_share 22 = .ok (.ireturn, 1) := by decide +kernel
theorem dX8_share_5 : decode cX8_share 5 = .ok (.ifCond .eq 15, 3) := by decide +kernel
theorem dX8_site_0 : decode cX8_site 0 = .ok (.aload_n 0, 1) := by decide +kernel
theorem dX8_site_1 : decode cX8_site 1 = .ok (.getfield 138, 3) := by decide +kernel
theorem dX8_site_4 : decode cX8_site 4 = .ok (.ifCond .ne 6, 3) := by decide +kernel
theorem dX8_site_7 : decode cX8_site 7 = .ok (.ldc 161, 2) := by decide +kernel
theorem dX8_site_9 : decode cX8_site 9 = .ok (.ireturn, 1) := by decide +kernel
theorem dX8_sound_0 : decode cX8_sound 0 = .ok (.aload_n 0, 1) := by decide +kernel
theorem dX8_sound_1 : decode cX8_sound 1 = .ok (.iload_n 1, 1) := by decide +kernel
theorem dX8_sound_10 : decode cX8_sound 10 = .ok (.ireturn, 1) := by decide +kernel
theorem dX8_sound_2 : decode cX8_sound 2 = .ok (.invokevirtual 173, 3) := by decide +kernel
theorem dX8_sound_5 : decode cX8_sound 5 = .ok (.ifCond .ne 6, 3) := by decide +kernel
theorem dX8_sound_8 : decode cX8_sound 8 = .ok (.ldc 67, 2) := by decide +kernel
theorem dX8_stand_0 : decode cX8_stand 0 = .ok (.aload_n 0, 1) := by decide +kernel
theorem dX8_stand_1 : decode cX8_stand 1 = .ok (.getfield 138, 3) := by decide +kernel
theorem dX8_stand_4 : decode cX8_stand 4 = .ok (.ifCond .ne 6, 3) := by decide +kernel
theorem dX8_stand_7 : decode cX8_stand 7 = .ok (.ldc 161, 2) := by decide +kernel
theorem dX8_stand_9 : decode cX8_stand 9 = .ok (.ireturn, 1) := by decide +kernel
theorem dX8_status_0 : decode cX8_status 0 = .ok (.aload_n 0, 1) := by decide +kernel
theorem dX8_status_1 : decode cX8_status 1 = .ok (.getfield 50, 3) := by decide +kernel
theorem dX8_status_4 : decode cX8_status 4 = .ok (.ireturn, 1) := by decide +kernel
theorem dX8_takes_0 : decode cX8_takes 0 = .ok (.aload_n 0, 1) := by decide +kernel
theorem dX8_takes_1 : decode cX8_takes 1 = .ok (.getfield 91, 3) := by decide +kernel
theorem dX8_takes_16 : decode cX8_takes 16 = .ok (.aload_n 0, 1) := by decide +kernel
theorem dX8_takes_17 : decode cX8_takes 17 = .ok (.iconst 1, 1) := by decide +kernel
theorem dX8_takes_18 : decode cX8_takes 18 = .ok (.invokevirtual 108, 3) := by decide +kernel
theorem dX8_takes_21 : decode cX8_takes 21 = .ok (.ireturn, 1) := by decide +kernel
theorem dX8_takes_4 : decode cX8_takes 4 = .ok (.iconst 1, 1) := by decide +kernel
theorem dX8_takes_5 : decode cX8_takes 5 = .ok (.if_icmp .ne 11, 3) := by decide +kernel
theorem dX8_those_0 : decode cX8_those 0 = .ok (.iconst 0, 1) := by decide +kernel
theorem dX8_those_1 : decode cX8_those 1 = .ok (.istore_n 2, 1) := by decide +kernel
theorem dX8_those_10 : decode cX8_those 10 = .ok (.iaload, 1) := by decide +kernel
theorem dX8_those_11 : decode cX8_those 11 = .ok (.if_icmp .ge 32, 3) := by decide +kernel
theorem dX8_those_2 : decode cX8_those 2 = .ok (.iconst 0, 1) := by decide +kernel
theorem dX8_those_3 : decode cX8_those 3 = .ok (.istore_n 3, 1) := by decide +kernel
theorem dX8_those_4 : decode cX8_those 4 = .ok (.iload_n 3, 1) := by decide +kernel
theorem dX8_those_43 : decode cX8_those 43 = .ok (.iload_n 2, 1) := by decide +kernel
theorem dX8_those_44 : decode cX8_those 44 = .ok (.ireturn, 1) := by decide +kernel
theorem dX8_those_5 : decode cX8_those 5 = .ok (.aload_n 0, 1) := by decide +kernel
theorem dX8_those_6 : decode cX8_those 6 = .ok (.getfield 19, 3) := by decide +kernel
theorem dX8_those_9 : decode cX8_those 9 = .ok (.iconst 4, 1) := by decide +kernel
theorem dX8_trace_0 : decode cX8_trace 0 = .ok (.iload_n 1, 1) := by decide +kernel
theorem dX8_trace_1 : decode cX8_trace 1 = .ok (.i2l, 1) := by decide +kernel
theorem dX8_trace_10 : decode cX8_trace 10 = .ok (.invokestatic 57, 3) := by decide +kernel
theorem dX8_trace_13 : decode cX8_trace 13 = .ok (.ifCond .eq 12, 3) := by decide +kernel
theorem dX8_trace_2 : decode cX8_trace 2 = .ok (.lconst 0, 1) := by decide +kernel
theorem dX8_trace_25 : decode cX8_trace 25 = .ok (.ldc 187, 2) := by decide +kernel
theorem dX8_trace_27 : decode cX8_trace 27 = .ok (.ireturn, 1) := by decide +kernel
theorem dX8_trace_3 : decode cX8_trace 3 = .ok (.aload_n 0, 1) := by decide +kernel
theorem dX8_trace_4 : decode cX8_trace 4 = .ok (.getfield 260, 3) := by decide +kernel
theorem dX8_trace_7 : decode cX8_trace 7 = .ok (.iconst 1, 1) := by decide +kernel
theorem dX8_trace_8 : decode cX8_trace 8 = .ok (.isub, 1) := by decide +kernel
theorem dX8_trace_9 : decode cX8_trace 9 = .ok (.i2l, 1) := by decide +kernel
theorem dX8_undo_0 : decode cX8_undo 0 = .ok (.aload_n 0, 1) := by decide +kernel
theorem dX8_undo_1 : decode cX8_undo 1 = .ok (.getfield 142, 3) := by decide +kernel
theorem dX8_undo_4 : decode cX8_undo 4 = .ok (.ifCond .ne 6, 3) := by decide +kernel
theorem dX8_undo_7 : decode cX8_undo 7 = .ok (.ldc 161, 2) := by decide +kernel
theorem dX8_undo_9 : decode cX8_undo 9 = .ok (.ireturn, 1) := by decide +kernel
theorem dX8_well_0 : decode cX8_well 0 = .ok (.aload_n 0, 1) := by decide +kernel
theorem dX8_well_1 : decode cX8_well 1 = .ok (.iconst 0, 1) := by decide +kernel
theorem dX8_well_2 : decode cX8_well 2 = .ok (.putfield 50, 3) := by decide +kernel
theorem dX8_well_5 : decode cX8_well 5 = .ok (.iload_n 1, 1) := by decide +kernel
theorem dX8_well_6 : decode cX8_well 6 = .ok (.ireturn, 1) := by decide +kernel
theorem dX8_when_0 : decode cX8_when 0 = .ok (.aload_n 0, 1) := by decide +kernel
theorem dX8_when_1 : decode cX8_when 1 = .ok (.iload_n 1, 1) := by decide +kernel
theorem dX8_when_2 : decode cX8_when 2 = .ok (.invokevirtual 173, 3) := by decide +kernel
theorem dX8_when_20 : decode cX8_when 20 = .ok (.ldc 67, 2) := by decide +kernel
theorem dX8_when_22 : decode cX8_when 22 = .ok (.ireturn, 1) := by decide +kernel
theorem dX8_when_5 : decode cX8_when 5 = .ok (.ifCond .eq 15, 3) := by decide +kernel
theorem dX8_who_0 : decode cX8_who 0 = .ok (.aload_n 0, 1) := by decide +kernel
theorem dX8_who_1 : decode cX8_who 1 = .ok (.iload_n 1, 1) := by decide +kernel
theorem dX8_who_2 : decode cX8_who 2 = .ok (.invokevirtual 173, 3) := by decide +kernel
theorem dX8_who_35 : decode cX8_who 35 = .ok (.ldc 67, 2) := by decide +kernel
theorem dX8_who_37 : decode cX8_who 37 = .ok (.ireturn, 1) := by decide +kernel
theorem dX8_who_5 : decode cX8_who 5 = .ok (.ifCond .eq 30, 3) := by decide +kernel
theorem dX8_wind_0 : decode cX8_wind 0 = .ok (.iload_n 1, 1) := by decide +kernel
theorem dX8_wind_1 : decode cX8_wind 1 = .ok (.i2l, 1) := by decide +kernel
theorem dX8_wind_10 : decode cX8_wind 10 = .ok (.isub, 1) := by decide +kernel
theorem dX8_wind_11 : decode cX8_wind 11 = .ok (.i2l, 1) := by decide +kernel
theorem dX8_wind_12 : decode cX8_wind 12 = .ok (.invokestatic 57, 3) := by decide +kernel
theorem dX8_wind_15 : decode cX8_wind 15 = .ok (.ifCond .eq 15, 3) := by decide +kernel
theorem dX8_wind_2 : decode cX8_wind 2 = .ok (.lconst 0, 1) := by decide +kernel
theorem dX8_wind_3 : decode cX8_wind 3 = .ok (.aload_n 0, 1) := by decide +kernel
theorem dX8_wind_30 : decode cX8_wind 30 = .ok (.ldc 67, 2) := by decide +kernel
theorem dX8_wind_32 : decode cX8_wind 32 = .ok (.ireturn, 1) := by decide +kernel
theorem dX8_wind_4 : decode cX8_wind 4 = .ok (.getfield 19, 3) := by decide +kernel
theorem dX8_wind_7 : decode cX8_wind 7 = .ok (.iconst 3, 1) := by decide +kernel
theorem dX8_wind_8 : decode cX8_wind 8 = .ok (.iaload, 1) := by decide +kernel
theorem dX8_wind_9 : decode cX8_wind 9 = .ok (.iconst 1, 1) := by decide +kernel
set_option maxRecDepth 20000 in
theorem ggX0_init_X3_init : GoodIn wsX0_init wsX3_init := goodIn_r _ [9, 10, 2, 3, 11, 12, 13, 14, 15, 16, 20, 21, 22, 23, 24, 25, 26, 27, 28, 29, 30, 31, 32] (by decide +kernel) (by decide +kernel)
set_option maxRecDepth 20000 in
theorem gX0_init_X3_init_n15 : GoodIn wsX0_init (wsX3_init) := ggX0_init_X3_init
set_option maxRecDepth 20000 in
theorem ggX2_init_X3_init : GoodIn wsX2_init wsX3_init := goodIn_r _ [9, 10, 2, 3, 11, 12, 13, 14, 15, 16, 23, 24, 25, 26, 27, 28, 29, 30, 31, 32, 33, 34, 35] (by decide +kernel) (by decide +kernel)
set_option maxRecDepth 20000 in
theorem gX2_init_X3_init_n17 : GoodIn wsX2_init (wsX3_init) := ggX2_init_X3_init
set_option maxRecDepth 20000 in
theorem ggX4_init_X3_init : GoodIn wsX4_init wsX3_init := goodIn_r _ [10, 11, 2, 3, 12, 13, 14, 15, 16, 17, 18, 19, 20, 21, 22, 23, 24, 25, 26, 27, 28, 29, 30] (by decide +kernel) (by decide +kernel)
set_option maxRecDepth 20000 in
theorem gX4_init_X3_init_n9 : GoodIn wsX4_init (wsX3_init) := ggX4_init_X3_init
set_option maxRecDepth 20000 in
theorem ggX5_findingOfMove_X5_isMissing : GoodIn wsX5_findingOfMove wsX5_isMissing := goodIn_r _ [6, 1, 12, 13, 14] (by decide +kernel) (by decide +kernel)
set_option maxRecDepth 20000 in
theorem gX5_findingOfMove_X5_isMissing : GoodIn wsX5_findingOfMove (wsV RX5 29 RX5 yX5_isMissing wsX5_isMissing) := goodIn_app (goodIn_of _ (by decide +kernel)) ggX5_findingOfMove_X5_isMissing
set_option maxRecDepth 20000 in
theorem ggX5_findingOf_X5_isMissing : GoodIn wsX5_findingOf wsX5_isMissing := goodIn_r _ [5, 6, 12, 13, 14] (by decide +kernel) (by decide +kernel)
set_option maxRecDepth 20000 in
theorem gX5_findingOf_X5_isMissing : GoodIn wsX5_findingOf (wsV RX5 29 RX5 yX5_isMissing wsX5_isMissing) := goodIn_app (goodIn_of _ (by decide +kernel)) ggX5_findingOf_X5_isMissing
set_option maxRecDepth 20000 in
theorem ggX5_init_J7_fill_53178 : GoodIn wsX5_init wsJ7_fill_53178 := goodIn_r _ [12] (by decide +kernel) (by decide +kernel)
set_option maxRecDepth 20000 in
theorem gX5_init_J7_fill_53178 : GoodIn wsX5_init (va_wsS RX5 23 yJ7_fill_53178 wsJ7_fill_53178) := goodIn_app (goodIn_of _ (by decide +kernel)) ggX5_init_J7_fill_53178
set_option maxRecDepth 20000 in
theorem ggX5_make_J7_fill_53178 : GoodIn wsX5_make wsJ7_fill_53178 := goodIn_r _ [7] (by decide +kernel) (by decide +kernel)
set_option maxRecDepth 20000 in
theorem gX5_make_J7_fill_53178 : GoodIn wsX5_make (va_wsS RX5 23 yJ7_fill_53178 wsJ7_fill_53178) := goodIn_app (goodIn_of _ (by decide +kernel)) ggX5_make_J7_fill_53178
set_option maxRecDepth 20000 in
theorem ggX5_present_X5_isMissing : GoodIn wsX5_present wsX5_isMissing := goodIn_r _ [5, 6, 7, 8, 9] (by decide +kernel) (by decide +kernel)
set_option maxRecDepth 20000 in
theorem gX5_present_X5_isMissing : GoodIn wsX5_present (wsV RX5 29 RX5 yX5_isMissing wsX5_isMissing) := goodIn_app (goodIn_of _ (by decide +kernel)) ggX5_present_X5_isMissing
set_option maxRecDepth 20000 in
theorem ggX6_append_X6_isFull : GoodIn wsX6_append wsX6_isFull := goodIn_r _ [7, 2, 8, 9, 10, 11, 12, 13] (by decide +kernel) (by decide +kernel)
set_option maxRecDepth 20000 in
theorem gX6_append_X6_isFull : GoodIn wsX6_append (wsV RX6 26 RX6 yX6_isFull wsX6_isFull) := goodIn_app (goodIn_of _ (by decide +kernel)) ggX6_append_X6_isFull
set_option maxRecDepth 20000 in
theorem ggX6_figuresHere_X6_byteAt : GoodIn wsX6_figuresHere wsX6_byteAt := goodIn_r _ [6, 7, 8, 12, 13, 14, 15, 16, 17] (by decide +kernel) (by decide +kernel)
set_option maxRecDepth 20000 in
theorem gX6_figuresHere_X6_byteAt : GoodIn wsX6_figuresHere (wsV RX6 71 RX6 yX6_byteAt wsX6_byteAt) := goodIn_app (goodIn_of _ (by decide +kernel)) ggX6_figuresHere_X6_byteAt
set_option maxRecDepth 20000 in
theorem ggX6_figuresHere_X6_isFigure : GoodIn wsX6_figuresHere wsX6_isFigure := goodIn_r _ [11] (by decide +kernel) (by decide +kernel)
set_option maxRecDepth 20000 in
theorem gX6_figuresHere_X6_isFigure : GoodIn wsX6_figuresHere (va_wsS RX6 104 yX6_isFigure wsX6_isFigure) := goodIn_app (goodIn_of _ (by decide +kernel)) ggX6_figuresHere_X6_isFigure
set_option maxRecDepth 20000 in
theorem ggX6_init_X3_init : GoodIn wsX6_init wsX3_init := goodIn_r _ [11, 12, 2, 3, 4, 13, 14, 15, 16, 17, 24, 25, 26, 27, 28, 29, 30, 31, 32, 33, 34, 35, 36] (by decide +kernel) (by decide +kernel)
set_option maxRecDepth 20000 in
theorem gX6_init_X3_init_n17 : GoodIn wsX6_init (wsX3_init) := ggX6_init_X3_init
set_option maxRecDepth 20000 in
theorem ggX6_readByte_X6_byteAt : GoodIn wsX6_readByte wsX6_byteAt := goodIn_r _ [6, 7, 8, 15, 16, 17, 18, 19, 20] (by decide +kernel) (by decide +kernel)
set_option maxRecDepth 20000 in
theorem gX6_readByte_X6_byteAt : GoodIn wsX6_readByte (wsV RX6 71 RX6 yX6_byteAt wsX6_byteAt) := goodIn_app (goodIn_of _ (by decide +kernel)) ggX6_readByte_X6_byteAt
set_option maxRecDepth 20000 in
theorem ggX6_readByte_X6_fail : GoodIn wsX6_readByte wsX6_fail := goodIn_r _ [12, 13, 1, 14, 15, 16, 17, 18, 19, 20] (by decide +kernel) (by decide +kernel)
set_option maxRecDepth 20000 in
theorem gX6_readByte_X6_fail : GoodIn wsX6_readByte (wsV RX6 78 RX6 yX6_fail wsX6_fail) := goodIn_app (goodIn_of _ (by decide +kernel)) ggX6_readByte_X6_fail
set_option maxRecDepth 20000 in
theorem ggX6_readLaw_X6_readByte : GoodIn wsX6_readLaw wsX6_readByte := goodIn_r _ [9, 10, 11, 12, 13, 8, 14, 15, 16, 17, 18, 19, 20, 21, 22, 34, 35, 36, 37, 38, 39] (by decide +kernel) (by decide +kernel)
set_option maxRecDepth 20000 in
theorem gX6_readLaw_X6_readByte : GoodIn wsX6_readLaw (wsV RX6 51 RX6 yX6_readByte wsX6_readByte) := goodIn_app (goodIn_of _ (by decide +kernel)) ggX6_readLaw_X6_readByte
set_option maxRecDepth 20000 in
theorem ggX6_readLaw_X6_readNumber : GoodIn wsX6_readLaw wsX6_readNumber := goodIn_r _ [26, 10, 27, 28, 29, 8, 30, 11, 12, 13, 14, 15, 16, 31, 32, 33, 17, 18, 19, 20, 21, 22, 34, 35, 36, 37, 38, 39] (by decide +kernel) (by decide +kernel)
set_option maxRecDepth 20000 in
theorem gX6_readLaw_X6_readNumber : GoodIn wsX6_readLaw (wsV RX6 55 RX6 yX6_readNumber wsX6_readNumber) := goodIn_app (goodIn_of _ (by decide +kernel)) ggX6_readLaw_X6_readNumber
set_option maxRecDepth 20000 in
theorem ggX6_readNumber_X6_fail : GoodIn wsX6_readNumber wsX6_fail := goodIn_r _ [19, 20, 1, 21, 22, 23, 24, 25, 26, 27] (by decide +kernel) (by decide +kernel)
set_option maxRecDepth 20000 in
theorem gX6_readNumber_X6_fail : GoodIn wsX6_readNumber (wsV RX6 78 RX6 yX6_fail wsX6_fail) := goodIn_app (goodIn_of _ (by decide +kernel)) ggX6_readNumber_X6_fail
set_option maxRecDepth 20000 in
theorem ggX6_readNumber_X6_figuresHere : GoodIn wsX6_readNumber wsX6_figuresHere := goodIn_r _ [6, 1, 7, 8, 9, 5, 10, 11, 12, 13, 14, 15, 22, 23, 24, 25, 26, 27] (by decide +kernel) (by decide +kernel)
set_option maxRecDepth 20000 in
theorem gX6_readNumber_X6_figuresHere : GoodIn wsX6_readNumber (wsV RX6 100 RX6 yX6_figuresHere wsX6_figuresHere) := goodIn_app (goodIn_of _ (by decide +kernel)) ggX6_readNumber_X6_figuresHere
set_option maxRecDepth 20000 in
theorem ggX6_readSound_X6_byteAt : GoodIn wsX6_readSound wsX6_byteAt := goodIn_r _ [11, 12, 13, 45, 46, 47, 48, 49, 50] (by decide +kernel) (by decide +kernel)
set_option maxRecDepth 20000 in
theorem gX6_readSound_X6_byteAt : GoodIn wsX6_readSound (wsV RX6 71 RX6 yX6_byteAt wsX6_byteAt) := goodIn_app (goodIn_of _ (by decide +kernel)) ggX6_readSound_X6_byteAt
set_option maxRecDepth 20000 in
theorem ggX6_readSound_X6_fail : GoodIn wsX6_readSound wsX6_fail := goodIn_r _ [20, 5, 1, 21, 45, 46, 47, 48, 49, 50] (by decide +kernel) (by decide +kernel)
set_option maxRecDepth 20000 in
theorem gX6_readSound_X6_fail : GoodIn wsX6_readSound (wsV RX6 78 RX6 yX6_fail wsX6_fail) := goodIn_app (goodIn_of _ (by decide +kernel)) ggX6_readSound_X6_fail
set_option maxRecDepth 20000 in
theorem ggX6_readSound_X6_kindOf : GoodIn wsX6_readSound wsX6_kindOf := goodIn_r _ [16] (by decide +kernel) (by decide +kernel)
set_option maxRecDepth 20000 in
theorem gX6_readSound_X6_kindOf : GoodIn wsX6_readSound (va_wsS RX6 87 yX6_kindOf wsX6_kindOf) := goodIn_app (goodIn_of _ (by decide +kernel)) ggX6_readSound_X6_kindOf
set_option maxRecDepth 20000 in
theorem ggX6_readSound_X6_readByte : GoodIn wsX6_readSound wsX6_readByte := goodIn_r _ [36, 1, 7, 8, 9, 10, 11, 12, 13, 17, 18, 19, 20, 5, 21, 45, 46, 47, 48, 49, 50] (by decide +kernel) (by decide +kernel)
set_option maxRecDepth 20000 in
theorem gX6_readSound_X6_readByte : GoodIn wsX6_readSound (wsV RX6 51 RX6 yX6_readByte wsX6_readByte) := goodIn_app (goodIn_of _ (by decide +kernel)) ggX6_readSound_X6_readByte
set_option maxRecDepth 20000 in
theorem ggX6_readSound_X6_readNumber : GoodIn wsX6_readSound wsX6_readNumber := goodIn_r _ [25, 1, 26, 27, 28, 10, 29, 7, 8, 9, 11, 12, 13, 30, 31, 32, 17, 18, 19, 20, 5, 21, 45, 46, 47, 48, 49, 50] (by decide +kernel) (by decide +kernel)
set_option maxRecDepth 20000 in
theorem gX6_readSound_X6_readNumber : GoodIn wsX6_readSound (wsV RX6 55 RX6 yX6_readNumber wsX6_readNumber) := goodIn_app (goodIn_of _ (by decide +kernel)) ggX6_readSound_X6_readNumber
set_option maxRecDepth 20000 in
theorem ggX6_readSounds_X6_readSound : GoodIn wsX6_readSounds wsX6_readSound := goodIn_r _ [7, 2, 8, 9, 10, 1, 11, 12, 13, 14, 6, 15, 16, 17, 18, 19, 20, 21, 22, 23, 24, 25, 26, 27, 28, 29, 30, 31, 32, 33, 34, 35, 36, 37, 38, 39, 40, 41, 42, 43, 44, 45, 46, 47, 48, 49, 50, 51, 52, 53, 54, 55, 56, 57, 58, 59, 60, 61, 62, 63, 64, 65, 66, 67] (by decide +kernel) (by decide +kernel)
set_option maxRecDepth 20000 in
theorem gX6_readSounds_X6_readSound : GoodIn wsX6_readSounds (wsV RX6 84 RX6 yX6_readSound wsX6_readSound) := goodIn_app (goodIn_of _ (by decide +kernel)) ggX6_readSounds_X6_readSound
set_option maxRecDepth 20000 in
theorem ggX6_readWind_X6_readByte : GoodIn wsX6_readWind wsX6_readByte := goodIn_r _ [21, 2, 6, 7, 8, 9, 10, 11, 12, 13, 14, 15, 16, 1, 17, 33, 34, 35, 36, 37, 38] (by decide +kernel) (by decide +kernel)
set_option maxRecDepth 20000 in
theorem gX6_readWind_X6_readByte : GoodIn wsX6_readWind (wsV RX6 51 RX6 yX6_readByte wsX6_readByte) := goodIn_app (goodIn_of _ (by decide +kernel)) ggX6_readWind_X6_readByte
set_option maxRecDepth 20000 in
theorem ggX6_readWind_X6_readNumber : GoodIn wsX6_readWind wsX6_readNumber := goodIn_r _ [25, 2, 26, 27, 28, 9, 29, 6, 7, 8, 10, 11, 12, 30, 31, 32, 13, 14, 15, 16, 1, 17, 33, 34, 35, 36, 37, 38] (by decide +kernel) (by decide +kernel)
set_option maxRecDepth 20000 in
theorem gX6_readWind_X6_readNumber : GoodIn wsX6_readWind (wsV RX6 55 RX6 yX6_readNumber wsX6_readNumber) := goodIn_app (goodIn_of _ (by decide +kernel)) ggX6_readWind_X6_readNumber
set_option maxRecDepth 20000 in
theorem ggX6_readWinds_X6_readWind : GoodIn wsX6_readWinds wsX6_readWind := goodIn_r _ [7, 1, 2, 8, 9, 10, 11, 12, 13, 6, 14, 15, 16, 17, 18, 19, 20, 21, 22, 23, 24, 25, 26, 27, 28, 29, 30, 31, 32, 33, 34, 35, 36, 37, 38, 39, 40, 41, 42, 43, 44, 45, 46, 47, 48, 49, 50, 51, 52, 53, 54, 55] (by decide +kernel) (by decide +kernel)
set_option maxRecDepth 20000 in
theorem gX6_readWinds_X6_readWind : GoodIn wsX6_readWinds (wsV RX6 68 RX6 yX6_readWind wsX6_readWind) := goodIn_app (goodIn_of _ (by decide +kernel)) ggX6_readWinds_X6_readWind
set_option maxRecDepth 20000 in
theorem ggX6_read_X3_begin : GoodIn wsX6_read wsX3_begin := goodIn_r _ [10, 11, 12, 13, 14, 15, 16, 17, 18, 87, 88, 89, 90, 91, 92, 93, 94, 95, 96, 97, 98, 99] (by decide +kernel) (by decide +kernel)
set_option maxRecDepth 20000 in
theorem gX6_read_X3_begin : GoodIn wsX6_read (wsV RX6 39 RX3 yX3_begin wsX3_begin) := goodIn_app (goodIn_of _ (by decide +kernel)) ggX6_read_X3_begin
set_option maxRecDepth 20000 in
theorem ggX6_read_X6_readLaw : GoodIn wsX6_read wsX6_readLaw := goodIn_r _ [23, 4, 24, 25, 26, 27, 28, 29, 22, 30, 3, 31, 32, 33, 34, 5, 35, 36, 37, 38, 39, 1, 2, 40, 41, 42, 43, 44, 45, 46, 47, 48, 49, 50, 81, 82, 83, 84, 85, 86, 87, 88, 89, 90, 91, 92, 93, 94, 95, 96, 97, 98, 99] (by decide +kernel) (by decide +kernel)
set_option maxRecDepth 20000 in
theorem gX6_read_X6_readLaw : GoodIn wsX6_read (wsV RX6 42 RX6 yX6_readLaw wsX6_readLaw) := goodIn_app (goodIn_of _ (by decide +kernel)) ggX6_read_X6_readLaw
set_option maxRecDepth 20000 in
theorem ggX6_read_X6_readSounds : GoodIn wsX6_read wsX6_readSounds := goodIn_r _ [64, 1, 3, 65, 66, 67, 22, 68, 4, 69, 24, 70, 31, 32, 33, 34, 5, 35, 71, 72, 73, 36, 37, 38, 39, 2, 40, 41, 42, 43, 44, 45, 46, 47, 48, 49, 50, 27, 28, 29, 30, 74, 75, 76, 9, 77, 78, 79, 80, 81, 82, 83, 84, 85, 86, 87, 88, 89, 90, 91, 92, 93, 94, 95, 96, 97, 98, 99] (by decide +kernel) (by decide +kernel)
set_option maxRecDepth 20000 in
theorem gX6_read_X6_readSounds : GoodIn wsX6_read (wsV RX6 48 RX6 yX6_readSounds wsX6_readSounds) := goodIn_app (goodIn_of _ (by decide +kernel)) ggX6_read_X6_readSounds
set_option maxRecDepth 20000 in
theorem ggX6_read_X6_readWinds : GoodIn wsX6_read wsX6_readWinds := goodIn_r _ [54, 1, 3, 55, 56, 57, 22, 58, 4, 59, 60, 31, 32, 33, 34, 5, 35, 36, 37, 38, 39, 2, 27, 28, 29, 30, 40, 41, 42, 43, 44, 45, 46, 47, 48, 49, 50, 81, 82, 83, 84, 85, 86, 87, 88, 89, 90, 91, 92, 93, 94, 95, 96, 97, 98, 99] (by decide +kernel) (by decide +kernel)
set_option maxRecDepth 20000 in
theorem gX6_read_X6_readWinds : GoodIn wsX6_read (wsV RX6 45 RX6 yX6_readWinds wsX6_readWinds) := goodIn_app (goodIn_of _ (by decide +kernel)) ggX6_read_X6_readWinds
set_option maxRecDepth 20000 in
theorem ggX7_ahead_X3_hasSound : GoodIn wsX7_ahead wsX3_hasSound := goodIn_r _ [8, 9, 90, 91, 92, 93, 94, 95, 96, 97, 98, 99, 100, 101, 102] (by decide +kernel) (by decide +kernel)
set_option maxRecDepth 20000 in
theorem gX7_ahead_X3_hasSound : GoodIn wsX7_ahead (wsV RX7 173 RX3 yX3_hasSound wsX3_hasSound) := goodIn_app (goodIn_of _ (by decide +kernel)) ggX7_ahead_X3_hasSound
set_option maxRecDepth 20000 in
theorem ggX7_as_X3_hasSound : GoodIn wsX7_as wsX3_hasSound := goodIn_r _ [8, 9, 36, 37, 38, 39, 40, 41, 42, 43, 44, 45, 46, 47, 48] (by decide +kernel) (by decide +kernel)
set_option maxRecDepth 20000 in
theorem gX7_as_X3_hasSound : GoodIn wsX7_as (wsV RX7 173 RX3 yX3_hasSound wsX3_hasSound) := goodIn_app (goodIn_of _ (by decide +kernel)) ggX7_as_X3_hasSound
set_option maxRecDepth 20000 in
theorem ggX7_ask_X3_hasSound : GoodIn wsX7_ask wsX3_hasSound := goodIn_r _ [8, 9, 56, 57, 58, 59, 60, 61, 62, 63, 64, 65, 66, 67, 68] (by decide +kernel) (by decide +kernel)
set_option maxRecDepth 20000 in
theorem gX7_ask_X3_hasSound : GoodIn wsX7_ask (wsV RX7 173 RX3 yX3_hasSound wsX3_hasSound) := goodIn_app (goodIn_of _ (by decide +kernel)) ggX7_ask_X3_hasSound
set_option maxRecDepth 20000 in
theorem ggX7_byTurns_X3_isTold : GoodIn wsX7_byTurns wsX3_isTold := goodIn_r _ [9, 10, 114, 115, 116, 117, 118, 119, 120, 121, 122, 123, 124, 125, 126] (by decide +kernel) (by decide +kernel)
set_option maxRecDepth 20000 in
theorem gX7_byTurns_X3_isTold : GoodIn wsX7_byTurns (wsV RX7 145 RX3 yX3_isTold wsX3_isTold) := goodIn_app (goodIn_of _ (by decide +kernel)) ggX7_byTurns_X3_isTold
set_option maxRecDepth 20000 in
theorem ggX7_calm_X3_hasSound : GoodIn wsX7_calm wsX3_hasSound := goodIn_r _ [12, 13, 102, 103, 104, 105, 106, 107, 108, 109, 110, 111, 112, 113, 114] (by decide +kernel) (by decide +kernel)
set_option maxRecDepth 20000 in
theorem gX7_calm_X3_hasSound : GoodIn wsX7_calm (wsV RX7 173 RX3 yX3_hasSound wsX3_hasSound) := goodIn_app (goodIn_of _ (by decide +kernel)) ggX7_calm_X3_hasSound
set_option maxRecDepth 20000 in
theorem ggX7_cap_X3_isTold : GoodIn wsX7_cap wsX3_isTold := goodIn_r _ [9, 10, 58, 59, 60, 61, 62, 63, 64, 65, 66, 67, 68, 69, 70] (by decide +kernel) (by decide +kernel)
set_option maxRecDepth 20000 in
theorem gX7_cap_X3_isTold : GoodIn wsX7_cap (wsV RX7 145 RX3 yX3_isTold wsX3_isTold) := goodIn_app (goodIn_of _ (by decide +kernel)) ggX7_cap_X3_isTold
set_option maxRecDepth 20000 in
theorem ggX7_caps_X3_isTold : GoodIn wsX7_caps wsX3_isTold := goodIn_r _ [12, 13, 127, 128, 129, 130, 131, 132, 133, 134, 135, 136, 137, 138, 139] (by decide +kernel) (by decide +kernel)
set_option maxRecDepth 20000 in
theorem gX7_caps_X3_isTold : GoodIn wsX7_caps (wsV RX7 145 RX3 yX3_isTold wsX3_isTold) := goodIn_app (goodIn_of _ (by decide +kernel)) ggX7_caps_X3_isTold
set_option maxRecDepth 20000 in
theorem ggX7_copy_X5_findingOfMove : GoodIn wsX7_copy wsX5_findingOfMove := goodIn_r _ [10, 11, 12, 13, 14, 5, 15, 16, 17, 18, 19, 20, 52, 53, 54] (by decide +kernel) (by decide +kernel)
set_option maxRecDepth 20000 in
theorem gX7_copy_X5_findingOfMove : GoodIn wsX7_copy (wsV RX7 91 RX5 yX5_findingOfMove wsX5_findingOfMove) := goodIn_app (goodIn_of _ (by decide +kernel)) ggX7_copy_X5_findingOfMove
set_option maxRecDepth 20000 in
theorem ggX7_copy_X5_isRow : GoodIn wsX7_copy wsX5_isRow := goodIn_r _ [6] (by decide +kernel) (by decide +kernel)
set_option maxRecDepth 20000 in
theorem gX7_copy_X5_isRow : GoodIn wsX7_copy (va_wsS RX7 65 yX5_isRow wsX5_isRow) := goodIn_app (goodIn_of _ (by decide +kernel)) ggX7_copy_X5_isRow
set_option maxRecDepth 20000 in
theorem ggX7_copy_X7_found : GoodIn wsX7_copy wsX7_found := goodIn_r _ [25, 26, 27, 41, 42, 43, 44, 45, 46, 47, 48, 49, 50, 51] (by decide +kernel) (by decide +kernel)
set_option maxRecDepth 20000 in
theorem gX7_copy_X7_found : GoodIn wsX7_copy (wsV RX7 73 RX7 yX7_found wsX7_found) := goodIn_app (goodIn_of _ (by decide +kernel)) ggX7_copy_X7_found
set_option maxRecDepth 20000 in
theorem ggX7_count_J6_bitCount_0f7a4 : GoodIn wsX7_count wsJ6_bitCount_0f7a4 := goodIn_r _ [32, 33, 34, 35] (by decide +kernel) (by decide +kernel)
set_option maxRecDepth 20000 in
theorem gX7_count_J6_bitCount_0f7a4 : GoodIn wsX7_count (va_wsS RX7 296 yJ6_bitCount_0f7a4 wsJ6_bitCount_0f7a4) := goodIn_app (goodIn_of _ (by decide +kernel)) ggX7_count_J6_bitCount_0f7a4
set_option maxRecDepth 20000 in
theorem ggX7_count_X3_soundsThatAre : GoodIn wsX7_count wsX3_soundsThatAre := goodIn_r _ [26, 27, 28, 47, 48, 49, 50, 51, 52, 53, 54, 55, 56, 57, 58, 59] (by decide +kernel) (by decide +kernel)
set_option maxRecDepth 20000 in
theorem gX7_count_X3_soundsThatAre : GoodIn wsX7_count (wsV RX7 185 RX3 yX3_soundsThatAre wsX3_soundsThatAre) := goodIn_app (goodIn_of _ (by decide +kernel)) ggX7_count_X3_soundsThatAre
set_option maxRecDepth 20000 in
theorem ggX7_count_X5_present : GoodIn wsX7_count wsX5_present := goodIn_r _ [16, 17, 18, 19, 15, 20, 21, 69, 70, 71] (by decide +kernel) (by decide +kernel)
set_option maxRecDepth 20000 in
theorem gX7_count_X5_present : GoodIn wsX7_count (wsV RX7 319 RX5 yX5_present wsX5_present) := goodIn_app (goodIn_of _ (by decide +kernel)) ggX7_count_X5_present
set_option maxRecDepth 20000 in
theorem ggX7_drawn_X3_isTold : GoodIn wsX7_drawn wsX3_isTold := goodIn_r _ [13, 14, 109, 110, 111, 112, 113, 114, 115, 116, 117, 118, 119, 120, 121] (by decide +kernel) (by decide +kernel)
set_option maxRecDepth 20000 in
theorem gX7_drawn_X3_isTold : GoodIn wsX7_drawn (wsV RX7 145 RX3 yX3_isTold wsX3_isTold) := goodIn_app (goodIn_of _ (by decide +kernel)) ggX7_drawn_X3_isTold
set_option maxRecDepth 20000 in
theorem ggX7_drop_X5_isMissing : GoodIn wsX7_drop wsX5_isMissing := goodIn_r _ [10, 11, 39, 40, 41] (by decide +kernel) (by decide +kernel)
set_option maxRecDepth 20000 in
theorem gX7_drop_X5_isMissing : GoodIn wsX7_drop (wsV RX7 99 RX5 yX5_isMissing wsX5_isMissing) := goodIn_app (goodIn_of _ (by decide +kernel)) ggX7_drop_X5_isMissing
set_option maxRecDepth 20000 in
theorem ggX7_drop_X5_isRow : GoodIn wsX7_drop wsX5_isRow := goodIn_r _ [6] (by decide +kernel) (by decide +kernel)
set_option maxRecDepth 20000 in
theorem gX7_drop_X5_isRow : GoodIn wsX7_drop (va_wsS RX7 65 yX5_isRow wsX5_isRow) := goodIn_app (goodIn_of _ (by decide +kernel)) ggX7_drop_X5_isRow
set_option maxRecDepth 20000 in
theorem ggX7_drop_X7_found : GoodIn wsX7_drop wsX7_found := goodIn_r _ [16, 17, 18, 28, 29, 30, 31, 32, 33, 34, 35, 36, 37, 38] (by decide +kernel) (by decide +kernel)
set_option maxRecDepth 20000 in
theorem gX7_drop_X7_found : GoodIn wsX7_drop (wsV RX7 73 RX7 yX7_found wsX7_found) := goodIn_app (goodIn_of _ (by decide +kernel)) ggX7_drop_X7_found
set_option maxRecDepth 20000 in
theorem ggX7_feed_X6_append : GoodIn wsX7_feed wsX6_append := goodIn_r _ [13, 14, 9, 15, 5, 6, 7, 8, 27, 28, 29, 30, 31, 32] (by decide +kernel) (by decide +kernel)
set_option maxRecDepth 20000 in
theorem gX7_feed_X6_append : GoodIn wsX7_feed (wsV RX7 110 RX6 yX6_append wsX6_append) := goodIn_app (goodIn_of _ (by decide +kernel)) ggX7_feed_X6_append
set_option maxRecDepth 20000 in
theorem ggX7_feed_X6_isFull : GoodIn wsX7_feed wsX6_isFull := goodIn_r _ [8, 9, 27, 28, 29, 30, 31, 32] (by decide +kernel) (by decide +kernel)
set_option maxRecDepth 20000 in
theorem gX7_feed_X6_isFull : GoodIn wsX7_feed (wsV RX7 105 RX6 yX6_isFull wsX6_isFull) := goodIn_app (goodIn_of _ (by decide +kernel)) ggX7_feed_X6_isFull
set_option maxRecDepth 20000 in
theorem ggX7_gust_X3_isTold : GoodIn wsX7_gust wsX3_isTold := goodIn_r _ [8, 9, 32, 33, 34, 35, 36, 37, 38, 39, 40, 41, 42, 43, 44] (by decide +kernel) (by decide +kernel)
set_option maxRecDepth 20000 in
theorem gX7_gust_X3_isTold : GoodIn wsX7_gust (wsV RX7 145 RX3 yX3_isTold wsX3_isTold) := goodIn_app (goodIn_of _ (by decide +kernel)) ggX7_gust_X3_isTold
set_option maxRecDepth 20000 in
theorem ggX7_gusts_X3_hasSound : GoodIn wsX7_gusts wsX3_hasSound := goodIn_r _ [12, 13, 144, 145, 146, 147, 148, 149, 150, 151, 152, 153, 154, 155, 156] (by decide +kernel) (by decide +kernel)
set_option maxRecDepth 20000 in
theorem gX7_gusts_X3_hasSound : GoodIn wsX7_gusts (wsV RX7 173 RX3 yX3_hasSound wsX3_hasSound) := goodIn_app (goodIn_of _ (by decide +kernel)) ggX7_gusts_X3_hasSound
set_option maxRecDepth 20000 in
theorem ggX7_gusts_X3_hasWind : GoodIn wsX7_gusts wsX3_hasWind := goodIn_r _ [7, 8, 144, 145, 146, 147, 148, 149, 150, 151, 152, 153, 154, 155, 156] (by decide +kernel) (by decide +kernel)
set_option maxRecDepth 20000 in
theorem gX7_gusts_X3_hasWind : GoodIn wsX7_gusts (wsV RX7 166 RX3 yX3_hasWind wsX3_hasWind) := goodIn_app (goodIn_of _ (by decide +kernel)) ggX7_gusts_X3_hasWind
set_option maxRecDepth 20000 in
theorem ggX7_had_X3_isTold : GoodIn wsX7_had wsX3_isTold := goodIn_r _ [13, 14, 118, 119, 120, 121, 122, 123, 124, 125, 126, 127, 128, 129, 130] (by decide +kernel) (by decide +kernel)
set_option maxRecDepth 20000 in
theorem gX7_had_X3_isTold : GoodIn wsX7_had (wsV RX7 145 RX3 yX3_isTold wsX3_isTold) := goodIn_app (goodIn_of _ (by decide +kernel)) ggX7_had_X3_isTold
set_option maxRecDepth 20000 in
theorem ggX7_hours_X3_isTold : GoodIn wsX7_hours wsX3_isTold := goodIn_r _ [12, 13, 94, 95, 96, 97, 98, 99, 100, 101, 102, 103, 104, 105, 106] (by decide +kernel) (by decide +kernel)
set_option maxRecDepth 20000 in
theorem gX7_hours_X3_isTold : GoodIn wsX7_hours (wsV RX7 145 RX3 yX3_isTold wsX3_isTold) := goodIn_app (goodIn_of _ (by decide +kernel)) ggX7_hours_X3_isTold
set_option maxRecDepth 20000 in
theorem ggX7_image_X3_isTold : GoodIn wsX7_image wsX3_isTold := goodIn_r _ [9, 10, 42, 43, 44, 45, 46, 47, 48, 49, 50, 51, 52, 53, 54] (by decide +kernel) (by decide +kernel)
set_option maxRecDepth 20000 in
theorem gX7_image_X3_isTold : GoodIn wsX7_image (wsV RX7 145 RX3 yX3_isTold wsX3_isTold) := goodIn_app (goodIn_of _ (by decide +kernel)) ggX7_image_X3_isTold
set_option maxRecDepth 20000 in
theorem ggX7_init_X0_init : GoodIn wsX7_init wsX0_init := goodIn_r _ [63, 64, 2, 3, 65, 66, 13, 14, 53, 54, 55, 39, 56, 57, 58, 59, 60, 116, 117, 118, 103, 104, 105, 106, 107, 108, 109, 110, 111, 112, 113, 114, 115] (by decide +kernel) (by decide +kernel)
set_option maxRecDepth 20000 in
theorem gX7_init_X0_init : GoodIn wsX7_init (wsX0_init) := ggX7_init_X0_init
set_option maxRecDepth 20000 in
theorem ggX7_init_X1_init : GoodIn wsX7_init wsX1_init := goodIn_r _ [80, 81, 2, 3, 39, 82, 128, 129, 130, 131, 132, 133] (by decide +kernel) (by decide +kernel)
set_option maxRecDepth 20000 in
theorem gX7_init_X1_init_n60 : GoodIn wsX7_init (wsX1_init) := ggX7_init_X1_init
set_option maxRecDepth 20000 in
theorem ggX7_init_X2_init : GoodIn wsX7_init wsX2_init := goodIn_r _ [75, 76, 2, 3, 77, 78, 13, 14, 53, 54, 55, 39, 56, 57, 58, 59, 60, 122, 123, 124, 125, 126, 127, 103, 104, 105, 106, 107, 108, 109, 110, 111, 112, 113, 114, 115] (by decide +kernel) (by decide +kernel)
set_option maxRecDepth 20000 in
theorem gX7_init_X2_init : GoodIn wsX7_init (wsX2_init) := ggX7_init_X2_init
set_option maxRecDepth 20000 in
theorem ggX7_init_X3_init : GoodIn wsX7_init wsX3_init := goodIn_r _ [54, 55, 2, 3, 39, 56, 57, 58, 59, 60, 103, 104, 105, 106, 107, 108, 109, 110, 111, 112, 113, 114, 115] (by decide +kernel) (by decide +kernel)
set_option maxRecDepth 20000 in
theorem gX7_init_X3_init_n25 : GoodIn wsX7_init (wsX3_init) := ggX7_init_X3_init
set_option maxRecDepth 20000 in
theorem ggX7_init_X4_init : GoodIn wsX7_init wsX4_init := goodIn_r _ [68, 69, 2, 3, 70, 13, 14, 71, 72, 53, 54, 55, 39, 56, 57, 58, 59, 60, 103, 104, 105, 106, 107, 108, 109, 110, 111, 112, 113, 114, 115, 119, 120, 121] (by decide +kernel) (by decide +kernel)
set_option maxRecDepth 20000 in
theorem gX7_init_X4_init_n46 : GoodIn wsX7_init (wsX4_init) := ggX7_init_X4_init
set_option maxRecDepth 20000 in
theorem ggX7_init_X5_init : GoodIn wsX7_init wsX5_init := goodIn_r _ [36, 37, 2, 3, 38, 39, 40, 41, 42, 43, 44, 45, 46, 83, 84, 85] (by decide +kernel) (by decide +kernel)
set_option maxRecDepth 20000 in
theorem gX7_init_X5_init : GoodIn wsX7_init (wsX5_init) := ggX7_init_X5_init
set_option maxRecDepth 20000 in
theorem ggX7_init_X6_init : GoodIn wsX7_init wsX6_init := goodIn_r _ [48, 49, 2, 3, 39, 50, 51, 13, 14, 52, 53, 54, 55, 56, 57, 58, 59, 60, 97, 98, 99, 100, 101, 102, 103, 104, 105, 106, 107, 108, 109, 110, 111, 112, 113, 114, 115] (by decide +kernel) (by decide +kernel)
set_option maxRecDepth 20000 in
theorem gX7_init_X6_init_n18 : GoodIn wsX7_init (wsX6_init) := ggX7_init_X6_init
set_option maxRecDepth 20000 in
theorem ggX7_kind_X3_hasSound : GoodIn wsX7_kind wsX3_hasSound := goodIn_r _ [8, 9, 21, 22, 23, 24, 25, 26, 27, 28, 29, 30, 31, 32, 33] (by decide +kernel) (by decide +kernel)
set_option maxRecDepth 20000 in
theorem gX7_kind_X3_hasSound : GoodIn wsX7_kind (wsV RX7 173 RX3 yX3_hasSound wsX3_hasSound) := goodIn_app (goodIn_of _ (by decide +kernel)) ggX7_kind_X3_hasSound
set_option maxRecDepth 20000 in
theorem ggX7_level_X6_read : GoodIn wsX7_level wsX6_read := goodIn_r _ [13, 14, 15, 16, 17, 18, 19, 20, 21, 22, 23, 24, 25, 26, 27, 28, 29, 30, 31, 32, 33, 34, 12, 35, 36, 37, 38, 39, 40, 41, 42, 43, 44, 45, 46, 47, 48, 49, 50, 51, 52, 53, 54, 55, 56, 57, 58, 59, 60, 61, 62, 63, 64, 65, 66, 67, 68, 69, 70, 71, 72, 73, 74, 75, 76, 77, 78, 79, 80, 81, 82, 83, 84, 85, 86, 87, 88, 89, 90, 91, 92, 120, 121, 122, 123, 124, 125, 126, 127, 128, 129, 130, 131, 132, 133, 134, 135, 136, 137, 138] (by decide +kernel) (by decide +kernel)
set_option maxRecDepth 20000 in
theorem gX7_level_X6_read : GoodIn wsX7_level (wsV RX7 113 RX6 yX6_read wsX6_read) := goodIn_app (goodIn_of _ (by decide +kernel)) ggX7_level_X6_read
set_option maxRecDepth 20000 in
theorem ggX7_loose_X3_hasSound : GoodIn wsX7_loose wsX3_hasSound := goodIn_r _ [9, 10, 70, 71, 72, 73, 74, 75, 76, 77, 78, 79, 80, 81, 82] (by decide +kernel) (by decide +kernel)
set_option maxRecDepth 20000 in
theorem gX7_loose_X3_hasSound : GoodIn wsX7_loose (wsV RX7 173 RX3 yX3_hasSound wsX3_hasSound) := goodIn_app (goodIn_of _ (by decide +kernel)) ggX7_loose_X3_hasSound
set_option maxRecDepth 20000 in
theorem ggX7_meal_X3_isTold : GoodIn wsX7_meal wsX3_isTold := goodIn_r _ [9, 10, 90, 91, 92, 93, 94, 95, 96, 97, 98, 99, 100, 101, 102] (by decide +kernel) (by decide +kernel)
set_option maxRecDepth 20000 in
theorem gX7_meal_X3_isTold : GoodIn wsX7_meal (wsV RX7 145 RX3 yX3_isTold wsX3_isTold) := goodIn_app (goodIn_of _ (by decide +kernel)) ggX7_meal_X3_isTold
set_option maxRecDepth 20000 in
theorem ggX7_restore_X3_isTold : GoodIn wsX7_restore wsX3_isTold := goodIn_r _ [10, 11, 49, 50, 51, 52, 53, 54, 55, 56, 57, 58, 59, 60, 61] (by decide +kernel) (by decide +kernel)
set_option maxRecDepth 20000 in
theorem gX7_restore_X3_isTold : GoodIn wsX7_restore (wsV RX7 145 RX3 yX3_isTold wsX3_isTold) := goodIn_app (goodIn_of _ (by decide +kernel)) ggX7_restore_X3_isTold
set_option maxRecDepth 20000 in
theorem ggX7_row_X5_isLane : GoodIn wsX7_row wsX5_isLane := goodIn_r _ [9] (by decide +kernel) (by decide +kernel)
set_option maxRecDepth 20000 in
theorem gX7_row_X5_isLane : GoodIn wsX7_row (va_wsS RX7 69 yX5_isLane wsX5_isLane) := goodIn_app (goodIn_of _ (by decide +kernel)) ggX7_row_X5_isLane
set_option maxRecDepth 20000 in
theorem ggX7_row_X5_isRow : GoodIn wsX7_row wsX5_isRow := goodIn_r _ [6] (by decide +kernel) (by decide +kernel)
set_option maxRecDepth 20000 in
theorem gX7_row_X5_isRow : GoodIn wsX7_row (va_wsS RX7 65 yX5_isRow wsX5_isRow) := goodIn_app (goodIn_of _ (by decide +kernel)) ggX7_row_X5_isRow
set_option maxRecDepth 20000 in
theorem ggX7_row_X5_make : GoodIn wsX7_row wsX5_make := goodIn_r _ [20, 21, 22, 23, 24, 25, 26, 27, 43, 44, 45] (by decide +kernel) (by decide +kernel)
set_option maxRecDepth 20000 in
theorem gX7_row_X5_make : GoodIn wsX7_row (wsV RX7 77 RX5 yX5_make wsX5_make) := goodIn_app (goodIn_of _ (by decide +kernel)) ggX7_row_X5_make
set_option maxRecDepth 20000 in
theorem ggX7_row_X7_found : GoodIn wsX7_row wsX7_found := goodIn_r _ [14, 15, 16, 32, 33, 34, 35, 36, 37, 38, 39, 40, 41, 42] (by decide +kernel) (by decide +kernel)
set_option maxRecDepth 20000 in
theorem gX7_row_X7_found : GoodIn wsX7_row (wsV RX7 73 RX7 yX7_found wsX7_found) := goodIn_app (goodIn_of _ (by decide +kernel)) ggX7_row_X7_found
set_option maxRecDepth 20000 in
theorem ggX7_row_X7_foundNothing : GoodIn wsX7_row wsX7_foundNothing := goodIn_r _ [31, 15, 32, 33, 34, 35, 36, 37, 38, 39, 40, 41, 42] (by decide +kernel) (by decide +kernel)
set_option maxRecDepth 20000 in
theorem gX7_row_X7_foundNothing : GoodIn wsX7_row (wsV RX7 81 RX7 yX7_foundNothing wsX7_foundNothing) := goodIn_app (goodIn_of _ (by decide +kernel)) ggX7_row_X7_foundNothing
set_option maxRecDepth 20000 in
theorem ggX7_sack_X3_isTold : GoodIn wsX7_sack wsX3_isTold := goodIn_r _ [9, 10, 33, 34, 35, 36, 37, 38, 39, 40, 41, 42, 43, 44, 45] (by decide +kernel) (by decide +kernel)
set_option maxRecDepth 20000 in
theorem gX7_sack_X3_isTold : GoodIn wsX7_sack (wsV RX7 145 RX3 yX3_isTold wsX3_isTold) := goodIn_app (goodIn_of _ (by decide +kernel)) ggX7_sack_X3_isTold
set_option maxRecDepth 20000 in
theorem ggX7_sell_X3_isTold : GoodIn wsX7_sell wsX3_isTold := goodIn_r _ [10, 11, 55, 56, 57, 58, 59, 60, 61, 62, 63, 64, 65, 66, 67] (by decide +kernel) (by decide +kernel)
set_option maxRecDepth 20000 in
theorem gX7_sell_X3_isTold : GoodIn wsX7_sell (wsV RX7 145 RX3 yX3_isTold wsX3_isTold) := goodIn_app (goodIn_of _ (by decide +kernel)) ggX7_sell_X3_isTold
set_option maxRecDepth 20000 in
theorem ggX7_set_X5_findingOf : GoodIn wsX7_set wsX5_findingOf := goodIn_r _ [10, 11, 12, 13, 5, 14, 15, 16, 17, 18, 19, 20, 48, 49, 50] (by decide +kernel) (by decide +kernel)
set_option maxRecDepth 20000 in
theorem gX7_set_X5_findingOf : GoodIn wsX7_set (wsV RX7 84 RX5 yX5_findingOf wsX5_findingOf) := goodIn_app (goodIn_of _ (by decide +kernel)) ggX7_set_X5_findingOf
set_option maxRecDepth 20000 in
theorem ggX7_set_X5_isRow : GoodIn wsX7_set wsX5_isRow := goodIn_r _ [6] (by decide +kernel) (by decide +kernel)
set_option maxRecDepth 20000 in
theorem gX7_set_X5_isRow : GoodIn wsX7_set (va_wsS RX7 65 yX5_isRow wsX5_isRow) := goodIn_app (goodIn_of _ (by decide +kernel)) ggX7_set_X5_isRow
set_option maxRecDepth 20000 in
theorem ggX7_set_X7_found : GoodIn wsX7_set wsX7_found := goodIn_r _ [25, 26, 27, 37, 38, 39, 40, 41, 42, 43, 44, 45, 46, 47] (by decide +kernel) (by decide +kernel)
set_option maxRecDepth 20000 in
theorem gX7_set_X7_found : GoodIn wsX7_set (wsV RX7 73 RX7 yX7_found wsX7_found) := goodIn_app (goodIn_of _ (by decide +kernel)) ggX7_set_X7_found
set_option maxRecDepth 20000 in
theorem ggX7_share_X3_hasSound : GoodIn wsX7_share wsX3_hasSound := goodIn_r _ [9, 10, 36, 37, 38, 39, 40, 41, 42, 43, 44, 45, 46, 47, 48] (by decide +kernel) (by decide +kernel)
set_option maxRecDepth 20000 in
theorem gX7_share_X3_hasSound : GoodIn wsX7_share (wsV RX7 173 RX3 yX3_hasSound wsX3_hasSound) := goodIn_app (goodIn_of _ (by decide +kernel)) ggX7_share_X3_hasSound
set_option maxRecDepth 20000 in
theorem ggX7_site_X3_isTold : GoodIn wsX7_site wsX3_isTold := goodIn_r _ [11, 12, 88, 89, 90, 91, 92, 93, 94, 95, 96, 97, 98, 99, 100] (by decide +kernel) (by decide +kernel)
set_option maxRecDepth 20000 in
theorem gX7_site_X3_isTold : GoodIn wsX7_site (wsV RX7 145 RX3 yX3_isTold wsX3_isTold) := goodIn_app (goodIn_of _ (by decide +kernel)) ggX7_site_X3_isTold
set_option maxRecDepth 20000 in
theorem ggX7_sound_X3_hasSound : GoodIn wsX7_sound wsX3_hasSound := goodIn_r _ [7, 8, 44, 45, 46, 47, 48, 49, 50, 51, 52, 53, 54, 55, 56] (by decide +kernel) (by decide +kernel)
set_option maxRecDepth 20000 in
theorem gX7_sound_X3_hasSound : GoodIn wsX7_sound (wsV RX7 173 RX3 yX3_hasSound wsX3_hasSound) := goodIn_app (goodIn_of _ (by decide +kernel)) ggX7_sound_X3_hasSound
set_option maxRecDepth 20000 in
theorem ggX7_stand_X3_isTold : GoodIn wsX7_stand wsX3_isTold := goodIn_r _ [12, 13, 31, 32, 33, 34, 35, 36, 37, 38, 39, 40, 41, 42, 43] (by decide +kernel) (by decide +kernel)
set_option maxRecDepth 20000 in
theorem gX7_stand_X3_isTold : GoodIn wsX7_stand (wsV RX7 145 RX3 yX3_isTold wsX3_isTold) := goodIn_app (goodIn_of _ (by decide +kernel)) ggX7_stand_X3_isTold
set_option maxRecDepth 20000 in
theorem ggX7_when_X3_hasSound : GoodIn wsX7_when wsX3_hasSound := goodIn_r _ [10, 11, 83, 84, 85, 86, 87, 88, 89, 90, 91, 92, 93, 94, 95] (by decide +kernel) (by decide +kernel)
set_option maxRecDepth 20000 in
theorem gX7_when_X3_hasSound : GoodIn wsX7_when (wsV RX7 173 RX3 yX3_hasSound wsX3_hasSound) := goodIn_app (goodIn_of _ (by decide +kernel)) ggX7_when_X3_hasSound
set_option maxRecDepth 20000 in
theorem ggX7_who_X3_hasSound : GoodIn wsX7_who wsX3_hasSound := goodIn_r _ [7, 8, 140, 141, 142, 143, 144, 145, 146, 147, 148, 149, 150, 151, 152] (by decide +kernel) (by decide +kernel)
set_option maxRecDepth 20000 in
theorem gX7_who_X3_hasSound : GoodIn wsX7_who (wsV RX7 173 RX3 yX3_hasSound wsX3_hasSound) := goodIn_app (goodIn_of _ (by decide +kernel)) ggX7_who_X3_hasSound
set_option maxRecDepth 20000 in
theorem ggX7_wind_X3_hasWind : GoodIn wsX7_wind wsX3_hasWind := goodIn_r _ [9, 10, 54, 55, 56, 57, 58, 59, 60, 61, 62, 63, 64, 65, 66] (by decide +kernel) (by decide +kernel)
set_option maxRecDepth 20000 in
theorem gX7_wind_X3_hasWind : GoodIn wsX7_wind (wsV RX7 166 RX3 yX3_hasWind wsX3_hasWind) := goodIn_app (goodIn_of _ (by decide +kernel)) ggX7_wind_X3_hasWind
set_option maxRecDepth 20000 in
theorem ggX8_ahead_X8_isSound : GoodIn wsX8_ahead wsX8_isSound := goodIn_r _ [10, 4, 11, 12, 9, 13, 50, 51, 52, 53, 54, 55, 56, 57, 58, 59, 60, 61, 62, 63, 64, 65, 66, 67, 68, 69, 70, 71, 72, 73] (by decide +kernel) (by decide +kernel)
set_option maxRecDepth 20000 in
theorem gX8_ahead_X8_isSound : GoodIn wsX8_ahead (wsV RX8 173 RX8 yX8_isSound wsX8_isSound) := goodIn_app (goodIn_of _ (by decide +kernel)) ggX8_ahead_X8_isSound
set_option maxRecDepth 20000 in
theorem ggX8_as_X8_isSound : GoodIn wsX8_as wsX8_isSound := goodIn_r _ [8, 3, 9, 10, 7, 11, 25, 26, 27, 28, 29, 30, 31, 32, 33, 34, 35, 36, 37, 38, 39, 40, 41, 42, 43, 44, 45, 46, 47, 48] (by decide +kernel) (by decide +kernel)
set_option maxRecDepth 20000 in
theorem gX8_as_X8_isSound : GoodIn wsX8_as (wsV RX8 173 RX8 yX8_isSound wsX8_isSound) := goodIn_app (goodIn_of _ (by decide +kernel)) ggX8_as_X8_isSound
set_option maxRecDepth 20000 in
theorem ggX8_ask_X8_isSound : GoodIn wsX8_ask wsX8_isSound := goodIn_r _ [7, 8, 9, 10, 6, 11, 45, 46, 47, 48, 49, 50, 51, 52, 53, 54, 55, 56, 57, 58, 59, 60, 61, 62, 63, 64, 65, 66, 67, 68] (by decide +kernel) (by decide +kernel)
set_option maxRecDepth 20000 in
theorem gX8_ask_X8_isSound : GoodIn wsX8_ask (wsV RX8 173 RX8 yX8_isSound wsX8_isSound) := goodIn_app (goodIn_of _ (by decide +kernel)) ggX8_ask_X8_isSound
set_option maxRecDepth 20000 in
theorem ggX8_calm_X8_isSound : GoodIn wsX8_calm wsX8_isSound := goodIn_r _ [10, 4, 11, 12, 9, 13, 55, 56, 57, 58, 59, 60, 61, 62, 63, 64, 65, 66, 67, 68, 69, 70, 71, 72, 73, 74, 75, 76, 77, 78] (by decide +kernel) (by decide +kernel)
set_option maxRecDepth 20000 in
theorem gX8_calm_X8_isSound : GoodIn wsX8_calm (wsV RX8 173 RX8 yX8_isSound wsX8_isSound) := goodIn_app (goodIn_of _ (by decide +kernel)) ggX8_calm_X8_isSound
set_option maxRecDepth 20000 in
theorem ggX8_copy_X8_find : GoodIn wsX8_copy wsX8_find := goodIn_r _ [17, 18, 19, 24, 25, 26, 27, 28, 29, 30, 31, 32, 33, 34, 35, 36, 37, 38, 39, 40, 41, 42, 43, 44, 45, 46, 47] (by decide +kernel) (by decide +kernel)
set_option maxRecDepth 20000 in
theorem gX8_copy_X8_find : GoodIn wsX8_copy (wsV RX8 68 RX8 yX8_find wsX8_find) := goodIn_app (goodIn_of _ (by decide +kernel)) ggX8_copy_X8_find
set_option maxRecDepth 20000 in
theorem ggX8_copy_X8_isRow : GoodIn wsX8_copy wsX8_isRow := goodIn_r _ [9, 10, 11, 12, 8, 13] (by decide +kernel) (by decide +kernel)
set_option maxRecDepth 20000 in
theorem gX8_copy_X8_isRow : GoodIn wsX8_copy (va_wsS RX8 61 yX8_isRow wsX8_isRow) := goodIn_app (goodIn_of _ (by decide +kernel)) ggX8_copy_X8_isRow
set_option maxRecDepth 20000 in
theorem ggX8_count_X8_ones : GoodIn wsX8_count wsX8_ones := goodIn_r _ [13] (by decide +kernel) (by decide +kernel)
set_option maxRecDepth 20000 in
theorem gX8_count_X8_ones : GoodIn wsX8_count (va_wsS RX8 254 yX8_ones wsX8_ones) := goodIn_app (goodIn_of _ (by decide +kernel)) ggX8_count_X8_ones
set_option maxRecDepth 20000 in
theorem ggX8_count_X8_those : GoodIn wsX8_count wsX8_those := goodIn_r _ [10, 2, 14, 15, 16, 17, 18, 19, 20, 21, 22, 23, 24, 25, 26, 27, 28, 29, 30, 31, 32, 33, 34, 35, 36, 37] (by decide +kernel) (by decide +kernel)
set_option maxRecDepth 20000 in
theorem gX8_count_X8_those : GoodIn wsX8_count (wsV RX8 182 RX8 yX8_those wsX8_those) := goodIn_app (goodIn_of _ (by decide +kernel)) ggX8_count_X8_those
set_option maxRecDepth 20000 in
theorem ggX8_drop_X8_find : GoodIn wsX8_drop wsX8_find := goodIn_r _ [14, 15, 16, 21, 22, 23, 24, 25, 26, 27, 28, 29, 30, 31, 32, 33, 34, 35, 36, 37, 38, 39, 40, 41, 42, 43, 44] (by decide +kernel) (by decide +kernel)
set_option maxRecDepth 20000 in
theorem gX8_drop_X8_find : GoodIn wsX8_drop (wsV RX8 68 RX8 yX8_find wsX8_find) := goodIn_app (goodIn_of _ (by decide +kernel)) ggX8_drop_X8_find
set_option maxRecDepth 20000 in
theorem ggX8_drop_X8_isRow : GoodIn wsX8_drop wsX8_isRow := goodIn_r _ [6, 7, 8, 9, 5, 10] (by decide +kernel) (by decide +kernel)
set_option maxRecDepth 20000 in
theorem gX8_drop_X8_isRow : GoodIn wsX8_drop (va_wsS RX8 61 yX8_isRow wsX8_isRow) := goodIn_app (goodIn_of _ (by decide +kernel)) ggX8_drop_X8_isRow
set_option maxRecDepth 20000 in
theorem ggX8_feed_X8_in : GoodIn wsX8_feed wsX8_in := goodIn_r _ [9] (by decide +kernel) (by decide +kernel)
set_option maxRecDepth 20000 in
theorem gX8_feed_X8_in : GoodIn wsX8_feed (va_wsS RX8 57 yX8_in wsX8_in) := goodIn_app (goodIn_of _ (by decide +kernel)) ggX8_feed_X8_in
set_option maxRecDepth 20000 in
theorem ggX8_gusts_X8_in : GoodIn wsX8_gusts wsX8_in := goodIn_r _ [9] (by decide +kernel) (by decide +kernel)
set_option maxRecDepth 20000 in
theorem gX8_gusts_X8_in : GoodIn wsX8_gusts (va_wsS RX8 57 yX8_in wsX8_in) := goodIn_app (goodIn_of _ (by decide +kernel)) ggX8_gusts_X8_in
set_option maxRecDepth 20000 in
theorem ggX8_gusts_X8_isSound : GoodIn wsX8_gusts wsX8_isSound := goodIn_r _ [13, 2, 6, 7, 8, 9, 74, 75, 76, 77, 78, 79, 80, 81, 82, 83, 84, 85, 86, 87, 88, 89, 90, 91, 92, 93, 94, 95, 96, 97] (by decide +kernel) (by decide +kernel)
set_option maxRecDepth 20000 in
theorem gX8_gusts_X8_isSound : GoodIn wsX8_gusts (wsV RX8 173 RX8 yX8_isSound wsX8_isSound) := goodIn_app (goodIn_of _ (by decide +kernel)) ggX8_gusts_X8_isSound
set_option maxRecDepth 20000 in
theorem ggX8_image_X8_in : GoodIn wsX8_image wsX8_in := goodIn_r _ [10] (by decide +kernel) (by decide +kernel)
set_option maxRecDepth 20000 in
theorem gX8_image_X8_in : GoodIn wsX8_image (va_wsS RX8 57 yX8_in wsX8_in) := goodIn_app (goodIn_of _ (by decide +kernel)) ggX8_image_X8_in
set_option maxRecDepth 20000 in
theorem ggX8_isRow_X8_in : GoodIn wsX8_isRow wsX8_in := goodIn_r _ [5] (by decide +kernel) (by decide +kernel)
set_option maxRecDepth 20000 in
theorem gX8_isRow_X8_in : GoodIn wsX8_isRow (va_wsS RX8 57 yX8_in wsX8_in) := goodIn_app (goodIn_of _ (by decide +kernel)) ggX8_isRow_X8_in
set_option maxRecDepth 20000 in
theorem ggX8_isSound_X8_in : GoodIn wsX8_isSound wsX8_in := goodIn_r _ [5] (by decide +kernel) (by decide +kernel)
set_option maxRecDepth 20000 in
theorem gX8_isSound_X8_in : GoodIn wsX8_isSound (va_wsS RX8 57 yX8_in wsX8_in) := goodIn_app (goodIn_of _ (by decide +kernel)) ggX8_isSound_X8_in
set_option maxRecDepth 20000 in
theorem ggX8_kind_X8_isSound : GoodIn wsX8_kind wsX8_isSound := goodIn_r _ [7, 1, 8, 9, 6, 10, 11, 12, 13, 14, 15, 16, 17, 18, 19, 20, 21, 22, 23, 24, 25, 26, 27, 28, 29, 30, 31, 32, 33, 34] (by decide +kernel) (by decide +kernel)
set_option maxRecDepth 20000 in
theorem gX8_kind_X8_isSound : GoodIn wsX8_kind (wsV RX8 173 RX8 yX8_isSound wsX8_isSound) := goodIn_app (goodIn_of _ (by decide +kernel)) ggX8_kind_X8_isSound
set_option maxRecDepth 20000 in
theorem ggX8_level_X8_readLevel : GoodIn wsX8_level wsX8_readLevel := goodIn_r _ [14, 15, 7, 16, 17, 18, 19, 20, 13, 21, 5, 1, 22, 23, 24, 25, 26, 27, 28, 29, 30, 31, 32, 33, 34, 35, 36, 37, 2, 38, 39, 40, 41, 42, 43, 44, 45, 46, 47, 48, 49, 50, 51, 52, 53, 54, 55, 56, 57, 58, 59, 60, 61, 62, 63, 64, 65, 66, 67, 68, 69, 70, 71, 72, 73, 74, 75, 76] (by decide +kernel) (by decide +kernel)
set_option maxRecDepth 20000 in
theorem gX8_level_X8_readLevel : GoodIn wsX8_level (wsV RX8 131 RX8 yX8_readLevel wsX8_readLevel) := goodIn_app (goodIn_of _ (by decide +kernel)) ggX8_level_X8_readLevel
set_option maxRecDepth 20000 in
theorem ggX8_loose_X8_isSound : GoodIn wsX8_loose wsX8_isSound := goodIn_r _ [9, 3, 10, 11, 8, 12, 31, 32, 33, 34, 35, 36, 37, 38, 39, 40, 41, 42, 43, 44, 45, 46, 47, 48, 49, 50, 51, 52, 53, 54] (by decide +kernel) (by decide +kernel)
set_option maxRecDepth 20000 in
theorem gX8_loose_X8_isSound : GoodIn wsX8_loose (wsV RX8 173 RX8 yX8_isSound wsX8_isSound) := goodIn_app (goodIn_of _ (by decide +kernel)) ggX8_loose_X8_isSound
set_option maxRecDepth 20000 in
theorem ggX8_readLevel_X8_nextToken : GoodIn wsX8_readLevel wsX8_nextToken := goodIn_r _ [9, 1, 10, 11, 3, 4, 12, 13, 14, 15, 16, 17, 18, 8, 19, 44, 45, 46, 47, 48, 49, 50, 51, 52, 53, 54, 55, 56, 57, 58, 59, 60, 61, 62, 63, 64, 65, 66, 67] (by decide +kernel) (by decide +kernel)
set_option maxRecDepth 20000 in
theorem gX8_readLevel_X8_nextToken : GoodIn wsX8_readLevel (wsV RX8 111 RX8 yX8_nextToken wsX8_nextToken) := goodIn_app (goodIn_of _ (by decide +kernel)) ggX8_readLevel_X8_nextToken
set_option maxRecDepth 20000 in
theorem ggX8_readLevel_X8_takes : GoodIn wsX8_readLevel wsX8_takes := goodIn_r _ [23, 3, 4, 24, 25, 26, 8, 27, 28, 5, 6, 7, 9, 1, 10, 11, 12, 13, 14, 15, 16, 17, 18, 19, 44, 45, 46, 47, 48, 49, 50, 51, 52, 53, 54, 55, 56, 57, 58, 59, 60, 61, 62, 63, 64, 65, 66, 67] (by decide +kernel) (by decide +kernel)
set_option maxRecDepth 20000 in
theorem gX8_readLevel_X8_takes : GoodIn wsX8_readLevel (wsV RX8 114 RX8 yX8_takes wsX8_takes) := goodIn_app (goodIn_of _ (by decide +kernel)) ggX8_readLevel_X8_takes
set_option maxRecDepth 20000 in
theorem ggX8_restore_X8_in : GoodIn wsX8_restore wsX8_in := goodIn_r _ [10] (by decide +kernel) (by decide +kernel)
set_option maxRecDepth 20000 in
theorem gX8_restore_X8_in : GoodIn wsX8_restore (va_wsS RX8 57 yX8_in wsX8_in) := goodIn_app (goodIn_of _ (by decide +kernel)) ggX8_restore_X8_in
set_option maxRecDepth 20000 in
theorem ggX8_row_X8_find : GoodIn wsX8_row wsX8_find := goodIn_r _ [17, 18, 19, 24, 25, 26, 27, 28, 29, 30, 31, 32, 33, 34, 35, 36, 37, 38, 39, 40, 41, 42, 43, 44, 45, 46, 47] (by decide +kernel) (by decide +kernel)
set_option maxRecDepth 20000 in
theorem gX8_row_X8_find : GoodIn wsX8_row (wsV RX8 68 RX8 yX8_find wsX8_find) := goodIn_app (goodIn_of _ (by decide +kernel)) ggX8_row_X8_find
set_option maxRecDepth 20000 in
theorem ggX8_row_X8_in : GoodIn wsX8_row wsX8_in := goodIn_r _ [13] (by decide +kernel) (by decide +kernel)
set_option maxRecDepth 20000 in
theorem gX8_row_X8_in : GoodIn wsX8_row (va_wsS RX8 57 yX8_in wsX8_in) := goodIn_app (goodIn_of _ (by decide +kernel)) ggX8_row_X8_in
set_option maxRecDepth 20000 in
theorem ggX8_row_X8_isRow : GoodIn wsX8_row wsX8_isRow := goodIn_r _ [9, 10, 11, 12, 8, 13] (by decide +kernel) (by decide +kernel)
set_option maxRecDepth 20000 in
theorem gX8_row_X8_isRow : GoodIn wsX8_row (va_wsS RX8 61 yX8_isRow wsX8_isRow) := goodIn_app (goodIn_of _ (by decide +kernel)) ggX8_row_X8_isRow
set_option maxRecDepth 20000 in
theorem ggX8_row_X8_well : GoodIn wsX8_row wsX8_well := goodIn_r _ [23, 18, 24, 25, 26, 27, 28, 29, 30, 31, 32, 33, 34, 35, 36, 37, 38, 39, 40, 41, 42, 43, 44, 45, 46, 47] (by decide +kernel) (by decide +kernel)
set_option maxRecDepth 20000 in
theorem gX8_row_X8_well : GoodIn wsX8_row (wsV RX8 72 RX8 yX8_well wsX8_well) := goodIn_app (goodIn_of _ (by decide +kernel)) ggX8_row_X8_well
set_option maxRecDepth 20000 in
theorem ggX8_set_X8_find : GoodIn wsX8_set wsX8_find := goodIn_r _ [16, 17, 18, 26, 27, 28, 29, 30, 31, 32, 33, 34, 35, 36, 37, 38, 39, 40, 41, 42, 43, 44, 45, 46, 47, 48, 49] (by decide +kernel) (by decide +kernel)
set_option maxRecDepth 20000 in
theorem gX8_set_X8_find : GoodIn wsX8_set (wsV RX8 68 RX8 yX8_find wsX8_find) := goodIn_app (goodIn_of _ (by decide +kernel)) ggX8_set_X8_find
set_option maxRecDepth 20000 in
theorem ggX8_set_X8_isRow : GoodIn wsX8_set wsX8_isRow := goodIn_r _ [8, 9, 10, 11, 7, 12] (by decide +kernel) (by decide +kernel)
set_option maxRecDepth 20000 in
theorem gX8_set_X8_isRow : GoodIn wsX8_set (va_wsS RX8 61 yX8_isRow wsX8_isRow) := goodIn_app (goodIn_of _ (by decide +kernel)) ggX8_set_X8_isRow
set_option maxRecDepth 20000 in
theorem ggX8_share_X8_isSound : GoodIn wsX8_share wsX8_isSound := goodIn_r _ [8, 3, 9, 10, 7, 11, 23, 24, 25, 26, 27, 28, 29, 30, 31, 32, 33, 34, 35, 36, 37, 38, 39, 40, 41, 42, 43, 44, 45, 46] (by decide +kernel) (by decide +kernel)
set_option maxRecDepth 20000 in
theorem gX8_share_X8_isSound : GoodIn wsX8_share (wsV RX8 173 RX8 yX8_isSound wsX8_isSound) := goodIn_app (goodIn_of _ (by decide +kernel)) ggX8_share_X8_isSound
set_option maxRecDepth 20000 in
theorem ggX8_sound_X8_isSound : GoodIn wsX8_sound wsX8_isSound := goodIn_r _ [8, 2, 9, 10, 7, 11, 19, 20, 21, 22, 23, 24, 25, 26, 27, 28, 29, 30, 31, 32, 33, 34, 35, 36, 37, 38, 39, 40, 41, 42] (by decide +kernel) (by decide +kernel)
set_option maxRecDepth 20000 in
theorem gX8_sound_X8_isSound : GoodIn wsX8_sound (wsV RX8 173 RX8 yX8_isSound wsX8_isSound) := goodIn_app (goodIn_of _ (by decide +kernel)) ggX8_sound_X8_isSound
set_option maxRecDepth 20000 in
theorem ggX8_takes_X8_faults : GoodIn wsX8_takes wsX8_faults := goodIn_r _ [7, 8, 24, 25, 26, 27, 28, 29, 30, 31, 32, 33, 34, 35, 36, 37, 38, 39, 40, 41, 42, 43, 44, 45, 46, 47] (by decide +kernel) (by decide +kernel)
set_option maxRecDepth 20000 in
theorem gX8_takes_X8_faults : GoodIn wsX8_takes (wsV RX8 108 RX8 yX8_faults wsX8_faults) := goodIn_app (goodIn_of _ (by decide +kernel)) ggX8_takes_X8_faults
set_option maxRecDepth 20000 in
theorem ggX8_trace_X8_in : GoodIn wsX8_trace wsX8_in := goodIn_r _ [7] (by decide +kernel) (by decide +kernel)
set_option maxRecDepth 20000 in
theorem gX8_trace_X8_in : GoodIn wsX8_trace (va_wsS RX8 57 yX8_in wsX8_in) := goodIn_app (goodIn_of _ (by decide +kernel)) ggX8_trace_X8_in
set_option maxRecDepth 20000 in
theorem ggX8_when_X8_isSound : GoodIn wsX8_when wsX8_isSound := goodIn_r _ [9, 3, 10, 11, 8, 12, 45, 46, 47, 48, 49, 50, 51, 52, 53, 54, 55, 56, 57, 58, 59, 60, 61, 62, 63, 64, 65, 66, 67, 68] (by decide +kernel) (by decide +kernel)
set_option maxRecDepth 20000 in
theorem gX8_when_X8_isSound : GoodIn wsX8_when (wsV RX8 173 RX8 yX8_isSound wsX8_isSound) := goodIn_app (goodIn_of _ (by decide +kernel)) ggX8_when_X8_isSound
set_option maxRecDepth 20000 in
theorem ggX8_who_X8_isSound : GoodIn wsX8_who wsX8_isSound := goodIn_r _ [9, 3, 10, 11, 8, 12, 76, 77, 78, 79, 80, 81, 82, 83, 84, 85, 86, 87, 88, 89, 90, 91, 92, 93, 94, 95, 96, 97, 98, 99] (by decide +kernel) (by decide +kernel)
set_option maxRecDepth 20000 in
theorem gX8_who_X8_isSound : GoodIn wsX8_who (wsV RX8 173 RX8 yX8_isSound wsX8_isSound) := goodIn_app (goodIn_of _ (by decide +kernel)) ggX8_who_X8_isSound
set_option maxRecDepth 20000 in
theorem ggX8_wind_X8_in : GoodIn wsX8_wind wsX8_in := goodIn_r _ [7] (by decide +kernel) (by decide +kernel)
set_option maxRecDepth 20000 in
theorem gX8_wind_X8_in : GoodIn wsX8_wind (va_wsS RX8 57 yX8_in wsX8_in) := goodIn_app (goodIn_of _ (by decide +kernel)) ggX8_wind_X8_in
set_option maxRecDepth 20000 in
theorem i_X0_init_X0 : ∀ w ∈ u_ws RX0 TX0 3, w ∈ wsX0_init := by decide +kernel
set_option maxRecDepth 20000 in
theorem i_X0_init_X3 : ∀ w ∈ u_ws RX3 TX3 13, w ∈ wsX0_init := by decide +kernel
set_option maxRecDepth 20000 in
theorem i_X1_init_X1 : ∀ w ∈ u_ws RX1 TX1 6, w ∈ wsX1_init := by decide +kernel
set_option maxRecDepth 20000 in
theorem i_X2_init_X2 : ∀ w ∈ u_ws RX2 TX2 6, w ∈ wsX2_init := by decide +kernel
set_option maxRecDepth 20000 in
theorem i_X2_init_X3 : ∀ w ∈ u_ws RX3 TX3 13, w ∈ wsX2_init := by decide +kernel
set_option maxRecDepth 20000 in
theorem i_X3_begin_X3 : ∀ w ∈ u_ws RX3 TX3 13, w ∈ wsX3_begin := by decide +kernel
set_option maxRecDepth 20000 in
theorem i_X3_hasSound_X3 : ∀ w ∈ u_ws RX3 TX3 13, w ∈ wsX3_hasSound := by decide +kernel
set_option maxRecDepth 20000 in
theorem i_X3_hasWind_X3 : ∀ w ∈ u_ws RX3 TX3 13, w ∈ wsX3_hasWind := by decide +kernel
set_option maxRecDepth 20000 in
theorem i_X3_init_X3 : ∀ w ∈ u_ws RX3 TX3 13, w ∈ wsX3_init := by decide +kernel
set_option maxRecDepth 20000 in
theorem i_X3_isTold_X3 : ∀ w ∈ u_ws RX3 TX3 13, w ∈ wsX3_isTold := by decide +kernel
set_option maxRecDepth 20000 in
theorem i_X3_soundsThatAre_X3 : ∀ w ∈ u_ws RX3 TX3 13, w ∈ wsX3_soundsThatAre := by decide +kernel
set_option maxRecDepth 20000 in
theorem i_X4_init_X3 : ∀ w ∈ u_ws RX3 TX3 13, w ∈ wsX4_init := by decide +kernel
set_option maxRecDepth 20000 in
theorem i_X4_init_X4 : ∀ w ∈ u_ws RX4 TX4 3, w ∈ wsX4_init := by decide +kernel
set_option maxRecDepth 20000 in
theorem i_X5_init_X5 : ∀ w ∈ u_ws RX5 TX5 3, w ∈ wsX5_init := by decide +kernel
set_option maxRecDepth 20000 in
theorem i_X5_isMissing_X5 : ∀ w ∈ u_ws RX5 TX5 3, w ∈ wsX5_isMissing := by decide +kernel
set_option maxRecDepth 20000 in
theorem i_X5_make_X5 : ∀ w ∈ u_ws RX5 TX5 3, w ∈ wsX5_make := by decide +kernel
set_option maxRecDepth 20000 in
theorem i_X6_append_X6 : ∀ w ∈ u_ws RX6 TX6 6, w ∈ wsX6_append := by decide +kernel
set_option maxRecDepth 20000 in
theorem i_X6_byteAt_X6 : ∀ w ∈ u_ws RX6 TX6 6, w ∈ wsX6_byteAt := by decide +kernel
set_option maxRecDepth 20000 in
theorem i_X6_fail_X6 : ∀ w ∈ u_ws RX6 TX6 6, w ∈ wsX6_fail := by decide +kernel
set_option maxRecDepth 20000 in
theorem i_X6_figuresHere_X6 : ∀ w ∈ u_ws RX6 TX6 6, w ∈ wsX6_figuresHere := by decide +kernel
set_option maxRecDepth 20000 in
theorem i_X6_init_X3 : ∀ w ∈ u_ws RX3 TX3 13, w ∈ wsX6_init := by decide +kernel
set_option maxRecDepth 20000 in
theorem i_X6_init_X6 : ∀ w ∈ u_ws RX6 TX6 6, w ∈ wsX6_init := by decide +kernel
set_option maxRecDepth 20000 in
theorem i_X6_isFull_X6 : ∀ w ∈ u_ws RX6 TX6 6, w ∈ wsX6_isFull := by decide +kernel
set_option maxRecDepth 20000 in
theorem i_X6_read_X6 : ∀ w ∈ u_ws RX6 TX6 6, w ∈ wsX6_read := by decide +kernel
set_option maxRecDepth 20000 in
theorem i_X6_readByte_X6 : ∀ w ∈ u_ws RX6 TX6 6, w ∈ wsX6_readByte := by decide +kernel
set_option maxRecDepth 20000 in
theorem i_X6_readLaw_X3 : ∀ w ∈ u_ws RX3 TX3 13, w ∈ wsX6_readLaw := by decide +kernel
set_option maxRecDepth 20000 in
theorem i_X6_readLaw_X6 : ∀ w ∈ u_ws RX6 TX6 6, w ∈ wsX6_readLaw := by decide +kernel
set_option maxRecDepth 20000 in
theorem i_X6_readSound_X3 : ∀ w ∈ u_ws RX3 TX3 13, w ∈ wsX6_readSound := by decide +kernel
set_option maxRecDepth 20000 in
theorem i_X6_readSound_X6 : ∀ w ∈ u_ws RX6 TX6 6, w ∈ wsX6_readSound := by decide +kernel
set_option maxRecDepth 20000 in
theorem i_X6_readSounds_X6 : ∀ w ∈ u_ws RX6 TX6 6, w ∈ wsX6_readSounds := by decide +kernel
set_option maxRecDepth 20000 in
theorem i_X6_readWind_X6 : ∀ w ∈ u_ws RX6 TX6 6, w ∈ wsX6_readWind := by decide +kernel
set_option maxRecDepth 20000 in
theorem i_X6_readWinds_X6 : ∀ w ∈ u_ws RX6 TX6 6, w ∈ wsX6_readWinds := by decide +kernel
set_option maxRecDepth 20000 in
theorem i_X7_ahead_X7 : ∀ w ∈ u_ws RX7 TX7 11, w ∈ wsX7_ahead := by decide +kernel
set_option maxRecDepth 20000 in
theorem i_X7_as_X7 : ∀ w ∈ u_ws RX7 TX7 11, w ∈ wsX7_as := by decide +kernel
set_option maxRecDepth 20000 in
theorem i_X7_ask_X7 : ∀ w ∈ u_ws RX7 TX7 11, w ∈ wsX7_ask := by decide +kernel
set_option maxRecDepth 20000 in
theorem i_X7_byTurns_X7 : ∀ w ∈ u_ws RX7 TX7 11, w ∈ wsX7_byTurns := by decide +kernel
set_option maxRecDepth 20000 in
theorem i_X7_calm_X7 : ∀ w ∈ u_ws RX7 TX7 11, w ∈ wsX7_calm := by decide +kernel
set_option maxRecDepth 20000 in
theorem i_X7_cap_X7 : ∀ w ∈ u_ws RX7 TX7 11, w ∈ wsX7_cap := by decide +kernel
set_option maxRecDepth 20000 in
theorem i_X7_caps_X7 : ∀ w ∈ u_ws RX7 TX7 11, w ∈ wsX7_caps := by decide +kernel
set_option maxRecDepth 20000 in
theorem i_X7_copy_X7 : ∀ w ∈ u_ws RX7 TX7 11, w ∈ wsX7_copy := by decide +kernel
set_option maxRecDepth 20000 in
theorem i_X7_count_X0 : ∀ w ∈ u_ws RX0 TX0 3, w ∈ wsX7_count := by decide +kernel
set_option maxRecDepth 20000 in
theorem i_X7_count_X3 : ∀ w ∈ u_ws RX3 TX3 13, w ∈ wsX7_count := by decide +kernel
set_option maxRecDepth 20000 in
theorem i_X7_count_X6 : ∀ w ∈ u_ws RX6 TX6 6, w ∈ wsX7_count := by decide +kernel
set_option maxRecDepth 20000 in
theorem i_X7_count_X7 : ∀ w ∈ u_ws RX7 TX7 11, w ∈ wsX7_count := by decide +kernel
set_option maxRecDepth 20000 in
theorem i_X7_drawn_X7 : ∀ w ∈ u_ws RX7 TX7 11, w ∈ wsX7_drawn := by decide +kernel
set_option maxRecDepth 20000 in
theorem i_X7_drop_X7 : ∀ w ∈ u_ws RX7 TX7 11, w ∈ wsX7_drop := by decide +kernel
set_option maxRecDepth 20000 in
theorem i_X7_fault_X7 : ∀ w ∈ u_ws RX7 TX7 11, w ∈ wsX7_fault := by decide +kernel
set_option maxRecDepth 20000 in
theorem i_X7_feed_X7 : ∀ w ∈ u_ws RX7 TX7 11, w ∈ wsX7_feed := by decide +kernel
set_option maxRecDepth 20000 in
theorem i_X7_found_X7 : ∀ w ∈ u_ws RX7 TX7 11, w ∈ wsX7_found := by decide +kernel
set_option maxRecDepth 20000 in
theorem i_X7_foundNothing_X7 : ∀ w ∈ u_ws RX7 TX7 11, w ∈ wsX7_foundNothing := by decide +kernel
set_option maxRecDepth 20000 in
theorem i_X7_gust_X7 : ∀ w ∈ u_ws RX7 TX7 11, w ∈ wsX7_gust := by decide +kernel
set_option maxRecDepth 20000 in
theorem i_X7_gusts_X7 : ∀ w ∈ u_ws RX7 TX7 11, w ∈ wsX7_gusts := by decide +kernel
set_option maxRecDepth 20000 in
theorem i_X7_had_X7 : ∀ w ∈ u_ws RX7 TX7 11, w ∈ wsX7_had := by decide +kernel
set_option maxRecDepth 20000 in
theorem i_X7_hours_X7 : ∀ w ∈ u_ws RX7 TX7 11, w ∈ wsX7_hours := by decide +kernel
set_option maxRecDepth 20000 in
theorem i_X7_image_X7 : ∀ w ∈ u_ws RX7 TX7 11, w ∈ wsX7_image := by decide +kernel
set_option maxRecDepth 20000 in
theorem i_X7_init_X0 : ∀ w ∈ u_ws RX0 TX0 3, w ∈ wsX7_init := by decide +kernel
set_option maxRecDepth 20000 in
theorem i_X7_init_X1 : ∀ w ∈ u_ws RX1 TX1 6, w ∈ wsX7_init := by decide +kernel
set_option maxRecDepth 20000 in
theorem i_X7_init_X2 : ∀ w ∈ u_ws RX2 TX2 6, w ∈ wsX7_init := by decide +kernel
set_option maxRecDepth 20000 in
theorem i_X7_init_X3 : ∀ w ∈ u_ws RX3 TX3 13, w ∈ wsX7_init := by decide +kernel
set_option maxRecDepth 20000 in
theorem i_X7_init_X4 : ∀ w ∈ u_ws RX4 TX4 3, w ∈ wsX7_init := by decide +kernel
set_option maxRecDepth 20000 in
theorem i_X7_init_X5 : ∀ w ∈ u_ws RX5 TX5 3, w ∈ wsX7_init := by decide +kernel
set_option maxRecDepth 20000 in
theorem i_X7_init_X6 : ∀ w ∈ u_ws RX6 TX6 6, w ∈ wsX7_init := by decide +kernel
set_option maxRecDepth 20000 in
theorem i_X7_init_X7 : ∀ w ∈ u_ws RX7 TX7 11, w ∈ wsX7_init := by decide +kernel
set_option maxRecDepth 20000 in
theorem i_X7_kind_X7 : ∀ w ∈ u_ws RX7 TX7 11, w ∈ wsX7_kind := by decide +kernel
set_option maxRecDepth 20000 in
theorem i_X7_level_X6 : ∀ w ∈ u_ws RX6 TX6 6, w ∈ wsX7_level := by decide +kernel
set_option maxRecDepth 20000 in
theorem i_X7_level_X7 : ∀ w ∈ u_ws RX7 TX7 11, w ∈ wsX7_level := by decide +kernel
set_option maxRecDepth 20000 in
theorem i_X7_loose_X7 : ∀ w ∈ u_ws RX7 TX7 11, w ∈ wsX7_loose := by decide +kernel
set_option maxRecDepth 20000 in
theorem i_X7_meal_X7 : ∀ w ∈ u_ws RX7 TX7 11, w ∈ wsX7_meal := by decide +kernel
set_option maxRecDepth 20000 in
theorem i_X7_restore_X7 : ∀ w ∈ u_ws RX7 TX7 11, w ∈ wsX7_restore := by decide +kernel
set_option maxRecDepth 20000 in
theorem i_X7_row_X7 : ∀ w ∈ u_ws RX7 TX7 11, w ∈ wsX7_row := by decide +kernel
set_option maxRecDepth 20000 in
theorem i_X7_sack_X7 : ∀ w ∈ u_ws RX7 TX7 11, w ∈ wsX7_sack := by decide +kernel
set_option maxRecDepth 20000 in
theorem i_X7_sell_X7 : ∀ w ∈ u_ws RX7 TX7 11, w ∈ wsX7_sell := by decide +kernel
set_option maxRecDepth 20000 in
theorem i_X7_set_X7 : ∀ w ∈ u_ws RX7 TX7 11, w ∈ wsX7_set := by decide +kernel
set_option maxRecDepth 20000 in
theorem i_X7_share_X7 : ∀ w ∈ u_ws RX7 TX7 11, w ∈ wsX7_share := by decide +kernel
set_option maxRecDepth 20000 in
theorem i_X7_site_X7 : ∀ w ∈ u_ws RX7 TX7 11, w ∈ wsX7_site := by decide +kernel
set_option maxRecDepth 20000 in
theorem i_X7_sound_X7 : ∀ w ∈ u_ws RX7 TX7 11, w ∈ wsX7_sound := by decide +kernel
set_option maxRecDepth 20000 in
theorem i_X7_stand_X7 : ∀ w ∈ u_ws RX7 TX7 11, w ∈ wsX7_stand := by decide +kernel
set_option maxRecDepth 20000 in
theorem i_X7_status_X7 : ∀ w ∈ u_ws RX7 TX7 11, w ∈ wsX7_status := by decide +kernel
set_option maxRecDepth 20000 in
theorem i_X7_trace_X1 : ∀ w ∈ u_ws RX1 TX1 6, w ∈ wsX7_trace := by decide +kernel
set_option maxRecDepth 20000 in
theorem i_X7_trace_X7 : ∀ w ∈ u_ws RX7 TX7 11, w ∈ wsX7_trace := by decide +kernel
set_option maxRecDepth 20000 in
theorem i_X7_undo_X0 : ∀ w ∈ u_ws RX0 TX0 3, w ∈ wsX7_undo := by decide +kernel
set_option maxRecDepth 20000 in
theorem i_X7_undo_X7 : ∀ w ∈ u_ws RX7 TX7 11, w ∈ wsX7_undo := by decide +kernel
set_option maxRecDepth 20000 in
theorem i_X7_when_X7 : ∀ w ∈ u_ws RX7 TX7 11, w ∈ wsX7_when := by decide +kernel
set_option maxRecDepth 20000 in
theorem i_X7_who_X7 : ∀ w ∈ u_ws RX7 TX7 11, w ∈ wsX7_who := by decide +kernel
set_option maxRecDepth 20000 in
theorem i_X7_wind_X7 : ∀ w ∈ u_ws RX7 TX7 11, w ∈ wsX7_wind := by decide +kernel
set_option maxRecDepth 20000 in
theorem i_X8_byTurns_X8 : ∀ w ∈ u_ws RX8 TX8 24, w ∈ wsX8_byTurns := by decide +kernel
set_option maxRecDepth 20000 in
theorem i_X8_cap_X8 : ∀ w ∈ u_ws RX8 TX8 24, w ∈ wsX8_cap := by decide +kernel
set_option maxRecDepth 20000 in
theorem i_X8_caps_X8 : ∀ w ∈ u_ws RX8 TX8 24, w ∈ wsX8_caps := by decide +kernel
set_option maxRecDepth 20000 in
theorem i_X8_copy_X8 : ∀ w ∈ u_ws RX8 TX8 24, w ∈ wsX8_copy := by decide +kernel
set_option maxRecDepth 20000 in
theorem i_X8_count_X8 : ∀ w ∈ u_ws RX8 TX8 24, w ∈ wsX8_count := by decide +kernel
set_option maxRecDepth 20000 in
theorem i_X8_drawn_X8 : ∀ w ∈ u_ws RX8 TX8 24, w ∈ wsX8_drawn := by decide +kernel
set_option maxRecDepth 20000 in
theorem i_X8_drop_X8 : ∀ w ∈ u_ws RX8 TX8 24, w ∈ wsX8_drop := by decide +kernel
set_option maxRecDepth 20000 in
theorem i_X8_fault_X8 : ∀ w ∈ u_ws RX8 TX8 24, w ∈ wsX8_fault := by decide +kernel
set_option maxRecDepth 20000 in
theorem i_X8_faults_X8 : ∀ w ∈ u_ws RX8 TX8 24, w ∈ wsX8_faults := by decide +kernel
set_option maxRecDepth 20000 in
theorem i_X8_feed_X8 : ∀ w ∈ u_ws RX8 TX8 24, w ∈ wsX8_feed := by decide +kernel
set_option maxRecDepth 20000 in
theorem i_X8_find_X8 : ∀ w ∈ u_ws RX8 TX8 24, w ∈ wsX8_find := by decide +kernel
set_option maxRecDepth 20000 in
theorem i_X8_gust_X8 : ∀ w ∈ u_ws RX8 TX8 24, w ∈ wsX8_gust := by decide +kernel
set_option maxRecDepth 20000 in
theorem i_X8_gusts_X8 : ∀ w ∈ u_ws RX8 TX8 24, w ∈ wsX8_gusts := by decide +kernel
set_option maxRecDepth 20000 in
theorem i_X8_had_X8 : ∀ w ∈ u_ws RX8 TX8 24, w ∈ wsX8_had := by decide +kernel
set_option maxRecDepth 20000 in
theorem i_X8_hours_X8 : ∀ w ∈ u_ws RX8 TX8 24, w ∈ wsX8_hours := by decide +kernel
set_option maxRecDepth 20000 in
theorem i_X8_image_X8 : ∀ w ∈ u_ws RX8 TX8 24, w ∈ wsX8_image := by decide +kernel
set_option maxRecDepth 20000 in
theorem i_X8_init_X8 : ∀ w ∈ u_ws RX8 TX8 24, w ∈ wsX8_init := by decide +kernel
set_option maxRecDepth 20000 in
theorem i_X8_isSound_X8 : ∀ w ∈ u_ws RX8 TX8 24, w ∈ wsX8_isSound := by decide +kernel
set_option maxRecDepth 20000 in
theorem i_X8_level_X8 : ∀ w ∈ u_ws RX8 TX8 24, w ∈ wsX8_level := by decide +kernel
set_option maxRecDepth 20000 in
theorem i_X8_meal_X8 : ∀ w ∈ u_ws RX8 TX8 24, w ∈ wsX8_meal := by decide +kernel
set_option maxRecDepth 20000 in
theorem i_X8_nextToken_X8 : ∀ w ∈ u_ws RX8 TX8 24, w ∈ wsX8_nextToken := by decide +kernel
set_option maxRecDepth 20000 in
theorem i_X8_readLevel_X8 : ∀ w ∈ u_ws RX8 TX8 24, w ∈ wsX8_readLevel := by decide +kernel
set_option maxRecDepth 20000 in
theorem i_X8_restore_X8 : ∀ w ∈ u_ws RX8 TX8 24, w ∈ wsX8_restore := by decide +kernel
set_option maxRecDepth 20000 in
theorem i_X8_row_X8 : ∀ w ∈ u_ws RX8 TX8 24, w ∈ wsX8_row := by decide +kernel
set_option maxRecDepth 20000 in
theorem i_X8_sack_X8 : ∀ w ∈ u_ws RX8 TX8 24, w ∈ wsX8_sack := by decide +kernel
set_option maxRecDepth 20000 in
theorem i_X8_sell_X8 : ∀ w ∈ u_ws RX8 TX8 24, w ∈ wsX8_sell := by decide +kernel
set_option maxRecDepth 20000 in
theorem i_X8_set_X8 : ∀ w ∈ u_ws RX8 TX8 24, w ∈ wsX8_set := by decide +kernel
set_option maxRecDepth 20000 in
theorem i_X8_site_X8 : ∀ w ∈ u_ws RX8 TX8 24, w ∈ wsX8_site := by decide +kernel
set_option maxRecDepth 20000 in
theorem i_X8_stand_X8 : ∀ w ∈ u_ws RX8 TX8 24, w ∈ wsX8_stand := by decide +kernel
set_option maxRecDepth 20000 in
theorem i_X8_status_X8 : ∀ w ∈ u_ws RX8 TX8 24, w ∈ wsX8_status := by decide +kernel
set_option maxRecDepth 20000 in
theorem i_X8_takes_X8 : ∀ w ∈ u_ws RX8 TX8 24, w ∈ wsX8_takes := by decide +kernel
set_option maxRecDepth 20000 in
theorem i_X8_those_X8 : ∀ w ∈ u_ws RX8 TX8 24, w ∈ wsX8_those := by decide +kernel
set_option maxRecDepth 20000 in
theorem i_X8_trace_X8 : ∀ w ∈ u_ws RX8 TX8 24, w ∈ wsX8_trace := by decide +kernel
set_option maxRecDepth 20000 in
theorem i_X8_undo_X8 : ∀ w ∈ u_ws RX8 TX8 24, w ∈ wsX8_undo := by decide +kernel
set_option maxRecDepth 20000 in
theorem i_X8_well_X8 : ∀ w ∈ u_ws RX8 TX8 24, w ∈ wsX8_well := by decide +kernel
set_option maxRecDepth 20000 in
theorem i_X8_wind_X8 : ∀ w ∈ u_ws RX8 TX8 24, w ∈ wsX8_wind := by decide +kernel
