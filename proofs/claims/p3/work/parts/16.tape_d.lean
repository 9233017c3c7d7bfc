theorem dX6_append_0 : decode cX6_append 0 = .ok (.aload_n 0, 1) := by decide +kernel
theorem dX6_append_1 : decode cX6_append 1 = .ok (.invokevirtual 26, 3) := by decide +kernel
theorem dX6_append_11 : decode cX6_append 11 = .ok (.aload_n 0, 1) := by decide +kernel
theorem dX6_append_12 : decode cX6_append 12 = .ok (.getfield 22, 3) := by decide +kernel
theorem dX6_append_15 : decode cX6_append 15 = .ok (.iload_n 1, 1) := by decide +kernel
theorem dX6_append_16 : decode cX6_append 16 = .ok (.iastore, 1) := by decide +kernel
theorem dX6_append_17 : decode cX6_append 17 = .ok (.aload_n 0, 1) := by decide +kernel
theorem dX6_append_18 : decode cX6_append 18 = .ok (.dup, 1) := by decide +kernel
theorem dX6_append_19 : decode cX6_append 19 = .ok (.getfield 22, 3) := by decide +kernel
theorem dX6_append_22 : decode cX6_append 22 = .ok (.iconst 1, 1) := by decide +kernel
theorem dX6_append_23 : decode cX6_append 23 = .ok (.iadd, 1) := by decide +kernel
theorem dX6_append_24 : decode cX6_append 24 = .ok (.putfield 22, 3) := by decide +kernel
theorem dX6_append_27 : decode cX6_append 27 = .ok (.aload_n 0, 1) := by decide +kernel
theorem dX6_append_28 : decode cX6_append 28 = .ok (.getfield 22, 3) := by decide +kernel
theorem dX6_append_31 : decode cX6_append 31 = .ok (.ireturn, 1) := by decide +kernel
theorem dX6_append_4 : decode cX6_append 4 = .ok (.ifCond .ne 23, 3) := by decide +kernel
theorem dX6_append_7 : decode cX6_append 7 = .ok (.aload_n 0, 1) := by decide +kernel
theorem dX6_append_8 : decode cX6_append 8 = .ok (.getfield 11, 3) := by decide +kernel
theorem dX6_byteAt_0 : decode cX6_byteAt 0 = .ok (.iload_n 1, 1) := by decide +kernel
theorem dX6_byteAt_1 : decode cX6_byteAt 1 = .ok (.ifCond .lt 20, 3) := by decide +kernel
theorem dX6_byteAt_12 : decode cX6_byteAt 12 = .ok (.aload_n 0, 1) := by decide +kernel
theorem dX6_byteAt_13 : decode cX6_byteAt 13 = .ok (.getfield 11, 3) := by decide +kernel
theorem dX6_byteAt_16 : decode cX6_byteAt 16 = .ok (.iload_n 1, 1) := by decide +kernel
theorem dX6_byteAt_17 : decode cX6_byteAt 17 = .ok (.iaload, 1) := by decide +kernel
theorem dX6_byteAt_18 : decode cX6_byteAt 18 = .ok (.goto 4, 3) := by decide +kernel
theorem dX6_byteAt_21 : decode cX6_byteAt 21 = .ok (.iconst (-1), 1) := by decide +kernel
theorem dX6_byteAt_22 : decode cX6_byteAt 22 = .ok (.ireturn, 1) := by decide +kernel
theorem dX6_byteAt_4 : decode cX6_byteAt 4 = .ok (.iload_n 1, 1) := by decide +kernel
theorem dX6_byteAt_5 : decode cX6_byteAt 5 = .ok (.aload_n 0, 1) := by decide +kernel
theorem dX6_byteAt_6 : decode cX6_byteAt 6 = .ok (.getfield 22, 3) := by decide +kernel
theorem dX6_byteAt_9 : decode cX6_byteAt 9 = .ok (.if_icmp .ge 12, 3) := by decide +kernel
theorem dX6_fail_0 : decode cX6_fail 0 = .ok (.aload_n 0, 1) := by decide +kernel
theorem dX6_fail_1 : decode cX6_fail 1 = .ok (.getfield 30, 3) := by decide +kernel
theorem dX6_fail_12 : decode cX6_fail 12 = .ok (.aload_n 0, 1) := by decide +kernel
theorem dX6_fail_13 : decode cX6_fail 13 = .ok (.aload_n 0, 1) := by decide +kernel
theorem dX6_fail_14 : decode cX6_fail 14 = .ok (.getfield 36, 3) := by decide +kernel
theorem dX6_fail_17 : decode cX6_fail 17 = .ok (.putfield 33, 3) := by decide +kernel
theorem dX6_fail_20 : decode cX6_fail 20 = .ok (.return_, 1) := by decide +kernel
theorem dX6_fail_4 : decode cX6_fail 4 = .ok (.ifCond .ne 16, 3) := by decide +kernel
theorem dX6_fail_7 : decode cX6_fail 7 = .ok (.aload_n 0, 1) := by decide +kernel
theorem dX6_fail_8 : decode cX6_fail 8 = .ok (.iload_n 1, 1) := by decide +kernel
theorem dX6_fail_9 : decode cX6_fail 9 = .ok (.putfield 30, 3) := by decide +kernel
theorem dX6_figuresHere_0 : decode cX6_figuresHere 0 = .ok (.iconst 0, 1) := by decide +kernel
theorem dX6_figuresHere_1 : decode cX6_figuresHere 1 = .ok (.istore_n 1, 1) := by decide +kernel
theorem dX6_figuresHere_10 : decode cX6_figuresHere 10 = .ok (.getfield 36, 3) := by decide +kernel
theorem dX6_figuresHere_13 : decode cX6_figuresHere 13 = .ok (.iload_n 1, 1) := by decide +kernel
theorem dX6_figuresHere_14 : decode cX6_figuresHere 14 = .ok (.iadd, 1) := by decide +kernel
theorem dX6_figuresHere_15 : decode cX6_figuresHere 15 = .ok (.invokevirtual 71, 3) := by decide +kernel
theorem dX6_figuresHere_18 : decode cX6_figuresHere 18 = .ok (.invokestatic 104, 3) := by decide +kernel
theorem dX6_figuresHere_2 : decode cX6_figuresHere 2 = .ok (.iload_n 1, 1) := by decide +kernel
theorem dX6_figuresHere_21 : decode cX6_figuresHere 21 = .ok (.ifCond .eq 9, 3) := by decide +kernel
theorem dX6_figuresHere_24 : decode cX6_figuresHere 24 = .ok (.iinc 1 1, 3) := by decide +kernel
theorem dX6_figuresHere_27 : decode cX6_figuresHere 27 = .ok (.goto (-25), 3) := by decide +kernel
theorem dX6_figuresHere_3 : decode cX6_figuresHere 3 = .ok (.bipush 120, 2) := by decide +kernel
theorem dX6_figuresHere_30 : decode cX6_figuresHere 30 = .ok (.iload_n 1, 1) := by decide +kernel
theorem dX6_figuresHere_31 : decode cX6_figuresHere 31 = .ok (.ireturn, 1) := by decide +kernel
theorem dX6_figuresHere_5 : decode cX6_figuresHere 5 = .ok (.if_icmp .ge 25, 3) := by decide +kernel
theorem dX6_figuresHere_8 : decode cX6_figuresHere 8 = .ok (.aload_n 0, 1) := by decide +kernel
theorem dX6_figuresHere_9 : decode cX6_figuresHere 9 = .ok (.aload_n 0, 1) := by decide +kernel
theorem dX6_isFigure_0 : decode cX6_isFigure 0 = .ok (.iload_n 0, 1) := by decide +kernel
theorem dX6_isFigure_1 : decode cX6_isFigure 1 = .ok (.bipush 48, 2) := by decide +kernel
theorem dX6_isFigure_12 : decode cX6_isFigure 12 = .ok (.iconst 1, 1) := by decide +kernel
theorem dX6_isFigure_13 : decode cX6_isFigure 13 = .ok (.goto 4, 3) := by decide +kernel
theorem dX6_isFigure_16 : decode cX6_isFigure 16 = .ok (.iconst 0, 1) := by decide +kernel
theorem dX6_isFigure_17 : decode cX6_isFigure 17 = .ok (.ireturn, 1) := by decide +kernel
theorem dX6_isFigure_3 : decode cX6_isFigure 3 = .ok (.if_icmp .lt 13, 3) := by decide +kernel
theorem dX6_isFigure_6 : decode cX6_isFigure 6 = .ok (.iload_n 0, 1) := by decide +kernel
theorem dX6_isFigure_7 : decode cX6_isFigure 7 = .ok (.bipush 57, 2) := by decide +kernel
theorem dX6_isFigure_9 : decode cX6_isFigure 9 = .ok (.if_icmp .gt 7, 3) := by decide +kernel
theorem dX6_isFull_0 : decode cX6_isFull 0 = .ok (.aload_n 0, 1) := by decide +kernel
theorem dX6_isFull_1 : decode cX6_isFull 1 = .ok (.getfield 22, 3) := by decide +kernel
theorem dX6_isFull_10 : decode cX6_isFull 10 = .ok (.goto 4, 3) := by decide +kernel
theorem dX6_isFull_13 : decode cX6_isFull 13 = .ok (.iconst 0, 1) := by decide +kernel
theorem dX6_isFull_14 : decode cX6_isFull 14 = .ok (.ireturn, 1) := by decide +kernel
theorem dX6_isFull_4 : decode cX6_isFull 4 = .ok (.bipush 120, 2) := by decide +kernel
theorem dX6_isFull_6 : decode cX6_isFull 6 = .ok (.if_icmp .lt 7, 3) := by decide +kernel
theorem dX6_isFull_9 : decode cX6_isFull 9 = .ok (.iconst 1, 1) := by decide +kernel
theorem dX6_kindOf_0 : decode cX6_kindOf 0 = .ok (.iload_n 0, 1) := by decide +kernel
theorem dX6_kindOf_1 : decode cX6_kindOf 1 = .ok (.lookupswitch 61 #[(98, 53), (100, 57), (104, 55), (115, 59), (118, 51)], 51) := by decide +kernel
theorem dX6_kindOf_52 : decode cX6_kindOf 52 = .ok (.iconst 1, 1) := by decide +kernel
theorem dX6_kindOf_53 : decode cX6_kindOf 53 = .ok (.ireturn, 1) := by decide +kernel
theorem dX6_kindOf_54 : decode cX6_kindOf 54 = .ok (.iconst 2, 1) := by decide +kernel
theorem dX6_kindOf_55 : decode cX6_kindOf 55 = .ok (.ireturn, 1) := by decide +kernel
theorem dX6_kindOf_56 : decode cX6_kindOf 56 = .ok (.iconst 3, 1) := by decide +kernel
theorem dX6_kindOf_57 : decode cX6_kindOf 57 = .ok (.ireturn, 1) := by decide +kernel
theorem dX6_kindOf_58 : decode cX6_kindOf 58 = .ok (.iconst 4, 1) := by decide +kernel
theorem dX6_kindOf_59 : decode cX6_kindOf 59 = .ok (.ireturn, 1) := by decide +kernel
theorem dX6_kindOf_60 : decode cX6_kindOf 60 = .ok (.iconst 5, 1) := by decide +kernel
theorem dX6_kindOf_61 : decode cX6_kindOf 61 = .ok (.ireturn, 1) := by decide +kernel
theorem dX6_kindOf_62 : decode cX6_kindOf 62 = .ok (.iconst 0, 1) := by decide +kernel
theorem dX6_kindOf_63 : decode cX6_kindOf 63 = .ok (.ireturn, 1) := by decide +kernel
theorem dX6_readByte_0 : decode cX6_readByte 0 = .ok (.aload_n 0, 1) := by decide +kernel
theorem dX6_readByte_1 : decode cX6_readByte 1 = .ok (.aload_n 0, 1) := by decide +kernel
theorem dX6_readByte_12 : decode cX6_readByte 12 = .ok (.aload_n 0, 1) := by decide +kernel
theorem dX6_readByte_13 : decode cX6_readByte 13 = .ok (.dup, 1) := by decide +kernel
theorem dX6_readByte_14 : decode cX6_readByte 14 = .ok (.getfield 36, 3) := by decide +kernel
theorem dX6_readByte_17 : decode cX6_readByte 17 = .ok (.iconst 1, 1) := by decide +kernel
theorem dX6_readByte_18 : decode cX6_readByte 18 = .ok (.iadd, 1) := by decide +kernel
theorem dX6_readByte_19 : decode cX6_readByte 19 = .ok (.putfield 36, 3) := by decide +kernel
theorem dX6_readByte_2 : decode cX6_readByte 2 = .ok (.getfield 36, 3) := by decide +kernel
theorem dX6_readByte_22 : decode cX6_readByte 22 = .ok (.goto 8, 3) := by decide +kernel
theorem dX6_readByte_25 : decode cX6_readByte 25 = .ok (.aload_n 0, 1) := by decide +kernel
theorem dX6_readByte_26 : decode cX6_readByte 26 = .ok (.iconst 1, 1) := by decide +kernel
theorem dX6_readByte_27 : decode cX6_readByte 27 = .ok (.invokevirtual 78, 3) := by decide +kernel
theorem dX6_readByte_30 : decode cX6_readByte 30 = .ok (.return_, 1) := by decide +kernel
theorem dX6_readByte_5 : decode cX6_readByte 5 = .ok (.invokevirtual 71, 3) := by decide +kernel
theorem dX6_readByte_8 : decode cX6_readByte 8 = .ok (.iload_n 1, 1) := by decide +kernel
theorem dX6_readByte_9 : decode cX6_readByte 9 = .ok (.if_icmp .ne 16, 3) := by decide +kernel
theorem dX6_readLaw_0 : decode cX6_readLaw 0 = .ok (.aload_n 0, 1) := by decide +kernel
theorem dX6_readLaw_1 : decode cX6_readLaw 1 = .ok (.bipush 109, 2) := by decide +kernel
theorem dX6_readLaw_10 : decode cX6_readLaw 10 = .ok (.aload_n 0, 1) := by decide +kernel
theorem dX6_readLaw_11 : decode cX6_readLaw 11 = .ok (.iconst 5, 1) := by decide +kernel
theorem dX6_readLaw_12 : decode cX6_readLaw 12 = .ok (.bipush 15, 2) := by decide +kernel
theorem dX6_readLaw_14 : decode cX6_readLaw 14 = .ok (.invokevirtual 55, 3) := by decide +kernel
theorem dX6_readLaw_17 : decode cX6_readLaw 17 = .ok (.putfield 59, 3) := by decide +kernel
theorem dX6_readLaw_20 : decode cX6_readLaw 20 = .ok (.aload_n 0, 1) := by decide +kernel
theorem dX6_readLaw_21 : decode cX6_readLaw 21 = .ok (.bipush 44, 2) := by decide +kernel
theorem dX6_readLaw_23 : decode cX6_readLaw 23 = .ok (.invokevirtual 51, 3) := by decide +kernel
theorem dX6_readLaw_26 : decode cX6_readLaw 26 = .ok (.aload_n 0, 1) := by decide +kernel
theorem dX6_readLaw_27 : decode cX6_readLaw 27 = .ok (.getfield 18, 3) := by decide +kernel
theorem dX6_readLaw_3 : decode cX6_readLaw 3 = .ok (.invokevirtual 51, 3) := by decide +kernel
theorem dX6_readLaw_30 : decode cX6_readLaw 30 = .ok (.aload_n 0, 1) := by decide +kernel
theorem dX6_readLaw_31 : decode cX6_readLaw 31 = .ok (.iconst 0, 1) := by decide +kernel
theorem dX6_readLaw_32 : decode cX6_readLaw 32 = .ok (.aload_n 0, 1) := by decide +kernel
theorem dX6_readLaw_33 : decode cX6_readLaw 33 = .ok (.getfield 18, 3) := by decide +kernel
theorem dX6_readLaw_36 : decode cX6_readLaw 36 = .ok (.getfield 59, 3) := by decide +kernel
theorem dX6_readLaw_39 : decode cX6_readLaw 39 = .ok (.iconst 1, 1) := by decide +kernel
theorem dX6_readLaw_40 : decode cX6_readLaw 40 = .ok (.isub, 1) := by decide +kernel
theorem dX6_readLaw_41 : decode cX6_readLaw 41 = .ok (.invokevirtual 55, 3) := by decide +kernel
theorem dX6_readLaw_44 : decode cX6_readLaw 44 = .ok (.putfield 62, 3) := by decide +kernel
theorem dX6_readLaw_47 : decode cX6_readLaw 47 = .ok (.aload_n 0, 1) := by decide +kernel
theorem dX6_readLaw_48 : decode cX6_readLaw 48 = .ok (.bipush 44, 2) := by decide +kernel
theorem dX6_readLaw_50 : decode cX6_readLaw 50 = .ok (.invokevirtual 51, 3) := by decide +kernel
theorem dX6_readLaw_53 : decode cX6_readLaw 53 = .ok (.aload_n 0, 1) := by decide +kernel
theorem dX6_readLaw_54 : decode cX6_readLaw 54 = .ok (.getfield 18, 3) := by decide +kernel
theorem dX6_readLaw_57 : decode cX6_readLaw 57 = .ok (.aload_n 0, 1) := by decide +kernel
theorem dX6_readLaw_58 : decode cX6_readLaw 58 = .ok (.iconst 0, 1) := by decide +kernel
theorem dX6_readLaw_59 : decode cX6_readLaw 59 = .ok (.iconst 4, 1) := by decide +kernel
theorem dX6_readLaw_6 : decode cX6_readLaw 6 = .ok (.aload_n 0, 1) := by decide +kernel
theorem dX6_readLaw_60 : decode cX6_readLaw 60 = .ok (.invokevirtual 55, 3) := by decide +kernel
theorem dX6_readLaw_63 : decode cX6_readLaw 63 = .ok (.putfield 65, 3) := by decide +kernel
theorem dX6_readLaw_66 : decode cX6_readLaw 66 = .ok (.aload_n 0, 1) := by decide +kernel
theorem dX6_readLaw_67 : decode cX6_readLaw 67 = .ok (.bipush 59, 2) := by decide +kernel
theorem dX6_readLaw_69 : decode cX6_readLaw 69 = .ok (.invokevirtual 51, 3) := by decide +kernel
theorem dX6_readLaw_7 : decode cX6_readLaw 7 = .ok (.getfield 18, 3) := by decide +kernel
theorem dX6_readLaw_72 : decode cX6_readLaw 72 = .ok (.return_, 1) := by decide +kernel
theorem dX6_readNumber_0 : decode cX6_readNumber 0 = .ok (.aload_n 0, 1) := by decide +kernel
theorem dX6_readNumber_1 : decode cX6_readNumber 1 = .ok (.invokevirtual 100, 3) := by decide +kernel
theorem dX6_readNumber_10 : decode cX6_readNumber 10 = .ok (.iload_n 3, 1) := by decide +kernel
theorem dX6_readNumber_11 : decode cX6_readNumber 11 = .ok (.iconst 2, 1) := by decide +kernel
theorem dX6_readNumber_12 : decode cX6_readNumber 12 = .ok (.if_icmp .le 10, 3) := by decide +kernel
theorem dX6_readNumber_15 : decode cX6_readNumber 15 = .ok (.aload_n 0, 1) := by decide +kernel
theorem dX6_readNumber_16 : decode cX6_readNumber 16 = .ok (.iconst 1, 1) := by decide +kernel
theorem dX6_readNumber_17 : decode cX6_readNumber 17 = .ok (.invokevirtual 78, 3) := by decide +kernel
theorem dX6_readNumber_20 : decode cX6_readNumber 20 = .ok (.iconst 0, 1) := by decide +kernel
theorem dX6_readNumber_21 : decode cX6_readNumber 21 = .ok (.ireturn, 1) := by decide +kernel
theorem dX6_readNumber_22 : decode cX6_readNumber 22 = .ok (.iconst 0, 1) := by decide +kernel
theorem dX6_readNumber_23 : decode cX6_readNumber 23 = .ok (.istore 4, 2) := by decide +kernel
theorem dX6_readNumber_25 : decode cX6_readNumber 25 = .ok (.iconst 0, 1) := by decide +kernel
theorem dX6_readNumber_26 : decode cX6_readNumber 26 = .ok (.istore 5, 2) := by decide +kernel
theorem dX6_readNumber_28 : decode cX6_readNumber 28 = .ok (.iload 5, 2) := by decide +kernel
theorem dX6_readNumber_30 : decode cX6_readNumber 30 = .ok (.iload_n 3, 1) := by decide +kernel
theorem dX6_readNumber_31 : decode cX6_readNumber 31 = .ok (.if_icmp .ge 31, 3) := by decide +kernel
theorem dX6_readNumber_34 : decode cX6_readNumber 34 = .ok (.iload 4, 2) := by decide +kernel
theorem dX6_readNumber_36 : decode cX6_readNumber 36 = .ok (.bipush 10, 2) := by decide +kernel
theorem dX6_readNumber_38 : decode cX6_readNumber 38 = .ok (.imul, 1) := by decide +kernel
theorem dX6_readNumber_39 : decode cX6_readNumber 39 = .ok (.aload_n 0, 1) := by decide +kernel
theorem dX6_readNumber_4 : decode cX6_readNumber 4 = .ok (.istore_n 3, 1) := by decide +kernel
theorem dX6_readNumber_40 : decode cX6_readNumber 40 = .ok (.aload_n 0, 1) := by decide +kernel
theorem dX6_readNumber_41 : decode cX6_readNumber 41 = .ok (.getfield 36, 3) := by decide +kernel
theorem dX6_readNumber_44 : decode cX6_readNumber 44 = .ok (.iload 5, 2) := by decide +kernel
theorem dX6_readNumber_46 : decode cX6_readNumber 46 = .ok (.iadd, 1) := by decide +kernel
theorem dX6_readNumber_47 : decode cX6_readNumber 47 = .ok (.invokevirtual 71, 3) := by decide +kernel
theorem dX6_readNumber_5 : decode cX6_readNumber 5 = .ok (.iload_n 3, 1) := by decide +kernel
theorem dX6_readNumber_50 : decode cX6_readNumber 50 = .ok (.iadd, 1) := by decide +kernel
theorem dX6_readNumber_51 : decode cX6_readNumber 51 = .ok (.bipush 48, 2) := by decide +kernel
theorem dX6_readNumber_53 : decode cX6_readNumber 53 = .ok (.isub, 1) := by decide +kernel
theorem dX6_readNumber_54 : decode cX6_readNumber 54 = .ok (.istore 4, 2) := by decide +kernel
theorem dX6_readNumber_56 : decode cX6_readNumber 56 = .ok (.iinc 5 1, 3) := by decide +kernel
theorem dX6_readNumber_59 : decode cX6_readNumber 59 = .ok (.goto (-31), 3) := by decide +kernel
theorem dX6_readNumber_6 : decode cX6_readNumber 6 = .ok (.iconst 1, 1) := by decide +kernel
theorem dX6_readNumber_62 : decode cX6_readNumber 62 = .ok (.iload 4, 2) := by decide +kernel
theorem dX6_readNumber_64 : decode cX6_readNumber 64 = .ok (.iload_n 1, 1) := by decide +kernel
theorem dX6_readNumber_65 : decode cX6_readNumber 65 = .ok (.if_icmp .lt 9, 3) := by decide +kernel
theorem dX6_readNumber_68 : decode cX6_readNumber 68 = .ok (.iload 4, 2) := by decide +kernel
theorem dX6_readNumber_7 : decode cX6_readNumber 7 = .ok (.if_icmp .lt 8, 3) := by decide +kernel
theorem dX6_readNumber_70 : decode cX6_readNumber 70 = .ok (.iload_n 2, 1) := by decide +kernel
theorem dX6_readNumber_71 : decode cX6_readNumber 71 = .ok (.if_icmp .le 10, 3) := by decide +kernel
theorem dX6_readNumber_74 : decode cX6_readNumber 74 = .ok (.aload_n 0, 1) := by decide +kernel
theorem dX6_readNumber_75 : decode cX6_readNumber 75 = .ok (.iconst 2, 1) := by decide +kernel
theorem dX6_readNumber_76 : decode cX6_readNumber 76 = .ok (.invokevirtual 78, 3) := by decide +kernel
theorem dX6_readNumber_79 : decode cX6_readNumber 79 = .ok (.iconst 0, 1) := by decide +kernel
theorem dX6_readNumber_80 : decode cX6_readNumber 80 = .ok (.ireturn, 1) := by decide +kernel
theorem dX6_readNumber_81 : decode cX6_readNumber 81 = .ok (.aload_n 0, 1) := by decide +kernel
theorem dX6_readNumber_82 : decode cX6_readNumber 82 = .ok (.dup, 1) := by decide +kernel
theorem dX6_readNumber_83 : decode cX6_readNumber 83 = .ok (.getfield 36, 3) := by decide +kernel
theorem dX6_readNumber_86 : decode cX6_readNumber 86 = .ok (.iload_n 3, 1) := by decide +kernel
theorem dX6_readNumber_87 : decode cX6_readNumber 87 = .ok (.iadd, 1) := by decide +kernel
theorem dX6_readNumber_88 : decode cX6_readNumber 88 = .ok (.putfield 36, 3) := by decide +kernel
theorem dX6_readNumber_91 : decode cX6_readNumber 91 = .ok (.iload 4, 2) := by decide +kernel
theorem dX6_readNumber_93 : decode cX6_readNumber 93 = .ok (.ireturn, 1) := by decide +kernel
theorem dX6_readSound_0 : decode cX6_readSound 0 = .ok (.aload_n 0, 1) := by decide +kernel
theorem dX6_readSound_1 : decode cX6_readSound 1 = .ok (.aload_n 0, 1) := by decide +kernel
theorem dX6_readSound_100 : decode cX6_readSound 100 = .ok (.aload_n 0, 1) := by decide +kernel
theorem dX6_readSound_101 : decode cX6_readSound 101 = .ok (.getfield 18, 3) := by decide +kernel
theorem dX6_readSound_104 : decode cX6_readSound 104 = .ok (.getfield 90, 3) := by decide +kernel
theorem dX6_readSound_107 : decode cX6_readSound 107 = .ok (.iload_n 1, 1) := by decide +kernel
theorem dX6_readSound_108 : decode cX6_readSound 108 = .ok (.iastore, 1) := by decide +kernel
theorem dX6_readSound_109 : decode cX6_readSound 109 = .ok (.aload_n 0, 1) := by decide +kernel
theorem dX6_readSound_11 : decode cX6_readSound 11 = .ok (.istore_n 1, 1) := by decide +kernel
theorem dX6_readSound_110 : decode cX6_readSound 110 = .ok (.getfield 18, 3) := by decide +kernel
theorem dX6_readSound_113 : decode cX6_readSound 113 = .ok (.aload_n 0, 1) := by decide +kernel
theorem dX6_readSound_114 : decode cX6_readSound 114 = .ok (.getfield 18, 3) := by decide +kernel
theorem dX6_readSound_117 : decode cX6_readSound 117 = .ok (.getfield 90, 3) := by decide +kernel
theorem dX6_readSound_12 : decode cX6_readSound 12 = .ok (.iload_n 1, 1) := by decide +kernel
theorem dX6_readSound_120 : decode cX6_readSound 120 = .ok (.iload_n 2, 1) := by decide +kernel
theorem dX6_readSound_121 : decode cX6_readSound 121 = .ok (.iload_n 3, 1) := by decide +kernel
theorem dX6_readSound_122 : decode cX6_readSound 122 = .ok (.invokevirtual 96, 3) := by decide +kernel
theorem dX6_readSound_125 : decode cX6_readSound 125 = .ok (.aload_n 0, 1) := by decide +kernel
theorem dX6_readSound_126 : decode cX6_readSound 126 = .ok (.getfield 18, 3) := by decide +kernel
theorem dX6_readSound_129 : decode cX6_readSound 129 = .ok (.dup, 1) := by decide +kernel
theorem dX6_readSound_13 : decode cX6_readSound 13 = .ok (.ifCond .ne 11, 3) := by decide +kernel
theorem dX6_readSound_130 : decode cX6_readSound 130 = .ok (.getfield 90, 3) := by decide +kernel
theorem dX6_readSound_133 : decode cX6_readSound 133 = .ok (.iconst 1, 1) := by decide +kernel
theorem dX6_readSound_134 : decode cX6_readSound 134 = .ok (.iadd, 1) := by decide +kernel
theorem dX6_readSound_135 : decode cX6_readSound 135 = .ok (.putfield 90, 3) := by decide +kernel
theorem dX6_readSound_138 : decode cX6_readSound 138 = .ok (.return_, 1) := by decide +kernel
theorem dX6_readSound_16 : decode cX6_readSound 16 = .ok (.aload_n 0, 1) := by decide +kernel
theorem dX6_readSound_17 : decode cX6_readSound 17 = .ok (.iconst 1, 1) := by decide +kernel
theorem dX6_readSound_18 : decode cX6_readSound 18 = .ok (.invokevirtual 78, 3) := by decide +kernel
theorem dX6_readSound_2 : decode cX6_readSound 2 = .ok (.getfield 36, 3) := by decide +kernel
theorem dX6_readSound_21 : decode cX6_readSound 21 = .ok (.goto 20, 3) := by decide +kernel
theorem dX6_readSound_24 : decode cX6_readSound 24 = .ok (.aload_n 0, 1) := by decide +kernel
theorem dX6_readSound_25 : decode cX6_readSound 25 = .ok (.getfield 18, 3) := by decide +kernel
theorem dX6_readSound_28 : decode cX6_readSound 28 = .ok (.getfield 90, 3) := by decide +kernel
theorem dX6_readSound_31 : decode cX6_readSound 31 = .ok (.bipush 6, 2) := by decide +kernel
theorem dX6_readSound_33 : decode cX6_readSound 33 = .ok (.if_icmp .lt 8, 3) := by decide +kernel
theorem dX6_readSound_36 : decode cX6_readSound 36 = .ok (.aload_n 0, 1) := by decide +kernel
theorem dX6_readSound_37 : decode cX6_readSound 37 = .ok (.iconst 3, 1) := by decide +kernel
theorem dX6_readSound_38 : decode cX6_readSound 38 = .ok (.invokevirtual 78, 3) := by decide +kernel
theorem dX6_readSound_41 : decode cX6_readSound 41 = .ok (.aload_n 0, 1) := by decide +kernel
theorem dX6_readSound_42 : decode cX6_readSound 42 = .ok (.dup, 1) := by decide +kernel
theorem dX6_readSound_43 : decode cX6_readSound 43 = .ok (.getfield 36, 3) := by decide +kernel
theorem dX6_readSound_46 : decode cX6_readSound 46 = .ok (.iconst 1, 1) := by decide +kernel
theorem dX6_readSound_47 : decode cX6_readSound 47 = .ok (.iadd, 1) := by decide +kernel
theorem dX6_readSound_48 : decode cX6_readSound 48 = .ok (.putfield 36, 3) := by decide +kernel
theorem dX6_readSound_5 : decode cX6_readSound 5 = .ok (.invokevirtual 71, 3) := by decide +kernel
theorem dX6_readSound_51 : decode cX6_readSound 51 = .ok (.aload_n 0, 1) := by decide +kernel
theorem dX6_readSound_52 : decode cX6_readSound 52 = .ok (.iconst 0, 1) := by decide +kernel
theorem dX6_readSound_53 : decode cX6_readSound 53 = .ok (.aload_n 0, 1) := by decide +kernel
theorem dX6_readSound_54 : decode cX6_readSound 54 = .ok (.getfield 18, 3) := by decide +kernel
theorem dX6_readSound_57 : decode cX6_readSound 57 = .ok (.getfield 59, 3) := by decide +kernel
theorem dX6_readSound_60 : decode cX6_readSound 60 = .ok (.iconst 1, 1) := by decide +kernel
theorem dX6_readSound_61 : decode cX6_readSound 61 = .ok (.isub, 1) := by decide +kernel
theorem dX6_readSound_62 : decode cX6_readSound 62 = .ok (.invokevirtual 55, 3) := by decide +kernel
theorem dX6_readSound_65 : decode cX6_readSound 65 = .ok (.istore_n 2, 1) := by decide +kernel
theorem dX6_readSound_66 : decode cX6_readSound 66 = .ok (.aload_n 0, 1) := by decide +kernel
theorem dX6_readSound_67 : decode cX6_readSound 67 = .ok (.bipush 44, 2) := by decide +kernel
theorem dX6_readSound_69 : decode cX6_readSound 69 = .ok (.invokevirtual 51, 3) := by decide +kernel
theorem dX6_readSound_72 : decode cX6_readSound 72 = .ok (.aload_n 0, 1) := by decide +kernel
theorem dX6_readSound_73 : decode cX6_readSound 73 = .ok (.iconst 1, 1) := by decide +kernel
theorem dX6_readSound_74 : decode cX6_readSound 74 = .ok (.bipush 20, 2) := by decide +kernel
theorem dX6_readSound_76 : decode cX6_readSound 76 = .ok (.invokevirtual 55, 3) := by decide +kernel
theorem dX6_readSound_79 : decode cX6_readSound 79 = .ok (.istore_n 3, 1) := by decide +kernel
theorem dX6_readSound_8 : decode cX6_readSound 8 = .ok (.invokestatic 87, 3) := by decide +kernel
theorem dX6_readSound_80 : decode cX6_readSound 80 = .ok (.aload_n 0, 1) := by decide +kernel
theorem dX6_readSound_81 : decode cX6_readSound 81 = .ok (.bipush 59, 2) := by decide +kernel
theorem dX6_readSound_83 : decode cX6_readSound 83 = .ok (.invokevirtual 51, 3) := by decide +kernel
theorem dX6_readSound_86 : decode cX6_readSound 86 = .ok (.aload_n 0, 1) := by decide +kernel
theorem dX6_readSound_87 : decode cX6_readSound 87 = .ok (.getfield 30, 3) := by decide +kernel
theorem dX6_readSound_90 : decode cX6_readSound 90 = .ok (.ifCond .ne 48, 3) := by decide +kernel
theorem dX6_readSound_93 : decode cX6_readSound 93 = .ok (.aload_n 0, 1) := by decide +kernel
theorem dX6_readSound_94 : decode cX6_readSound 94 = .ok (.getfield 18, 3) := by decide +kernel
theorem dX6_readSound_97 : decode cX6_readSound 97 = .ok (.getfield 93, 3) := by decide +kernel
theorem dX6_readSounds_0 : decode cX6_readSounds 0 = .ok (.aload_n 0, 1) := by decide +kernel
theorem dX6_readSounds_1 : decode cX6_readSounds 1 = .ok (.invokevirtual 84, 3) := by decide +kernel
theorem dX6_readSounds_12 : decode cX6_readSounds 12 = .ok (.aload_n 0, 1) := by decide +kernel
theorem dX6_readSounds_13 : decode cX6_readSounds 13 = .ok (.getfield 30, 3) := by decide +kernel
theorem dX6_readSounds_16 : decode cX6_readSounds 16 = .ok (.ifCond .ne 25, 3) := by decide +kernel
theorem dX6_readSounds_19 : decode cX6_readSounds 19 = .ok (.aload_n 0, 1) := by decide +kernel
theorem dX6_readSounds_20 : decode cX6_readSounds 20 = .ok (.aload_n 0, 1) := by decide +kernel
theorem dX6_readSounds_21 : decode cX6_readSounds 21 = .ok (.getfield 36, 3) := by decide +kernel
theorem dX6_readSounds_24 : decode cX6_readSounds 24 = .ok (.invokevirtual 71, 3) := by decide +kernel
theorem dX6_readSounds_27 : decode cX6_readSounds 27 = .ok (.iconst (-1), 1) := by decide +kernel
theorem dX6_readSounds_28 : decode cX6_readSounds 28 = .ok (.if_icmp .eq 13, 3) := by decide +kernel
theorem dX6_readSounds_31 : decode cX6_readSounds 31 = .ok (.aload_n 0, 1) := by decide +kernel
theorem dX6_readSounds_32 : decode cX6_readSounds 32 = .ok (.invokevirtual 84, 3) := by decide +kernel
theorem dX6_readSounds_35 : decode cX6_readSounds 35 = .ok (.iinc 1 1, 3) := by decide +kernel
theorem dX6_readSounds_38 : decode cX6_readSounds 38 = .ok (.goto (-32), 3) := by decide +kernel
theorem dX6_readSounds_4 : decode cX6_readSounds 4 = .ok (.iconst 0, 1) := by decide +kernel
theorem dX6_readSounds_41 : decode cX6_readSounds 41 = .ok (.return_, 1) := by decide +kernel
theorem dX6_readSounds_5 : decode cX6_readSounds 5 = .ok (.istore_n 1, 1) := by decide +kernel
theorem dX6_readSounds_6 : decode cX6_readSounds 6 = .ok (.iload_n 1, 1) := by decide +kernel
theorem dX6_readSounds_7 : decode cX6_readSounds 7 = .ok (.bipush 6, 2) := by decide +kernel
theorem dX6_readSounds_9 : decode cX6_readSounds 9 = .ok (.if_icmp .ge 32, 3) := by decide +kernel
theorem dX6_readWind_0 : decode cX6_readWind 0 = .ok (.aload_n 0, 1) := by decide +kernel
theorem dX6_readWind_1 : decode cX6_readWind 1 = .ok (.getfield 30, 3) := by decide +kernel
theorem dX6_readWind_12 : decode cX6_readWind 12 = .ok (.invokevirtual 71, 3) := by decide +kernel
theorem dX6_readWind_15 : decode cX6_readWind 15 = .ok (.bipush 119, 2) := by decide +kernel
theorem dX6_readWind_17 : decode cX6_readWind 17 = .ok (.if_icmp .ne 20, 3) := by decide +kernel
theorem dX6_readWind_20 : decode cX6_readWind 20 = .ok (.aload_n 0, 1) := by decide +kernel
theorem dX6_readWind_21 : decode cX6_readWind 21 = .ok (.getfield 18, 3) := by decide +kernel
theorem dX6_readWind_24 : decode cX6_readWind 24 = .ok (.getfield 75, 3) := by decide +kernel
theorem dX6_readWind_27 : decode cX6_readWind 27 = .ok (.bipush 6, 2) := by decide +kernel
theorem dX6_readWind_29 : decode cX6_readWind 29 = .ok (.if_icmp .lt 8, 3) := by decide +kernel
theorem dX6_readWind_32 : decode cX6_readWind 32 = .ok (.aload_n 0, 1) := by decide +kernel
theorem dX6_readWind_33 : decode cX6_readWind 33 = .ok (.iconst 3, 1) := by decide +kernel
theorem dX6_readWind_34 : decode cX6_readWind 34 = .ok (.invokevirtual 78, 3) := by decide +kernel
theorem dX6_readWind_37 : decode cX6_readWind 37 = .ok (.aload_n 0, 1) := by decide +kernel
theorem dX6_readWind_38 : decode cX6_readWind 38 = .ok (.bipush 119, 2) := by decide +kernel
theorem dX6_readWind_4 : decode cX6_readWind 4 = .ok (.ifCond .ne 33, 3) := by decide +kernel
theorem dX6_readWind_40 : decode cX6_readWind 40 = .ok (.invokevirtual 51, 3) := by decide +kernel
theorem dX6_readWind_43 : decode cX6_readWind 43 = .ok (.aload_n 0, 1) := by decide +kernel
theorem dX6_readWind_44 : decode cX6_readWind 44 = .ok (.iconst 0, 1) := by decide +kernel
theorem dX6_readWind_45 : decode cX6_readWind 45 = .ok (.iconst 4, 1) := by decide +kernel
theorem dX6_readWind_46 : decode cX6_readWind 46 = .ok (.invokevirtual 55, 3) := by decide +kernel
theorem dX6_readWind_49 : decode cX6_readWind 49 = .ok (.istore_n 1, 1) := by decide +kernel
theorem dX6_readWind_50 : decode cX6_readWind 50 = .ok (.aload_n 0, 1) := by decide +kernel
theorem dX6_readWind_51 : decode cX6_readWind 51 = .ok (.bipush 59, 2) := by decide +kernel
theorem dX6_readWind_53 : decode cX6_readWind 53 = .ok (.invokevirtual 51, 3) := by decide +kernel
theorem dX6_readWind_56 : decode cX6_readWind 56 = .ok (.aload_n 0, 1) := by decide +kernel
theorem dX6_readWind_57 : decode cX6_readWind 57 = .ok (.getfield 30, 3) := by decide +kernel
theorem dX6_readWind_60 : decode cX6_readWind 60 = .ok (.ifCond .ne 32, 3) := by decide +kernel
theorem dX6_readWind_63 : decode cX6_readWind 63 = .ok (.aload_n 0, 1) := by decide +kernel
theorem dX6_readWind_64 : decode cX6_readWind 64 = .ok (.getfield 18, 3) := by decide +kernel
theorem dX6_readWind_67 : decode cX6_readWind 67 = .ok (.getfield 81, 3) := by decide +kernel
theorem dX6_readWind_7 : decode cX6_readWind 7 = .ok (.aload_n 0, 1) := by decide +kernel
theorem dX6_readWind_70 : decode cX6_readWind 70 = .ok (.aload_n 0, 1) := by decide +kernel
theorem dX6_readWind_71 : decode cX6_readWind 71 = .ok (.getfield 18, 3) := by decide +kernel
theorem dX6_readWind_74 : decode cX6_readWind 74 = .ok (.getfield 75, 3) := by decide +kernel
theorem dX6_readWind_77 : decode cX6_readWind 77 = .ok (.iload_n 1, 1) := by decide +kernel
theorem dX6_readWind_78 : decode cX6_readWind 78 = .ok (.iastore, 1) := by decide +kernel
theorem dX6_readWind_79 : decode cX6_readWind 79 = .ok (.aload_n 0, 1) := by decide +kernel
theorem dX6_readWind_8 : decode cX6_readWind 8 = .ok (.aload_n 0, 1) := by decide +kernel
theorem dX6_readWind_80 : decode cX6_readWind 80 = .ok (.getfield 18, 3) := by decide +kernel
theorem dX6_readWind_83 : decode cX6_readWind 83 = .ok (.dup, 1) := by decide +kernel
theorem dX6_readWind_84 : decode cX6_readWind 84 = .ok (.getfield 75, 3) := by decide +kernel
theorem dX6_readWind_87 : decode cX6_readWind 87 = .ok (.iconst 1, 1) := by decide +kernel
theorem dX6_readWind_88 : decode cX6_readWind 88 = .ok (.iadd, 1) := by decide +kernel
theorem dX6_readWind_89 : decode cX6_readWind 89 = .ok (.putfield 75, 3) := by decide +kernel
theorem dX6_readWind_9 : decode cX6_readWind 9 = .ok (.getfield 36, 3) := by decide +kernel
theorem dX6_readWind_92 : decode cX6_readWind 92 = .ok (.return_, 1) := by decide +kernel
theorem dX6_readWinds_0 : decode cX6_readWinds 0 = .ok (.aload_n 0, 1) := by decide +kernel
theorem dX6_readWinds_1 : decode cX6_readWinds 1 = .ok (.invokevirtual 68, 3) := by decide +kernel
theorem dX6_readWinds_12 : decode cX6_readWinds 12 = .ok (.aload_n 0, 1) := by decide +kernel
theorem dX6_readWinds_13 : decode cX6_readWinds 13 = .ok (.getfield 30, 3) := by decide +kernel
theorem dX6_readWinds_16 : decode cX6_readWinds 16 = .ok (.ifCond .ne 26, 3) := by decide +kernel
theorem dX6_readWinds_19 : decode cX6_readWinds 19 = .ok (.aload_n 0, 1) := by decide +kernel
theorem dX6_readWinds_20 : decode cX6_readWinds 20 = .ok (.aload_n 0, 1) := by decide +kernel
theorem dX6_readWinds_21 : decode cX6_readWinds 21 = .ok (.getfield 36, 3) := by decide +kernel
theorem dX6_readWinds_24 : decode cX6_readWinds 24 = .ok (.invokevirtual 71, 3) := by decide +kernel
theorem dX6_readWinds_27 : decode cX6_readWinds 27 = .ok (.bipush 119, 2) := by decide +kernel
theorem dX6_readWinds_29 : decode cX6_readWinds 29 = .ok (.if_icmp .ne 13, 3) := by decide +kernel
theorem dX6_readWinds_32 : decode cX6_readWinds 32 = .ok (.aload_n 0, 1) := by decide +kernel
theorem dX6_readWinds_33 : decode cX6_readWinds 33 = .ok (.invokevirtual 68, 3) := by decide +kernel
theorem dX6_readWinds_36 : decode cX6_readWinds 36 = .ok (.iinc 1 1, 3) := by decide +kernel
theorem dX6_readWinds_39 : decode cX6_readWinds 39 = .ok (.goto (-33), 3) := by decide +kernel
theorem dX6_readWinds_4 : decode cX6_readWinds 4 = .ok (.iconst 0, 1) := by decide +kernel
theorem dX6_readWinds_42 : decode cX6_readWinds 42 = .ok (.return_, 1) := by decide +kernel
theorem dX6_readWinds_5 : decode cX6_readWinds 5 = .ok (.istore_n 1, 1) := by decide +kernel
theorem dX6_readWinds_6 : decode cX6_readWinds 6 = .ok (.iload_n 1, 1) := by decide +kernel
theorem dX6_readWinds_7 : decode cX6_readWinds 7 = .ok (.bipush 6, 2) := by decide +kernel
theorem dX6_readWinds_9 : decode cX6_readWinds 9 = .ok (.if_icmp .ge 33, 3) := by decide +kernel
theorem dX6_read_0 : decode cX6_read 0 = .ok (.aload_n 0, 1) := by decide +kernel
theorem dX6_read_1 : decode cX6_read 1 = .ok (.iconst 0, 1) := by decide +kernel
theorem dX6_read_10 : decode cX6_read 10 = .ok (.aload_n 0, 1) := by decide +kernel
theorem dX6_read_11 : decode cX6_read 11 = .ok (.iconst 0, 1) := by decide +kernel
theorem dX6_read_12 : decode cX6_read 12 = .ok (.putfield 36, 3) := by decide +kernel
theorem dX6_read_15 : decode cX6_read 15 = .ok (.aload_n 0, 1) := by decide +kernel
theorem dX6_read_16 : decode cX6_read 16 = .ok (.getfield 18, 3) := by decide +kernel
theorem dX6_read_19 : decode cX6_read 19 = .ok (.invokevirtual 39, 3) := by decide +kernel
theorem dX6_read_2 : decode cX6_read 2 = .ok (.putfield 30, 3) := by decide +kernel
theorem dX6_read_22 : decode cX6_read 22 = .ok (.aload_n 0, 1) := by decide +kernel
theorem dX6_read_23 : decode cX6_read 23 = .ok (.invokevirtual 42, 3) := by decide +kernel
theorem dX6_read_26 : decode cX6_read 26 = .ok (.aload_n 0, 1) := by decide +kernel
theorem dX6_read_27 : decode cX6_read 27 = .ok (.invokevirtual 45, 3) := by decide +kernel
theorem dX6_read_30 : decode cX6_read 30 = .ok (.aload_n 0, 1) := by decide +kernel
theorem dX6_read_31 : decode cX6_read 31 = .ok (.invokevirtual 48, 3) := by decide +kernel
theorem dX6_read_34 : decode cX6_read 34 = .ok (.aload_n 0, 1) := by decide +kernel
theorem dX6_read_35 : decode cX6_read 35 = .ok (.iconst 0, 1) := by decide +kernel
theorem dX6_read_36 : decode cX6_read 36 = .ok (.putfield 22, 3) := by decide +kernel
theorem dX6_read_39 : decode cX6_read 39 = .ok (.aload_n 0, 1) := by decide +kernel
theorem dX6_read_40 : decode cX6_read 40 = .ok (.getfield 30, 3) := by decide +kernel
theorem dX6_read_43 : decode cX6_read 43 = .ok (.ireturn, 1) := by decide +kernel
theorem dX6_read_5 : decode cX6_read 5 = .ok (.aload_n 0, 1) := by decide +kernel
theorem dX6_read_6 : decode cX6_read 6 = .ok (.iconst 0, 1) := by decide +kernel
theorem dX6_read_7 : decode cX6_read 7 = .ok (.putfield 33, 3) := by decide +kernel
set_option maxRecDepth 20000 in
theorem ggX6_append_X6_isFull : GoodIn wsX6_append wsX6_isFull := goodIn_r _ [7, 2, 8, 9, 10, 11, 12, 13] (by decide +kernel) (by decide +kernel)
set_option maxRecDepth 20000 in
theorem gX6_append_X6_isFull : GoodIn wsX6_append (wsV RX6 26 RX6 yX6_isFull wsX6_isFull) := goodIn_app (goodIn_of _ (by decide +kernel)) ggX6_append_X6_isFull
set_option maxRecDepth 20000 in
theorem ggX6_figuresHere_X6_byteAt : GoodIn wsX6_figuresHere wsX6_byteAt := goodIn_r _ [6, 7, 8, 12, 13, 14, 15, 16, 17] (by decide +kernel) (by decide +kernel)
set_option maxRecDepth 20000 in
theorem gX6_figuresHere_X6_byteAt : GoodIn wsX6_figuresHere (wsV RX6 71 RX6 yX6_byteAt wsX6_byteAt) := goodIn_app (goodIn_of _ (by decide +kernel)) ggX6_figuresHere_X6_byteAt
set_option maxRecDepth 20000 in
theorem ggX6_figuresHere_X6_isFigure : GoodIn wsX6_figuresHere wsX6_isFigure := goodIn_r _ [11] (by decide +kernel) (by decide +kernel)
set_option maxRecDepth 20000 in
theorem gX6_figuresHere_X6_isFigure : GoodIn wsX6_figuresHere (va_wsS RX6 104 yX6_isFigure wsX6_isFigure) := goodIn_app (goodIn_of _ (by decide +kernel)) ggX6_figuresHere_X6_isFigure
set_option maxRecDepth 20000 in
theorem ggX6_readByte_X6_byteAt : GoodIn wsX6_readByte wsX6_byteAt := goodIn_r _ [6, 7, 8, 15, 16, 17, 18, 19, 20] (by decide +kernel) (by decide +kernel)
set_option maxRecDepth 20000 in
theorem gX6_readByte_X6_byteAt : GoodIn wsX6_readByte (wsV RX6 71 RX6 yX6_byteAt wsX6_byteAt) := goodIn_app (goodIn_of _ (by decide +kernel)) ggX6_readByte_X6_byteAt
set_option maxRecDepth 20000 in
theorem ggX6_readByte_X6_fail : GoodIn wsX6_readByte wsX6_fail := goodIn_r _ [12, 13, 1, 14, 15, 16, 17, 18, 19, 20] (by decide +kernel) (by decide +kernel)
set_option maxRecDepth 20000 in
theorem gX6_readByte_X6_fail : GoodIn wsX6_readByte (wsV RX6 78 RX6 yX6_fail wsX6_fail) := goodIn_app (goodIn_of _ (by decide +kernel)) ggX6_readByte_X6_fail
set_option maxRecDepth 20000 in
theorem ggX6_readLaw_X6_readByte : GoodIn wsX6_readLaw wsX6_readByte := goodIn_r _ [9, 10, 11, 12, 13, 8, 14, 15, 16, 17, 18, 19, 20, 21, 22, 34, 35, 36, 37, 38, 39] (by decide +kernel) (by decide +kernel)
set_option maxRecDepth 20000 in
theorem gX6_readLaw_X6_readByte : GoodIn wsX6_readLaw (wsV RX6 51 RX6 yX6_readByte wsX6_readByte) := goodIn_app (goodIn_of _ (by decide +kernel)) ggX6_readLaw_X6_readByte
set_option maxRecDepth 20000 in
theorem ggX6_readLaw_X6_readNumber : GoodIn wsX6_readLaw wsX6_readNumber := goodIn_r _ [26, 10, 27, 28, 29, 8, 30, 11, 12, 13, 14, 15, 16, 31, 32, 33, 17, 18, 19, 20, 21, 22, 34, 35, 36, 37, 38, 39] (by decide +kernel) (by decide +kernel)
set_option maxRecDepth 20000 in
theorem gX6_readLaw_X6_readNumber : GoodIn wsX6_readLaw (wsV RX6 55 RX6 yX6_readNumber wsX6_readNumber) := goodIn_app (goodIn_of _ (by decide +kernel)) ggX6_readLaw_X6_readNumber
set_option maxRecDepth 20000 in
theorem ggX6_readNumber_X6_byteAt : GoodIn wsX6_readNumber wsX6_byteAt := goodIn_r _ [10, 11, 12, 22, 23, 24, 25, 26, 27] (by decide +kernel) (by decide +kernel)
set_option maxRecDepth 20000 in
theorem gX6_readNumber_X6_byteAt : GoodIn wsX6_readNumber (wsV RX6 71 RX6 yX6_byteAt wsX6_byteAt) := goodIn_app (goodIn_of _ (by decide +kernel)) ggX6_readNumber_X6_byteAt
set_option maxRecDepth 20000 in
theorem ggX6_readNumber_X6_fail : GoodIn wsX6_readNumber wsX6_fail := goodIn_r _ [19, 20, 1, 21, 22, 23, 24, 25, 26, 27] (by decide +kernel) (by decide +kernel)
set_option maxRecDepth 20000 in
theorem gX6_readNumber_X6_fail : GoodIn wsX6_readNumber (wsV RX6 78 RX6 yX6_fail wsX6_fail) := goodIn_app (goodIn_of _ (by decide +kernel)) ggX6_readNumber_X6_fail
set_option maxRecDepth 20000 in
theorem ggX6_readNumber_X6_figuresHere : GoodIn wsX6_readNumber wsX6_figuresHere := goodIn_r _ [6, 1, 7, 8, 9, 5, 10, 11, 12, 13, 14, 15, 22, 23, 24, 25, 26, 27] (by decide +kernel) (by decide +kernel)
set_option maxRecDepth 20000 in
theorem gX6_readNumber_X6_figuresHere : GoodIn wsX6_readNumber (wsV RX6 100 RX6 yX6_figuresHere wsX6_figuresHere) := goodIn_app (goodIn_of _ (by decide +kernel)) ggX6_readNumber_X6_figuresHere
set_option maxRecDepth 20000 in
theorem ggX6_readSound_X3_letLoose : GoodIn wsX6_readSound wsX3_letLoose := goodIn_r _ [41, 42, 43, 44, 51, 52, 53, 54, 55, 56, 57, 58, 59, 60, 61, 62, 63] (by decide +kernel) (by decide +kernel)
set_option maxRecDepth 20000 in
theorem gX6_readSound_X3_letLoose : GoodIn wsX6_readSound (wsV RX6 96 RX3 yX3_letLoose wsX3_letLoose) := goodIn_app (goodIn_of _ (by decide +kernel)) ggX6_readSound_X3_letLoose
set_option maxRecDepth 20000 in
theorem ggX6_readSound_X6_byteAt : GoodIn wsX6_readSound wsX6_byteAt := goodIn_r _ [11, 12, 13, 45, 46, 47, 48, 49, 50] (by decide +kernel) (by decide +kernel)
set_option maxRecDepth 20000 in
theorem gX6_readSound_X6_byteAt : GoodIn wsX6_readSound (wsV RX6 71 RX6 yX6_byteAt wsX6_byteAt) := goodIn_app (goodIn_of _ (by decide +kernel)) ggX6_readSound_X6_byteAt
set_option maxRecDepth 20000 in
theorem ggX6_readSound_X6_fail : GoodIn wsX6_readSound wsX6_fail := goodIn_r _ [20, 5, 1, 21, 45, 46, 47, 48, 49, 50] (by decide +kernel) (by decide +kernel)
set_option maxRecDepth 20000 in
theorem gX6_readSound_X6_fail : GoodIn wsX6_readSound (wsV RX6 78 RX6 yX6_fail wsX6_fail) := goodIn_app (goodIn_of _ (by decide +kernel)) ggX6_readSound_X6_fail
set_option maxRecDepth 20000 in
theorem ggX6_readSound_X6_kindOf : GoodIn wsX6_readSound wsX6_kindOf := goodIn_r _ [16] (by decide +kernel) (by decide +kernel)
set_option maxRecDepth 20000 in
theorem gX6_readSound_X6_kindOf : GoodIn wsX6_readSound (va_wsS RX6 87 yX6_kindOf wsX6_kindOf) := goodIn_app (goodIn_of _ (by decide +kernel)) ggX6_readSound_X6_kindOf
set_option maxRecDepth 20000 in
theorem ggX6_readSound_X6_readByte : GoodIn wsX6_readSound wsX6_readByte := goodIn_r _ [36, 1, 7, 8, 9, 10, 11, 12, 13, 17, 18, 19, 20, 5, 21, 45, 46, 47, 48, 49, 50] (by decide +kernel) (by decide +kernel)
set_option maxRecDepth 20000 in
theorem gX6_readSound_X6_readByte : GoodIn wsX6_readSound (wsV RX6 51 RX6 yX6_readByte wsX6_readByte) := goodIn_app (goodIn_of _ (by decide +kernel)) ggX6_readSound_X6_readByte
set_option maxRecDepth 20000 in
theorem ggX6_readSound_X6_readNumber : GoodIn wsX6_readSound wsX6_readNumber := goodIn_r _ [25, 1, 26, 27, 28, 10, 29, 7, 8, 9, 11, 12, 13, 30, 31, 32, 17, 18, 19, 20, 5, 21, 45, 46, 47, 48, 49, 50] (by decide +kernel) (by decide +kernel)
set_option maxRecDepth 20000 in
theorem gX6_readSound_X6_readNumber : GoodIn wsX6_readSound (wsV RX6 55 RX6 yX6_readNumber wsX6_readNumber) := goodIn_app (goodIn_of _ (by decide +kernel)) ggX6_readSound_X6_readNumber
set_option maxRecDepth 20000 in
theorem ggX6_readSounds_X6_byteAt : GoodIn wsX6_readSounds wsX6_byteAt := goodIn_r _ [15, 16, 17, 49, 50, 51, 52, 53, 54] (by decide +kernel) (by decide +kernel)
set_option maxRecDepth 20000 in
theorem gX6_readSounds_X6_byteAt : GoodIn wsX6_readSounds (wsV RX6 71 RX6 yX6_byteAt wsX6_byteAt) := goodIn_app (goodIn_of _ (by decide +kernel)) ggX6_readSounds_X6_byteAt
set_option maxRecDepth 20000 in
theorem ggX6_readSounds_X6_readSound : GoodIn wsX6_readSounds wsX6_readSound := goodIn_r _ [7, 2, 8, 9, 10, 1, 11, 12, 13, 14, 6, 15, 16, 17, 18, 19, 20, 21, 22, 23, 24, 25, 26, 27, 28, 29, 30, 31, 32, 33, 34, 35, 36, 37, 38, 39, 40, 41, 42, 43, 44, 45, 46, 47, 48, 49, 50, 51, 52, 53, 54, 55, 56, 57, 58, 59, 60, 61, 62, 63, 64, 65, 66, 67] (by decide +kernel) (by decide +kernel)
set_option maxRecDepth 20000 in
theorem gX6_readSounds_X6_readSound : GoodIn wsX6_readSounds (wsV RX6 84 RX6 yX6_readSound wsX6_readSound) := goodIn_app (goodIn_of _ (by decide +kernel)) ggX6_readSounds_X6_readSound
set_option maxRecDepth 20000 in
theorem ggX6_readWind_X6_byteAt : GoodIn wsX6_readWind wsX6_byteAt := goodIn_r _ [10, 11, 12, 33, 34, 35, 36, 37, 38] (by decide +kernel) (by decide +kernel)
set_option maxRecDepth 20000 in
theorem gX6_readWind_X6_byteAt : GoodIn wsX6_readWind (wsV RX6 71 RX6 yX6_byteAt wsX6_byteAt) := goodIn_app (goodIn_of _ (by decide +kernel)) ggX6_readWind_X6_byteAt
set_option maxRecDepth 20000 in
theorem ggX6_readWind_X6_fail : GoodIn wsX6_readWind wsX6_fail := goodIn_r _ [16, 1, 2, 17, 33, 34, 35, 36, 37, 38] (by decide +kernel) (by decide +kernel)
set_option maxRecDepth 20000 in
theorem gX6_readWind_X6_fail : GoodIn wsX6_readWind (wsV RX6 78 RX6 yX6_fail wsX6_fail) := goodIn_app (goodIn_of _ (by decide +kernel)) ggX6_readWind_X6_fail
set_option maxRecDepth 20000 in
theorem ggX6_readWind_X6_readByte : GoodIn wsX6_readWind wsX6_readByte := goodIn_r _ [21, 2, 6, 7, 8, 9, 10, 11, 12, 13, 14, 15, 16, 1, 17, 33, 34, 35, 36, 37, 38] (by decide +kernel) (by decide +kernel)
set_option maxRecDepth 20000 in
theorem gX6_readWind_X6_readByte : GoodIn wsX6_readWind (wsV RX6 51 RX6 yX6_readByte wsX6_readByte) := goodIn_app (goodIn_of _ (by decide +kernel)) ggX6_readWind_X6_readByte
set_option maxRecDepth 20000 in
theorem ggX6_readWind_X6_readNumber : GoodIn wsX6_readWind wsX6_readNumber := goodIn_r _ [25, 2, 26, 27, 28, 9, 29, 6, 7, 8, 10, 11, 12, 30, 31, 32, 13, 14, 15, 16, 1, 17, 33, 34, 35, 36, 37, 38] (by decide +kernel) (by decide +kernel)
set_option maxRecDepth 20000 in
theorem gX6_readWind_X6_readNumber : GoodIn wsX6_readWind (wsV RX6 55 RX6 yX6_readNumber wsX6_readNumber) := goodIn_app (goodIn_of _ (by decide +kernel)) ggX6_readWind_X6_readNumber
set_option maxRecDepth 20000 in
theorem ggX6_readWinds_X6_byteAt : GoodIn wsX6_readWinds wsX6_byteAt := goodIn_r _ [14, 15, 16, 37, 38, 39, 40, 41, 42] (by decide +kernel) (by decide +kernel)
set_option maxRecDepth 20000 in
theorem gX6_readWinds_X6_byteAt : GoodIn wsX6_readWinds (wsV RX6 71 RX6 yX6_byteAt wsX6_byteAt) := goodIn_app (goodIn_of _ (by decide +kernel)) ggX6_readWinds_X6_byteAt
set_option maxRecDepth 20000 in
theorem ggX6_readWinds_X6_readWind : GoodIn wsX6_readWinds wsX6_readWind := goodIn_r _ [7, 1, 2, 8, 9, 10, 11, 12, 13, 6, 14, 15, 16, 17, 18, 19, 20, 21, 22, 23, 24, 25, 26, 27, 28, 29, 30, 31, 32, 33, 34, 35, 36, 37, 38, 39, 40, 41, 42, 43, 44, 45, 46, 47, 48, 49, 50, 51, 52, 53, 54, 55] (by decide +kernel) (by decide +kernel)
set_option maxRecDepth 20000 in
theorem gX6_readWinds_X6_readWind : GoodIn wsX6_readWinds (wsV RX6 68 RX6 yX6_readWind wsX6_readWind) := goodIn_app (goodIn_of _ (by decide +kernel)) ggX6_readWinds_X6_readWind
set_option maxRecDepth 20000 in
theorem ggX6_read_X3_begin : GoodIn wsX6_read wsX3_begin := goodIn_r _ [10, 11, 12, 13, 14, 15, 16, 17, 18, 87, 88, 89, 90, 91, 92, 93, 94, 95, 96, 97, 98, 99] (by decide +kernel) (by decide +kernel)
set_option maxRecDepth 20000 in
theorem gX6_read_X3_begin : GoodIn wsX6_read (wsV RX6 39 RX3 yX3_begin wsX3_begin) := goodIn_app (goodIn_of _ (by decide +kernel)) ggX6_read_X3_begin
set_option maxRecDepth 20000 in
theorem ggX6_read_X6_readLaw : GoodIn wsX6_read wsX6_readLaw := goodIn_r _ [23, 4, 24, 25, 26, 27, 28, 29, 22, 30, 3, 31, 32, 33, 34, 5, 35, 36, 37, 38, 39, 1, 2, 40, 41, 42, 43, 44, 45, 46, 47, 48, 49, 50, 81, 82, 83, 84, 85, 86, 87, 88, 89, 90, 91, 92, 93, 94, 95, 96, 97, 98, 99] (by decide +kernel) (by decide +kernel)
set_option maxRecDepth 20000 in
theorem gX6_read_X6_readLaw : GoodIn wsX6_read (wsV RX6 42 RX6 yX6_readLaw wsX6_readLaw) := goodIn_app (goodIn_of _ (by decide +kernel)) ggX6_read_X6_readLaw
set_option maxRecDepth 20000 in
theorem ggX6_read_X6_readSounds : GoodIn wsX6_read wsX6_readSounds := goodIn_r _ [64, 1, 3, 65, 66, 67, 22, 68, 4, 69, 24, 70, 31, 32, 33, 34, 5, 35, 71, 72, 73, 36, 37, 38, 39, 2, 40, 41, 42, 43, 44, 45, 46, 47, 48, 49, 50, 27, 28, 29, 30, 74, 75, 76, 9, 77, 78, 79, 80, 81, 82, 83, 84, 85, 86, 87, 88, 89, 90, 91, 92, 93, 94, 95, 96, 97, 98, 99] (by decide +kernel) (by decide +kernel)
set_option maxRecDepth 20000 in
theorem gX6_read_X6_readSounds : GoodIn wsX6_read (wsV RX6 48 RX6 yX6_readSounds wsX6_readSounds) := goodIn_app (goodIn_of _ (by decide +kernel)) ggX6_read_X6_readSounds
set_option maxRecDepth 20000 in
theorem ggX6_read_X6_readWinds : GoodIn wsX6_read wsX6_readWinds := goodIn_r _ [54, 1, 3, 55, 56, 57, 22, 58, 4, 59, 60, 31, 32, 33, 34, 5, 35, 36, 37, 38, 39, 2, 27, 28, 29, 30, 40, 41, 42, 43, 44, 45, 46, 47, 48, 49, 50, 81, 82, 83, 84, 85, 86, 87, 88, 89, 90, 91, 92, 93, 94, 95, 96, 97, 98, 99] (by decide +kernel) (by decide +kernel)
set_option maxRecDepth 20000 in
theorem gX6_read_X6_readWinds : GoodIn wsX6_read (wsV RX6 45 RX6 yX6_readWinds wsX6_readWinds) := goodIn_app (goodIn_of _ (by decide +kernel)) ggX6_read_X6_readWinds
set_option maxRecDepth 20000 in
theorem i_X6_append_X6 : ∀ w ∈ u_ws RX6 TX6 6, w ∈ wsX6_append := by decide +kernel
set_option maxRecDepth 20000 in
theorem i_X6_byteAt_X6 : ∀ w ∈ u_ws RX6 TX6 6, w ∈ wsX6_byteAt := by decide +kernel
set_option maxRecDepth 20000 in
theorem i_X6_fail_X6 : ∀ w ∈ u_ws RX6 TX6 6, w ∈ wsX6_fail := by decide +kernel
set_option maxRecDepth 20000 in
theorem i_X6_figuresHere_X6 : ∀ w ∈ u_ws RX6 TX6 6, w ∈ wsX6_figuresHere := by decide +kernel
set_option maxRecDepth 20000 in
theorem i_X6_isFull_X6 : ∀ w ∈ u_ws RX6 TX6 6, w ∈ wsX6_isFull := by decide +kernel
set_option maxRecDepth 20000 in
theorem i_X6_read_X6 : ∀ w ∈ u_ws RX6 TX6 6, w ∈ wsX6_read := by decide +kernel
set_option maxRecDepth 20000 in
theorem i_X6_readByte_X6 : ∀ w ∈ u_ws RX6 TX6 6, w ∈ wsX6_readByte := by decide +kernel
set_option maxRecDepth 20000 in
theorem i_X6_readLaw_X3 : ∀ w ∈ u_ws RX3 TX3 13, w ∈ wsX6_readLaw := by decide +kernel
set_option maxRecDepth 20000 in
theorem i_X6_readLaw_X6 : ∀ w ∈ u_ws RX6 TX6 6, w ∈ wsX6_readLaw := by decide +kernel
set_option maxRecDepth 20000 in
theorem i_X6_readNumber_X6 : ∀ w ∈ u_ws RX6 TX6 6, w ∈ wsX6_readNumber := by decide +kernel
set_option maxRecDepth 20000 in
theorem i_X6_readSound_X3 : ∀ w ∈ u_ws RX3 TX3 13, w ∈ wsX6_readSound := by decide +kernel
set_option maxRecDepth 20000 in
theorem i_X6_readSound_X6 : ∀ w ∈ u_ws RX6 TX6 6, w ∈ wsX6_readSound := by decide +kernel
set_option maxRecDepth 20000 in
theorem i_X6_readSounds_X6 : ∀ w ∈ u_ws RX6 TX6 6, w ∈ wsX6_readSounds := by decide +kernel
set_option maxRecDepth 20000 in
theorem i_X6_readWind_X3 : ∀ w ∈ u_ws RX3 TX3 13, w ∈ wsX6_readWind := by decide +kernel
set_option maxRecDepth 20000 in
theorem i_X6_readWind_X6 : ∀ w ∈ u_ws RX6 TX6 6, w ∈ wsX6_readWind := by decide +kernel
set_option maxRecDepth 20000 in
theorem i_X6_readWinds_X6 : ∀ w ∈ u_ws RX6 TX6 6, w ∈ wsX6_readWinds := by decide +kernel
