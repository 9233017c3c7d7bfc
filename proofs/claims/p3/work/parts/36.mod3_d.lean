theorem dX8_cap_0 : decode cX8_cap 0 = .ok (.aload_n 0, 1) := by decide +kernel
theorem dX8_cap_1 : decode cX8_cap 1 = .ok (.getfield 138, 3) := by decide +kernel
theorem dX8_cap_10 : decode cX8_cap 10 = .ok (.aload_n 0, 1) := by decide +kernel
theorem dX8_cap_11 : decode cX8_cap 11 = .ok (.invokevirtual 164, 3) := by decide +kernel
theorem dX8_cap_14 : decode cX8_cap 14 = .ok (.aload_n 0, 1) := by decide +kernel
theorem dX8_cap_15 : decode cX8_cap 15 = .ok (.getfield 19, 3) := by decide +kernel
theorem dX8_cap_18 : decode cX8_cap 18 = .ok (.bipush 6, 2) := by decide +kernel
theorem dX8_cap_20 : decode cX8_cap 20 = .ok (.iconst 1, 1) := by decide +kernel
theorem dX8_cap_21 : decode cX8_cap 21 = .ok (.aload_n 0, 1) := by decide +kernel
theorem dX8_cap_22 : decode cX8_cap 22 = .ok (.getfield 19, 3) := by decide +kernel
theorem dX8_cap_25 : decode cX8_cap 25 = .ok (.bipush 6, 2) := by decide +kernel
theorem dX8_cap_27 : decode cX8_cap 27 = .ok (.iaload, 1) := by decide +kernel
theorem dX8_cap_28 : decode cX8_cap 28 = .ok (.isub, 1) := by decide +kernel
theorem dX8_cap_29 : decode cX8_cap 29 = .ok (.iastore, 1) := by decide +kernel
theorem dX8_cap_30 : decode cX8_cap 30 = .ok (.aload_n 0, 1) := by decide +kernel
theorem dX8_cap_31 : decode cX8_cap 31 = .ok (.getfield 19, 3) := by decide +kernel
theorem dX8_cap_34 : decode cX8_cap 34 = .ok (.bipush 6, 2) := by decide +kernel
theorem dX8_cap_36 : decode cX8_cap 36 = .ok (.iaload, 1) := by decide +kernel
theorem dX8_cap_37 : decode cX8_cap 37 = .ok (.ireturn, 1) := by decide +kernel
theorem dX8_cap_4 : decode cX8_cap 4 = .ok (.ifCond .ne 6, 3) := by decide +kernel
theorem dX8_cap_7 : decode cX8_cap 7 = .ok (.ldc 161, 2) := by decide +kernel
theorem dX8_cap_9 : decode cX8_cap 9 = .ok (.ireturn, 1) := by decide +kernel
theorem dX8_hours_0 : decode cX8_hours 0 = .ok (.aload_n 0, 1) := by decide +kernel
theorem dX8_hours_1 : decode cX8_hours 1 = .ok (.getfield 138, 3) := by decide +kernel
theorem dX8_hours_10 : decode cX8_hours 10 = .ok (.iload_n 1, 1) := by decide +kernel
theorem dX8_hours_11 : decode cX8_hours 11 = .ok (.i2l, 1) := by decide +kernel
theorem dX8_hours_12 : decode cX8_hours 12 = .ok (.lconst 1, 1) := by decide +kernel
theorem dX8_hours_13 : decode cX8_hours 13 = .ok (.ldc2_w 162, 3) := by decide +kernel
theorem dX8_hours_16 : decode cX8_hours 16 = .ok (.invokestatic 57, 3) := by decide +kernel
theorem dX8_hours_19 : decode cX8_hours 19 = .ok (.ifCond .ne 6, 3) := by decide +kernel
theorem dX8_hours_22 : decode cX8_hours 22 = .ok (.ldc 67, 2) := by decide +kernel
theorem dX8_hours_24 : decode cX8_hours 24 = .ok (.ireturn, 1) := by decide +kernel
theorem dX8_hours_25 : decode cX8_hours 25 = .ok (.aload_n 0, 1) := by decide +kernel
theorem dX8_hours_26 : decode cX8_hours 26 = .ok (.getfield 19, 3) := by decide +kernel
theorem dX8_hours_29 : decode cX8_hours 29 = .ok (.iconst 5, 1) := by decide +kernel
theorem dX8_hours_30 : decode cX8_hours 30 = .ok (.iaload, 1) := by decide +kernel
theorem dX8_hours_31 : decode cX8_hours 31 = .ok (.iload_n 1, 1) := by decide +kernel
theorem dX8_hours_32 : decode cX8_hours 32 = .ok (.iadd, 1) := by decide +kernel
theorem dX8_hours_33 : decode cX8_hours 33 = .ok (.sipush 999, 3) := by decide +kernel
theorem dX8_hours_36 : decode cX8_hours 36 = .ok (.if_icmp .le 6, 3) := by decide +kernel
theorem dX8_hours_39 : decode cX8_hours 39 = .ok (.ldc 84, 2) := by decide +kernel
theorem dX8_hours_4 : decode cX8_hours 4 = .ok (.ifCond .ne 6, 3) := by decide +kernel
theorem dX8_hours_41 : decode cX8_hours 41 = .ok (.ireturn, 1) := by decide +kernel
theorem dX8_hours_42 : decode cX8_hours 42 = .ok (.iconst 0, 1) := by decide +kernel
theorem dX8_hours_43 : decode cX8_hours 43 = .ok (.istore_n 2, 1) := by decide +kernel
theorem dX8_hours_44 : decode cX8_hours 44 = .ok (.iload_n 2, 1) := by decide +kernel
theorem dX8_hours_45 : decode cX8_hours 45 = .ok (.iload_n 1, 1) := by decide +kernel
theorem dX8_hours_46 : decode cX8_hours 46 = .ok (.if_icmp .ge 18, 3) := by decide +kernel
theorem dX8_hours_49 : decode cX8_hours 49 = .ok (.aload_n 0, 1) := by decide +kernel
theorem dX8_hours_50 : decode cX8_hours 50 = .ok (.invokevirtual 164, 3) := by decide +kernel
theorem dX8_hours_53 : decode cX8_hours 53 = .ok (.aload_n 0, 1) := by decide +kernel
theorem dX8_hours_54 : decode cX8_hours 54 = .ok (.invokevirtual 167, 3) := by decide +kernel
theorem dX8_hours_57 : decode cX8_hours 57 = .ok (.pop, 1) := by decide +kernel
theorem dX8_hours_58 : decode cX8_hours 58 = .ok (.iinc 2 1, 3) := by decide +kernel
theorem dX8_hours_61 : decode cX8_hours 61 = .ok (.goto (-17), 3) := by decide +kernel
theorem dX8_hours_64 : decode cX8_hours 64 = .ok (.aload_n 0, 1) := by decide +kernel
theorem dX8_hours_65 : decode cX8_hours 65 = .ok (.getfield 19, 3) := by decide +kernel
theorem dX8_hours_68 : decode cX8_hours 68 = .ok (.bipush 7, 2) := by decide +kernel
theorem dX8_hours_7 : decode cX8_hours 7 = .ok (.ldc 161, 2) := by decide +kernel
theorem dX8_hours_70 : decode cX8_hours 70 = .ok (.iaload, 1) := by decide +kernel
theorem dX8_hours_71 : decode cX8_hours 71 = .ok (.ireturn, 1) := by decide +kernel
theorem dX8_hours_9 : decode cX8_hours 9 = .ok (.ireturn, 1) := by decide +kernel
theorem dX8_loose_0 : decode cX8_loose 0 = .ok (.aload_n 0, 1) := by decide +kernel
theorem dX8_loose_1 : decode cX8_loose 1 = .ok (.iload_n 1, 1) := by decide +kernel
theorem dX8_loose_10 : decode cX8_loose 10 = .ok (.invokevirtual 148, 3) := by decide +kernel
theorem dX8_loose_13 : decode cX8_loose 13 = .ok (.ifCond .eq 15, 3) := by decide +kernel
theorem dX8_loose_16 : decode cX8_loose 16 = .ok (.iload_n 3, 1) := by decide +kernel
theorem dX8_loose_17 : decode cX8_loose 17 = .ok (.i2l, 1) := by decide +kernel
theorem dX8_loose_18 : decode cX8_loose 18 = .ok (.lconst 1, 1) := by decide +kernel
theorem dX8_loose_19 : decode cX8_loose 19 = .ok (.ldc2_w 176, 3) := by decide +kernel
theorem dX8_loose_2 : decode cX8_loose 2 = .ok (.invokevirtual 173, 3) := by decide +kernel
theorem dX8_loose_22 : decode cX8_loose 22 = .ok (.invokestatic 57, 3) := by decide +kernel
theorem dX8_loose_25 : decode cX8_loose 25 = .ok (.ifCond .ne 6, 3) := by decide +kernel
theorem dX8_loose_28 : decode cX8_loose 28 = .ok (.ldc 67, 2) := by decide +kernel
theorem dX8_loose_30 : decode cX8_loose 30 = .ok (.ireturn, 1) := by decide +kernel
theorem dX8_loose_31 : decode cX8_loose 31 = .ok (.aload_n 0, 1) := by decide +kernel
theorem dX8_loose_32 : decode cX8_loose 32 = .ok (.getfield 19, 3) := by decide +kernel
theorem dX8_loose_35 : decode cX8_loose 35 = .ok (.bipush 26, 2) := by decide +kernel
theorem dX8_loose_37 : decode cX8_loose 37 = .ok (.iload_n 1, 1) := by decide +kernel
theorem dX8_loose_38 : decode cX8_loose 38 = .ok (.iadd, 1) := by decide +kernel
theorem dX8_loose_39 : decode cX8_loose 39 = .ok (.iaload, 1) := by decide +kernel
theorem dX8_loose_40 : decode cX8_loose 40 = .ok (.ifCond .ne 6, 3) := by decide +kernel
theorem dX8_loose_43 : decode cX8_loose 43 = .ok (.ldc 161, 2) := by decide +kernel
theorem dX8_loose_45 : decode cX8_loose 45 = .ok (.ireturn, 1) := by decide +kernel
theorem dX8_loose_46 : decode cX8_loose 46 = .ok (.aload_n 0, 1) := by decide +kernel
theorem dX8_loose_47 : decode cX8_loose 47 = .ok (.invokevirtual 164, 3) := by decide +kernel
theorem dX8_loose_5 : decode cX8_loose 5 = .ok (.ifCond .eq 23, 3) := by decide +kernel
theorem dX8_loose_50 : decode cX8_loose 50 = .ok (.aload_n 0, 1) := by decide +kernel
theorem dX8_loose_51 : decode cX8_loose 51 = .ok (.iload_n 1, 1) := by decide +kernel
theorem dX8_loose_52 : decode cX8_loose 52 = .ok (.iload_n 2, 1) := by decide +kernel
theorem dX8_loose_53 : decode cX8_loose 53 = .ok (.iload_n 3, 1) := by decide +kernel
theorem dX8_loose_54 : decode cX8_loose 54 = .ok (.invokevirtual 178, 3) := by decide +kernel
theorem dX8_loose_57 : decode cX8_loose 57 = .ok (.aload_n 0, 1) := by decide +kernel
theorem dX8_loose_58 : decode cX8_loose 58 = .ok (.iconst 0, 1) := by decide +kernel
theorem dX8_loose_59 : decode cX8_loose 59 = .ok (.invokevirtual 182, 3) := by decide +kernel
theorem dX8_loose_62 : decode cX8_loose 62 = .ok (.ireturn, 1) := by decide +kernel
theorem dX8_loose_8 : decode cX8_loose 8 = .ok (.aload_n 0, 1) := by decide +kernel
theorem dX8_loose_9 : decode cX8_loose 9 = .ok (.iload_n 2, 1) := by decide +kernel
theorem dX8_note_0 : decode cX8_note 0 = .ok (.aload_n 0, 1) := by decide +kernel
theorem dX8_note_1 : decode cX8_note 1 = .ok (.getfield 142, 3) := by decide +kernel
theorem dX8_note_10 : decode cX8_note 10 = .ok (.istore_n 1, 1) := by decide +kernel
theorem dX8_note_11 : decode cX8_note 11 = .ok (.iload_n 1, 1) := by decide +kernel
theorem dX8_note_12 : decode cX8_note 12 = .ok (.sipush 874, 3) := by decide +kernel
theorem dX8_note_15 : decode cX8_note 15 = .ok (.if_icmp .ge 24, 3) := by decide +kernel
theorem dX8_note_18 : decode cX8_note 18 = .ok (.aload_n 0, 1) := by decide +kernel
theorem dX8_note_19 : decode cX8_note 19 = .ok (.getfield 31, 3) := by decide +kernel
theorem dX8_note_22 : decode cX8_note 22 = .ok (.iload_n 1, 1) := by decide +kernel
theorem dX8_note_23 : decode cX8_note 23 = .ok (.aload_n 0, 1) := by decide +kernel
theorem dX8_note_24 : decode cX8_note 24 = .ok (.getfield 31, 3) := by decide +kernel
theorem dX8_note_27 : decode cX8_note 27 = .ok (.iload_n 1, 1) := by decide +kernel
theorem dX8_note_28 : decode cX8_note 28 = .ok (.bipush 38, 2) := by decide +kernel
theorem dX8_note_30 : decode cX8_note 30 = .ok (.iadd, 1) := by decide +kernel
theorem dX8_note_31 : decode cX8_note 31 = .ok (.iaload, 1) := by decide +kernel
theorem dX8_note_32 : decode cX8_note 32 = .ok (.iastore, 1) := by decide +kernel
theorem dX8_note_33 : decode cX8_note 33 = .ok (.iinc 1 1, 3) := by decide +kernel
theorem dX8_note_36 : decode cX8_note 36 = .ok (.goto (-25), 3) := by decide +kernel
theorem dX8_note_39 : decode cX8_note 39 = .ok (.aload_n 0, 1) := by decide +kernel
theorem dX8_note_4 : decode cX8_note 4 = .ok (.bipush 24, 2) := by decide +kernel
theorem dX8_note_40 : decode cX8_note 40 = .ok (.dup, 1) := by decide +kernel
theorem dX8_note_41 : decode cX8_note 41 = .ok (.getfield 142, 3) := by decide +kernel
theorem dX8_note_44 : decode cX8_note 44 = .ok (.iconst 1, 1) := by decide +kernel
theorem dX8_note_45 : decode cX8_note 45 = .ok (.isub, 1) := by decide +kernel
theorem dX8_note_46 : decode cX8_note 46 = .ok (.putfield 142, 3) := by decide +kernel
theorem dX8_note_49 : decode cX8_note 49 = .ok (.iconst 0, 1) := by decide +kernel
theorem dX8_note_50 : decode cX8_note 50 = .ok (.istore_n 1, 1) := by decide +kernel
theorem dX8_note_51 : decode cX8_note 51 = .ok (.iload_n 1, 1) := by decide +kernel
theorem dX8_note_52 : decode cX8_note 52 = .ok (.bipush 38, 2) := by decide +kernel
theorem dX8_note_54 : decode cX8_note 54 = .ok (.if_icmp .ge 29, 3) := by decide +kernel
theorem dX8_note_57 : decode cX8_note 57 = .ok (.aload_n 0, 1) := by decide +kernel
theorem dX8_note_58 : decode cX8_note 58 = .ok (.getfield 31, 3) := by decide +kernel
theorem dX8_note_6 : decode cX8_note 6 = .ok (.if_icmp .ne 43, 3) := by decide +kernel
theorem dX8_note_61 : decode cX8_note 61 = .ok (.bipush 38, 2) := by decide +kernel
theorem dX8_note_63 : decode cX8_note 63 = .ok (.aload_n 0, 1) := by decide +kernel
theorem dX8_note_64 : decode cX8_note 64 = .ok (.getfield 142, 3) := by decide +kernel
theorem dX8_note_67 : decode cX8_note 67 = .ok (.imul, 1) := by decide +kernel
theorem dX8_note_68 : decode cX8_note 68 = .ok (.iload_n 1, 1) := by decide +kernel
theorem dX8_note_69 : decode cX8_note 69 = .ok (.iadd, 1) := by decide +kernel
theorem dX8_note_70 : decode cX8_note 70 = .ok (.aload_n 0, 1) := by decide +kernel
theorem dX8_note_71 : decode cX8_note 71 = .ok (.getfield 19, 3) := by decide +kernel
theorem dX8_note_74 : decode cX8_note 74 = .ok (.iload_n 1, 1) := by decide +kernel
theorem dX8_note_75 : decode cX8_note 75 = .ok (.iaload, 1) := by decide +kernel
theorem dX8_note_76 : decode cX8_note 76 = .ok (.iastore, 1) := by decide +kernel
theorem dX8_note_77 : decode cX8_note 77 = .ok (.iinc 1 1, 3) := by decide +kernel
theorem dX8_note_80 : decode cX8_note 80 = .ok (.goto (-29), 3) := by decide +kernel
theorem dX8_note_83 : decode cX8_note 83 = .ok (.aload_n 0, 1) := by decide +kernel
theorem dX8_note_84 : decode cX8_note 84 = .ok (.dup, 1) := by decide +kernel
theorem dX8_note_85 : decode cX8_note 85 = .ok (.getfield 142, 3) := by decide +kernel
theorem dX8_note_88 : decode cX8_note 88 = .ok (.iconst 1, 1) := by decide +kernel
theorem dX8_note_89 : decode cX8_note 89 = .ok (.iadd, 1) := by decide +kernel
theorem dX8_note_9 : decode cX8_note 9 = .ok (.iconst 0, 1) := by decide +kernel
theorem dX8_note_90 : decode cX8_note 90 = .ok (.putfield 142, 3) := by decide +kernel
theorem dX8_note_93 : decode cX8_note 93 = .ok (.return_, 1) := by decide +kernel
theorem dX8_sell_0 : decode cX8_sell 0 = .ok (.aload_n 0, 1) := by decide +kernel
theorem dX8_sell_1 : decode cX8_sell 1 = .ok (.getfield 138, 3) := by decide +kernel
theorem dX8_sell_10 : decode cX8_sell 10 = .ok (.iload_n 1, 1) := by decide +kernel
theorem dX8_sell_11 : decode cX8_sell 11 = .ok (.i2l, 1) := by decide +kernel
theorem dX8_sell_12 : decode cX8_sell 12 = .ok (.lconst 1, 1) := by decide +kernel
theorem dX8_sell_13 : decode cX8_sell 13 = .ok (.ldc2_w 185, 3) := by decide +kernel
theorem dX8_sell_16 : decode cX8_sell 16 = .ok (.invokestatic 57, 3) := by decide +kernel
theorem dX8_sell_19 : decode cX8_sell 19 = .ok (.ifCond .ne 6, 3) := by decide +kernel
theorem dX8_sell_22 : decode cX8_sell 22 = .ok (.ldc 67, 2) := by decide +kernel
theorem dX8_sell_24 : decode cX8_sell 24 = .ok (.ireturn, 1) := by decide +kernel
theorem dX8_sell_25 : decode cX8_sell 25 = .ok (.aload_n 0, 1) := by decide +kernel
theorem dX8_sell_26 : decode cX8_sell 26 = .ok (.getfield 19, 3) := by decide +kernel
theorem dX8_sell_29 : decode cX8_sell 29 = .ok (.bipush 7, 2) := by decide +kernel
theorem dX8_sell_31 : decode cX8_sell 31 = .ok (.iaload, 1) := by decide +kernel
theorem dX8_sell_32 : decode cX8_sell 32 = .ok (.iload_n 1, 1) := by decide +kernel
theorem dX8_sell_33 : decode cX8_sell 33 = .ok (.if_icmp .ge 6, 3) := by decide +kernel
theorem dX8_sell_36 : decode cX8_sell 36 = .ok (.ldc 161, 2) := by decide +kernel
theorem dX8_sell_38 : decode cX8_sell 38 = .ok (.ireturn, 1) := by decide +kernel
theorem dX8_sell_39 : decode cX8_sell 39 = .ok (.aload_n 0, 1) := by decide +kernel
theorem dX8_sell_4 : decode cX8_sell 4 = .ok (.ifCond .ne 6, 3) := by decide +kernel
theorem dX8_sell_40 : decode cX8_sell 40 = .ok (.invokevirtual 164, 3) := by decide +kernel
theorem dX8_sell_43 : decode cX8_sell 43 = .ok (.aload_n 0, 1) := by decide +kernel
theorem dX8_sell_44 : decode cX8_sell 44 = .ok (.getfield 19, 3) := by decide +kernel
theorem dX8_sell_47 : decode cX8_sell 47 = .ok (.bipush 7, 2) := by decide +kernel
theorem dX8_sell_49 : decode cX8_sell 49 = .ok (.dup2, 1) := by decide +kernel
theorem dX8_sell_50 : decode cX8_sell 50 = .ok (.iaload, 1) := by decide +kernel
theorem dX8_sell_51 : decode cX8_sell 51 = .ok (.iload_n 1, 1) := by decide +kernel
theorem dX8_sell_52 : decode cX8_sell 52 = .ok (.isub, 1) := by decide +kernel
theorem dX8_sell_53 : decode cX8_sell 53 = .ok (.iastore, 1) := by decide +kernel
theorem dX8_sell_54 : decode cX8_sell 54 = .ok (.aload_n 0, 1) := by decide +kernel
theorem dX8_sell_55 : decode cX8_sell 55 = .ok (.getfield 19, 3) := by decide +kernel
theorem dX8_sell_58 : decode cX8_sell 58 = .ok (.bipush 7, 2) := by decide +kernel
theorem dX8_sell_60 : decode cX8_sell 60 = .ok (.iaload, 1) := by decide +kernel
theorem dX8_sell_61 : decode cX8_sell 61 = .ok (.ireturn, 1) := by decide +kernel
theorem dX8_sell_7 : decode cX8_sell 7 = .ok (.ldc 161, 2) := by decide +kernel
theorem dX8_sell_9 : decode cX8_sell 9 = .ok (.ireturn, 1) := by decide +kernel
theorem dX8_undo_0 : decode cX8_undo 0 = .ok (.aload_n 0, 1) := by decide +kernel
theorem dX8_undo_1 : decode cX8_undo 1 = .ok (.getfield 142, 3) := by decide +kernel
theorem dX8_undo_10 : decode cX8_undo 10 = .ok (.aload_n 0, 1) := by decide +kernel
theorem dX8_undo_11 : decode cX8_undo 11 = .ok (.dup, 1) := by decide +kernel
theorem dX8_undo_12 : decode cX8_undo 12 = .ok (.getfield 142, 3) := by decide +kernel
theorem dX8_undo_15 : decode cX8_undo 15 = .ok (.iconst 1, 1) := by decide +kernel
theorem dX8_undo_16 : decode cX8_undo 16 = .ok (.isub, 1) := by decide +kernel
theorem dX8_undo_17 : decode cX8_undo 17 = .ok (.putfield 142, 3) := by decide +kernel
theorem dX8_undo_20 : decode cX8_undo 20 = .ok (.iconst 0, 1) := by decide +kernel
theorem dX8_undo_21 : decode cX8_undo 21 = .ok (.istore_n 1, 1) := by decide +kernel
theorem dX8_undo_22 : decode cX8_undo 22 = .ok (.iload_n 1, 1) := by decide +kernel
theorem dX8_undo_23 : decode cX8_undo 23 = .ok (.bipush 38, 2) := by decide +kernel
theorem dX8_undo_25 : decode cX8_undo 25 = .ok (.if_icmp .ge 29, 3) := by decide +kernel
theorem dX8_undo_28 : decode cX8_undo 28 = .ok (.aload_n 0, 1) := by decide +kernel
theorem dX8_undo_29 : decode cX8_undo 29 = .ok (.getfield 19, 3) := by decide +kernel
theorem dX8_undo_32 : decode cX8_undo 32 = .ok (.iload_n 1, 1) := by decide +kernel
theorem dX8_undo_33 : decode cX8_undo 33 = .ok (.aload_n 0, 1) := by decide +kernel
theorem dX8_undo_34 : decode cX8_undo 34 = .ok (.getfield 31, 3) := by decide +kernel
theorem dX8_undo_37 : decode cX8_undo 37 = .ok (.bipush 38, 2) := by decide +kernel
theorem dX8_undo_39 : decode cX8_undo 39 = .ok (.aload_n 0, 1) := by decide +kernel
theorem dX8_undo_4 : decode cX8_undo 4 = .ok (.ifCond .ne 6, 3) := by decide +kernel
theorem dX8_undo_40 : decode cX8_undo 40 = .ok (.getfield 142, 3) := by decide +kernel
theorem dX8_undo_43 : decode cX8_undo 43 = .ok (.imul, 1) := by decide +kernel
theorem dX8_undo_44 : decode cX8_undo 44 = .ok (.iload_n 1, 1) := by decide +kernel
theorem dX8_undo_45 : decode cX8_undo 45 = .ok (.iadd, 1) := by decide +kernel
theorem dX8_undo_46 : decode cX8_undo 46 = .ok (.iaload, 1) := by decide +kernel
theorem dX8_undo_47 : decode cX8_undo 47 = .ok (.iastore, 1) := by decide +kernel
theorem dX8_undo_48 : decode cX8_undo 48 = .ok (.iinc 1 1, 3) := by decide +kernel
theorem dX8_undo_51 : decode cX8_undo 51 = .ok (.goto (-29), 3) := by decide +kernel
theorem dX8_undo_54 : decode cX8_undo 54 = .ok (.aload_n 0, 1) := by decide +kernel
theorem dX8_undo_55 : decode cX8_undo 55 = .ok (.getfield 142, 3) := by decide +kernel
theorem dX8_undo_58 : decode cX8_undo 58 = .ok (.ireturn, 1) := by decide +kernel
theorem dX8_undo_7 : decode cX8_undo 7 = .ok (.ldc 161, 2) := by decide +kernel
theorem dX8_undo_9 : decode cX8_undo 9 = .ok (.ireturn, 1) := by decide +kernel
theorem dX8_wind_0 : decode cX8_wind 0 = .ok (.iload_n 1, 1) := by decide +kernel
theorem dX8_wind_1 : decode cX8_wind 1 = .ok (.i2l, 1) := by decide +kernel
theorem dX8_wind_10 : decode cX8_wind 10 = .ok (.isub, 1) := by decide +kernel
theorem dX8_wind_11 : decode cX8_wind 11 = .ok (.i2l, 1) := by decide +kernel
theorem dX8_wind_12 : decode cX8_wind 12 = .ok (.invokestatic 57, 3) := by decide +kernel
theorem dX8_wind_15 : decode cX8_wind 15 = .ok (.ifCond .eq 15, 3) := by decide +kernel
theorem dX8_wind_18 : decode cX8_wind 18 = .ok (.iload_n 2, 1) := by decide +kernel
theorem dX8_wind_19 : decode cX8_wind 19 = .ok (.i2l, 1) := by decide +kernel
theorem dX8_wind_2 : decode cX8_wind 2 = .ok (.lconst 0, 1) := by decide +kernel
theorem dX8_wind_20 : decode cX8_wind 20 = .ok (.lconst 0, 1) := by decide +kernel
theorem dX8_wind_21 : decode cX8_wind 21 = .ok (.ldc2_w 171, 3) := by decide +kernel
theorem dX8_wind_24 : decode cX8_wind 24 = .ok (.invokestatic 57, 3) := by decide +kernel
theorem dX8_wind_27 : decode cX8_wind 27 = .ok (.ifCond .ne 6, 3) := by decide +kernel
theorem dX8_wind_3 : decode cX8_wind 3 = .ok (.aload_n 0, 1) := by decide +kernel
theorem dX8_wind_30 : decode cX8_wind 30 = .ok (.ldc 67, 2) := by decide +kernel
theorem dX8_wind_32 : decode cX8_wind 32 = .ok (.ireturn, 1) := by decide +kernel
theorem dX8_wind_33 : decode cX8_wind 33 = .ok (.aload_n 0, 1) := by decide +kernel
theorem dX8_wind_34 : decode cX8_wind 34 = .ok (.invokevirtual 164, 3) := by decide +kernel
theorem dX8_wind_37 : decode cX8_wind 37 = .ok (.aload_n 0, 1) := by decide +kernel
theorem dX8_wind_38 : decode cX8_wind 38 = .ok (.getfield 19, 3) := by decide +kernel
theorem dX8_wind_4 : decode cX8_wind 4 = .ok (.getfield 19, 3) := by decide +kernel
theorem dX8_wind_41 : decode cX8_wind 41 = .ok (.bipush 8, 2) := by decide +kernel
theorem dX8_wind_43 : decode cX8_wind 43 = .ok (.iload_n 1, 1) := by decide +kernel
theorem dX8_wind_44 : decode cX8_wind 44 = .ok (.iadd, 1) := by decide +kernel
theorem dX8_wind_45 : decode cX8_wind 45 = .ok (.iaload, 1) := by decide +kernel
theorem dX8_wind_46 : decode cX8_wind 46 = .ok (.istore_n 3, 1) := by decide +kernel
theorem dX8_wind_47 : decode cX8_wind 47 = .ok (.aload_n 0, 1) := by decide +kernel
theorem dX8_wind_48 : decode cX8_wind 48 = .ok (.getfield 19, 3) := by decide +kernel
theorem dX8_wind_51 : decode cX8_wind 51 = .ok (.bipush 8, 2) := by decide +kernel
theorem dX8_wind_53 : decode cX8_wind 53 = .ok (.iload_n 1, 1) := by decide +kernel
theorem dX8_wind_54 : decode cX8_wind 54 = .ok (.iadd, 1) := by decide +kernel
theorem dX8_wind_55 : decode cX8_wind 55 = .ok (.iload_n 2, 1) := by decide +kernel
theorem dX8_wind_56 : decode cX8_wind 56 = .ok (.iastore, 1) := by decide +kernel
theorem dX8_wind_57 : decode cX8_wind 57 = .ok (.iload_n 3, 1) := by decide +kernel
theorem dX8_wind_58 : decode cX8_wind 58 = .ok (.ireturn, 1) := by decide +kernel
theorem dX8_wind_7 : decode cX8_wind 7 = .ok (.iconst 3, 1) := by decide +kernel
theorem dX8_wind_8 : decode cX8_wind 8 = .ok (.iaload, 1) := by decide +kernel
theorem dX8_wind_9 : decode cX8_wind 9 = .ok (.iconst 1, 1) := by decide +kernel
set_option maxRecDepth 20000 in
theorem ggX8_cap_X8_note : GoodIn wsX8_cap wsX8_note := goodIn_r _ [8, 9, 10, 3, 11, 12, 13, 14, 15, 16, 17, 18, 19, 20, 21, 22, 23, 24, 25, 26, 27, 28, 29, 30, 31, 32, 33, 34] (by decide +kernel) (by decide +kernel)
set_option maxRecDepth 20000 in
theorem gX8_cap_X8_note : GoodIn wsX8_cap (wsV RX8 164 RX8 yX8_note wsX8_note) := goodIn_app (goodIn_of _ (by decide +kernel)) ggX8_cap_X8_note
set_option maxRecDepth 20000 in
theorem ggX8_hours_X8_in : GoodIn wsX8_hours wsX8_in := goodIn_r _ [10] (by decide +kernel) (by decide +kernel)
set_option maxRecDepth 20000 in
theorem gX8_hours_X8_in : GoodIn wsX8_hours (va_wsS RX8 57 yX8_in wsX8_in) := goodIn_app (goodIn_of _ (by decide +kernel)) ggX8_hours_X8_in
set_option maxRecDepth 20000 in
theorem ggX8_hours_X8_note : GoodIn wsX8_hours wsX8_note := goodIn_r _ [14, 15, 16, 5, 40, 41, 42, 43, 44, 45, 46, 47, 48, 49, 50, 51, 52, 53, 54, 55, 56, 57, 58, 59, 60, 61, 62, 63] (by decide +kernel) (by decide +kernel)
set_option maxRecDepth 20000 in
theorem gX8_hours_X8_note : GoodIn wsX8_hours (wsV RX8 164 RX8 yX8_note wsX8_note) := goodIn_app (goodIn_of _ (by decide +kernel)) ggX8_hours_X8_note
set_option maxRecDepth 20000 in
theorem ggX8_hours_X8_oneHour : GoodIn wsX8_hours wsX8_oneHour := goodIn_r _ [20, 5, 21, 22, 23, 9, 24, 25, 26, 27, 28, 29, 30, 31, 32, 33, 34, 35, 7, 8, 10, 36, 37, 38, 39, 40, 41, 42, 43, 44, 45, 46, 47, 48, 49, 50, 51, 52, 53, 54, 55, 56, 57, 58, 59, 60, 61, 62, 63] (by decide +kernel) (by decide +kernel)
set_option maxRecDepth 20000 in
theorem gX8_hours_X8_oneHour : GoodIn wsX8_hours (wsV RX8 167 RX8 yX8_oneHour wsX8_oneHour) := goodIn_app (goodIn_of _ (by decide +kernel)) ggX8_hours_X8_oneHour
set_option maxRecDepth 20000 in
theorem ggX8_loose_X8_in : GoodIn wsX8_loose wsX8_in := goodIn_r _ [12] (by decide +kernel) (by decide +kernel)
set_option maxRecDepth 20000 in
theorem gX8_loose_X8_in : GoodIn wsX8_loose (va_wsS RX8 57 yX8_in wsX8_in) := goodIn_app (goodIn_of _ (by decide +kernel)) ggX8_loose_X8_in
set_option maxRecDepth 20000 in
theorem ggX8_loose_X8_isCell : GoodIn wsX8_loose wsX8_isCell := goodIn_r _ [16, 3, 10, 11, 8, 12, 31, 32, 33, 34, 35, 36, 37, 38, 39, 40, 41, 42, 43, 44, 45, 46, 47, 48, 49, 50, 51, 52, 53, 54] (by decide +kernel) (by decide +kernel)
set_option maxRecDepth 20000 in
theorem gX8_loose_X8_isCell : GoodIn wsX8_loose (wsV RX8 148 RX8 yX8_isCell wsX8_isCell) := goodIn_app (goodIn_of _ (by decide +kernel)) ggX8_loose_X8_isCell
set_option maxRecDepth 20000 in
theorem ggX8_loose_X8_isSound : GoodIn wsX8_loose wsX8_isSound := goodIn_r _ [9, 3, 10, 11, 8, 12, 31, 32, 33, 34, 35, 36, 37, 38, 39, 40, 41, 42, 43, 44, 45, 46, 47, 48, 49, 50, 51, 52, 53, 54] (by decide +kernel) (by decide +kernel)
set_option maxRecDepth 20000 in
theorem gX8_loose_X8_isSound : GoodIn wsX8_loose (wsV RX8 173 RX8 yX8_isSound wsX8_isSound) := goodIn_app (goodIn_of _ (by decide +kernel)) ggX8_loose_X8_isSound
set_option maxRecDepth 20000 in
theorem ggX8_loose_X8_letLoose : GoodIn wsX8_loose wsX8_letLoose := goodIn_r _ [26, 3, 31, 32, 33, 34, 35, 36, 37, 38, 39, 40, 41, 42, 43, 44, 45, 46, 47, 48, 49, 50, 51, 52, 53, 54] (by decide +kernel) (by decide +kernel)
set_option maxRecDepth 20000 in
theorem gX8_loose_X8_letLoose : GoodIn wsX8_loose (wsV RX8 178 RX8 yX8_letLoose wsX8_letLoose) := goodIn_app (goodIn_of _ (by decide +kernel)) ggX8_loose_X8_letLoose
set_option maxRecDepth 20000 in
theorem ggX8_loose_X8_note : GoodIn wsX8_loose wsX8_note := goodIn_r _ [20, 21, 22, 3, 31, 32, 33, 34, 35, 36, 37, 38, 39, 40, 41, 42, 43, 44, 45, 46, 47, 48, 49, 50, 51, 52, 53, 54] (by decide +kernel) (by decide +kernel)
set_option maxRecDepth 20000 in
theorem gX8_loose_X8_note : GoodIn wsX8_loose (wsV RX8 164 RX8 yX8_note wsX8_note) := goodIn_app (goodIn_of _ (by decide +kernel)) ggX8_loose_X8_note
set_option maxRecDepth 20000 in
theorem ggX8_loose_X8_those : GoodIn wsX8_loose wsX8_those := goodIn_r _ [30, 3, 31, 32, 33, 34, 35, 36, 37, 38, 39, 40, 41, 42, 43, 44, 45, 46, 47, 48, 49, 50, 51, 52, 53, 54] (by decide +kernel) (by decide +kernel)
set_option maxRecDepth 20000 in
theorem gX8_loose_X8_those : GoodIn wsX8_loose (wsV RX8 182 RX8 yX8_those wsX8_those) := goodIn_app (goodIn_of _ (by decide +kernel)) ggX8_loose_X8_those
set_option maxRecDepth 20000 in
theorem ggX8_sell_X8_in : GoodIn wsX8_sell wsX8_in := goodIn_r _ [9] (by decide +kernel) (by decide +kernel)
set_option maxRecDepth 20000 in
theorem gX8_sell_X8_in : GoodIn wsX8_sell (va_wsS RX8 57 yX8_in wsX8_in) := goodIn_app (goodIn_of _ (by decide +kernel)) ggX8_sell_X8_in
set_option maxRecDepth 20000 in
theorem ggX8_sell_X8_note : GoodIn wsX8_sell wsX8_note := goodIn_r _ [13, 14, 15, 5, 16, 17, 18, 19, 20, 21, 22, 23, 24, 25, 26, 27, 28, 29, 30, 31, 32, 33, 34, 35, 36, 37, 38, 39] (by decide +kernel) (by decide +kernel)
set_option maxRecDepth 20000 in
theorem gX8_sell_X8_note : GoodIn wsX8_sell (wsV RX8 164 RX8 yX8_note wsX8_note) := goodIn_app (goodIn_of _ (by decide +kernel)) ggX8_sell_X8_note
set_option maxRecDepth 20000 in
theorem ggX8_wind_X8_in : GoodIn wsX8_wind wsX8_in := goodIn_r _ [7] (by decide +kernel) (by decide +kernel)
set_option maxRecDepth 20000 in
theorem gX8_wind_X8_in : GoodIn wsX8_wind (va_wsS RX8 57 yX8_in wsX8_in) := goodIn_app (goodIn_of _ (by decide +kernel)) ggX8_wind_X8_in
set_option maxRecDepth 20000 in
theorem ggX8_wind_X8_note : GoodIn wsX8_wind wsX8_note := goodIn_r _ [11, 12, 13, 1, 14, 15, 16, 17, 18, 19, 20, 21, 22, 23, 24, 25, 26, 27, 28, 29, 30, 31, 32, 33, 34, 35, 36, 37] (by decide +kernel) (by decide +kernel)
set_option maxRecDepth 20000 in
theorem gX8_wind_X8_note : GoodIn wsX8_wind (wsV RX8 164 RX8 yX8_note wsX8_note) := goodIn_app (goodIn_of _ (by decide +kernel)) ggX8_wind_X8_note
set_option maxRecDepth 20000 in
theorem i_X8_cap_X8 : ∀ w ∈ u_ws RX8 TX8 24, w ∈ wsX8_cap := by decide +kernel
set_option maxRecDepth 20000 in
theorem i_X8_hours_X8 : ∀ w ∈ u_ws RX8 TX8 24, w ∈ wsX8_hours := by decide +kernel
set_option maxRecDepth 20000 in
theorem i_X8_loose_X8 : ∀ w ∈ u_ws RX8 TX8 24, w ∈ wsX8_loose := by decide +kernel
set_option maxRecDepth 20000 in
theorem i_X8_note_X8 : ∀ w ∈ u_ws RX8 TX8 24, w ∈ wsX8_note := by decide +kernel
set_option maxRecDepth 20000 in
theorem i_X8_sell_X8 : ∀ w ∈ u_ws RX8 TX8 24, w ∈ wsX8_sell := by decide +kernel
set_option maxRecDepth 20000 in
theorem i_X8_undo_X8 : ∀ w ∈ u_ws RX8 TX8 24, w ∈ wsX8_undo := by decide +kernel
set_option maxRecDepth 20000 in
theorem i_X8_wind_X8 : ∀ w ∈ u_ws RX8 TX8 24, w ∈ wsX8_wind := by decide +kernel
