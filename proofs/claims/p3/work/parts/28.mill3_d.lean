theorem dX7_cap_0 : decode cX7_cap 0 = .ok (.aload_n 0, 1) := by decide +kernel
theorem dX7_cap_1 : decode cX7_cap 1 = .ok (.getfield 26, 3) := by decide +kernel
theorem dX7_cap_10 : decode cX7_cap 10 = .ok (.ldc 141, 2) := by decide +kernel
theorem dX7_cap_12 : decode cX7_cap 12 = .ok (.ireturn, 1) := by decide +kernel
theorem dX7_cap_13 : decode cX7_cap 13 = .ok (.aload_n 0, 1) := by decide +kernel
theorem dX7_cap_14 : decode cX7_cap 14 = .ok (.getfield 33, 3) := by decide +kernel
theorem dX7_cap_17 : decode cX7_cap 17 = .ok (.aload_n 0, 1) := by decide +kernel
theorem dX7_cap_18 : decode cX7_cap 18 = .ok (.getfield 26, 3) := by decide +kernel
theorem dX7_cap_21 : decode cX7_cap 21 = .ok (.invokevirtual 151, 3) := by decide +kernel
theorem dX7_cap_24 : decode cX7_cap 24 = .ok (.aload_n 0, 1) := by decide +kernel
theorem dX7_cap_25 : decode cX7_cap 25 = .ok (.getfield 26, 3) := by decide +kernel
theorem dX7_cap_28 : decode cX7_cap 28 = .ok (.invokevirtual 160, 3) := by decide +kernel
theorem dX7_cap_31 : decode cX7_cap 31 = .ok (.aload_n 0, 1) := by decide +kernel
theorem dX7_cap_32 : decode cX7_cap 32 = .ok (.getfield 26, 3) := by decide +kernel
theorem dX7_cap_35 : decode cX7_cap 35 = .ok (.getfield 163, 3) := by decide +kernel
theorem dX7_cap_38 : decode cX7_cap 38 = .ok (.ireturn, 1) := by decide +kernel
theorem dX7_cap_4 : decode cX7_cap 4 = .ok (.invokevirtual 145, 3) := by decide +kernel
theorem dX7_cap_7 : decode cX7_cap 7 = .ok (.ifCond .ne 6, 3) := by decide +kernel
theorem dX7_hours_0 : decode cX7_hours 0 = .ok (.aload_n 0, 1) := by decide +kernel
theorem dX7_hours_1 : decode cX7_hours 1 = .ok (.getfield 26, 3) := by decide +kernel
theorem dX7_hours_10 : decode cX7_hours 10 = .ok (.ldc 141, 2) := by decide +kernel
theorem dX7_hours_12 : decode cX7_hours 12 = .ok (.ireturn, 1) := by decide +kernel
theorem dX7_hours_13 : decode cX7_hours 13 = .ok (.iload_n 1, 1) := by decide +kernel
theorem dX7_hours_14 : decode cX7_hours 14 = .ok (.iconst 1, 1) := by decide +kernel
theorem dX7_hours_15 : decode cX7_hours 15 = .ok (.if_icmp .lt 9, 3) := by decide +kernel
theorem dX7_hours_18 : decode cX7_hours 18 = .ok (.iload_n 1, 1) := by decide +kernel
theorem dX7_hours_19 : decode cX7_hours 19 = .ok (.bipush 24, 2) := by decide +kernel
theorem dX7_hours_21 : decode cX7_hours 21 = .ok (.if_icmp .le 6, 3) := by decide +kernel
theorem dX7_hours_24 : decode cX7_hours 24 = .ok (.ldc 72, 2) := by decide +kernel
theorem dX7_hours_26 : decode cX7_hours 26 = .ok (.ireturn, 1) := by decide +kernel
theorem dX7_hours_27 : decode cX7_hours 27 = .ok (.aload_n 0, 1) := by decide +kernel
theorem dX7_hours_28 : decode cX7_hours 28 = .ok (.getfield 26, 3) := by decide +kernel
theorem dX7_hours_31 : decode cX7_hours 31 = .ok (.getfield 148, 3) := by decide +kernel
theorem dX7_hours_34 : decode cX7_hours 34 = .ok (.iload_n 1, 1) := by decide +kernel
theorem dX7_hours_35 : decode cX7_hours 35 = .ok (.iadd, 1) := by decide +kernel
theorem dX7_hours_36 : decode cX7_hours 36 = .ok (.sipush 999, 3) := by decide +kernel
theorem dX7_hours_39 : decode cX7_hours 39 = .ok (.if_icmp .le 6, 3) := by decide +kernel
theorem dX7_hours_4 : decode cX7_hours 4 = .ok (.invokevirtual 145, 3) := by decide +kernel
theorem dX7_hours_42 : decode cX7_hours 42 = .ok (.ldc 109, 2) := by decide +kernel
theorem dX7_hours_44 : decode cX7_hours 44 = .ok (.ireturn, 1) := by decide +kernel
theorem dX7_hours_45 : decode cX7_hours 45 = .ok (.iconst 0, 1) := by decide +kernel
theorem dX7_hours_46 : decode cX7_hours 46 = .ok (.istore_n 2, 1) := by decide +kernel
theorem dX7_hours_47 : decode cX7_hours 47 = .ok (.iload_n 2, 1) := by decide +kernel
theorem dX7_hours_48 : decode cX7_hours 48 = .ok (.iload_n 1, 1) := by decide +kernel
theorem dX7_hours_49 : decode cX7_hours 49 = .ok (.if_icmp .ge 27, 3) := by decide +kernel
theorem dX7_hours_52 : decode cX7_hours 52 = .ok (.aload_n 0, 1) := by decide +kernel
theorem dX7_hours_53 : decode cX7_hours 53 = .ok (.getfield 33, 3) := by decide +kernel
theorem dX7_hours_56 : decode cX7_hours 56 = .ok (.aload_n 0, 1) := by decide +kernel
theorem dX7_hours_57 : decode cX7_hours 57 = .ok (.getfield 26, 3) := by decide +kernel
theorem dX7_hours_60 : decode cX7_hours 60 = .ok (.invokevirtual 151, 3) := by decide +kernel
theorem dX7_hours_63 : decode cX7_hours 63 = .ok (.aload_n 0, 1) := by decide +kernel
theorem dX7_hours_64 : decode cX7_hours 64 = .ok (.getfield 26, 3) := by decide +kernel
theorem dX7_hours_67 : decode cX7_hours 67 = .ok (.invokevirtual 154, 3) := by decide +kernel
theorem dX7_hours_7 : decode cX7_hours 7 = .ok (.ifCond .ne 6, 3) := by decide +kernel
theorem dX7_hours_70 : decode cX7_hours 70 = .ok (.iinc 2 1, 3) := by decide +kernel
theorem dX7_hours_73 : decode cX7_hours 73 = .ok (.goto (-26), 3) := by decide +kernel
theorem dX7_hours_76 : decode cX7_hours 76 = .ok (.aload_n 0, 1) := by decide +kernel
theorem dX7_hours_77 : decode cX7_hours 77 = .ok (.getfield 26, 3) := by decide +kernel
theorem dX7_hours_80 : decode cX7_hours 80 = .ok (.getfield 157, 3) := by decide +kernel
theorem dX7_hours_83 : decode cX7_hours 83 = .ok (.ireturn, 1) := by decide +kernel
theorem dX7_image_0 : decode cX7_image 0 = .ok (.iload_n 1, 1) := by decide +kernel
theorem dX7_image_1 : decode cX7_image 1 = .ok (.ifCond .lt 12, 3) := by decide +kernel
theorem dX7_image_10 : decode cX7_image 10 = .ok (.if_icmp .lt 6, 3) := by decide +kernel
theorem dX7_image_13 : decode cX7_image 13 = .ok (.ldc 72, 2) := by decide +kernel
theorem dX7_image_15 : decode cX7_image 15 = .ok (.ireturn, 1) := by decide +kernel
theorem dX7_image_16 : decode cX7_image 16 = .ok (.aload_n 0, 1) := by decide +kernel
theorem dX7_image_17 : decode cX7_image 17 = .ok (.getfield 26, 3) := by decide +kernel
theorem dX7_image_20 : decode cX7_image 20 = .ok (.invokevirtual 145, 3) := by decide +kernel
theorem dX7_image_23 : decode cX7_image 23 = .ok (.ifCond .ne 6, 3) := by decide +kernel
theorem dX7_image_26 : decode cX7_image 26 = .ok (.ldc 141, 2) := by decide +kernel
theorem dX7_image_28 : decode cX7_image 28 = .ok (.ireturn, 1) := by decide +kernel
theorem dX7_image_29 : decode cX7_image 29 = .ok (.aload_n 0, 1) := by decide +kernel
theorem dX7_image_30 : decode cX7_image 30 = .ok (.getfield 37, 3) := by decide +kernel
theorem dX7_image_33 : decode cX7_image 33 = .ok (.iload_n 1, 1) := by decide +kernel
theorem dX7_image_34 : decode cX7_image 34 = .ok (.aaload, 1) := by decide +kernel
theorem dX7_image_35 : decode cX7_image 35 = .ok (.aload_n 0, 1) := by decide +kernel
theorem dX7_image_36 : decode cX7_image 36 = .ok (.getfield 26, 3) := by decide +kernel
theorem dX7_image_39 : decode cX7_image 39 = .ok (.invokevirtual 128, 3) := by decide +kernel
theorem dX7_image_4 : decode cX7_image 4 = .ok (.iload_n 1, 1) := by decide +kernel
theorem dX7_image_42 : decode cX7_image 42 = .ok (.iconst 1, 1) := by decide +kernel
theorem dX7_image_43 : decode cX7_image 43 = .ok (.ireturn, 1) := by decide +kernel
theorem dX7_image_5 : decode cX7_image 5 = .ok (.aload_n 0, 1) := by decide +kernel
theorem dX7_image_6 : decode cX7_image 6 = .ok (.getfield 37, 3) := by decide +kernel
theorem dX7_image_9 : decode cX7_image 9 = .ok (.arraylength, 1) := by decide +kernel
theorem dX7_loose_0 : decode cX7_loose 0 = .ok (.aload_n 0, 1) := by decide +kernel
theorem dX7_loose_1 : decode cX7_loose 1 = .ok (.getfield 26, 3) := by decide +kernel
theorem dX7_loose_11 : decode cX7_loose 11 = .ok (.aload_n 0, 1) := by decide +kernel
theorem dX7_loose_12 : decode cX7_loose 12 = .ok (.getfield 26, 3) := by decide +kernel
theorem dX7_loose_15 : decode cX7_loose 15 = .ok (.iload_n 2, 1) := by decide +kernel
theorem dX7_loose_16 : decode cX7_loose 16 = .ok (.invokevirtual 176, 3) := by decide +kernel
theorem dX7_loose_19 : decode cX7_loose 19 = .ok (.ifCond .eq 14, 3) := by decide +kernel
theorem dX7_loose_22 : decode cX7_loose 22 = .ok (.iload_n 3, 1) := by decide +kernel
theorem dX7_loose_23 : decode cX7_loose 23 = .ok (.iconst 1, 1) := by decide +kernel
theorem dX7_loose_24 : decode cX7_loose 24 = .ok (.if_icmp .lt 9, 3) := by decide +kernel
theorem dX7_loose_27 : decode cX7_loose 27 = .ok (.iload_n 3, 1) := by decide +kernel
theorem dX7_loose_28 : decode cX7_loose 28 = .ok (.bipush 20, 2) := by decide +kernel
theorem dX7_loose_30 : decode cX7_loose 30 = .ok (.if_icmp .le 6, 3) := by decide +kernel
theorem dX7_loose_33 : decode cX7_loose 33 = .ok (.ldc 72, 2) := by decide +kernel
theorem dX7_loose_35 : decode cX7_loose 35 = .ok (.ireturn, 1) := by decide +kernel
theorem dX7_loose_36 : decode cX7_loose 36 = .ok (.aload_n 0, 1) := by decide +kernel
theorem dX7_loose_37 : decode cX7_loose 37 = .ok (.getfield 26, 3) := by decide +kernel
theorem dX7_loose_4 : decode cX7_loose 4 = .ok (.iload_n 1, 1) := by decide +kernel
theorem dX7_loose_40 : decode cX7_loose 40 = .ok (.iload_n 1, 1) := by decide +kernel
theorem dX7_loose_41 : decode cX7_loose 41 = .ok (.invokevirtual 179, 3) := by decide +kernel
theorem dX7_loose_44 : decode cX7_loose 44 = .ok (.ifCond .eq 6, 3) := by decide +kernel
theorem dX7_loose_47 : decode cX7_loose 47 = .ok (.ldc 141, 2) := by decide +kernel
theorem dX7_loose_49 : decode cX7_loose 49 = .ok (.ireturn, 1) := by decide +kernel
theorem dX7_loose_5 : decode cX7_loose 5 = .ok (.invokevirtual 173, 3) := by decide +kernel
theorem dX7_loose_50 : decode cX7_loose 50 = .ok (.aload_n 0, 1) := by decide +kernel
theorem dX7_loose_51 : decode cX7_loose 51 = .ok (.getfield 33, 3) := by decide +kernel
theorem dX7_loose_54 : decode cX7_loose 54 = .ok (.aload_n 0, 1) := by decide +kernel
theorem dX7_loose_55 : decode cX7_loose 55 = .ok (.getfield 26, 3) := by decide +kernel
theorem dX7_loose_58 : decode cX7_loose 58 = .ok (.invokevirtual 151, 3) := by decide +kernel
theorem dX7_loose_61 : decode cX7_loose 61 = .ok (.aload_n 0, 1) := by decide +kernel
theorem dX7_loose_62 : decode cX7_loose 62 = .ok (.getfield 26, 3) := by decide +kernel
theorem dX7_loose_65 : decode cX7_loose 65 = .ok (.iload_n 1, 1) := by decide +kernel
theorem dX7_loose_66 : decode cX7_loose 66 = .ok (.iload_n 2, 1) := by decide +kernel
theorem dX7_loose_67 : decode cX7_loose 67 = .ok (.iload_n 3, 1) := by decide +kernel
theorem dX7_loose_68 : decode cX7_loose 68 = .ok (.invokevirtual 182, 3) := by decide +kernel
theorem dX7_loose_71 : decode cX7_loose 71 = .ok (.aload_n 0, 1) := by decide +kernel
theorem dX7_loose_72 : decode cX7_loose 72 = .ok (.getfield 26, 3) := by decide +kernel
theorem dX7_loose_75 : decode cX7_loose 75 = .ok (.iconst 0, 1) := by decide +kernel
theorem dX7_loose_76 : decode cX7_loose 76 = .ok (.invokevirtual 185, 3) := by decide +kernel
theorem dX7_loose_79 : decode cX7_loose 79 = .ok (.ireturn, 1) := by decide +kernel
theorem dX7_loose_8 : decode cX7_loose 8 = .ok (.ifCond .eq 25, 3) := by decide +kernel
theorem dX7_restore_0 : decode cX7_restore 0 = .ok (.iload_n 1, 1) := by decide +kernel
theorem dX7_restore_1 : decode cX7_restore 1 = .ok (.ifCond .lt 12, 3) := by decide +kernel
theorem dX7_restore_10 : decode cX7_restore 10 = .ok (.if_icmp .lt 6, 3) := by decide +kernel
theorem dX7_restore_13 : decode cX7_restore 13 = .ok (.ldc 72, 2) := by decide +kernel
theorem dX7_restore_15 : decode cX7_restore 15 = .ok (.ireturn, 1) := by decide +kernel
theorem dX7_restore_16 : decode cX7_restore 16 = .ok (.aload_n 0, 1) := by decide +kernel
theorem dX7_restore_17 : decode cX7_restore 17 = .ok (.getfield 37, 3) := by decide +kernel
theorem dX7_restore_20 : decode cX7_restore 20 = .ok (.iload_n 1, 1) := by decide +kernel
theorem dX7_restore_21 : decode cX7_restore 21 = .ok (.aaload, 1) := by decide +kernel
theorem dX7_restore_22 : decode cX7_restore 22 = .ok (.invokevirtual 145, 3) := by decide +kernel
theorem dX7_restore_25 : decode cX7_restore 25 = .ok (.ifCond .ne 6, 3) := by decide +kernel
theorem dX7_restore_28 : decode cX7_restore 28 = .ok (.ldc 141, 2) := by decide +kernel
theorem dX7_restore_30 : decode cX7_restore 30 = .ok (.ireturn, 1) := by decide +kernel
theorem dX7_restore_31 : decode cX7_restore 31 = .ok (.aload_n 0, 1) := by decide +kernel
theorem dX7_restore_32 : decode cX7_restore 32 = .ok (.getfield 26, 3) := by decide +kernel
theorem dX7_restore_35 : decode cX7_restore 35 = .ok (.aload_n 0, 1) := by decide +kernel
theorem dX7_restore_36 : decode cX7_restore 36 = .ok (.getfield 37, 3) := by decide +kernel
theorem dX7_restore_39 : decode cX7_restore 39 = .ok (.iload_n 1, 1) := by decide +kernel
theorem dX7_restore_4 : decode cX7_restore 4 = .ok (.iload_n 1, 1) := by decide +kernel
theorem dX7_restore_40 : decode cX7_restore 40 = .ok (.aaload, 1) := by decide +kernel
theorem dX7_restore_41 : decode cX7_restore 41 = .ok (.invokevirtual 128, 3) := by decide +kernel
theorem dX7_restore_44 : decode cX7_restore 44 = .ok (.aload_n 0, 1) := by decide +kernel
theorem dX7_restore_45 : decode cX7_restore 45 = .ok (.getfield 33, 3) := by decide +kernel
theorem dX7_restore_48 : decode cX7_restore 48 = .ok (.invokevirtual 132, 3) := by decide +kernel
theorem dX7_restore_5 : decode cX7_restore 5 = .ok (.aload_n 0, 1) := by decide +kernel
theorem dX7_restore_51 : decode cX7_restore 51 = .ok (.iconst 1, 1) := by decide +kernel
theorem dX7_restore_52 : decode cX7_restore 52 = .ok (.ireturn, 1) := by decide +kernel
theorem dX7_restore_6 : decode cX7_restore 6 = .ok (.getfield 37, 3) := by decide +kernel
theorem dX7_restore_9 : decode cX7_restore 9 = .ok (.arraylength, 1) := by decide +kernel
theorem dX7_sell_0 : decode cX7_sell 0 = .ok (.aload_n 0, 1) := by decide +kernel
theorem dX7_sell_1 : decode cX7_sell 1 = .ok (.getfield 26, 3) := by decide +kernel
theorem dX7_sell_10 : decode cX7_sell 10 = .ok (.ldc 141, 2) := by decide +kernel
theorem dX7_sell_12 : decode cX7_sell 12 = .ok (.ireturn, 1) := by decide +kernel
theorem dX7_sell_13 : decode cX7_sell 13 = .ok (.iload_n 1, 1) := by decide +kernel
theorem dX7_sell_14 : decode cX7_sell 14 = .ok (.iconst 1, 1) := by decide +kernel
theorem dX7_sell_15 : decode cX7_sell 15 = .ok (.if_icmp .lt 10, 3) := by decide +kernel
theorem dX7_sell_18 : decode cX7_sell 18 = .ok (.iload_n 1, 1) := by decide +kernel
theorem dX7_sell_19 : decode cX7_sell 19 = .ok (.sipush 999, 3) := by decide +kernel
theorem dX7_sell_22 : decode cX7_sell 22 = .ok (.if_icmp .le 6, 3) := by decide +kernel
theorem dX7_sell_25 : decode cX7_sell 25 = .ok (.ldc 72, 2) := by decide +kernel
theorem dX7_sell_27 : decode cX7_sell 27 = .ok (.ireturn, 1) := by decide +kernel
theorem dX7_sell_28 : decode cX7_sell 28 = .ok (.aload_n 0, 1) := by decide +kernel
theorem dX7_sell_29 : decode cX7_sell 29 = .ok (.getfield 26, 3) := by decide +kernel
theorem dX7_sell_32 : decode cX7_sell 32 = .ok (.getfield 157, 3) := by decide +kernel
theorem dX7_sell_35 : decode cX7_sell 35 = .ok (.iload_n 1, 1) := by decide +kernel
theorem dX7_sell_36 : decode cX7_sell 36 = .ok (.if_icmp .ge 6, 3) := by decide +kernel
theorem dX7_sell_39 : decode cX7_sell 39 = .ok (.ldc 141, 2) := by decide +kernel
theorem dX7_sell_4 : decode cX7_sell 4 = .ok (.invokevirtual 145, 3) := by decide +kernel
theorem dX7_sell_41 : decode cX7_sell 41 = .ok (.ireturn, 1) := by decide +kernel
theorem dX7_sell_42 : decode cX7_sell 42 = .ok (.aload_n 0, 1) := by decide +kernel
theorem dX7_sell_43 : decode cX7_sell 43 = .ok (.getfield 33, 3) := by decide +kernel
theorem dX7_sell_46 : decode cX7_sell 46 = .ok (.aload_n 0, 1) := by decide +kernel
theorem dX7_sell_47 : decode cX7_sell 47 = .ok (.getfield 26, 3) := by decide +kernel
theorem dX7_sell_50 : decode cX7_sell 50 = .ok (.invokevirtual 151, 3) := by decide +kernel
theorem dX7_sell_53 : decode cX7_sell 53 = .ok (.aload_n 0, 1) := by decide +kernel
theorem dX7_sell_54 : decode cX7_sell 54 = .ok (.getfield 26, 3) := by decide +kernel
theorem dX7_sell_57 : decode cX7_sell 57 = .ok (.dup, 1) := by decide +kernel
theorem dX7_sell_58 : decode cX7_sell 58 = .ok (.getfield 157, 3) := by decide +kernel
theorem dX7_sell_61 : decode cX7_sell 61 = .ok (.iload_n 1, 1) := by decide +kernel
theorem dX7_sell_62 : decode cX7_sell 62 = .ok (.isub, 1) := by decide +kernel
theorem dX7_sell_63 : decode cX7_sell 63 = .ok (.putfield 157, 3) := by decide +kernel
theorem dX7_sell_66 : decode cX7_sell 66 = .ok (.aload_n 0, 1) := by decide +kernel
theorem dX7_sell_67 : decode cX7_sell 67 = .ok (.getfield 26, 3) := by decide +kernel
theorem dX7_sell_7 : decode cX7_sell 7 = .ok (.ifCond .ne 6, 3) := by decide +kernel
theorem dX7_sell_70 : decode cX7_sell 70 = .ok (.getfield 157, 3) := by decide +kernel
theorem dX7_sell_73 : decode cX7_sell 73 = .ok (.ireturn, 1) := by decide +kernel
theorem dX7_undo_0 : decode cX7_undo 0 = .ok (.aload_n 0, 1) := by decide +kernel
theorem dX7_undo_1 : decode cX7_undo 1 = .ok (.getfield 33, 3) := by decide +kernel
theorem dX7_undo_10 : decode cX7_undo 10 = .ok (.ldc 141, 2) := by decide +kernel
theorem dX7_undo_12 : decode cX7_undo 12 = .ok (.ireturn, 1) := by decide +kernel
theorem dX7_undo_13 : decode cX7_undo 13 = .ok (.aload_n 0, 1) := by decide +kernel
theorem dX7_undo_14 : decode cX7_undo 14 = .ok (.getfield 33, 3) := by decide +kernel
theorem dX7_undo_17 : decode cX7_undo 17 = .ok (.aload_n 0, 1) := by decide +kernel
theorem dX7_undo_18 : decode cX7_undo 18 = .ok (.getfield 26, 3) := by decide +kernel
theorem dX7_undo_21 : decode cX7_undo 21 = .ok (.invokevirtual 142, 3) := by decide +kernel
theorem dX7_undo_24 : decode cX7_undo 24 = .ok (.aload_n 0, 1) := by decide +kernel
theorem dX7_undo_25 : decode cX7_undo 25 = .ok (.getfield 33, 3) := by decide +kernel
theorem dX7_undo_28 : decode cX7_undo 28 = .ok (.getfield 138, 3) := by decide +kernel
theorem dX7_undo_31 : decode cX7_undo 31 = .ok (.ireturn, 1) := by decide +kernel
theorem dX7_undo_4 : decode cX7_undo 4 = .ok (.getfield 138, 3) := by decide +kernel
theorem dX7_undo_7 : decode cX7_undo 7 = .ok (.ifCond .ne 6, 3) := by decide +kernel
theorem dX7_wind_0 : decode cX7_wind 0 = .ok (.aload_n 0, 1) := by decide +kernel
theorem dX7_wind_1 : decode cX7_wind 1 = .ok (.getfield 26, 3) := by decide +kernel
theorem dX7_wind_11 : decode cX7_wind 11 = .ok (.iload_n 2, 1) := by decide +kernel
theorem dX7_wind_12 : decode cX7_wind 12 = .ok (.ifCond .lt 8, 3) := by decide +kernel
theorem dX7_wind_15 : decode cX7_wind 15 = .ok (.iload_n 2, 1) := by decide +kernel
theorem dX7_wind_16 : decode cX7_wind 16 = .ok (.iconst 4, 1) := by decide +kernel
theorem dX7_wind_17 : decode cX7_wind 17 = .ok (.if_icmp .le 6, 3) := by decide +kernel
theorem dX7_wind_20 : decode cX7_wind 20 = .ok (.ldc 72, 2) := by decide +kernel
theorem dX7_wind_22 : decode cX7_wind 22 = .ok (.ireturn, 1) := by decide +kernel
theorem dX7_wind_23 : decode cX7_wind 23 = .ok (.aload_n 0, 1) := by decide +kernel
theorem dX7_wind_24 : decode cX7_wind 24 = .ok (.getfield 26, 3) := by decide +kernel
theorem dX7_wind_27 : decode cX7_wind 27 = .ok (.getfield 169, 3) := by decide +kernel
theorem dX7_wind_30 : decode cX7_wind 30 = .ok (.iload_n 1, 1) := by decide +kernel
theorem dX7_wind_31 : decode cX7_wind 31 = .ok (.iaload, 1) := by decide +kernel
theorem dX7_wind_32 : decode cX7_wind 32 = .ok (.istore_n 3, 1) := by decide +kernel
theorem dX7_wind_33 : decode cX7_wind 33 = .ok (.aload_n 0, 1) := by decide +kernel
theorem dX7_wind_34 : decode cX7_wind 34 = .ok (.getfield 33, 3) := by decide +kernel
theorem dX7_wind_37 : decode cX7_wind 37 = .ok (.aload_n 0, 1) := by decide +kernel
theorem dX7_wind_38 : decode cX7_wind 38 = .ok (.getfield 26, 3) := by decide +kernel
theorem dX7_wind_4 : decode cX7_wind 4 = .ok (.iload_n 1, 1) := by decide +kernel
theorem dX7_wind_41 : decode cX7_wind 41 = .ok (.invokevirtual 151, 3) := by decide +kernel
theorem dX7_wind_44 : decode cX7_wind 44 = .ok (.aload_n 0, 1) := by decide +kernel
theorem dX7_wind_45 : decode cX7_wind 45 = .ok (.getfield 26, 3) := by decide +kernel
theorem dX7_wind_48 : decode cX7_wind 48 = .ok (.getfield 169, 3) := by decide +kernel
theorem dX7_wind_5 : decode cX7_wind 5 = .ok (.invokevirtual 166, 3) := by decide +kernel
theorem dX7_wind_51 : decode cX7_wind 51 = .ok (.iload_n 1, 1) := by decide +kernel
theorem dX7_wind_52 : decode cX7_wind 52 = .ok (.iload_n 2, 1) := by decide +kernel
theorem dX7_wind_53 : decode cX7_wind 53 = .ok (.iastore, 1) := by decide +kernel
theorem dX7_wind_54 : decode cX7_wind 54 = .ok (.iload_n 3, 1) := by decide +kernel
theorem dX7_wind_55 : decode cX7_wind 55 = .ok (.ireturn, 1) := by decide +kernel
theorem dX7_wind_8 : decode cX7_wind 8 = .ok (.ifCond .eq 12, 3) := by decide +kernel
set_option maxRecDepth 20000 in
theorem ggX7_cap_X0_keep : GoodIn wsX7_cap wsX0_keep := goodIn_r _ [15, 16, 17, 18, 19, 20, 21, 22, 23, 24, 25, 8, 26, 10, 27, 28, 29, 30, 31, 32, 33, 34, 35, 36, 37, 38, 39, 40, 41, 42, 71, 72, 73, 58, 59, 60, 61, 62, 63, 64, 65, 66, 67, 68, 69, 70] (by decide +kernel) (by decide +kernel)
set_option maxRecDepth 20000 in
theorem gX7_cap_X0_keep : GoodIn wsX7_cap (wsV RX7 151 RX0 yX0_keep wsX0_keep) := goodIn_app (goodIn_of _ (by decide +kernel)) ggX7_cap_X0_keep
set_option maxRecDepth 20000 in
theorem ggX7_cap_X3_isTold : GoodIn wsX7_cap wsX3_isTold := goodIn_r _ [9, 10, 58, 59, 60, 61, 62, 63, 64, 65, 66, 67, 68, 69, 70] (by decide +kernel) (by decide +kernel)
set_option maxRecDepth 20000 in
theorem gX7_cap_X3_isTold : GoodIn wsX7_cap (wsV RX7 145 RX3 yX3_isTold wsX3_isTold) := goodIn_app (goodIn_of _ (by decide +kernel)) ggX7_cap_X3_isTold
set_option maxRecDepth 20000 in
theorem ggX7_cap_X3_turnCap : GoodIn wsX7_cap wsX3_turnCap := goodIn_r _ [46, 29, 58, 59, 60, 61, 62, 63, 64, 65, 66, 67, 68, 69, 70] (by decide +kernel) (by decide +kernel)
set_option maxRecDepth 20000 in
theorem gX7_cap_X3_turnCap : GoodIn wsX7_cap (wsV RX7 160 RX3 yX3_turnCap wsX3_turnCap) := goodIn_app (goodIn_of _ (by decide +kernel)) ggX7_cap_X3_turnCap
set_option maxRecDepth 20000 in
theorem ggX7_hours_X0_keep : GoodIn wsX7_hours wsX0_keep := goodIn_r _ [18, 19, 20, 21, 22, 23, 24, 25, 26, 27, 28, 11, 29, 13, 30, 31, 32, 33, 34, 35, 36, 37, 38, 39, 40, 41, 42, 43, 44, 45, 107, 108, 109, 94, 95, 96, 97, 98, 99, 100, 101, 102, 103, 104, 105, 106] (by decide +kernel) (by decide +kernel)
set_option maxRecDepth 20000 in
theorem gX7_hours_X0_keep : GoodIn wsX7_hours (wsV RX7 151 RX0 yX0_keep wsX0_keep) := goodIn_app (goodIn_of _ (by decide +kernel)) ggX7_hours_X0_keep
set_option maxRecDepth 20000 in
theorem ggX7_hours_X3_isTold : GoodIn wsX7_hours wsX3_isTold := goodIn_r _ [12, 13, 94, 95, 96, 97, 98, 99, 100, 101, 102, 103, 104, 105, 106] (by decide +kernel) (by decide +kernel)
set_option maxRecDepth 20000 in
theorem gX7_hours_X3_isTold : GoodIn wsX7_hours (wsV RX7 145 RX3 yX3_isTold wsX3_isTold) := goodIn_app (goodIn_of _ (by decide +kernel)) ggX7_hours_X3_isTold
set_option maxRecDepth 20000 in
theorem ggX7_hours_X3_pass : GoodIn wsX7_hours wsX3_pass := goodIn_r _ [49, 36, 33, 50, 51, 52, 11, 53, 35, 37, 54, 55, 56, 57, 43, 45, 34, 58, 23, 24, 25, 59, 60, 61, 62, 63, 64, 65, 66, 42, 67, 68, 69, 70, 44, 71, 72, 73, 74, 13, 75, 76, 77, 78, 79, 80, 81, 82, 32, 30, 31, 94, 95, 96, 97, 98, 99, 100, 101, 102, 103, 104, 105, 106] (by decide +kernel) (by decide +kernel)
set_option maxRecDepth 20000 in
theorem gX7_hours_X3_pass : GoodIn wsX7_hours (wsV RX7 154 RX3 yX3_pass wsX3_pass) := goodIn_app (goodIn_of _ (by decide +kernel)) ggX7_hours_X3_pass
set_option maxRecDepth 20000 in
theorem ggX7_image_X3_becomeLike : GoodIn wsX7_image wsX3_becomeLike := goodIn_r _ [14, 10, 15, 16, 17, 18, 19, 20, 21, 22, 23, 24, 25, 26, 27, 28, 29, 30, 42, 43, 44, 45, 46, 47, 48, 49, 50, 51, 52, 53, 54] (by decide +kernel) (by decide +kernel)
set_option maxRecDepth 20000 in
theorem gX7_image_X3_becomeLike : GoodIn wsX7_image (wsV RX7 128 RX3 yX3_becomeLike wsX3_becomeLike) := goodIn_app (goodIn_of _ (by decide +kernel)) ggX7_image_X3_becomeLike
set_option maxRecDepth 20000 in
theorem ggX7_image_X3_isTold : GoodIn wsX7_image wsX3_isTold := goodIn_r _ [9, 10, 42, 43, 44, 45, 46, 47, 48, 49, 50, 51, 52, 53, 54] (by decide +kernel) (by decide +kernel)
set_option maxRecDepth 20000 in
theorem gX7_image_X3_isTold : GoodIn wsX7_image (wsV RX7 145 RX3 yX3_isTold wsX3_isTold) := goodIn_app (goodIn_of _ (by decide +kernel)) ggX7_image_X3_isTold
set_option maxRecDepth 20000 in
theorem ggX7_loose_X0_keep : GoodIn wsX7_loose wsX0_keep := goodIn_r _ [25, 26, 27, 28, 29, 30, 31, 32, 33, 34, 35, 8, 36, 15, 37, 38, 39, 40, 41, 42, 10, 43, 44, 45, 46, 47, 48, 49, 50, 20, 83, 84, 85, 70, 71, 72, 73, 74, 75, 76, 77, 78, 79, 80, 81, 82] (by decide +kernel) (by decide +kernel)
set_option maxRecDepth 20000 in
theorem gX7_loose_X0_keep : GoodIn wsX7_loose (wsV RX7 151 RX0 yX0_keep wsX0_keep) := goodIn_app (goodIn_of _ (by decide +kernel)) ggX7_loose_X0_keep
set_option maxRecDepth 20000 in
theorem ggX7_loose_X3_hasCell : GoodIn wsX7_loose wsX3_hasCell := goodIn_r _ [14, 15, 70, 71, 72, 73, 74, 75, 76, 77, 78, 79, 80, 81, 82] (by decide +kernel) (by decide +kernel)
set_option maxRecDepth 20000 in
theorem gX7_loose_X3_hasCell : GoodIn wsX7_loose (wsV RX7 176 RX3 yX3_hasCell wsX3_hasCell) := goodIn_app (goodIn_of _ (by decide +kernel)) ggX7_loose_X3_hasCell
set_option maxRecDepth 20000 in
theorem ggX7_loose_X3_hasSound : GoodIn wsX7_loose wsX3_hasSound := goodIn_r _ [9, 10, 70, 71, 72, 73, 74, 75, 76, 77, 78, 79, 80, 81, 82] (by decide +kernel) (by decide +kernel)
set_option maxRecDepth 20000 in
theorem gX7_loose_X3_hasSound : GoodIn wsX7_loose (wsV RX7 173 RX3 yX3_hasSound wsX3_hasSound) := goodIn_app (goodIn_of _ (by decide +kernel)) ggX7_loose_X3_hasSound
set_option maxRecDepth 20000 in
theorem ggX7_loose_X3_isLoose : GoodIn wsX7_loose wsX3_isLoose := goodIn_r _ [19, 20, 70, 71, 72, 73, 74, 75, 76, 77, 78, 79, 80, 81, 82] (by decide +kernel) (by decide +kernel)
set_option maxRecDepth 20000 in
theorem gX7_loose_X3_isLoose : GoodIn wsX7_loose (wsV RX7 179 RX3 yX3_isLoose wsX3_isLoose) := goodIn_app (goodIn_of _ (by decide +kernel)) ggX7_loose_X3_isLoose
set_option maxRecDepth 20000 in
theorem ggX7_loose_X3_letLoose : GoodIn wsX7_loose wsX3_letLoose := goodIn_r _ [54, 49, 50, 20, 70, 71, 72, 73, 74, 75, 76, 77, 78, 79, 80, 81, 82] (by decide +kernel) (by decide +kernel)
set_option maxRecDepth 20000 in
theorem gX7_loose_X3_letLoose : GoodIn wsX7_loose (wsV RX7 182 RX3 yX3_letLoose wsX3_letLoose) := goodIn_app (goodIn_of _ (by decide +kernel)) ggX7_loose_X3_letLoose
set_option maxRecDepth 20000 in
theorem ggX7_loose_X3_soundsThatAre : GoodIn wsX7_loose wsX3_soundsThatAre := goodIn_r _ [58, 10, 20, 70, 71, 72, 73, 74, 75, 76, 77, 78, 79, 80, 81, 82] (by decide +kernel) (by decide +kernel)
set_option maxRecDepth 20000 in
theorem gX7_loose_X3_soundsThatAre : GoodIn wsX7_loose (wsV RX7 185 RX3 yX3_soundsThatAre wsX3_soundsThatAre) := goodIn_app (goodIn_of _ (by decide +kernel)) ggX7_loose_X3_soundsThatAre
set_option maxRecDepth 20000 in
theorem ggX7_restore_X0_forget : GoodIn wsX7_restore wsX0_forget := goodIn_r _ [36, 37, 62, 63, 64] (by decide +kernel) (by decide +kernel)
set_option maxRecDepth 20000 in
theorem gX7_restore_X0_forget : GoodIn wsX7_restore (wsV RX7 132 RX0 yX0_forget wsX0_forget) := goodIn_app (goodIn_of _ (by decide +kernel)) ggX7_restore_X0_forget
set_option maxRecDepth 20000 in
theorem ggX7_restore_X3_becomeLike : GoodIn wsX7_restore wsX3_becomeLike := goodIn_r _ [15, 11, 16, 17, 18, 19, 20, 21, 22, 23, 24, 25, 26, 27, 28, 29, 30, 31, 49, 50, 51, 52, 53, 54, 55, 56, 57, 58, 59, 60, 61] (by decide +kernel) (by decide +kernel)
set_option maxRecDepth 20000 in
theorem gX7_restore_X3_becomeLike : GoodIn wsX7_restore (wsV RX7 128 RX3 yX3_becomeLike wsX3_becomeLike) := goodIn_app (goodIn_of _ (by decide +kernel)) ggX7_restore_X3_becomeLike
set_option maxRecDepth 20000 in
theorem ggX7_restore_X3_isTold : GoodIn wsX7_restore wsX3_isTold := goodIn_r _ [10, 11, 49, 50, 51, 52, 53, 54, 55, 56, 57, 58, 59, 60, 61] (by decide +kernel) (by decide +kernel)
set_option maxRecDepth 20000 in
theorem gX7_restore_X3_isTold : GoodIn wsX7_restore (wsV RX7 145 RX3 yX3_isTold wsX3_isTold) := goodIn_app (goodIn_of _ (by decide +kernel)) ggX7_restore_X3_isTold
set_option maxRecDepth 20000 in
theorem ggX7_sell_X0_keep : GoodIn wsX7_sell wsX0_keep := goodIn_r _ [16, 17, 18, 19, 20, 21, 22, 23, 24, 25, 26, 9, 27, 11, 28, 29, 30, 31, 32, 33, 34, 35, 36, 37, 38, 39, 40, 41, 42, 43, 68, 69, 70, 55, 56, 57, 58, 59, 60, 61, 62, 63, 64, 65, 66, 67] (by decide +kernel) (by decide +kernel)
set_option maxRecDepth 20000 in
theorem gX7_sell_X0_keep : GoodIn wsX7_sell (wsV RX7 151 RX0 yX0_keep wsX0_keep) := goodIn_app (goodIn_of _ (by decide +kernel)) ggX7_sell_X0_keep
set_option maxRecDepth 20000 in
theorem ggX7_sell_X3_isTold : GoodIn wsX7_sell wsX3_isTold := goodIn_r _ [10, 11, 55, 56, 57, 58, 59, 60, 61, 62, 63, 64, 65, 66, 67] (by decide +kernel) (by decide +kernel)
set_option maxRecDepth 20000 in
theorem gX7_sell_X3_isTold : GoodIn wsX7_sell (wsV RX7 145 RX3 yX3_isTold wsX3_isTold) := goodIn_app (goodIn_of _ (by decide +kernel)) ggX7_sell_X3_isTold
set_option maxRecDepth 20000 in
theorem ggX7_undo_X0_takeBack : GoodIn wsX7_undo wsX0_takeBack := goodIn_r _ [9, 10, 11, 12, 13, 14, 15, 16, 17, 18, 19, 20, 21, 22, 23, 24, 25, 26, 27, 28, 29, 30, 31, 32, 33, 34, 46, 47, 48, 49, 50, 51, 52, 53, 54, 55, 56, 57, 58, 59, 60, 61] (by decide +kernel) (by decide +kernel)
set_option maxRecDepth 20000 in
theorem gX7_undo_X0_takeBack : GoodIn wsX7_undo (wsV RX7 142 RX0 yX0_takeBack wsX0_takeBack) := goodIn_app (goodIn_of _ (by decide +kernel)) ggX7_undo_X0_takeBack
set_option maxRecDepth 20000 in
theorem ggX7_wind_X0_keep : GoodIn wsX7_wind wsX0_keep := goodIn_r _ [15, 16, 17, 18, 19, 20, 21, 22, 23, 24, 25, 8, 26, 27, 28, 29, 30, 31, 32, 10, 33, 34, 35, 36, 37, 38, 39, 40, 41, 42, 67, 68, 69, 54, 55, 56, 57, 58, 59, 60, 61, 62, 63, 64, 65, 66] (by decide +kernel) (by decide +kernel)
set_option maxRecDepth 20000 in
theorem gX7_wind_X0_keep : GoodIn wsX7_wind (wsV RX7 151 RX0 yX0_keep wsX0_keep) := goodIn_app (goodIn_of _ (by decide +kernel)) ggX7_wind_X0_keep
set_option maxRecDepth 20000 in
theorem ggX7_wind_X3_hasWind : GoodIn wsX7_wind wsX3_hasWind := goodIn_r _ [9, 10, 54, 55, 56, 57, 58, 59, 60, 61, 62, 63, 64, 65, 66] (by decide +kernel) (by decide +kernel)
set_option maxRecDepth 20000 in
theorem gX7_wind_X3_hasWind : GoodIn wsX7_wind (wsV RX7 166 RX3 yX3_hasWind wsX3_hasWind) := goodIn_app (goodIn_of _ (by decide +kernel)) ggX7_wind_X3_hasWind
set_option maxRecDepth 20000 in
theorem i_X7_cap_X3 : ∀ w ∈ u_ws RX3 TX3 13, w ∈ wsX7_cap := by decide +kernel
set_option maxRecDepth 20000 in
theorem i_X7_cap_X7 : ∀ w ∈ u_ws RX7 TX7 11, w ∈ wsX7_cap := by decide +kernel
set_option maxRecDepth 20000 in
theorem i_X7_hours_X3 : ∀ w ∈ u_ws RX3 TX3 13, w ∈ wsX7_hours := by decide +kernel
set_option maxRecDepth 20000 in
theorem i_X7_hours_X7 : ∀ w ∈ u_ws RX7 TX7 11, w ∈ wsX7_hours := by decide +kernel
set_option maxRecDepth 20000 in
theorem i_X7_image_X7 : ∀ w ∈ u_ws RX7 TX7 11, w ∈ wsX7_image := by decide +kernel
set_option maxRecDepth 20000 in
theorem i_X7_loose_X7 : ∀ w ∈ u_ws RX7 TX7 11, w ∈ wsX7_loose := by decide +kernel
set_option maxRecDepth 20000 in
theorem i_X7_restore_X7 : ∀ w ∈ u_ws RX7 TX7 11, w ∈ wsX7_restore := by decide +kernel
set_option maxRecDepth 20000 in
theorem i_X7_sell_X3 : ∀ w ∈ u_ws RX3 TX3 13, w ∈ wsX7_sell := by decide +kernel
set_option maxRecDepth 20000 in
theorem i_X7_sell_X7 : ∀ w ∈ u_ws RX7 TX7 11, w ∈ wsX7_sell := by decide +kernel
set_option maxRecDepth 20000 in
theorem i_X7_undo_X0 : ∀ w ∈ u_ws RX0 TX0 3, w ∈ wsX7_undo := by decide +kernel
set_option maxRecDepth 20000 in
theorem i_X7_undo_X7 : ∀ w ∈ u_ws RX7 TX7 11, w ∈ wsX7_undo := by decide +kernel
set_option maxRecDepth 20000 in
theorem i_X7_wind_X3 : ∀ w ∈ u_ws RX3 TX3 13, w ∈ wsX7_wind := by decide +kernel
set_option maxRecDepth 20000 in
theorem i_X7_wind_X7 : ∀ w ∈ u_ws RX7 TX7 11, w ∈ wsX7_wind := by decide +kernel
