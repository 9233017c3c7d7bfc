theorem dJ7_fill_53178_0 : decode cJ7_fill_53178 0 = .ok (.iconst 0, 1) := by decide +kernel
theorem dJ7_fill_53178_1 : decode cJ7_fill_53178 1 = .ok (.istore_n 2, 1) := by decide +kernel
theorem dJ7_fill_53178_10 : decode cJ7_fill_53178 10 = .ok (.aload_n 0, 1) := by decide +kernel
theorem dJ7_fill_53178_11 : decode cJ7_fill_53178 11 = .ok (.iload_n 2, 1) := by decide +kernel
theorem dJ7_fill_53178_12 : decode cJ7_fill_53178 12 = .ok (.iload_n 1, 1) := by decide +kernel
theorem dJ7_fill_53178_13 : decode cJ7_fill_53178 13 = .ok (.iastore, 1) := by decide +kernel
theorem dJ7_fill_53178_14 : decode cJ7_fill_53178 14 = .ok (.iinc 2 1, 3) := by decide +kernel
theorem dJ7_fill_53178_17 : decode cJ7_fill_53178 17 = .ok (.goto (-12), 3) := by decide +kernel
theorem dJ7_fill_53178_2 : decode cJ7_fill_53178 2 = .ok (.aload_n 0, 1) := by decide +kernel
theorem dJ7_fill_53178_20 : decode cJ7_fill_53178 20 = .ok (.return_, 1) := by decide +kernel
theorem dJ7_fill_53178_3 : decode cJ7_fill_53178 3 = .ok (.arraylength, 1) := by decide +kernel
theorem dJ7_fill_53178_4 : decode cJ7_fill_53178 4 = .ok (.istore_n 3, 1) := by decide +kernel
theorem dJ7_fill_53178_5 : decode cJ7_fill_53178 5 = .ok (.iload_n 2, 1) := by decide +kernel
theorem dJ7_fill_53178_6 : decode cJ7_fill_53178 6 = .ok (.iload_n 3, 1) := by decide +kernel
theorem dJ7_fill_53178_7 : decode cJ7_fill_53178 7 = .ok (.if_icmp .ge 13, 3) := by decide +kernel
theorem dX5_findingOfMove_0 : decode cX5_findingOfMove 0 = .ok (.aload_n 0, 1) := by decide +kernel
theorem dX5_findingOfMove_1 : decode cX5_findingOfMove 1 = .ok (.iload_n 1, 1) := by decide +kernel
theorem dX5_findingOfMove_10 : decode cX5_findingOfMove 10 = .ok (.invokevirtual 29, 3) := by decide +kernel
theorem dX5_findingOfMove_13 : decode cX5_findingOfMove 13 = .ok (.ifCond .eq 5, 3) := by decide +kernel
theorem dX5_findingOfMove_16 : decode cX5_findingOfMove 16 = .ok (.iconst 1, 1) := by decide +kernel
theorem dX5_findingOfMove_17 : decode cX5_findingOfMove 17 = .ok (.ireturn, 1) := by decide +kernel
theorem dX5_findingOfMove_18 : decode cX5_findingOfMove 18 = .ok (.aload_n 0, 1) := by decide +kernel
theorem dX5_findingOfMove_19 : decode cX5_findingOfMove 19 = .ok (.getfield 16, 3) := by decide +kernel
theorem dX5_findingOfMove_2 : decode cX5_findingOfMove 2 = .ok (.invokevirtual 29, 3) := by decide +kernel
theorem dX5_findingOfMove_22 : decode cX5_findingOfMove 22 = .ok (.iload_n 1, 1) := by decide +kernel
theorem dX5_findingOfMove_23 : decode cX5_findingOfMove 23 = .ok (.iaload, 1) := by decide +kernel
theorem dX5_findingOfMove_24 : decode cX5_findingOfMove 24 = .ok (.aload_n 0, 1) := by decide +kernel
theorem dX5_findingOfMove_25 : decode cX5_findingOfMove 25 = .ok (.getfield 16, 3) := by decide +kernel
theorem dX5_findingOfMove_28 : decode cX5_findingOfMove 28 = .ok (.iload_n 3, 1) := by decide +kernel
theorem dX5_findingOfMove_29 : decode cX5_findingOfMove 29 = .ok (.iaload, 1) := by decide +kernel
theorem dX5_findingOfMove_30 : decode cX5_findingOfMove 30 = .ok (.if_icmp .eq 5, 3) := by decide +kernel
theorem dX5_findingOfMove_33 : decode cX5_findingOfMove 33 = .ok (.iconst 5, 1) := by decide +kernel
theorem dX5_findingOfMove_34 : decode cX5_findingOfMove 34 = .ok (.ireturn, 1) := by decide +kernel
theorem dX5_findingOfMove_35 : decode cX5_findingOfMove 35 = .ok (.aload_n 0, 1) := by decide +kernel
theorem dX5_findingOfMove_36 : decode cX5_findingOfMove 36 = .ok (.iload_n 1, 1) := by decide +kernel
theorem dX5_findingOfMove_37 : decode cX5_findingOfMove 37 = .ok (.iload_n 2, 1) := by decide +kernel
theorem dX5_findingOfMove_38 : decode cX5_findingOfMove 38 = .ok (.iload 5, 2) := by decide +kernel
theorem dX5_findingOfMove_40 : decode cX5_findingOfMove 40 = .ok (.invokevirtual 33, 3) := by decide +kernel
theorem dX5_findingOfMove_43 : decode cX5_findingOfMove 43 = .ok (.ifCond .eq 19, 3) := by decide +kernel
theorem dX5_findingOfMove_46 : decode cX5_findingOfMove 46 = .ok (.aload_n 0, 1) := by decide +kernel
theorem dX5_findingOfMove_47 : decode cX5_findingOfMove 47 = .ok (.iload_n 3, 1) := by decide +kernel
theorem dX5_findingOfMove_48 : decode cX5_findingOfMove 48 = .ok (.iload 4, 2) := by decide +kernel
theorem dX5_findingOfMove_5 : decode cX5_findingOfMove 5 = .ok (.ifCond .ne 11, 3) := by decide +kernel
theorem dX5_findingOfMove_50 : decode cX5_findingOfMove 50 = .ok (.iload 5, 2) := by decide +kernel
theorem dX5_findingOfMove_52 : decode cX5_findingOfMove 52 = .ok (.invokevirtual 33, 3) := by decide +kernel
theorem dX5_findingOfMove_55 : decode cX5_findingOfMove 55 = .ok (.ifCond .eq 7, 3) := by decide +kernel
theorem dX5_findingOfMove_58 : decode cX5_findingOfMove 58 = .ok (.iconst 0, 1) := by decide +kernel
theorem dX5_findingOfMove_59 : decode cX5_findingOfMove 59 = .ok (.goto 4, 3) := by decide +kernel
theorem dX5_findingOfMove_62 : decode cX5_findingOfMove 62 = .ok (.iconst 2, 1) := by decide +kernel
theorem dX5_findingOfMove_63 : decode cX5_findingOfMove 63 = .ok (.ireturn, 1) := by decide +kernel
theorem dX5_findingOfMove_8 : decode cX5_findingOfMove 8 = .ok (.aload_n 0, 1) := by decide +kernel
theorem dX5_findingOfMove_9 : decode cX5_findingOfMove 9 = .ok (.iload_n 3, 1) := by decide +kernel
theorem dX5_findingOf_0 : decode cX5_findingOf 0 = .ok (.aload_n 0, 1) := by decide +kernel
theorem dX5_findingOf_1 : decode cX5_findingOf 1 = .ok (.iload_n 1, 1) := by decide +kernel
theorem dX5_findingOf_10 : decode cX5_findingOf 10 = .ok (.aload_n 0, 1) := by decide +kernel
theorem dX5_findingOf_11 : decode cX5_findingOf 11 = .ok (.iload_n 1, 1) := by decide +kernel
theorem dX5_findingOf_12 : decode cX5_findingOf 12 = .ok (.iload_n 2, 1) := by decide +kernel
theorem dX5_findingOf_13 : decode cX5_findingOf 13 = .ok (.iload_n 3, 1) := by decide +kernel
theorem dX5_findingOf_14 : decode cX5_findingOf 14 = .ok (.invokevirtual 33, 3) := by decide +kernel
theorem dX5_findingOf_17 : decode cX5_findingOf 17 = .ok (.ifCond .eq 7, 3) := by decide +kernel
theorem dX5_findingOf_2 : decode cX5_findingOf 2 = .ok (.invokevirtual 29, 3) := by decide +kernel
theorem dX5_findingOf_20 : decode cX5_findingOf 20 = .ok (.iconst 0, 1) := by decide +kernel
theorem dX5_findingOf_21 : decode cX5_findingOf 21 = .ok (.goto 4, 3) := by decide +kernel
theorem dX5_findingOf_24 : decode cX5_findingOf 24 = .ok (.iconst 2, 1) := by decide +kernel
theorem dX5_findingOf_25 : decode cX5_findingOf 25 = .ok (.ireturn, 1) := by decide +kernel
theorem dX5_findingOf_5 : decode cX5_findingOf 5 = .ok (.ifCond .eq 5, 3) := by decide +kernel
theorem dX5_findingOf_8 : decode cX5_findingOf 8 = .ok (.iconst 1, 1) := by decide +kernel
theorem dX5_findingOf_9 : decode cX5_findingOf 9 = .ok (.ireturn, 1) := by decide +kernel
theorem dX5_hasPlaces_0 : decode cX5_hasPlaces 0 = .ok (.iload_n 2, 1) := by decide +kernel
theorem dX5_hasPlaces_1 : decode cX5_hasPlaces 1 = .ok (.ifCond .lt 23, 3) := by decide +kernel
theorem dX5_hasPlaces_10 : decode cX5_hasPlaces 10 = .ok (.getfield 20, 3) := by decide +kernel
theorem dX5_hasPlaces_13 : decode cX5_hasPlaces 13 = .ok (.iload_n 1, 1) := by decide +kernel
theorem dX5_hasPlaces_14 : decode cX5_hasPlaces 14 = .ok (.iaload, 1) := by decide +kernel
theorem dX5_hasPlaces_15 : decode cX5_hasPlaces 15 = .ok (.iload_n 3, 1) := by decide +kernel
theorem dX5_hasPlaces_16 : decode cX5_hasPlaces 16 = .ok (.isub, 1) := by decide +kernel
theorem dX5_hasPlaces_17 : decode cX5_hasPlaces 17 = .ok (.if_icmp .gt 7, 3) := by decide +kernel
theorem dX5_hasPlaces_20 : decode cX5_hasPlaces 20 = .ok (.iconst 1, 1) := by decide +kernel
theorem dX5_hasPlaces_21 : decode cX5_hasPlaces 21 = .ok (.goto 4, 3) := by decide +kernel
theorem dX5_hasPlaces_24 : decode cX5_hasPlaces 24 = .ok (.iconst 0, 1) := by decide +kernel
theorem dX5_hasPlaces_25 : decode cX5_hasPlaces 25 = .ok (.ireturn, 1) := by decide +kernel
theorem dX5_hasPlaces_4 : decode cX5_hasPlaces 4 = .ok (.iload_n 3, 1) := by decide +kernel
theorem dX5_hasPlaces_5 : decode cX5_hasPlaces 5 = .ok (.ifCond .lt 19, 3) := by decide +kernel
theorem dX5_hasPlaces_8 : decode cX5_hasPlaces 8 = .ok (.iload_n 2, 1) := by decide +kernel
theorem dX5_hasPlaces_9 : decode cX5_hasPlaces 9 = .ok (.aload_n 0, 1) := by decide +kernel
theorem dX5_isLane_0 : decode cX5_isLane 0 = .ok (.iload_n 0, 1) := by decide +kernel
theorem dX5_isLane_1 : decode cX5_isLane 1 = .ok (.ifCond .lt 12, 3) := by decide +kernel
theorem dX5_isLane_10 : decode cX5_isLane 10 = .ok (.goto 4, 3) := by decide +kernel
theorem dX5_isLane_13 : decode cX5_isLane 13 = .ok (.iconst 0, 1) := by decide +kernel
theorem dX5_isLane_14 : decode cX5_isLane 14 = .ok (.ireturn, 1) := by decide +kernel
theorem dX5_isLane_4 : decode cX5_isLane 4 = .ok (.iload_n 0, 1) := by decide +kernel
theorem dX5_isLane_5 : decode cX5_isLane 5 = .ok (.iconst 2, 1) := by decide +kernel
theorem dX5_isLane_6 : decode cX5_isLane 6 = .ok (.if_icmp .gt 7, 3) := by decide +kernel
theorem dX5_isLane_9 : decode cX5_isLane 9 = .ok (.iconst 1, 1) := by decide +kernel
theorem dX5_isMissing_0 : decode cX5_isMissing 0 = .ok (.aload_n 0, 1) := by decide +kernel
theorem dX5_isMissing_1 : decode cX5_isMissing 1 = .ok (.getfield 16, 3) := by decide +kernel
theorem dX5_isMissing_10 : decode cX5_isMissing 10 = .ok (.iconst 1, 1) := by decide +kernel
theorem dX5_isMissing_11 : decode cX5_isMissing 11 = .ok (.goto 4, 3) := by decide +kernel
theorem dX5_isMissing_14 : decode cX5_isMissing 14 = .ok (.iconst 0, 1) := by decide +kernel
theorem dX5_isMissing_15 : decode cX5_isMissing 15 = .ok (.ireturn, 1) := by decide +kernel
theorem dX5_isMissing_4 : decode cX5_isMissing 4 = .ok (.iload_n 1, 1) := by decide +kernel
theorem dX5_isMissing_5 : decode cX5_isMissing 5 = .ok (.iaload, 1) := by decide +kernel
theorem dX5_isMissing_6 : decode cX5_isMissing 6 = .ok (.iconst (-1), 1) := by decide +kernel
theorem dX5_isMissing_7 : decode cX5_isMissing 7 = .ok (.if_icmp .ne 7, 3) := by decide +kernel
theorem dX5_isRow_0 : decode cX5_isRow 0 = .ok (.iload_n 0, 1) := by decide +kernel
theorem dX5_isRow_1 : decode cX5_isRow 1 = .ok (.ifCond .lt 13, 3) := by decide +kernel
theorem dX5_isRow_10 : decode cX5_isRow 10 = .ok (.iconst 1, 1) := by decide +kernel
theorem dX5_isRow_11 : decode cX5_isRow 11 = .ok (.goto 4, 3) := by decide +kernel
theorem dX5_isRow_14 : decode cX5_isRow 14 = .ok (.iconst 0, 1) := by decide +kernel
theorem dX5_isRow_15 : decode cX5_isRow 15 = .ok (.ireturn, 1) := by decide +kernel
theorem dX5_isRow_4 : decode cX5_isRow 4 = .ok (.iload_n 0, 1) := by decide +kernel
theorem dX5_isRow_5 : decode cX5_isRow 5 = .ok (.bipush 8, 2) := by decide +kernel
theorem dX5_isRow_7 : decode cX5_isRow 7 = .ok (.if_icmp .ge 7, 3) := by decide +kernel
theorem dX5_item_0 : decode cX5_item 0 = .ok (.aload_n 0, 1) := by decide +kernel
theorem dX5_item_1 : decode cX5_item 1 = .ok (.getfield 13, 3) := by decide +kernel
theorem dX5_item_4 : decode cX5_item 4 = .ok (.iload_n 1, 1) := by decide +kernel
theorem dX5_item_5 : decode cX5_item 5 = .ok (.aaload, 1) := by decide +kernel
theorem dX5_item_6 : decode cX5_item 6 = .ok (.iload_n 2, 1) := by decide +kernel
theorem dX5_item_7 : decode cX5_item 7 = .ok (.iaload, 1) := by decide +kernel
theorem dX5_item_8 : decode cX5_item 8 = .ok (.ireturn, 1) := by decide +kernel
theorem dX5_make_0 : decode cX5_make 0 = .ok (.aload_n 0, 1) := by decide +kernel
theorem dX5_make_1 : decode cX5_make 1 = .ok (.getfield 16, 3) := by decide +kernel
theorem dX5_make_11 : decode cX5_make 11 = .ok (.iload_n 1, 1) := by decide +kernel
theorem dX5_make_12 : decode cX5_make 12 = .ok (.iload_n 3, 1) := by decide +kernel
theorem dX5_make_13 : decode cX5_make 13 = .ok (.iastore, 1) := by decide +kernel
theorem dX5_make_14 : decode cX5_make 14 = .ok (.aload_n 0, 1) := by decide +kernel
theorem dX5_make_15 : decode cX5_make 15 = .ok (.getfield 13, 3) := by decide +kernel
theorem dX5_make_18 : decode cX5_make 18 = .ok (.iload_n 1, 1) := by decide +kernel
theorem dX5_make_19 : decode cX5_make 19 = .ok (.aaload, 1) := by decide +kernel
theorem dX5_make_20 : decode cX5_make 20 = .ok (.iconst 0, 1) := by decide +kernel
theorem dX5_make_21 : decode cX5_make 21 = .ok (.invokestatic 23, 3) := by decide +kernel
theorem dX5_make_24 : decode cX5_make 24 = .ok (.return_, 1) := by decide +kernel
theorem dX5_make_4 : decode cX5_make 4 = .ok (.iload_n 1, 1) := by decide +kernel
theorem dX5_make_5 : decode cX5_make 5 = .ok (.iload_n 2, 1) := by decide +kernel
theorem dX5_make_6 : decode cX5_make 6 = .ok (.iastore, 1) := by decide +kernel
theorem dX5_make_7 : decode cX5_make 7 = .ok (.aload_n 0, 1) := by decide +kernel
theorem dX5_make_8 : decode cX5_make 8 = .ok (.getfield 20, 3) := by decide +kernel
theorem dX5_move_0 : decode cX5_move 0 = .ok (.aload_n 0, 1) := by decide +kernel
theorem dX5_move_1 : decode cX5_move 1 = .ok (.getfield 13, 3) := by decide +kernel
theorem dX5_move_11 : decode cX5_move 11 = .ok (.iload_n 3, 1) := by decide +kernel
theorem dX5_move_12 : decode cX5_move 12 = .ok (.aaload, 1) := by decide +kernel
theorem dX5_move_13 : decode cX5_move 13 = .ok (.iload 4, 2) := by decide +kernel
theorem dX5_move_15 : decode cX5_move 15 = .ok (.iload 5, 2) := by decide +kernel
theorem dX5_move_17 : decode cX5_move 17 = .ok (.invokestatic 37, 3) := by decide +kernel
theorem dX5_move_20 : decode cX5_move 20 = .ok (.return_, 1) := by decide +kernel
theorem dX5_move_4 : decode cX5_move 4 = .ok (.iload_n 1, 1) := by decide +kernel
theorem dX5_move_5 : decode cX5_move 5 = .ok (.aaload, 1) := by decide +kernel
theorem dX5_move_6 : decode cX5_move 6 = .ok (.iload_n 2, 1) := by decide +kernel
theorem dX5_move_7 : decode cX5_move 7 = .ok (.aload_n 0, 1) := by decide +kernel
theorem dX5_move_8 : decode cX5_move 8 = .ok (.getfield 13, 3) := by decide +kernel
theorem dX5_present_0 : decode cX5_present 0 = .ok (.iconst 0, 1) := by decide +kernel
theorem dX5_present_1 : decode cX5_present 1 = .ok (.istore_n 1, 1) := by decide +kernel
theorem dX5_present_10 : decode cX5_present 10 = .ok (.iload_n 1, 1) := by decide +kernel
theorem dX5_present_11 : decode cX5_present 11 = .ok (.aload_n 0, 1) := by decide +kernel
theorem dX5_present_12 : decode cX5_present 12 = .ok (.iload_n 2, 1) := by decide +kernel
theorem dX5_present_13 : decode cX5_present 13 = .ok (.invokevirtual 29, 3) := by decide +kernel
theorem dX5_present_16 : decode cX5_present 16 = .ok (.ifCond .eq 7, 3) := by decide +kernel
theorem dX5_present_19 : decode cX5_present 19 = .ok (.iconst 0, 1) := by decide +kernel
theorem dX5_present_2 : decode cX5_present 2 = .ok (.iconst 0, 1) := by decide +kernel
theorem dX5_present_20 : decode cX5_present 20 = .ok (.goto 4, 3) := by decide +kernel
theorem dX5_present_23 : decode cX5_present 23 = .ok (.iconst 1, 1) := by decide +kernel
theorem dX5_present_24 : decode cX5_present 24 = .ok (.iadd, 1) := by decide +kernel
theorem dX5_present_25 : decode cX5_present 25 = .ok (.istore_n 1, 1) := by decide +kernel
theorem dX5_present_26 : decode cX5_present 26 = .ok (.iinc 2 1, 3) := by decide +kernel
theorem dX5_present_29 : decode cX5_present 29 = .ok (.goto (-25), 3) := by decide +kernel
theorem dX5_present_3 : decode cX5_present 3 = .ok (.istore_n 2, 1) := by decide +kernel
theorem dX5_present_32 : decode cX5_present 32 = .ok (.iload_n 1, 1) := by decide +kernel
theorem dX5_present_33 : decode cX5_present 33 = .ok (.ireturn, 1) := by decide +kernel
theorem dX5_present_4 : decode cX5_present 4 = .ok (.iload_n 2, 1) := by decide +kernel
theorem dX5_present_5 : decode cX5_present 5 = .ok (.bipush 8, 2) := by decide +kernel
theorem dX5_present_7 : decode cX5_present 7 = .ok (.if_icmp .ge 25, 3) := by decide +kernel
theorem dX5_put_0 : decode cX5_put 0 = .ok (.iload_n 3, 1) := by decide +kernel
theorem dX5_put_1 : decode cX5_put 1 = .ok (.istore 4, 2) := by decide +kernel
theorem dX5_put_12 : decode cX5_put 12 = .ok (.iload_n 3, 1) := by decide +kernel
theorem dX5_put_13 : decode cX5_put 13 = .ok (.i2b, 1) := by decide +kernel
theorem dX5_put_14 : decode cX5_put 14 = .ok (.istore 4, 2) := by decide +kernel
theorem dX5_put_16 : decode cX5_put 16 = .ok (.goto 17, 3) := by decide +kernel
theorem dX5_put_19 : decode cX5_put 19 = .ok (.aload_n 0, 1) := by decide +kernel
theorem dX5_put_20 : decode cX5_put 20 = .ok (.getfield 16, 3) := by decide +kernel
theorem dX5_put_23 : decode cX5_put 23 = .ok (.iload_n 1, 1) := by decide +kernel
theorem dX5_put_24 : decode cX5_put 24 = .ok (.iaload, 1) := by decide +kernel
theorem dX5_put_25 : decode cX5_put 25 = .ok (.iconst 1, 1) := by decide +kernel
theorem dX5_put_26 : decode cX5_put 26 = .ok (.if_icmp .ne 7, 3) := by decide +kernel
theorem dX5_put_29 : decode cX5_put 29 = .ok (.iload_n 3, 1) := by decide +kernel
theorem dX5_put_3 : decode cX5_put 3 = .ok (.aload_n 0, 1) := by decide +kernel
theorem dX5_put_30 : decode cX5_put 30 = .ok (.i2s, 1) := by decide +kernel
theorem dX5_put_31 : decode cX5_put 31 = .ok (.istore 4, 2) := by decide +kernel
theorem dX5_put_33 : decode cX5_put 33 = .ok (.aload_n 0, 1) := by decide +kernel
theorem dX5_put_34 : decode cX5_put 34 = .ok (.getfield 13, 3) := by decide +kernel
theorem dX5_put_37 : decode cX5_put 37 = .ok (.iload_n 1, 1) := by decide +kernel
theorem dX5_put_38 : decode cX5_put 38 = .ok (.aaload, 1) := by decide +kernel
theorem dX5_put_39 : decode cX5_put 39 = .ok (.iload_n 2, 1) := by decide +kernel
theorem dX5_put_4 : decode cX5_put 4 = .ok (.getfield 16, 3) := by decide +kernel
theorem dX5_put_40 : decode cX5_put 40 = .ok (.iload 4, 2) := by decide +kernel
theorem dX5_put_42 : decode cX5_put 42 = .ok (.iastore, 1) := by decide +kernel
theorem dX5_put_43 : decode cX5_put 43 = .ok (.iload 4, 2) := by decide +kernel
theorem dX5_put_45 : decode cX5_put 45 = .ok (.ireturn, 1) := by decide +kernel
theorem dX5_put_7 : decode cX5_put 7 = .ok (.iload_n 1, 1) := by decide +kernel
theorem dX5_put_8 : decode cX5_put 8 = .ok (.iaload, 1) := by decide +kernel
theorem dX5_put_9 : decode cX5_put 9 = .ok (.ifCond .ne 10, 3) := by decide +kernel
theorem dX5_remove_0 : decode cX5_remove 0 = .ok (.aload_n 0, 1) := by decide +kernel
theorem dX5_remove_1 : decode cX5_remove 1 = .ok (.getfield 16, 3) := by decide +kernel
theorem dX5_remove_11 : decode cX5_remove 11 = .ok (.iload_n 1, 1) := by decide +kernel
theorem dX5_remove_12 : decode cX5_remove 12 = .ok (.iaload, 1) := by decide +kernel
theorem dX5_remove_13 : decode cX5_remove 13 = .ok (.ireturn, 1) := by decide +kernel
theorem dX5_remove_4 : decode cX5_remove 4 = .ok (.iload_n 1, 1) := by decide +kernel
theorem dX5_remove_5 : decode cX5_remove 5 = .ok (.iconst (-1), 1) := by decide +kernel
theorem dX5_remove_6 : decode cX5_remove 6 = .ok (.iastore, 1) := by decide +kernel
theorem dX5_remove_7 : decode cX5_remove 7 = .ok (.aload_n 0, 1) := by decide +kernel
theorem dX5_remove_8 : decode cX5_remove 8 = .ok (.getfield 20, 3) := by decide +kernel
set_option maxRecDepth 20000 in
theorem ggX5_findingOfMove_X5_hasPlaces : GoodIn wsX5_findingOfMove wsX5_hasPlaces := goodIn_r _ [10, 11, 12, 13, 14] (by decide +kernel) (by decide +kernel)
set_option maxRecDepth 20000 in
theorem gX5_findingOfMove_X5_hasPlaces : GoodIn wsX5_findingOfMove (wsV RX5 33 RX5 yX5_hasPlaces wsX5_hasPlaces) := goodIn_app (goodIn_of _ (by decide +kernel)) ggX5_findingOfMove_X5_hasPlaces
set_option maxRecDepth 20000 in
theorem ggX5_findingOfMove_X5_isMissing : GoodIn wsX5_findingOfMove wsX5_isMissing := goodIn_r _ [6, 1, 12, 13, 14] (by decide +kernel) (by decide +kernel)
set_option maxRecDepth 20000 in
theorem gX5_findingOfMove_X5_isMissing : GoodIn wsX5_findingOfMove (wsV RX5 29 RX5 yX5_isMissing wsX5_isMissing) := goodIn_app (goodIn_of _ (by decide +kernel)) ggX5_findingOfMove_X5_isMissing
set_option maxRecDepth 20000 in
theorem ggX5_findingOf_X5_hasPlaces : GoodIn wsX5_findingOf wsX5_hasPlaces := goodIn_r _ [10, 11, 12, 13, 14] (by decide +kernel) (by decide +kernel)
set_option maxRecDepth 20000 in
theorem gX5_findingOf_X5_hasPlaces : GoodIn wsX5_findingOf (wsV RX5 33 RX5 yX5_hasPlaces wsX5_hasPlaces) := goodIn_app (goodIn_of _ (by decide +kernel)) ggX5_findingOf_X5_hasPlaces
set_option maxRecDepth 20000 in
theorem ggX5_findingOf_X5_isMissing : GoodIn wsX5_findingOf wsX5_isMissing := goodIn_r _ [5, 6, 12, 13, 14] (by decide +kernel) (by decide +kernel)
set_option maxRecDepth 20000 in
theorem gX5_findingOf_X5_isMissing : GoodIn wsX5_findingOf (wsV RX5 29 RX5 yX5_isMissing wsX5_isMissing) := goodIn_app (goodIn_of _ (by decide +kernel)) ggX5_findingOf_X5_isMissing
set_option maxRecDepth 20000 in
theorem ggX5_make_J7_fill_53178 : GoodIn wsX5_make wsJ7_fill_53178 := goodIn_r _ [7] (by decide +kernel) (by decide +kernel)
set_option maxRecDepth 20000 in
theorem gX5_make_J7_fill_53178 : GoodIn wsX5_make (va_wsS RX5 23 yJ7_fill_53178 wsJ7_fill_53178) := goodIn_app (goodIn_of _ (by decide +kernel)) ggX5_make_J7_fill_53178
set_option maxRecDepth 20000 in
theorem ggX5_present_X5_isMissing : GoodIn wsX5_present wsX5_isMissing := goodIn_r _ [5, 6, 7, 8, 9] (by decide +kernel) (by decide +kernel)
set_option maxRecDepth 20000 in
theorem gX5_present_X5_isMissing : GoodIn wsX5_present (wsV RX5 29 RX5 yX5_isMissing wsX5_isMissing) := goodIn_app (goodIn_of _ (by decide +kernel)) ggX5_present_X5_isMissing
set_option maxRecDepth 20000 in
theorem i_X5_findingOfMove_X5 : ∀ w ∈ u_ws RX5 TX5 3, w ∈ wsX5_findingOfMove := by decide +kernel
set_option maxRecDepth 20000 in
theorem i_X5_hasPlaces_X5 : ∀ w ∈ u_ws RX5 TX5 3, w ∈ wsX5_hasPlaces := by decide +kernel
set_option maxRecDepth 20000 in
theorem i_X5_isMissing_X5 : ∀ w ∈ u_ws RX5 TX5 3, w ∈ wsX5_isMissing := by decide +kernel
set_option maxRecDepth 20000 in
theorem i_X5_item_X5 : ∀ w ∈ u_ws RX5 TX5 3, w ∈ wsX5_item := by decide +kernel
set_option maxRecDepth 20000 in
theorem i_X5_make_X5 : ∀ w ∈ u_ws RX5 TX5 3, w ∈ wsX5_make := by decide +kernel
set_option maxRecDepth 20000 in
theorem i_X5_move_X5 : ∀ w ∈ u_ws RX5 TX5 3, w ∈ wsX5_move := by decide +kernel
set_option maxRecDepth 20000 in
theorem i_X5_put_X5 : ∀ w ∈ u_ws RX5 TX5 3, w ∈ wsX5_put := by decide +kernel
set_option maxRecDepth 20000 in
theorem i_X5_remove_X5 : ∀ w ∈ u_ws RX5 TX5 3, w ∈ wsX5_remove := by decide +kernel
