theorem an_row_ok {j n : Nat} {b : Int32} (hj : j < 8) (hb : ¬ (b < 0 ∨ 2 < b)) (hn : n ≤ 40) : an_row (nI j) b (nI n) = nI n := by
  have h := okr_ok hj hb hn
  unfold an_row
  rw [if_neg (by rintro (q | q | q); exact nI_nb hj q; exact hb q; exact q h.2.2.1), if_pos h.2.2.2]
theorem an_row_neg {j : Nat} {b n : Int32} (hj : j < 8) (hb : ¬ (b < 0 ∨ 2 < b)) (hn : n ≤ 40) (h0 : ¬ 0 ≤ n) : an_row (nI j) b n = -1000010 - 4 := by
  unfold an_row
  rw [if_neg (by rintro (q | q | q); exact nI_nb hj q; exact hb q; exact q hn), if_neg h0]
  decide
theorem dX4_comesTo_0 : decode cX4_comesTo 0 = .ok (.aload_n 0, 1) := by decide +kernel
theorem dX4_comesTo_1 : decode cX4_comesTo 1 = .ok (.getfield 10, 3) := by decide +kernel
theorem dX4_comesTo_10 : decode cX4_comesTo 10 = .ok (.putfield 23, 3) := by decide +kernel
theorem dX4_comesTo_13 : decode cX4_comesTo 13 = .ok (.aload_n 0, 1) := by decide +kernel
theorem dX4_comesTo_14 : decode cX4_comesTo 14 = .ok (.iconst 1, 1) := by decide +kernel
theorem dX4_comesTo_15 : decode cX4_comesTo 15 = .ok (.iload_n 2, 1) := by decide +kernel
theorem dX4_comesTo_16 : decode cX4_comesTo 16 = .ok (.iconst 4, 1) := by decide +kernel
theorem dX4_comesTo_17 : decode cX4_comesTo 17 = .ok (.invokestatic 27, 3) := by decide +kernel
theorem dX4_comesTo_20 : decode cX4_comesTo 20 = .ok (.invokevirtual 33, 3) := by decide +kernel
theorem dX4_comesTo_23 : decode cX4_comesTo 23 = .ok (.ireturn, 1) := by decide +kernel
theorem dX4_comesTo_4 : decode cX4_comesTo 4 = .ok (.aload_n 1, 1) := by decide +kernel
theorem dX4_comesTo_5 : decode cX4_comesTo 5 = .ok (.invokevirtual 19, 3) := by decide +kernel
theorem dX4_comesTo_8 : decode cX4_comesTo 8 = .ok (.aload_n 0, 1) := by decide +kernel
theorem dX4_comesTo_9 : decode cX4_comesTo 9 = .ok (.iload_n 3, 1) := by decide +kernel
theorem dX7_as_0 : decode cX7_as 0 = .ok (.aload_n 0, 1) := by decide +kernel
theorem dX7_as_1 : decode cX7_as 1 = .ok (.getfield 26, 3) := by decide +kernel
theorem dX7_as_11 : decode cX7_as 11 = .ok (.iload_n 2, 1) := by decide +kernel
theorem dX7_as_12 : decode cX7_as 12 = .ok (.ifCond .lt 8, 3) := by decide +kernel
theorem dX7_as_15 : decode cX7_as 15 = .ok (.iload_n 2, 1) := by decide +kernel
theorem dX7_as_16 : decode cX7_as 16 = .ok (.iconst 5, 1) := by decide +kernel
theorem dX7_as_17 : decode cX7_as 17 = .ok (.if_icmp .le 6, 3) := by decide +kernel
theorem dX7_as_20 : decode cX7_as 20 = .ok (.ldc 72, 2) := by decide +kernel
theorem dX7_as_22 : decode cX7_as 22 = .ok (.ireturn, 1) := by decide +kernel
theorem dX7_as_23 : decode cX7_as 23 = .ok (.aload_n 0, 1) := by decide +kernel
theorem dX7_as_24 : decode cX7_as 24 = .ok (.getfield 26, 3) := by decide +kernel
theorem dX7_as_27 : decode cX7_as 27 = .ok (.getfield 301, 3) := by decide +kernel
theorem dX7_as_30 : decode cX7_as 30 = .ok (.iload_n 1, 1) := by decide +kernel
theorem dX7_as_31 : decode cX7_as 31 = .ok (.iaload, 1) := by decide +kernel
theorem dX7_as_32 : decode cX7_as 32 = .ok (.iload_n 2, 1) := by decide +kernel
theorem dX7_as_33 : decode cX7_as 33 = .ok (.invokestatic 304, 3) := by decide +kernel
theorem dX7_as_36 : decode cX7_as 36 = .ok (.ifCond .eq 11, 3) := by decide +kernel
theorem dX7_as_39 : decode cX7_as 39 = .ok (.aload_n 0, 1) := by decide +kernel
theorem dX7_as_4 : decode cX7_as 4 = .ok (.iload_n 1, 1) := by decide +kernel
theorem dX7_as_40 : decode cX7_as 40 = .ok (.iload_n 1, 1) := by decide +kernel
theorem dX7_as_41 : decode cX7_as 41 = .ok (.invokevirtual 81, 3) := by decide +kernel
theorem dX7_as_44 : decode cX7_as 44 = .ok (.goto 8, 3) := by decide +kernel
theorem dX7_as_47 : decode cX7_as 47 = .ok (.aload_n 0, 1) := by decide +kernel
theorem dX7_as_48 : decode cX7_as 48 = .ok (.iconst 3, 1) := by decide +kernel
theorem dX7_as_49 : decode cX7_as 49 = .ok (.invokevirtual 73, 3) := by decide +kernel
theorem dX7_as_5 : decode cX7_as 5 = .ok (.invokevirtual 173, 3) := by decide +kernel
theorem dX7_as_52 : decode cX7_as 52 = .ok (.ireturn, 1) := by decide +kernel
theorem dX7_as_8 : decode cX7_as 8 = .ok (.ifCond .eq 12, 3) := by decide +kernel
theorem dX7_ask_0 : decode cX7_ask 0 = .ok (.aload_n 0, 1) := by decide +kernel
theorem dX7_ask_1 : decode cX7_ask 1 = .ok (.getfield 26, 3) := by decide +kernel
theorem dX7_ask_11 : decode cX7_ask 11 = .ok (.iload_n 2, 1) := by decide +kernel
theorem dX7_ask_12 : decode cX7_ask 12 = .ok (.invokestatic 307, 3) := by decide +kernel
theorem dX7_ask_15 : decode cX7_ask 15 = .ok (.ifCond .ne 6, 3) := by decide +kernel
theorem dX7_ask_18 : decode cX7_ask 18 = .ok (.ldc 72, 2) := by decide +kernel
theorem dX7_ask_20 : decode cX7_ask 20 = .ok (.ireturn, 1) := by decide +kernel
theorem dX7_ask_21 : decode cX7_ask 21 = .ok (.aload_n 0, 1) := by decide +kernel
theorem dX7_ask_22 : decode cX7_ask 22 = .ok (.getfield 61, 3) := by decide +kernel
theorem dX7_ask_25 : decode cX7_ask 25 = .ok (.aload_n 0, 1) := by decide +kernel
theorem dX7_ask_26 : decode cX7_ask 26 = .ok (.getfield 26, 3) := by decide +kernel
theorem dX7_ask_29 : decode cX7_ask 29 = .ok (.iload_n 1, 1) := by decide +kernel
theorem dX7_ask_30 : decode cX7_ask 30 = .ok (.iload_n 2, 1) := by decide +kernel
theorem dX7_ask_31 : decode cX7_ask 31 = .ok (.invokevirtual 310, 3) := by decide +kernel
theorem dX7_ask_34 : decode cX7_ask 34 = .ok (.ireturn, 1) := by decide +kernel
theorem dX7_ask_4 : decode cX7_ask 4 = .ok (.iload_n 1, 1) := by decide +kernel
theorem dX7_ask_5 : decode cX7_ask 5 = .ok (.invokevirtual 173, 3) := by decide +kernel
theorem dX7_ask_8 : decode cX7_ask 8 = .ok (.ifCond .eq 10, 3) := by decide +kernel
theorem dX7_byTurns_0 : decode cX7_byTurns 0 = .ok (.aload_n 0, 1) := by decide +kernel
theorem dX7_byTurns_1 : decode cX7_byTurns 1 = .ok (.getfield 26, 3) := by decide +kernel
theorem dX7_byTurns_10 : decode cX7_byTurns 10 = .ok (.ldc 141, 2) := by decide +kernel
theorem dX7_byTurns_12 : decode cX7_byTurns 12 = .ok (.ireturn, 1) := by decide +kernel
theorem dX7_byTurns_13 : decode cX7_byTurns 13 = .ok (.iload_n 1, 1) := by decide +kernel
theorem dX7_byTurns_14 : decode cX7_byTurns 14 = .ok (.ifCond .lt 19, 3) := by decide +kernel
theorem dX7_byTurns_17 : decode cX7_byTurns 17 = .ok (.iload_n 1, 1) := by decide +kernel
theorem dX7_byTurns_18 : decode cX7_byTurns 18 = .ok (.iconst 4, 1) := by decide +kernel
theorem dX7_byTurns_19 : decode cX7_byTurns 19 = .ok (.if_icmp .gt 14, 3) := by decide +kernel
theorem dX7_byTurns_22 : decode cX7_byTurns 22 = .ok (.iload_n 2, 1) := by decide +kernel
theorem dX7_byTurns_23 : decode cX7_byTurns 23 = .ok (.iconst 1, 1) := by decide +kernel
theorem dX7_byTurns_24 : decode cX7_byTurns 24 = .ok (.if_icmp .lt 9, 3) := by decide +kernel
theorem dX7_byTurns_27 : decode cX7_byTurns 27 = .ok (.iload_n 2, 1) := by decide +kernel
theorem dX7_byTurns_28 : decode cX7_byTurns 28 = .ok (.bipush 20, 2) := by decide +kernel
theorem dX7_byTurns_30 : decode cX7_byTurns 30 = .ok (.if_icmp .le 6, 3) := by decide +kernel
theorem dX7_byTurns_33 : decode cX7_byTurns 33 = .ok (.ldc 72, 2) := by decide +kernel
theorem dX7_byTurns_35 : decode cX7_byTurns 35 = .ok (.ireturn, 1) := by decide +kernel
theorem dX7_byTurns_36 : decode cX7_byTurns 36 = .ok (.aload_n 0, 1) := by decide +kernel
theorem dX7_byTurns_37 : decode cX7_byTurns 37 = .ok (.getfield 47, 3) := by decide +kernel
theorem dX7_byTurns_4 : decode cX7_byTurns 4 = .ok (.invokevirtual 145, 3) := by decide +kernel
theorem dX7_byTurns_40 : decode cX7_byTurns 40 = .ok (.aload_n 0, 1) := by decide +kernel
theorem dX7_byTurns_41 : decode cX7_byTurns 41 = .ok (.getfield 26, 3) := by decide +kernel
theorem dX7_byTurns_44 : decode cX7_byTurns 44 = .ok (.iload_n 1, 1) := by decide +kernel
theorem dX7_byTurns_45 : decode cX7_byTurns 45 = .ok (.iload_n 2, 1) := by decide +kernel
theorem dX7_byTurns_46 : decode cX7_byTurns 46 = .ok (.invokevirtual 243, 3) := by decide +kernel
theorem dX7_byTurns_49 : decode cX7_byTurns 49 = .ok (.ireturn, 1) := by decide +kernel
theorem dX7_byTurns_7 : decode cX7_byTurns 7 = .ok (.ifCond .ne 6, 3) := by decide +kernel
theorem dX7_caps_0 : decode cX7_caps 0 = .ok (.aload_n 0, 1) := by decide +kernel
theorem dX7_caps_1 : decode cX7_caps 1 = .ok (.getfield 26, 3) := by decide +kernel
theorem dX7_caps_10 : decode cX7_caps 10 = .ok (.ldc 141, 2) := by decide +kernel
theorem dX7_caps_12 : decode cX7_caps 12 = .ok (.ireturn, 1) := by decide +kernel
theorem dX7_caps_13 : decode cX7_caps 13 = .ok (.iload_n 1, 1) := by decide +kernel
theorem dX7_caps_14 : decode cX7_caps 14 = .ok (.invokestatic 221, 3) := by decide +kernel
theorem dX7_caps_17 : decode cX7_caps 17 = .ok (.ifCond .eq 9, 3) := by decide +kernel
theorem dX7_caps_20 : decode cX7_caps 20 = .ok (.iload_n 2, 1) := by decide +kernel
theorem dX7_caps_21 : decode cX7_caps 21 = .ok (.bipush (-2), 2) := by decide +kernel
theorem dX7_caps_23 : decode cX7_caps 23 = .ok (.if_icmp .ge 6, 3) := by decide +kernel
theorem dX7_caps_26 : decode cX7_caps 26 = .ok (.ldc 72, 2) := by decide +kernel
theorem dX7_caps_28 : decode cX7_caps 28 = .ok (.ireturn, 1) := by decide +kernel
theorem dX7_caps_29 : decode cX7_caps 29 = .ok (.iload_n 2, 1) := by decide +kernel
theorem dX7_caps_30 : decode cX7_caps 30 = .ok (.iload_n 1, 1) := by decide +kernel
theorem dX7_caps_31 : decode cX7_caps 31 = .ok (.if_icmp .lt 6, 3) := by decide +kernel
theorem dX7_caps_34 : decode cX7_caps 34 = .ok (.ldc 220, 2) := by decide +kernel
theorem dX7_caps_36 : decode cX7_caps 36 = .ok (.ireturn, 1) := by decide +kernel
theorem dX7_caps_37 : decode cX7_caps 37 = .ok (.aload_n 0, 1) := by decide +kernel
theorem dX7_caps_38 : decode cX7_caps 38 = .ok (.getfield 54, 3) := by decide +kernel
theorem dX7_caps_4 : decode cX7_caps 4 = .ok (.invokevirtual 145, 3) := by decide +kernel
theorem dX7_caps_41 : decode cX7_caps 41 = .ok (.aload_n 0, 1) := by decide +kernel
theorem dX7_caps_42 : decode cX7_caps 42 = .ok (.getfield 26, 3) := by decide +kernel
theorem dX7_caps_45 : decode cX7_caps 45 = .ok (.iload_n 1, 1) := by decide +kernel
theorem dX7_caps_46 : decode cX7_caps 46 = .ok (.iconst (-1), 1) := by decide +kernel
theorem dX7_caps_47 : decode cX7_caps 47 = .ok (.invokevirtual 224, 3) := by decide +kernel
theorem dX7_caps_50 : decode cX7_caps 50 = .ok (.iload_n 2, 1) := by decide +kernel
theorem dX7_caps_51 : decode cX7_caps 51 = .ok (.iconst (-1), 1) := by decide +kernel
theorem dX7_caps_52 : decode cX7_caps 52 = .ok (.if_icmp .ne 11, 3) := by decide +kernel
theorem dX7_caps_55 : decode cX7_caps 55 = .ok (.aload_n 0, 1) := by decide +kernel
theorem dX7_caps_56 : decode cX7_caps 56 = .ok (.getfield 54, 3) := by decide +kernel
theorem dX7_caps_59 : decode cX7_caps 59 = .ok (.getfield 228, 3) := by decide +kernel
theorem dX7_caps_62 : decode cX7_caps 62 = .ok (.ireturn, 1) := by decide +kernel
theorem dX7_caps_63 : decode cX7_caps 63 = .ok (.iload_n 2, 1) := by decide +kernel
theorem dX7_caps_64 : decode cX7_caps 64 = .ok (.bipush (-2), 2) := by decide +kernel
theorem dX7_caps_66 : decode cX7_caps 66 = .ok (.if_icmp .ne 13, 3) := by decide +kernel
theorem dX7_caps_69 : decode cX7_caps 69 = .ok (.aload_n 0, 1) := by decide +kernel
theorem dX7_caps_7 : decode cX7_caps 7 = .ok (.ifCond .ne 6, 3) := by decide +kernel
theorem dX7_caps_70 : decode cX7_caps 70 = .ok (.getfield 54, 3) := by decide +kernel
theorem dX7_caps_73 : decode cX7_caps 73 = .ok (.getfield 231, 3) := by decide +kernel
theorem dX7_caps_76 : decode cX7_caps 76 = .ok (.goto 11, 3) := by decide +kernel
theorem dX7_caps_79 : decode cX7_caps 79 = .ok (.aload_n 0, 1) := by decide +kernel
theorem dX7_caps_80 : decode cX7_caps 80 = .ok (.getfield 54, 3) := by decide +kernel
theorem dX7_caps_83 : decode cX7_caps 83 = .ok (.iload_n 2, 1) := by decide +kernel
theorem dX7_caps_84 : decode cX7_caps 84 = .ok (.invokevirtual 234, 3) := by decide +kernel
theorem dX7_caps_87 : decode cX7_caps 87 = .ok (.ireturn, 1) := by decide +kernel
theorem dX7_copy_0 : decode cX7_copy 0 = .ok (.iload_n 1, 1) := by decide +kernel
theorem dX7_copy_1 : decode cX7_copy 1 = .ok (.invokestatic 65, 3) := by decide +kernel
theorem dX7_copy_11 : decode cX7_copy 11 = .ok (.ifCond .ne 6, 3) := by decide +kernel
theorem dX7_copy_14 : decode cX7_copy 14 = .ok (.ldc 72, 2) := by decide +kernel
theorem dX7_copy_16 : decode cX7_copy 16 = .ok (.ireturn, 1) := by decide +kernel
theorem dX7_copy_17 : decode cX7_copy 17 = .ok (.aload_n 0, 1) := by decide +kernel
theorem dX7_copy_18 : decode cX7_copy 18 = .ok (.getfield 10, 3) := by decide +kernel
theorem dX7_copy_21 : decode cX7_copy 21 = .ok (.iload_n 1, 1) := by decide +kernel
theorem dX7_copy_22 : decode cX7_copy 22 = .ok (.iload_n 2, 1) := by decide +kernel
theorem dX7_copy_23 : decode cX7_copy 23 = .ok (.iload_n 3, 1) := by decide +kernel
theorem dX7_copy_24 : decode cX7_copy 24 = .ok (.iload 4, 2) := by decide +kernel
theorem dX7_copy_26 : decode cX7_copy 26 = .ok (.iload 5, 2) := by decide +kernel
theorem dX7_copy_28 : decode cX7_copy 28 = .ok (.invokevirtual 91, 3) := by decide +kernel
theorem dX7_copy_31 : decode cX7_copy 31 = .ok (.istore 6, 2) := by decide +kernel
theorem dX7_copy_33 : decode cX7_copy 33 = .ok (.iload 6, 2) := by decide +kernel
theorem dX7_copy_35 : decode cX7_copy 35 = .ok (.ifCond .eq 10, 3) := by decide +kernel
theorem dX7_copy_38 : decode cX7_copy 38 = .ok (.aload_n 0, 1) := by decide +kernel
theorem dX7_copy_39 : decode cX7_copy 39 = .ok (.iload 6, 2) := by decide +kernel
theorem dX7_copy_4 : decode cX7_copy 4 = .ok (.ifCond .eq 10, 3) := by decide +kernel
theorem dX7_copy_41 : decode cX7_copy 41 = .ok (.invokevirtual 73, 3) := by decide +kernel
theorem dX7_copy_44 : decode cX7_copy 44 = .ok (.ireturn, 1) := by decide +kernel
theorem dX7_copy_45 : decode cX7_copy 45 = .ok (.aload_n 0, 1) := by decide +kernel
theorem dX7_copy_46 : decode cX7_copy 46 = .ok (.getfield 10, 3) := by decide +kernel
theorem dX7_copy_49 : decode cX7_copy 49 = .ok (.iload_n 1, 1) := by decide +kernel
theorem dX7_copy_50 : decode cX7_copy 50 = .ok (.iload_n 2, 1) := by decide +kernel
theorem dX7_copy_51 : decode cX7_copy 51 = .ok (.iload_n 3, 1) := by decide +kernel
theorem dX7_copy_52 : decode cX7_copy 52 = .ok (.iload 4, 2) := by decide +kernel
theorem dX7_copy_54 : decode cX7_copy 54 = .ok (.iload 5, 2) := by decide +kernel
theorem dX7_copy_56 : decode cX7_copy 56 = .ok (.invokevirtual 95, 3) := by decide +kernel
theorem dX7_copy_59 : decode cX7_copy 59 = .ok (.aload_n 0, 1) := by decide +kernel
theorem dX7_copy_60 : decode cX7_copy 60 = .ok (.iload 5, 2) := by decide +kernel
theorem dX7_copy_62 : decode cX7_copy 62 = .ok (.invokevirtual 81, 3) := by decide +kernel
theorem dX7_copy_65 : decode cX7_copy 65 = .ok (.ireturn, 1) := by decide +kernel
theorem dX7_copy_7 : decode cX7_copy 7 = .ok (.iload_n 3, 1) := by decide +kernel
theorem dX7_copy_8 : decode cX7_copy 8 = .ok (.invokestatic 65, 3) := by decide +kernel
theorem dX7_drop_0 : decode cX7_drop 0 = .ok (.iload_n 1, 1) := by decide +kernel
theorem dX7_drop_1 : decode cX7_drop 1 = .ok (.invokestatic 65, 3) := by decide +kernel
theorem dX7_drop_10 : decode cX7_drop 10 = .ok (.aload_n 0, 1) := by decide +kernel
theorem dX7_drop_11 : decode cX7_drop 11 = .ok (.getfield 10, 3) := by decide +kernel
theorem dX7_drop_14 : decode cX7_drop 14 = .ok (.iload_n 1, 1) := by decide +kernel
theorem dX7_drop_15 : decode cX7_drop 15 = .ok (.invokevirtual 99, 3) := by decide +kernel
theorem dX7_drop_18 : decode cX7_drop 18 = .ok (.ifCond .eq 9, 3) := by decide +kernel
theorem dX7_drop_21 : decode cX7_drop 21 = .ok (.aload_n 0, 1) := by decide +kernel
theorem dX7_drop_22 : decode cX7_drop 22 = .ok (.iconst 1, 1) := by decide +kernel
theorem dX7_drop_23 : decode cX7_drop 23 = .ok (.invokevirtual 73, 3) := by decide +kernel
theorem dX7_drop_26 : decode cX7_drop 26 = .ok (.ireturn, 1) := by decide +kernel
theorem dX7_drop_27 : decode cX7_drop 27 = .ok (.aload_n 0, 1) := by decide +kernel
theorem dX7_drop_28 : decode cX7_drop 28 = .ok (.aload_n 0, 1) := by decide +kernel
theorem dX7_drop_29 : decode cX7_drop 29 = .ok (.getfield 10, 3) := by decide +kernel
theorem dX7_drop_32 : decode cX7_drop 32 = .ok (.iload_n 1, 1) := by decide +kernel
theorem dX7_drop_33 : decode cX7_drop 33 = .ok (.invokevirtual 102, 3) := by decide +kernel
theorem dX7_drop_36 : decode cX7_drop 36 = .ok (.invokevirtual 81, 3) := by decide +kernel
theorem dX7_drop_39 : decode cX7_drop 39 = .ok (.ireturn, 1) := by decide +kernel
theorem dX7_drop_4 : decode cX7_drop 4 = .ok (.ifCond .ne 6, 3) := by decide +kernel
theorem dX7_drop_7 : decode cX7_drop 7 = .ok (.ldc 72, 2) := by decide +kernel
theorem dX7_drop_9 : decode cX7_drop 9 = .ok (.ireturn, 1) := by decide +kernel
theorem dX7_feed_0 : decode cX7_feed 0 = .ok (.iload_n 1, 1) := by decide +kernel
theorem dX7_feed_1 : decode cX7_feed 1 = .ok (.ifCond .lt 10, 3) := by decide +kernel
theorem dX7_feed_11 : decode cX7_feed 11 = .ok (.ldc 72, 2) := by decide +kernel
theorem dX7_feed_13 : decode cX7_feed 13 = .ok (.ireturn, 1) := by decide +kernel
theorem dX7_feed_14 : decode cX7_feed 14 = .ok (.aload_n 0, 1) := by decide +kernel
theorem dX7_feed_15 : decode cX7_feed 15 = .ok (.getfield 19, 3) := by decide +kernel
theorem dX7_feed_18 : decode cX7_feed 18 = .ok (.invokevirtual 105, 3) := by decide +kernel
theorem dX7_feed_21 : decode cX7_feed 21 = .ok (.ifCond .eq 6, 3) := by decide +kernel
theorem dX7_feed_24 : decode cX7_feed 24 = .ok (.ldc 109, 2) := by decide +kernel
theorem dX7_feed_26 : decode cX7_feed 26 = .ok (.ireturn, 1) := by decide +kernel
theorem dX7_feed_27 : decode cX7_feed 27 = .ok (.aload_n 0, 1) := by decide +kernel
theorem dX7_feed_28 : decode cX7_feed 28 = .ok (.getfield 19, 3) := by decide +kernel
theorem dX7_feed_31 : decode cX7_feed 31 = .ok (.iload_n 1, 1) := by decide +kernel
theorem dX7_feed_32 : decode cX7_feed 32 = .ok (.invokevirtual 110, 3) := by decide +kernel
theorem dX7_feed_35 : decode cX7_feed 35 = .ok (.ireturn, 1) := by decide +kernel
theorem dX7_feed_4 : decode cX7_feed 4 = .ok (.iload_n 1, 1) := by decide +kernel
theorem dX7_feed_5 : decode cX7_feed 5 = .ok (.sipush 255, 3) := by decide +kernel
theorem dX7_feed_8 : decode cX7_feed 8 = .ok (.if_icmp .le 6, 3) := by decide +kernel
theorem dX7_had_0 : decode cX7_had 0 = .ok (.aload_n 0, 1) := by decide +kernel
theorem dX7_had_1 : decode cX7_had 1 = .ok (.getfield 26, 3) := by decide +kernel
theorem dX7_had_10 : decode cX7_had 10 = .ok (.ldc 141, 2) := by decide +kernel
theorem dX7_had_12 : decode cX7_had 12 = .ok (.ireturn, 1) := by decide +kernel
theorem dX7_had_13 : decode cX7_had 13 = .ok (.iload_n 1, 1) := by decide +kernel
theorem dX7_had_14 : decode cX7_had 14 = .ok (.ifCond .lt 23, 3) := by decide +kernel
theorem dX7_had_17 : decode cX7_had 17 = .ok (.iload_n 1, 1) := by decide +kernel
theorem dX7_had_18 : decode cX7_had 18 = .ok (.iconst 1, 1) := by decide +kernel
theorem dX7_had_19 : decode cX7_had 19 = .ok (.aload_n 0, 1) := by decide +kernel
theorem dX7_had_20 : decode cX7_had 20 = .ok (.getfield 26, 3) := by decide +kernel
theorem dX7_had_23 : decode cX7_had 23 = .ok (.getfield 135, 3) := by decide +kernel
theorem dX7_had_26 : decode cX7_had 26 = .ok (.ishl, 1) := by decide +kernel
theorem dX7_had_27 : decode cX7_had 27 = .ok (.if_icmp .ge 10, 3) := by decide +kernel
theorem dX7_had_30 : decode cX7_had 30 = .ok (.iload_n 2, 1) := by decide +kernel
theorem dX7_had_31 : decode cX7_had 31 = .ok (.invokestatic 221, 3) := by decide +kernel
theorem dX7_had_34 : decode cX7_had 34 = .ok (.ifCond .ne 6, 3) := by decide +kernel
theorem dX7_had_37 : decode cX7_had 37 = .ok (.ldc 72, 2) := by decide +kernel
theorem dX7_had_39 : decode cX7_had 39 = .ok (.ireturn, 1) := by decide +kernel
theorem dX7_had_4 : decode cX7_had 4 = .ok (.invokevirtual 145, 3) := by decide +kernel
theorem dX7_had_40 : decode cX7_had 40 = .ok (.aload_n 0, 1) := by decide +kernel
theorem dX7_had_41 : decode cX7_had 41 = .ok (.getfield 54, 3) := by decide +kernel
theorem dX7_had_44 : decode cX7_had 44 = .ok (.aload_n 0, 1) := by decide +kernel
theorem dX7_had_45 : decode cX7_had 45 = .ok (.getfield 26, 3) := by decide +kernel
theorem dX7_had_48 : decode cX7_had 48 = .ok (.iload_n 2, 1) := by decide +kernel
theorem dX7_had_49 : decode cX7_had 49 = .ok (.iload_n 1, 1) := by decide +kernel
theorem dX7_had_50 : decode cX7_had 50 = .ok (.invokevirtual 224, 3) := by decide +kernel
theorem dX7_had_53 : decode cX7_had 53 = .ok (.aload_n 0, 1) := by decide +kernel
theorem dX7_had_54 : decode cX7_had 54 = .ok (.getfield 54, 3) := by decide +kernel
theorem dX7_had_57 : decode cX7_had 57 = .ok (.getfield 228, 3) := by decide +kernel
theorem dX7_had_60 : decode cX7_had 60 = .ok (.ifCond .ne 8, 3) := by decide +kernel
theorem dX7_had_63 : decode cX7_had 63 = .ok (.ldc 220, 2) := by decide +kernel
theorem dX7_had_65 : decode cX7_had 65 = .ok (.goto 10, 3) := by decide +kernel
theorem dX7_had_68 : decode cX7_had 68 = .ok (.aload_n 0, 1) := by decide +kernel
theorem dX7_had_69 : decode cX7_had 69 = .ok (.getfield 54, 3) := by decide +kernel
theorem dX7_had_7 : decode cX7_had 7 = .ok (.ifCond .ne 6, 3) := by decide +kernel
theorem dX7_had_72 : decode cX7_had 72 = .ok (.getfield 231, 3) := by decide +kernel
theorem dX7_had_75 : decode cX7_had 75 = .ok (.ireturn, 1) := by decide +kernel
theorem dX7_level_0 : decode cX7_level 0 = .ok (.aload_n 0, 1) := by decide +kernel
theorem dX7_level_1 : decode cX7_level 1 = .ok (.getfield 19, 3) := by decide +kernel
theorem dX7_level_12 : decode cX7_level 12 = .ok (.aload_n 0, 1) := by decide +kernel
theorem dX7_level_13 : decode cX7_level 13 = .ok (.iload_n 1, 1) := by decide +kernel
theorem dX7_level_14 : decode cX7_level 14 = .ok (.putfield 117, 3) := by decide +kernel
theorem dX7_level_17 : decode cX7_level 17 = .ok (.ldc 121, 2) := by decide +kernel
theorem dX7_level_19 : decode cX7_level 19 = .ok (.aload_n 0, 1) := by decide +kernel
theorem dX7_level_20 : decode cX7_level 20 = .ok (.getfield 19, 3) := by decide +kernel
theorem dX7_level_23 : decode cX7_level 23 = .ok (.getfield 122, 3) := by decide +kernel
theorem dX7_level_26 : decode cX7_level 26 = .ok (.isub, 1) := by decide +kernel
theorem dX7_level_27 : decode cX7_level 27 = .ok (.ireturn, 1) := by decide +kernel
theorem dX7_level_28 : decode cX7_level 28 = .ok (.aload_n 0, 1) := by decide +kernel
theorem dX7_level_29 : decode cX7_level 29 = .ok (.getfield 26, 3) := by decide +kernel
theorem dX7_level_32 : decode cX7_level 32 = .ok (.aload_n 0, 1) := by decide +kernel
theorem dX7_level_33 : decode cX7_level 33 = .ok (.getfield 19, 3) := by decide +kernel
theorem dX7_level_36 : decode cX7_level 36 = .ok (.getfield 125, 3) := by decide +kernel
theorem dX7_level_39 : decode cX7_level 39 = .ok (.invokevirtual 128, 3) := by decide +kernel
theorem dX7_level_4 : decode cX7_level 4 = .ok (.invokevirtual 113, 3) := by decide +kernel
theorem dX7_level_42 : decode cX7_level 42 = .ok (.aload_n 0, 1) := by decide +kernel
theorem dX7_level_43 : decode cX7_level 43 = .ok (.getfield 33, 3) := by decide +kernel
theorem dX7_level_46 : decode cX7_level 46 = .ok (.invokevirtual 132, 3) := by decide +kernel
theorem dX7_level_49 : decode cX7_level 49 = .ok (.aload_n 0, 1) := by decide +kernel
theorem dX7_level_50 : decode cX7_level 50 = .ok (.getfield 26, 3) := by decide +kernel
theorem dX7_level_53 : decode cX7_level 53 = .ok (.getfield 135, 3) := by decide +kernel
theorem dX7_level_56 : decode cX7_level 56 = .ok (.ireturn, 1) := by decide +kernel
theorem dX7_level_7 : decode cX7_level 7 = .ok (.istore_n 1, 1) := by decide +kernel
theorem dX7_level_8 : decode cX7_level 8 = .ok (.iload_n 1, 1) := by decide +kernel
theorem dX7_level_9 : decode cX7_level 9 = .ok (.ifCond .eq 19, 3) := by decide +kernel
theorem dX7_row_0 : decode cX7_row 0 = .ok (.iload_n 1, 1) := by decide +kernel
theorem dX7_row_1 : decode cX7_row 1 = .ok (.invokestatic 65, 3) := by decide +kernel
theorem dX7_row_11 : decode cX7_row 11 = .ok (.ifCond .eq 9, 3) := by decide +kernel
theorem dX7_row_14 : decode cX7_row 14 = .ok (.iload_n 3, 1) := by decide +kernel
theorem dX7_row_15 : decode cX7_row 15 = .ok (.bipush 40, 2) := by decide +kernel
theorem dX7_row_17 : decode cX7_row 17 = .ok (.if_icmp .le 6, 3) := by decide +kernel
theorem dX7_row_20 : decode cX7_row 20 = .ok (.ldc 72, 2) := by decide +kernel
theorem dX7_row_22 : decode cX7_row 22 = .ok (.ireturn, 1) := by decide +kernel
theorem dX7_row_23 : decode cX7_row 23 = .ok (.iload_n 3, 1) := by decide +kernel
theorem dX7_row_24 : decode cX7_row 24 = .ok (.ifCond .ge 9, 3) := by decide +kernel
theorem dX7_row_27 : decode cX7_row 27 = .ok (.aload_n 0, 1) := by decide +kernel
theorem dX7_row_28 : decode cX7_row 28 = .ok (.iconst 4, 1) := by decide +kernel
theorem dX7_row_29 : decode cX7_row 29 = .ok (.invokevirtual 73, 3) := by decide +kernel
theorem dX7_row_32 : decode cX7_row 32 = .ok (.ireturn, 1) := by decide +kernel
theorem dX7_row_33 : decode cX7_row 33 = .ok (.aload_n 0, 1) := by decide +kernel
theorem dX7_row_34 : decode cX7_row 34 = .ok (.getfield 10, 3) := by decide +kernel
theorem dX7_row_37 : decode cX7_row 37 = .ok (.iload_n 1, 1) := by decide +kernel
theorem dX7_row_38 : decode cX7_row 38 = .ok (.iload_n 2, 1) := by decide +kernel
theorem dX7_row_39 : decode cX7_row 39 = .ok (.iload_n 3, 1) := by decide +kernel
theorem dX7_row_4 : decode cX7_row 4 = .ok (.ifCond .eq 16, 3) := by decide +kernel
theorem dX7_row_40 : decode cX7_row 40 = .ok (.invokevirtual 77, 3) := by decide +kernel
theorem dX7_row_43 : decode cX7_row 43 = .ok (.aload_n 0, 1) := by decide +kernel
theorem dX7_row_44 : decode cX7_row 44 = .ok (.iload_n 3, 1) := by decide +kernel
theorem dX7_row_45 : decode cX7_row 45 = .ok (.invokevirtual 81, 3) := by decide +kernel
theorem dX7_row_48 : decode cX7_row 48 = .ok (.ireturn, 1) := by decide +kernel
theorem dX7_row_7 : decode cX7_row 7 = .ok (.iload_n 2, 1) := by decide +kernel
theorem dX7_row_8 : decode cX7_row 8 = .ok (.invokestatic 69, 3) := by decide +kernel
theorem dX7_set_0 : decode cX7_set 0 = .ok (.iload_n 1, 1) := by decide +kernel
theorem dX7_set_1 : decode cX7_set 1 = .ok (.invokestatic 65, 3) := by decide +kernel
theorem dX7_set_10 : decode cX7_set 10 = .ok (.aload_n 0, 1) := by decide +kernel
theorem dX7_set_11 : decode cX7_set 11 = .ok (.getfield 10, 3) := by decide +kernel
theorem dX7_set_14 : decode cX7_set 14 = .ok (.iload_n 1, 1) := by decide +kernel
theorem dX7_set_15 : decode cX7_set 15 = .ok (.iload_n 2, 1) := by decide +kernel
theorem dX7_set_16 : decode cX7_set 16 = .ok (.iconst 1, 1) := by decide +kernel
theorem dX7_set_17 : decode cX7_set 17 = .ok (.invokevirtual 84, 3) := by decide +kernel
theorem dX7_set_20 : decode cX7_set 20 = .ok (.istore 4, 2) := by decide +kernel
theorem dX7_set_22 : decode cX7_set 22 = .ok (.iload 4, 2) := by decide +kernel
theorem dX7_set_24 : decode cX7_set 24 = .ok (.ifCond .eq 10, 3) := by decide +kernel
theorem dX7_set_27 : decode cX7_set 27 = .ok (.aload_n 0, 1) := by decide +kernel
theorem dX7_set_28 : decode cX7_set 28 = .ok (.iload 4, 2) := by decide +kernel
theorem dX7_set_30 : decode cX7_set 30 = .ok (.invokevirtual 73, 3) := by decide +kernel
theorem dX7_set_33 : decode cX7_set 33 = .ok (.ireturn, 1) := by decide +kernel
theorem dX7_set_34 : decode cX7_set 34 = .ok (.aload_n 0, 1) := by decide +kernel
theorem dX7_set_35 : decode cX7_set 35 = .ok (.aload_n 0, 1) := by decide +kernel
theorem dX7_set_36 : decode cX7_set 36 = .ok (.getfield 10, 3) := by decide +kernel
theorem dX7_set_39 : decode cX7_set 39 = .ok (.iload_n 1, 1) := by decide +kernel
theorem dX7_set_4 : decode cX7_set 4 = .ok (.ifCond .ne 6, 3) := by decide +kernel
theorem dX7_set_40 : decode cX7_set 40 = .ok (.iload_n 2, 1) := by decide +kernel
theorem dX7_set_41 : decode cX7_set 41 = .ok (.iload_n 3, 1) := by decide +kernel
theorem dX7_set_42 : decode cX7_set 42 = .ok (.invokevirtual 88, 3) := by decide +kernel
theorem dX7_set_45 : decode cX7_set 45 = .ok (.invokevirtual 81, 3) := by decide +kernel
theorem dX7_set_48 : decode cX7_set 48 = .ok (.ireturn, 1) := by decide +kernel
theorem dX7_set_7 : decode cX7_set 7 = .ok (.ldc 72, 2) := by decide +kernel
theorem dX7_set_9 : decode cX7_set 9 = .ok (.ireturn, 1) := by decide +kernel
set_option maxRecDepth 20000 in
theorem ggX4_comesTo_X3_becomeLike : GoodIn wsX4_comesTo wsX3_becomeLike := goodIn_r _ [11, 12, 13, 14, 15, 16, 17, 18, 19, 20, 21, 22, 23, 24, 25, 26, 27, 28, 94, 95, 96, 97, 98, 99, 100, 101, 102, 103, 104, 105, 106] (by decide +kernel) (by decide +kernel)
set_option maxRecDepth 20000 in
theorem gX4_comesTo_X3_becomeLike : GoodIn wsX4_comesTo (wsV RX4 19 RX3 yX3_becomeLike wsX3_becomeLike) := goodIn_app (goodIn_of _ (by decide +kernel)) ggX4_comesTo_X3_becomeLike
set_option maxRecDepth 20000 in
theorem ggX4_comesTo_X4_bestFor : GoodIn wsX4_comesTo wsX4_bestFor := goodIn_r _ [33, 34, 1, 2, 35, 36, 5, 37, 3, 4, 6, 7, 8, 9, 10, 11, 12, 13, 14, 15, 16, 17, 18, 19, 20, 21, 22, 23, 24, 25, 26, 27, 28, 38, 39, 40, 41, 42, 43, 44, 45, 46, 47, 48, 49, 50, 51, 52, 53, 54, 55, 56, 57, 58, 59, 60, 61, 62, 63, 64, 65, 66, 67, 68, 69, 70, 71, 72, 73, 74, 75, 76, 77, 78, 29, 30, 31, 32, 79, 80, 81, 82, 83, 84, 85, 86, 87, 88, 89, 90, 91, 92, 93, 94, 95, 96, 97, 98, 99, 100, 101, 102, 103, 104, 105, 106] (by decide +kernel) (by decide +kernel)
set_option maxRecDepth 20000 in
theorem gX4_comesTo_X4_bestFor : GoodIn wsX4_comesTo (wsV RX4 33 RX4 yX4_bestFor wsX4_bestFor) := goodIn_app (goodIn_of _ (by decide +kernel)) ggX4_comesTo_X4_bestFor
set_option maxRecDepth 20000 in
theorem ggX7_as_X3_hasSound : GoodIn wsX7_as wsX3_hasSound := goodIn_r _ [8, 9, 36, 37, 38, 39, 40, 41, 42, 43, 44, 45, 46, 47, 48] (by decide +kernel) (by decide +kernel)
set_option maxRecDepth 20000 in
theorem gX7_as_X3_hasSound : GoodIn wsX7_as (wsV RX7 173 RX3 yX3_hasSound wsX3_hasSound) := goodIn_app (goodIn_of _ (by decide +kernel)) ggX7_as_X3_hasSound
set_option maxRecDepth 20000 in
theorem ggX7_as_X7_found : GoodIn wsX7_as wsX7_found := goodIn_r _ [23, 19, 24, 25, 26, 27, 28, 29, 30, 31, 32, 33, 34, 35] (by decide +kernel) (by decide +kernel)
set_option maxRecDepth 20000 in
theorem gX7_as_X7_found : GoodIn wsX7_as (wsV RX7 73 RX7 yX7_found wsX7_found) := goodIn_app (goodIn_of _ (by decide +kernel)) ggX7_as_X7_found
set_option maxRecDepth 20000 in
theorem ggX7_as_X7_foundNothing : GoodIn wsX7_as wsX7_foundNothing := goodIn_r _ [18, 19, 25, 26, 27, 28, 29, 30, 31, 32, 33, 34, 35] (by decide +kernel) (by decide +kernel)
set_option maxRecDepth 20000 in
theorem gX7_as_X7_foundNothing : GoodIn wsX7_as (wsV RX7 81 RX7 yX7_foundNothing wsX7_foundNothing) := goodIn_app (goodIn_of _ (by decide +kernel)) ggX7_as_X7_foundNothing
set_option maxRecDepth 20000 in
theorem ggX7_as_X7_isOfKind : GoodIn wsX7_as wsX7_isOfKind := goodIn_r _ [13, 14] (by decide +kernel) (by decide +kernel)
set_option maxRecDepth 20000 in
theorem gX7_as_X7_isOfKind : GoodIn wsX7_as (va_wsS RX7 304 yX7_isOfKind wsX7_isOfKind) := goodIn_app (goodIn_of _ (by decide +kernel)) ggX7_as_X7_isOfKind
set_option maxRecDepth 20000 in
theorem ggX7_ask_X1_answer : GoodIn wsX7_ask wsX1_answer := goodIn_r _ [17, 18, 19, 20, 21, 22, 23, 24, 25, 26, 27, 28, 12, 29, 30, 31, 32, 33, 34, 35, 36, 37, 38, 39, 40, 41, 42, 43, 44, 69, 70, 71, 72, 73, 74, 56, 57, 58, 59, 60, 61, 62, 63, 64, 65, 66, 67, 68] (by decide +kernel) (by decide +kernel)
set_option maxRecDepth 20000 in
theorem gX7_ask_X1_answer : GoodIn wsX7_ask (wsV RX7 310 RX1 yX1_answer wsX1_answer) := goodIn_app (goodIn_of _ (by decide +kernel)) ggX7_ask_X1_answer
set_option maxRecDepth 20000 in
theorem ggX7_ask_X1_isAsk : GoodIn wsX7_ask wsX1_isAsk := goodIn_r _ [13] (by decide +kernel) (by decide +kernel)
set_option maxRecDepth 20000 in
theorem gX7_ask_X1_isAsk : GoodIn wsX7_ask (va_wsS RX7 307 yX1_isAsk wsX1_isAsk) := goodIn_app (goodIn_of _ (by decide +kernel)) ggX7_ask_X1_isAsk
set_option maxRecDepth 20000 in
theorem ggX7_ask_X3_hasSound : GoodIn wsX7_ask wsX3_hasSound := goodIn_r _ [8, 9, 56, 57, 58, 59, 60, 61, 62, 63, 64, 65, 66, 67, 68] (by decide +kernel) (by decide +kernel)
set_option maxRecDepth 20000 in
theorem gX7_ask_X3_hasSound : GoodIn wsX7_ask (wsV RX7 173 RX3 yX3_hasSound wsX3_hasSound) := goodIn_app (goodIn_of _ (by decide +kernel)) ggX7_ask_X3_hasSound
set_option maxRecDepth 20000 in
theorem ggX7_byTurns_X3_isTold : GoodIn wsX7_byTurns wsX3_isTold := goodIn_r _ [9, 10, 114, 115, 116, 117, 118, 119, 120, 121, 122, 123, 124, 125, 126] (by decide +kernel) (by decide +kernel)
set_option maxRecDepth 20000 in
theorem gX7_byTurns_X3_isTold : GoodIn wsX7_byTurns (wsV RX7 145 RX3 yX3_isTold wsX3_isTold) := goodIn_app (goodIn_of _ (by decide +kernel)) ggX7_byTurns_X3_isTold
set_option maxRecDepth 20000 in
theorem ggX7_byTurns_X4_comesTo : GoodIn wsX7_byTurns wsX4_comesTo := goodIn_r _ [15, 16, 17, 18, 19, 20, 21, 22, 23, 24, 8, 25, 10, 26, 27, 28, 29, 30, 31, 32, 33, 34, 35, 36, 37, 38, 39, 40, 41, 42, 43, 44, 14, 45, 46, 47, 48, 49, 50, 51, 52, 53, 54, 55, 56, 57, 58, 59, 60, 61, 62, 63, 64, 65, 66, 67, 68, 69, 70, 71, 72, 73, 74, 75, 76, 77, 78, 79, 80, 81, 82, 83, 84, 85, 86, 87, 88, 89, 90, 91, 92, 93, 94, 95, 96, 97, 98, 99, 100, 101, 102, 127, 128, 129, 114, 115, 116, 117, 118, 119, 120, 121, 122, 123, 124, 125, 126] (by decide +kernel) (by decide +kernel)
set_option maxRecDepth 20000 in
theorem gX7_byTurns_X4_comesTo : GoodIn wsX7_byTurns (wsV RX7 243 RX4 yX4_comesTo wsX4_comesTo) := goodIn_app (goodIn_of _ (by decide +kernel)) ggX7_byTurns_X4_comesTo
set_option maxRecDepth 20000 in
theorem ggX7_caps_X2_bestCap : GoodIn wsX7_caps wsX2_bestCap := goodIn_r _ [109, 24, 22, 121, 122, 123, 124, 125, 126] (by decide +kernel) (by decide +kernel)
set_option maxRecDepth 20000 in
theorem gX7_caps_X2_bestCap : GoodIn wsX7_caps (wsV RX7 234 RX2 yX2_bestCap wsX2_bestCap) := goodIn_app (goodIn_of _ (by decide +kernel)) ggX7_caps_X2_bestCap
set_option maxRecDepth 20000 in
theorem ggX7_caps_X2_isLength : GoodIn wsX7_caps wsX2_isLength := goodIn_r _ [17] (by decide +kernel) (by decide +kernel)
set_option maxRecDepth 20000 in
theorem gX7_caps_X2_isLength : GoodIn wsX7_caps (va_wsS RX7 221 yX2_isLength wsX2_isLength) := goodIn_app (goodIn_of _ (by decide +kernel)) ggX7_caps_X2_isLength
set_option maxRecDepth 20000 in
theorem ggX7_caps_X2_search : GoodIn wsX7_caps wsX2_search := goodIn_r _ [21, 22, 23, 24, 25, 26, 27, 28, 29, 30, 11, 31, 13, 32, 33, 34, 35, 36, 37, 38, 39, 40, 41, 42, 43, 44, 45, 46, 47, 48, 49, 50, 16, 51, 52, 53, 54, 55, 56, 57, 58, 59, 60, 61, 62, 63, 64, 65, 66, 67, 68, 69, 70, 71, 72, 73, 74, 75, 76, 77, 78, 79, 80, 81, 82, 83, 84, 85, 86, 87, 88, 89, 90, 91, 92, 93, 94, 95, 96, 97, 98, 99, 100, 101, 102, 103, 104, 105, 121, 122, 123, 124, 125, 126, 127, 128, 129, 130, 131, 132, 133, 134, 135, 136, 137, 138, 139] (by decide +kernel) (by decide +kernel)
set_option maxRecDepth 20000 in
theorem gX7_caps_X2_search : GoodIn wsX7_caps (wsV RX7 224 RX2 yX2_search wsX2_search) := goodIn_app (goodIn_of _ (by decide +kernel)) ggX7_caps_X2_search
set_option maxRecDepth 20000 in
theorem ggX7_caps_X3_isTold : GoodIn wsX7_caps wsX3_isTold := goodIn_r _ [12, 13, 127, 128, 129, 130, 131, 132, 133, 134, 135, 136, 137, 138, 139] (by decide +kernel) (by decide +kernel)
set_option maxRecDepth 20000 in
theorem gX7_caps_X3_isTold : GoodIn wsX7_caps (wsV RX7 145 RX3 yX3_isTold wsX3_isTold) := goodIn_app (goodIn_of _ (by decide +kernel)) ggX7_caps_X3_isTold
set_option maxRecDepth 20000 in
theorem ggX7_copy_X5_findingOfMove : GoodIn wsX7_copy wsX5_findingOfMove := goodIn_r _ [10, 11, 12, 13, 14, 5, 15, 16, 17, 18, 19, 20, 52, 53, 54] (by decide +kernel) (by decide +kernel)
set_option maxRecDepth 20000 in
theorem gX7_copy_X5_findingOfMove : GoodIn wsX7_copy (wsV RX7 91 RX5 yX5_findingOfMove wsX5_findingOfMove) := goodIn_app (goodIn_of _ (by decide +kernel)) ggX7_copy_X5_findingOfMove
set_option maxRecDepth 20000 in
theorem ggX7_copy_X5_isRow : GoodIn wsX7_copy wsX5_isRow := goodIn_r _ [6] (by decide +kernel) (by decide +kernel)
set_option maxRecDepth 20000 in
theorem gX7_copy_X5_isRow : GoodIn wsX7_copy (va_wsS RX7 65 yX5_isRow wsX5_isRow) := goodIn_app (goodIn_of _ (by decide +kernel)) ggX7_copy_X5_isRow
set_option maxRecDepth 20000 in
theorem ggX7_copy_X5_move : GoodIn wsX7_copy wsX5_move := goodIn_r _ [31, 32, 33, 34, 35, 36, 52, 53, 54] (by decide +kernel) (by decide +kernel)
set_option maxRecDepth 20000 in
theorem gX7_copy_X5_move : GoodIn wsX7_copy (wsV RX7 95 RX5 yX5_move wsX5_move) := goodIn_app (goodIn_of _ (by decide +kernel)) ggX7_copy_X5_move
set_option maxRecDepth 20000 in
theorem ggX7_copy_X7_found : GoodIn wsX7_copy wsX7_found := goodIn_r _ [25, 26, 27, 41, 42, 43, 44, 45, 46, 47, 48, 49, 50, 51] (by decide +kernel) (by decide +kernel)
set_option maxRecDepth 20000 in
theorem gX7_copy_X7_found : GoodIn wsX7_copy (wsV RX7 73 RX7 yX7_found wsX7_found) := goodIn_app (goodIn_of _ (by decide +kernel)) ggX7_copy_X7_found
set_option maxRecDepth 20000 in
theorem ggX7_copy_X7_foundNothing : GoodIn wsX7_copy wsX7_foundNothing := goodIn_r _ [40, 26, 41, 42, 43, 44, 45, 46, 47, 48, 49, 50, 51] (by decide +kernel) (by decide +kernel)
set_option maxRecDepth 20000 in
theorem gX7_copy_X7_foundNothing : GoodIn wsX7_copy (wsV RX7 81 RX7 yX7_foundNothing wsX7_foundNothing) := goodIn_app (goodIn_of _ (by decide +kernel)) ggX7_copy_X7_foundNothing
set_option maxRecDepth 20000 in
theorem ggX7_drop_X5_isMissing : GoodIn wsX7_drop wsX5_isMissing := goodIn_r _ [10, 11, 39, 40, 41] (by decide +kernel) (by decide +kernel)
set_option maxRecDepth 20000 in
theorem gX7_drop_X5_isMissing : GoodIn wsX7_drop (wsV RX7 99 RX5 yX5_isMissing wsX5_isMissing) := goodIn_app (goodIn_of _ (by decide +kernel)) ggX7_drop_X5_isMissing
set_option maxRecDepth 20000 in
theorem ggX7_drop_X5_isRow : GoodIn wsX7_drop wsX5_isRow := goodIn_r _ [6] (by decide +kernel) (by decide +kernel)
set_option maxRecDepth 20000 in
theorem gX7_drop_X5_isRow : GoodIn wsX7_drop (va_wsS RX7 65 yX5_isRow wsX5_isRow) := goodIn_app (goodIn_of _ (by decide +kernel)) ggX7_drop_X5_isRow
set_option maxRecDepth 20000 in
theorem ggX7_drop_X5_remove : GoodIn wsX7_drop wsX5_remove := goodIn_r _ [22, 11, 23, 39, 40, 41] (by decide +kernel) (by decide +kernel)
set_option maxRecDepth 20000 in
theorem gX7_drop_X5_remove : GoodIn wsX7_drop (wsV RX7 102 RX5 yX5_remove wsX5_remove) := goodIn_app (goodIn_of _ (by decide +kernel)) ggX7_drop_X5_remove
set_option maxRecDepth 20000 in
theorem ggX7_drop_X7_found : GoodIn wsX7_drop wsX7_found := goodIn_r _ [16, 17, 18, 28, 29, 30, 31, 32, 33, 34, 35, 36, 37, 38] (by decide +kernel) (by decide +kernel)
set_option maxRecDepth 20000 in
theorem gX7_drop_X7_found : GoodIn wsX7_drop (wsV RX7 73 RX7 yX7_found wsX7_found) := goodIn_app (goodIn_of _ (by decide +kernel)) ggX7_drop_X7_found
set_option maxRecDepth 20000 in
theorem ggX7_drop_X7_foundNothing : GoodIn wsX7_drop wsX7_foundNothing := goodIn_r _ [27, 17, 28, 29, 30, 31, 32, 33, 34, 35, 36, 37, 38] (by decide +kernel) (by decide +kernel)
set_option maxRecDepth 20000 in
theorem gX7_drop_X7_foundNothing : GoodIn wsX7_drop (wsV RX7 81 RX7 yX7_foundNothing wsX7_foundNothing) := goodIn_app (goodIn_of _ (by decide +kernel)) ggX7_drop_X7_foundNothing
set_option maxRecDepth 20000 in
theorem ggX7_feed_X6_append : GoodIn wsX7_feed wsX6_append := goodIn_r _ [13, 14, 9, 15, 5, 6, 7, 8, 27, 28, 29, 30, 31, 32] (by decide +kernel) (by decide +kernel)
set_option maxRecDepth 20000 in
theorem gX7_feed_X6_append : GoodIn wsX7_feed (wsV RX7 110 RX6 yX6_append wsX6_append) := goodIn_app (goodIn_of _ (by decide +kernel)) ggX7_feed_X6_append
set_option maxRecDepth 20000 in
theorem ggX7_feed_X6_isFull : GoodIn wsX7_feed wsX6_isFull := goodIn_r _ [8, 9, 27, 28, 29, 30, 31, 32] (by decide +kernel) (by decide +kernel)
set_option maxRecDepth 20000 in
theorem gX7_feed_X6_isFull : GoodIn wsX7_feed (wsV RX7 105 RX6 yX6_isFull wsX6_isFull) := goodIn_app (goodIn_of _ (by decide +kernel)) ggX7_feed_X6_isFull
set_option maxRecDepth 20000 in
theorem ggX7_had_X2_isLength : GoodIn wsX7_had wsX2_isLength := goodIn_r _ [18] (by decide +kernel) (by decide +kernel)
set_option maxRecDepth 20000 in
theorem gX7_had_X2_isLength : GoodIn wsX7_had (va_wsS RX7 221 yX2_isLength wsX2_isLength) := goodIn_app (goodIn_of _ (by decide +kernel)) ggX7_had_X2_isLength
set_option maxRecDepth 20000 in
theorem ggX7_had_X2_search : GoodIn wsX7_had wsX2_search := goodIn_r _ [22, 23, 24, 25, 26, 27, 28, 29, 30, 31, 12, 32, 14, 33, 34, 35, 36, 37, 38, 39, 40, 41, 42, 43, 44, 45, 46, 47, 48, 49, 50, 51, 17, 52, 53, 54, 55, 56, 57, 58, 59, 60, 61, 62, 63, 64, 65, 66, 67, 68, 69, 70, 71, 72, 73, 74, 75, 76, 77, 78, 79, 80, 81, 82, 83, 84, 85, 86, 87, 88, 89, 90, 91, 92, 93, 94, 95, 96, 97, 98, 99, 100, 101, 102, 103, 104, 105, 106, 131, 132, 133, 134, 135, 136, 118, 119, 120, 121, 122, 123, 124, 125, 126, 127, 128, 129, 130] (by decide +kernel) (by decide +kernel)
set_option maxRecDepth 20000 in
theorem gX7_had_X2_search : GoodIn wsX7_had (wsV RX7 224 RX2 yX2_search wsX2_search) := goodIn_app (goodIn_of _ (by decide +kernel)) ggX7_had_X2_search
set_option maxRecDepth 20000 in
theorem ggX7_had_X3_isTold : GoodIn wsX7_had wsX3_isTold := goodIn_r _ [13, 14, 118, 119, 120, 121, 122, 123, 124, 125, 126, 127, 128, 129, 130] (by decide +kernel) (by decide +kernel)
set_option maxRecDepth 20000 in
theorem gX7_had_X3_isTold : GoodIn wsX7_had (wsV RX7 145 RX3 yX3_isTold wsX3_isTold) := goodIn_app (goodIn_of _ (by decide +kernel)) ggX7_had_X3_isTold
set_option maxRecDepth 20000 in
theorem ggX7_level_X0_forget : GoodIn wsX7_level wsX0_forget := goodIn_r _ [107, 108, 139, 140, 141] (by decide +kernel) (by decide +kernel)
set_option maxRecDepth 20000 in
theorem gX7_level_X0_forget : GoodIn wsX7_level (wsV RX7 132 RX0 yX0_forget wsX0_forget) := goodIn_app (goodIn_of _ (by decide +kernel)) ggX7_level_X0_forget
set_option maxRecDepth 20000 in
theorem ggX7_level_X3_becomeLike : GoodIn wsX7_level wsX3_becomeLike := goodIn_r _ [96, 24, 25, 26, 27, 28, 29, 30, 31, 97, 98, 99, 100, 101, 102, 90, 91, 92, 126, 127, 128, 129, 130, 131, 132, 133, 134, 135, 136, 137, 138] (by decide +kernel) (by decide +kernel)
set_option maxRecDepth 20000 in
theorem gX7_level_X3_becomeLike : GoodIn wsX7_level (wsV RX7 128 RX3 yX3_becomeLike wsX3_becomeLike) := goodIn_app (goodIn_of _ (by decide +kernel)) ggX7_level_X3_becomeLike
set_option maxRecDepth 20000 in
theorem ggX7_level_X6_read : GoodIn wsX7_level wsX6_read := goodIn_r _ [13, 14, 15, 16, 17, 18, 19, 20, 21, 22, 23, 24, 25, 26, 27, 28, 29, 30, 31, 32, 33, 34, 12, 35, 36, 37, 38, 39, 40, 41, 42, 43, 44, 45, 46, 47, 48, 49, 50, 51, 52, 53, 54, 55, 56, 57, 58, 59, 60, 61, 62, 63, 64, 65, 66, 67, 68, 69, 70, 71, 72, 73, 74, 75, 76, 77, 78, 79, 80, 81, 82, 83, 84, 85, 86, 87, 88, 89, 90, 91, 92, 120, 121, 122, 123, 124, 125, 126, 127, 128, 129, 130, 131, 132, 133, 134, 135, 136, 137, 138] (by decide +kernel) (by decide +kernel)
set_option maxRecDepth 20000 in
theorem gX7_level_X6_read : GoodIn wsX7_level (wsV RX7 113 RX6 yX6_read wsX6_read) := goodIn_app (goodIn_of _ (by decide +kernel)) ggX7_level_X6_read
set_option maxRecDepth 20000 in
theorem ggX7_row_X5_isLane : GoodIn wsX7_row wsX5_isLane := goodIn_r _ [9] (by decide +kernel) (by decide +kernel)
set_option maxRecDepth 20000 in
theorem gX7_row_X5_isLane : GoodIn wsX7_row (va_wsS RX7 69 yX5_isLane wsX5_isLane) := goodIn_app (goodIn_of _ (by decide +kernel)) ggX7_row_X5_isLane
set_option maxRecDepth 20000 in
theorem ggX7_row_X5_isRow : GoodIn wsX7_row wsX5_isRow := goodIn_r _ [6] (by decide +kernel) (by decide +kernel)
set_option maxRecDepth 20000 in
theorem gX7_row_X5_isRow : GoodIn wsX7_row (va_wsS RX7 65 yX5_isRow wsX5_isRow) := goodIn_app (goodIn_of _ (by decide +kernel)) ggX7_row_X5_isRow
set_option maxRecDepth 20000 in
theorem ggX7_row_X5_make : GoodIn wsX7_row wsX5_make := goodIn_r _ [20, 21, 22, 23, 24, 25, 26, 27, 43, 44, 45] (by decide +kernel) (by decide +kernel)
set_option maxRecDepth 20000 in
theorem gX7_row_X5_make : GoodIn wsX7_row (wsV RX7 77 RX5 yX5_make wsX5_make) := goodIn_app (goodIn_of _ (by decide +kernel)) ggX7_row_X5_make
set_option maxRecDepth 20000 in
theorem ggX7_row_X7_found : GoodIn wsX7_row wsX7_found := goodIn_r _ [14, 15, 16, 32, 33, 34, 35, 36, 37, 38, 39, 40, 41, 42] (by decide +kernel) (by decide +kernel)
set_option maxRecDepth 20000 in
theorem gX7_row_X7_found : GoodIn wsX7_row (wsV RX7 73 RX7 yX7_found wsX7_found) := goodIn_app (goodIn_of _ (by decide +kernel)) ggX7_row_X7_found
set_option maxRecDepth 20000 in
theorem ggX7_row_X7_foundNothing : GoodIn wsX7_row wsX7_foundNothing := goodIn_r _ [31, 15, 32, 33, 34, 35, 36, 37, 38, 39, 40, 41, 42] (by decide +kernel) (by decide +kernel)
set_option maxRecDepth 20000 in
theorem gX7_row_X7_foundNothing : GoodIn wsX7_row (wsV RX7 81 RX7 yX7_foundNothing wsX7_foundNothing) := goodIn_app (goodIn_of _ (by decide +kernel)) ggX7_row_X7_foundNothing
set_option maxRecDepth 20000 in
theorem ggX7_set_X5_findingOf : GoodIn wsX7_set wsX5_findingOf := goodIn_r _ [10, 11, 12, 13, 5, 14, 15, 16, 17, 18, 19, 20, 48, 49, 50] (by decide +kernel) (by decide +kernel)
set_option maxRecDepth 20000 in
theorem gX7_set_X5_findingOf : GoodIn wsX7_set (wsV RX7 84 RX5 yX5_findingOf wsX5_findingOf) := goodIn_app (goodIn_of _ (by decide +kernel)) ggX7_set_X5_findingOf
set_option maxRecDepth 20000 in
theorem ggX7_set_X5_isRow : GoodIn wsX7_set wsX5_isRow := goodIn_r _ [6] (by decide +kernel) (by decide +kernel)
set_option maxRecDepth 20000 in
theorem gX7_set_X5_isRow : GoodIn wsX7_set (va_wsS RX7 65 yX5_isRow wsX5_isRow) := goodIn_app (goodIn_of _ (by decide +kernel)) ggX7_set_X5_isRow
set_option maxRecDepth 20000 in
theorem ggX7_set_X5_put : GoodIn wsX7_set wsX5_put := goodIn_r _ [31, 15, 32, 48, 49, 50] (by decide +kernel) (by decide +kernel)
set_option maxRecDepth 20000 in
theorem gX7_set_X5_put : GoodIn wsX7_set (wsV RX7 88 RX5 yX5_put wsX5_put) := goodIn_app (goodIn_of _ (by decide +kernel)) ggX7_set_X5_put
set_option maxRecDepth 20000 in
theorem ggX7_set_X7_found : GoodIn wsX7_set wsX7_found := goodIn_r _ [25, 26, 27, 37, 38, 39, 40, 41, 42, 43, 44, 45, 46, 47] (by decide +kernel) (by decide +kernel)
set_option maxRecDepth 20000 in
theorem gX7_set_X7_found : GoodIn wsX7_set (wsV RX7 73 RX7 yX7_found wsX7_found) := goodIn_app (goodIn_of _ (by decide +kernel)) ggX7_set_X7_found
set_option maxRecDepth 20000 in
theorem ggX7_set_X7_foundNothing : GoodIn wsX7_set wsX7_foundNothing := goodIn_r _ [36, 26, 37, 38, 39, 40, 41, 42, 43, 44, 45, 46, 47] (by decide +kernel) (by decide +kernel)
set_option maxRecDepth 20000 in
theorem gX7_set_X7_foundNothing : GoodIn wsX7_set (wsV RX7 81 RX7 yX7_foundNothing wsX7_foundNothing) := goodIn_app (goodIn_of _ (by decide +kernel)) ggX7_set_X7_foundNothing
set_option maxRecDepth 20000 in
theorem i_X4_comesTo_X4 : ∀ w ∈ u_ws RX4 TX4 3, w ∈ wsX4_comesTo := by decide +kernel
set_option maxRecDepth 20000 in
theorem i_X7_as_X3 : ∀ w ∈ u_ws RX3 TX3 13, w ∈ wsX7_as := by decide +kernel
set_option maxRecDepth 20000 in
theorem i_X7_as_X7 : ∀ w ∈ u_ws RX7 TX7 11, w ∈ wsX7_as := by decide +kernel
set_option maxRecDepth 20000 in
theorem i_X7_ask_X7 : ∀ w ∈ u_ws RX7 TX7 11, w ∈ wsX7_ask := by decide +kernel
set_option maxRecDepth 20000 in
theorem i_X7_byTurns_X7 : ∀ w ∈ u_ws RX7 TX7 11, w ∈ wsX7_byTurns := by decide +kernel
set_option maxRecDepth 20000 in
theorem i_X7_caps_X2 : ∀ w ∈ u_ws RX2 TX2 6, w ∈ wsX7_caps := by decide +kernel
set_option maxRecDepth 20000 in
theorem i_X7_caps_X7 : ∀ w ∈ u_ws RX7 TX7 11, w ∈ wsX7_caps := by decide +kernel
set_option maxRecDepth 20000 in
theorem i_X7_copy_X7 : ∀ w ∈ u_ws RX7 TX7 11, w ∈ wsX7_copy := by decide +kernel
set_option maxRecDepth 20000 in
theorem i_X7_drop_X7 : ∀ w ∈ u_ws RX7 TX7 11, w ∈ wsX7_drop := by decide +kernel
set_option maxRecDepth 20000 in
theorem i_X7_feed_X7 : ∀ w ∈ u_ws RX7 TX7 11, w ∈ wsX7_feed := by decide +kernel
set_option maxRecDepth 20000 in
theorem i_X7_had_X2 : ∀ w ∈ u_ws RX2 TX2 6, w ∈ wsX7_had := by decide +kernel
set_option maxRecDepth 20000 in
theorem i_X7_had_X3 : ∀ w ∈ u_ws RX3 TX3 13, w ∈ wsX7_had := by decide +kernel
set_option maxRecDepth 20000 in
theorem i_X7_had_X7 : ∀ w ∈ u_ws RX7 TX7 11, w ∈ wsX7_had := by decide +kernel
set_option maxRecDepth 20000 in
theorem i_X7_level_X3 : ∀ w ∈ u_ws RX3 TX3 13, w ∈ wsX7_level := by decide +kernel
set_option maxRecDepth 20000 in
theorem i_X7_level_X6 : ∀ w ∈ u_ws RX6 TX6 6, w ∈ wsX7_level := by decide +kernel
set_option maxRecDepth 20000 in
theorem i_X7_level_X7 : ∀ w ∈ u_ws RX7 TX7 11, w ∈ wsX7_level := by decide +kernel
set_option maxRecDepth 20000 in
theorem i_X7_row_X7 : ∀ w ∈ u_ws RX7 TX7 11, w ∈ wsX7_row := by decide +kernel
set_option maxRecDepth 20000 in
theorem i_X7_set_X7 : ∀ w ∈ u_ws RX7 TX7 11, w ∈ wsX7_set := by decide +kernel
