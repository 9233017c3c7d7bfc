theorem dX4_bestFor_0 : decode cX4_bestFor 0 = .ok (.iload_n 2, 1) := by decide +kernel
theorem dX4_bestFor_1 : decode cX4_bestFor 1 = .ok (.ifCond .gt 26, 3) := by decide +kernel
theorem dX4_bestFor_12 : decode cX4_bestFor 12 = .ok (.invokevirtual 19, 3) := by decide +kernel
theorem dX4_bestFor_15 : decode cX4_bestFor 15 = .ok (.aload_n 0, 1) := by decide +kernel
theorem dX4_bestFor_16 : decode cX4_bestFor 16 = .ok (.getfield 16, 3) := by decide +kernel
theorem dX4_bestFor_19 : decode cX4_bestFor 19 = .ok (.aload_n 0, 1) := by decide +kernel
theorem dX4_bestFor_20 : decode cX4_bestFor 20 = .ok (.getfield 23, 3) := by decide +kernel
theorem dX4_bestFor_23 : decode cX4_bestFor 23 = .ok (.invokevirtual 37, 3) := by decide +kernel
theorem dX4_bestFor_26 : decode cX4_bestFor 26 = .ok (.ireturn, 1) := by decide +kernel
theorem dX4_bestFor_27 : decode cX4_bestFor 27 = .ok (.aload_n 0, 1) := by decide +kernel
theorem dX4_bestFor_28 : decode cX4_bestFor 28 = .ok (.iload_n 1, 1) := by decide +kernel
theorem dX4_bestFor_29 : decode cX4_bestFor 29 = .ok (.ifCond .ne 7, 3) := by decide +kernel
theorem dX4_bestFor_32 : decode cX4_bestFor 32 = .ok (.iconst 1, 1) := by decide +kernel
theorem dX4_bestFor_33 : decode cX4_bestFor 33 = .ok (.goto 4, 3) := by decide +kernel
theorem dX4_bestFor_36 : decode cX4_bestFor 36 = .ok (.iconst 0, 1) := by decide +kernel
theorem dX4_bestFor_37 : decode cX4_bestFor 37 = .ok (.iload_n 2, 1) := by decide +kernel
theorem dX4_bestFor_38 : decode cX4_bestFor 38 = .ok (.iconst 1, 1) := by decide +kernel
theorem dX4_bestFor_39 : decode cX4_bestFor 39 = .ok (.isub, 1) := by decide +kernel
theorem dX4_bestFor_4 : decode cX4_bestFor 4 = .ok (.aload_n 0, 1) := by decide +kernel
theorem dX4_bestFor_40 : decode cX4_bestFor 40 = .ok (.invokevirtual 33, 3) := by decide +kernel
theorem dX4_bestFor_43 : decode cX4_bestFor 43 = .ok (.istore_n 3, 1) := by decide +kernel
theorem dX4_bestFor_44 : decode cX4_bestFor 44 = .ok (.aload_n 0, 1) := by decide +kernel
theorem dX4_bestFor_45 : decode cX4_bestFor 45 = .ok (.iload_n 1, 1) := by decide +kernel
theorem dX4_bestFor_46 : decode cX4_bestFor 46 = .ok (.invokevirtual 41, 3) := by decide +kernel
theorem dX4_bestFor_49 : decode cX4_bestFor 49 = .ok (.aload_n 0, 1) := by decide +kernel
theorem dX4_bestFor_5 : decode cX4_bestFor 5 = .ok (.getfield 16, 3) := by decide +kernel
theorem dX4_bestFor_50 : decode cX4_bestFor 50 = .ok (.iload_n 1, 1) := by decide +kernel
theorem dX4_bestFor_51 : decode cX4_bestFor 51 = .ok (.ifCond .ne 7, 3) := by decide +kernel
theorem dX4_bestFor_54 : decode cX4_bestFor 54 = .ok (.iconst 1, 1) := by decide +kernel
theorem dX4_bestFor_55 : decode cX4_bestFor 55 = .ok (.goto 4, 3) := by decide +kernel
theorem dX4_bestFor_58 : decode cX4_bestFor 58 = .ok (.iconst 0, 1) := by decide +kernel
theorem dX4_bestFor_59 : decode cX4_bestFor 59 = .ok (.iload_n 2, 1) := by decide +kernel
theorem dX4_bestFor_60 : decode cX4_bestFor 60 = .ok (.iconst 1, 1) := by decide +kernel
theorem dX4_bestFor_61 : decode cX4_bestFor 61 = .ok (.isub, 1) := by decide +kernel
theorem dX4_bestFor_62 : decode cX4_bestFor 62 = .ok (.invokevirtual 33, 3) := by decide +kernel
theorem dX4_bestFor_65 : decode cX4_bestFor 65 = .ok (.istore 4, 2) := by decide +kernel
theorem dX4_bestFor_67 : decode cX4_bestFor 67 = .ok (.aload_n 0, 1) := by decide +kernel
theorem dX4_bestFor_68 : decode cX4_bestFor 68 = .ok (.iload_n 1, 1) := by decide +kernel
theorem dX4_bestFor_69 : decode cX4_bestFor 69 = .ok (.invokevirtual 41, 3) := by decide +kernel
theorem dX4_bestFor_72 : decode cX4_bestFor 72 = .ok (.iload_n 1, 1) := by decide +kernel
theorem dX4_bestFor_73 : decode cX4_bestFor 73 = .ok (.ifCond .eq 12, 3) := by decide +kernel
theorem dX4_bestFor_76 : decode cX4_bestFor 76 = .ok (.iload_n 3, 1) := by decide +kernel
theorem dX4_bestFor_77 : decode cX4_bestFor 77 = .ok (.iload 4, 2) := by decide +kernel
theorem dX4_bestFor_79 : decode cX4_bestFor 79 = .ok (.invokestatic 45, 3) := by decide +kernel
theorem dX4_bestFor_8 : decode cX4_bestFor 8 = .ok (.aload_n 0, 1) := by decide +kernel
theorem dX4_bestFor_82 : decode cX4_bestFor 82 = .ok (.goto 9, 3) := by decide +kernel
theorem dX4_bestFor_85 : decode cX4_bestFor 85 = .ok (.iload_n 3, 1) := by decide +kernel
theorem dX4_bestFor_86 : decode cX4_bestFor 86 = .ok (.iload 4, 2) := by decide +kernel
theorem dX4_bestFor_88 : decode cX4_bestFor 88 = .ok (.invokestatic 27, 3) := by decide +kernel
theorem dX4_bestFor_9 : decode cX4_bestFor 9 = .ok (.getfield 10, 3) := by decide +kernel
theorem dX4_bestFor_91 : decode cX4_bestFor 91 = .ok (.ireturn, 1) := by decide +kernel
theorem dX4_turn_0 : decode cX4_turn 0 = .ok (.iload_n 1, 1) := by decide +kernel
theorem dX4_turn_1 : decode cX4_turn 1 = .ok (.ifCond .eq 13, 3) := by decide +kernel
theorem dX4_turn_11 : decode cX4_turn 11 = .ok (.goto 10, 3) := by decide +kernel
theorem dX4_turn_14 : decode cX4_turn 14 = .ok (.aload_n 0, 1) := by decide +kernel
theorem dX4_turn_15 : decode cX4_turn 15 = .ok (.getfield 10, 3) := by decide +kernel
theorem dX4_turn_18 : decode cX4_turn 18 = .ok (.invokevirtual 51, 3) := by decide +kernel
theorem dX4_turn_21 : decode cX4_turn 21 = .ok (.return_, 1) := by decide +kernel
theorem dX4_turn_4 : decode cX4_turn 4 = .ok (.aload_n 0, 1) := by decide +kernel
theorem dX4_turn_5 : decode cX4_turn 5 = .ok (.getfield 10, 3) := by decide +kernel
theorem dX4_turn_8 : decode cX4_turn 8 = .ok (.invokevirtual 48, 3) := by decide +kernel
set_option maxRecDepth 20000 in
theorem ggX4_bestFor_X3_becomeLike : GoodIn wsX4_bestFor wsX3_becomeLike := goodIn_r _ [15, 16, 17, 18, 19, 20, 21, 22, 23, 24, 25, 26, 27, 28, 29, 30, 31, 32, 93, 94, 95, 96, 97, 98, 99, 100, 101, 102, 103, 104, 105] (by decide +kernel) (by decide +kernel)
set_option maxRecDepth 20000 in
theorem gX4_bestFor_X3_becomeLike : GoodIn wsX4_bestFor (wsV RX4 19 RX3 yX3_becomeLike wsX3_becomeLike) := goodIn_app (goodIn_of _ (by decide +kernel)) ggX4_bestFor_X3_becomeLike
set_option maxRecDepth 20000 in
theorem ggX4_bestFor_X3_mealBehind : GoodIn wsX4_bestFor wsX3_mealBehind := goodIn_r _ [36, 21, 37, 38, 39, 14, 40, 23, 20, 41, 42, 43, 44, 22, 24, 45, 46, 47, 48, 30, 32, 49, 9, 6, 10, 50, 51, 52, 53, 54, 55, 56, 57, 29, 58, 59, 60, 61, 31, 62, 63, 64, 65, 16, 66, 67, 68, 69, 70, 71, 72, 73, 19, 17, 18, 93, 94, 95, 96, 97, 98, 99, 100, 101, 102, 103, 104, 105] (by decide +kernel) (by decide +kernel)
set_option maxRecDepth 20000 in
theorem gX4_bestFor_X3_mealBehind : GoodIn wsX4_bestFor (wsV RX4 37 RX3 yX3_mealBehind wsX3_mealBehind) := goodIn_app (goodIn_of _ (by decide +kernel)) ggX4_bestFor_X3_mealBehind
set_option maxRecDepth 20000 in
theorem ggX4_bestFor_X4_bestFor : GoodIn wsX4_bestFor wsX4_bestFor := goodIn_r _ [0, 1, 2, 3, 4, 5, 6, 7, 8, 9, 10, 11, 12, 13, 14, 15, 16, 17, 18, 19, 20, 21, 22, 23, 24, 25, 26, 27, 28, 29, 30, 31, 32, 33, 34, 35, 36, 37, 38, 39, 40, 41, 42, 43, 44, 45, 46, 47, 48, 49, 50, 51, 52, 53, 54, 55, 56, 57, 58, 59, 60, 61, 62, 63, 64, 65, 66, 67, 68, 69, 70, 71, 72, 73, 74, 75, 76, 77, 78, 79, 80, 81, 82, 83, 84, 85, 86, 87, 88, 89, 90, 91, 92, 93, 94, 95, 96, 97, 98, 99, 100, 101, 102, 103, 104, 105] (by decide +kernel) (by decide +kernel)
set_option maxRecDepth 20000 in
theorem gX4_bestFor_X4_bestFor : GoodIn wsX4_bestFor (wsV RX4 33 RX4 yX4_bestFor wsX4_bestFor) := goodIn_app (goodIn_of _ (by decide +kernel)) ggX4_bestFor_X4_bestFor
set_option maxRecDepth 20000 in
theorem ggX4_bestFor_X4_turn : GoodIn wsX4_bestFor wsX4_turn := goodIn_r _ [81, 2, 82, 83, 84, 14, 85, 19, 86, 87, 88, 89, 22, 20, 24, 90, 91, 92, 93, 94, 95, 96, 97, 98, 99, 100, 101, 102, 103, 104, 105] (by decide +kernel) (by decide +kernel)
set_option maxRecDepth 20000 in
theorem gX4_bestFor_X4_turn : GoodIn wsX4_bestFor (wsV RX4 41 RX4 yX4_turn wsX4_turn) := goodIn_app (goodIn_of _ (by decide +kernel)) ggX4_bestFor_X4_turn
set_option maxRecDepth 20000 in
theorem ggX4_turn_X3_turnCap : GoodIn wsX4_turn wsX3_turnCap := goodIn_r _ [6, 7, 18, 19, 20, 21, 22, 23, 24, 25, 26, 27, 28, 29, 30] (by decide +kernel) (by decide +kernel)
set_option maxRecDepth 20000 in
theorem gX4_turn_X3_turnCap : GoodIn wsX4_turn (wsV RX4 48 RX3 yX3_turnCap wsX3_turnCap) := goodIn_app (goodIn_of _ (by decide +kernel)) ggX4_turn_X3_turnCap
set_option maxRecDepth 20000 in
theorem ggX4_turn_X3_turnWind : GoodIn wsX4_turn wsX3_turnWind := goodIn_r _ [11, 12, 13, 14, 18, 19, 20, 21, 22, 23, 24, 25, 26, 27, 28, 29, 30] (by decide +kernel) (by decide +kernel)
set_option maxRecDepth 20000 in
theorem gX4_turn_X3_turnWind : GoodIn wsX4_turn (wsV RX4 51 RX3 yX3_turnWind wsX3_turnWind) := goodIn_app (goodIn_of _ (by decide +kernel)) ggX4_turn_X3_turnWind
set_option maxRecDepth 20000 in
theorem i_X4_bestFor_X4 : ∀ w ∈ u_ws RX4 TX4 3, w ∈ wsX4_bestFor := by decide +kernel
set_option maxRecDepth 20000 in
theorem i_X4_turn_X4 : ∀ w ∈ u_ws RX4 TX4 3, w ∈ wsX4_turn := by decide +kernel
