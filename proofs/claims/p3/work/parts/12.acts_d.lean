theorem dX0_forget_0 : decode cX0_forget 0 = .ok (.aload_n 0, 1) := by decide +kernel
theorem dX0_forget_1 : decode cX0_forget 1 = .ok (.iconst 0, 1) := by decide +kernel
theorem dX0_forget_2 : decode cX0_forget 2 = .ok (.putfield 16, 3) := by decide +kernel
theorem dX0_forget_5 : decode cX0_forget 5 = .ok (.return_, 1) := by decide +kernel
theorem dX0_keep_0 : decode cX0_keep 0 = .ok (.aload_n 0, 1) := by decide +kernel
theorem dX0_keep_1 : decode cX0_keep 1 = .ok (.getfield 11, 3) := by decide +kernel
theorem dX0_keep_10 : decode cX0_keep 10 = .ok (.invokevirtual 23, 3) := by decide +kernel
theorem dX0_keep_13 : decode cX0_keep 13 = .ok (.aload_n 0, 1) := by decide +kernel
theorem dX0_keep_14 : decode cX0_keep 14 = .ok (.aload_n 0, 1) := by decide +kernel
theorem dX0_keep_15 : decode cX0_keep 15 = .ok (.getfield 20, 3) := by decide +kernel
theorem dX0_keep_18 : decode cX0_keep 18 = .ok (.iconst 1, 1) := by decide +kernel
theorem dX0_keep_19 : decode cX0_keep 19 = .ok (.iadd, 1) := by decide +kernel
theorem dX0_keep_20 : decode cX0_keep 20 = .ok (.bipush 24, 2) := by decide +kernel
theorem dX0_keep_22 : decode cX0_keep 22 = .ok (.irem, 1) := by decide +kernel
theorem dX0_keep_23 : decode cX0_keep 23 = .ok (.putfield 20, 3) := by decide +kernel
theorem dX0_keep_26 : decode cX0_keep 26 = .ok (.aload_n 0, 1) := by decide +kernel
theorem dX0_keep_27 : decode cX0_keep 27 = .ok (.aload_n 0, 1) := by decide +kernel
theorem dX0_keep_28 : decode cX0_keep 28 = .ok (.getfield 16, 3) := by decide +kernel
theorem dX0_keep_31 : decode cX0_keep 31 = .ok (.iconst 1, 1) := by decide +kernel
theorem dX0_keep_32 : decode cX0_keep 32 = .ok (.iadd, 1) := by decide +kernel
theorem dX0_keep_33 : decode cX0_keep 33 = .ok (.bipush 24, 2) := by decide +kernel
theorem dX0_keep_35 : decode cX0_keep 35 = .ok (.invokestatic 27, 3) := by decide +kernel
theorem dX0_keep_38 : decode cX0_keep 38 = .ok (.putfield 16, 3) := by decide +kernel
theorem dX0_keep_4 : decode cX0_keep 4 = .ok (.aload_n 0, 1) := by decide +kernel
theorem dX0_keep_41 : decode cX0_keep 41 = .ok (.return_, 1) := by decide +kernel
theorem dX0_keep_5 : decode cX0_keep 5 = .ok (.getfield 20, 3) := by decide +kernel
theorem dX0_keep_8 : decode cX0_keep 8 = .ok (.aaload, 1) := by decide +kernel
theorem dX0_keep_9 : decode cX0_keep 9 = .ok (.aload_n 1, 1) := by decide +kernel
theorem dX0_takeBack_0 : decode cX0_takeBack 0 = .ok (.aload_n 0, 1) := by decide +kernel
theorem dX0_takeBack_1 : decode cX0_takeBack 1 = .ok (.getfield 16, 3) := by decide +kernel
theorem dX0_takeBack_12 : decode cX0_takeBack 12 = .ok (.bipush 24, 2) := by decide +kernel
theorem dX0_takeBack_14 : decode cX0_takeBack 14 = .ok (.iadd, 1) := by decide +kernel
theorem dX0_takeBack_15 : decode cX0_takeBack 15 = .ok (.iconst 1, 1) := by decide +kernel
theorem dX0_takeBack_16 : decode cX0_takeBack 16 = .ok (.isub, 1) := by decide +kernel
theorem dX0_takeBack_17 : decode cX0_takeBack 17 = .ok (.bipush 24, 2) := by decide +kernel
theorem dX0_takeBack_19 : decode cX0_takeBack 19 = .ok (.irem, 1) := by decide +kernel
theorem dX0_takeBack_20 : decode cX0_takeBack 20 = .ok (.putfield 20, 3) := by decide +kernel
theorem dX0_takeBack_23 : decode cX0_takeBack 23 = .ok (.aload_n 1, 1) := by decide +kernel
theorem dX0_takeBack_24 : decode cX0_takeBack 24 = .ok (.aload_n 0, 1) := by decide +kernel
theorem dX0_takeBack_25 : decode cX0_takeBack 25 = .ok (.getfield 11, 3) := by decide +kernel
theorem dX0_takeBack_28 : decode cX0_takeBack 28 = .ok (.aload_n 0, 1) := by decide +kernel
theorem dX0_takeBack_29 : decode cX0_takeBack 29 = .ok (.getfield 20, 3) := by decide +kernel
theorem dX0_takeBack_32 : decode cX0_takeBack 32 = .ok (.aaload, 1) := by decide +kernel
theorem dX0_takeBack_33 : decode cX0_takeBack 33 = .ok (.invokevirtual 23, 3) := by decide +kernel
theorem dX0_takeBack_36 : decode cX0_takeBack 36 = .ok (.aload_n 0, 1) := by decide +kernel
theorem dX0_takeBack_37 : decode cX0_takeBack 37 = .ok (.dup, 1) := by decide +kernel
theorem dX0_takeBack_38 : decode cX0_takeBack 38 = .ok (.getfield 16, 3) := by decide +kernel
theorem dX0_takeBack_4 : decode cX0_takeBack 4 = .ok (.ifCond .le 42, 3) := by decide +kernel
theorem dX0_takeBack_41 : decode cX0_takeBack 41 = .ok (.iconst 1, 1) := by decide +kernel
theorem dX0_takeBack_42 : decode cX0_takeBack 42 = .ok (.isub, 1) := by decide +kernel
theorem dX0_takeBack_43 : decode cX0_takeBack 43 = .ok (.putfield 16, 3) := by decide +kernel
theorem dX0_takeBack_46 : decode cX0_takeBack 46 = .ok (.return_, 1) := by decide +kernel
theorem dX0_takeBack_7 : decode cX0_takeBack 7 = .ok (.aload_n 0, 1) := by decide +kernel
theorem dX0_takeBack_8 : decode cX0_takeBack 8 = .ok (.aload_n 0, 1) := by decide +kernel
theorem dX0_takeBack_9 : decode cX0_takeBack 9 = .ok (.getfield 20, 3) := by decide +kernel
set_option maxRecDepth 20000 in
theorem ggX0_keep_X3_becomeLike : GoodIn wsX0_keep wsX3_becomeLike := goodIn_r _ [12, 13, 14, 15, 16, 17, 18, 19, 20, 21, 22, 23, 24, 25, 26, 27, 28, 29, 33, 34, 35, 36, 37, 38, 39, 40, 41, 42, 43, 44, 45] (by decide +kernel) (by decide +kernel)
set_option maxRecDepth 20000 in
theorem gX0_keep_X3_becomeLike : GoodIn wsX0_keep (wsV RX0 23 RX3 yX3_becomeLike wsX3_becomeLike) := goodIn_app (goodIn_of _ (by decide +kernel)) ggX0_keep_X3_becomeLike
set_option maxRecDepth 20000 in
theorem ggX0_takeBack_X3_becomeLike : GoodIn wsX0_takeBack wsX3_becomeLike := goodIn_r _ [8, 9, 10, 11, 12, 13, 14, 15, 16, 17, 18, 19, 20, 21, 22, 23, 24, 25, 29, 30, 31, 32, 33, 34, 35, 36, 37, 38, 39, 40, 41] (by decide +kernel) (by decide +kernel)
set_option maxRecDepth 20000 in
theorem gX0_takeBack_X3_becomeLike : GoodIn wsX0_takeBack (wsV RX0 23 RX3 yX3_becomeLike wsX3_becomeLike) := goodIn_app (goodIn_of _ (by decide +kernel)) ggX0_takeBack_X3_becomeLike
set_option maxRecDepth 20000 in
theorem i_X0_forget_X0 : ∀ w ∈ u_ws RX0 TX0 3, w ∈ wsX0_forget := by decide +kernel
set_option maxRecDepth 20000 in
theorem i_X0_keep_X0 : ∀ w ∈ u_ws RX0 TX0 3, w ∈ wsX0_keep := by decide +kernel
set_option maxRecDepth 20000 in
theorem i_X0_takeBack_X0 : ∀ w ∈ u_ws RX0 TX0 3, w ∈ wsX0_takeBack := by decide +kernel
