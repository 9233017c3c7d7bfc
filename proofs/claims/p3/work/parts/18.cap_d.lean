theorem dX2_bestCap_0 : decode cX2_bestCap 0 = .ok (.aload_n 0, 1) := by decide +kernel
theorem dX2_bestCap_1 : decode cX2_bestCap 1 = .ok (.getfield 25, 3) := by decide +kernel
theorem dX2_bestCap_10 : decode cX2_bestCap 10 = .ok (.iload_n 1, 1) := by decide +kernel
theorem dX2_bestCap_11 : decode cX2_bestCap 11 = .ok (.isub, 1) := by decide +kernel
theorem dX2_bestCap_12 : decode cX2_bestCap 12 = .ok (.ishr, 1) := by decide +kernel
theorem dX2_bestCap_13 : decode cX2_bestCap 13 = .ok (.iconst 1, 1) := by decide +kernel
theorem dX2_bestCap_14 : decode cX2_bestCap 14 = .ok (.iand, 1) := by decide +kernel
theorem dX2_bestCap_15 : decode cX2_bestCap 15 = .ok (.ireturn, 1) := by decide +kernel
theorem dX2_bestCap_4 : decode cX2_bestCap 4 = .ok (.aload_n 0, 1) := by decide +kernel
theorem dX2_bestCap_5 : decode cX2_bestCap 5 = .ok (.getfield 18, 3) := by decide +kernel
theorem dX2_bestCap_8 : decode cX2_bestCap 8 = .ok (.iconst 1, 1) := by decide +kernel
theorem dX2_bestCap_9 : decode cX2_bestCap 9 = .ok (.isub, 1) := by decide +kernel
theorem dX2_isLength_0 : decode cX2_isLength 0 = .ok (.iload_n 0, 1) := by decide +kernel
theorem dX2_isLength_1 : decode cX2_isLength 1 = .ok (.iconst 1, 1) := by decide +kernel
theorem dX2_isLength_11 : decode cX2_isLength 11 = .ok (.iconst 1, 1) := by decide +kernel
theorem dX2_isLength_12 : decode cX2_isLength 12 = .ok (.goto 4, 3) := by decide +kernel
theorem dX2_isLength_15 : decode cX2_isLength 15 = .ok (.iconst 0, 1) := by decide +kernel
theorem dX2_isLength_16 : decode cX2_isLength 16 = .ok (.ireturn, 1) := by decide +kernel
theorem dX2_isLength_2 : decode cX2_isLength 2 = .ok (.if_icmp .lt 13, 3) := by decide +kernel
theorem dX2_isLength_5 : decode cX2_isLength 5 = .ok (.iload_n 0, 1) := by decide +kernel
theorem dX2_isLength_6 : decode cX2_isLength 6 = .ok (.bipush 8, 2) := by decide +kernel
theorem dX2_isLength_8 : decode cX2_isLength 8 = .ok (.if_icmp .gt 7, 3) := by decide +kernel
theorem dX2_judge_0 : decode cX2_judge 0 = .ok (.aload_n 0, 1) := by decide +kernel
theorem dX2_judge_1 : decode cX2_judge 1 = .ok (.aload_n 1, 1) := by decide +kernel
theorem dX2_judge_10 : decode cX2_judge 10 = .ok (.getfield 28, 3) := by decide +kernel
theorem dX2_judge_13 : decode cX2_judge 13 = .ok (.if_icmp .gt 20, 3) := by decide +kernel
theorem dX2_judge_16 : decode cX2_judge 16 = .ok (.iload 4, 2) := by decide +kernel
theorem dX2_judge_18 : decode cX2_judge 18 = .ok (.aload_n 0, 1) := by decide +kernel
theorem dX2_judge_19 : decode cX2_judge 19 = .ok (.getfield 28, 3) := by decide +kernel
theorem dX2_judge_2 : decode cX2_judge 2 = .ok (.invokevirtual 52, 3) := by decide +kernel
theorem dX2_judge_22 : decode cX2_judge 22 = .ok (.if_icmp .ne 27, 3) := by decide +kernel
theorem dX2_judge_25 : decode cX2_judge 25 = .ok (.iload_n 3, 1) := by decide +kernel
theorem dX2_judge_26 : decode cX2_judge 26 = .ok (.aload_n 0, 1) := by decide +kernel
theorem dX2_judge_27 : decode cX2_judge 27 = .ok (.getfield 31, 3) := by decide +kernel
theorem dX2_judge_30 : decode cX2_judge 30 = .ok (.if_icmp .ge 19, 3) := by decide +kernel
theorem dX2_judge_33 : decode cX2_judge 33 = .ok (.aload_n 0, 1) := by decide +kernel
theorem dX2_judge_34 : decode cX2_judge 34 = .ok (.iload 4, 2) := by decide +kernel
theorem dX2_judge_36 : decode cX2_judge 36 = .ok (.putfield 28, 3) := by decide +kernel
theorem dX2_judge_39 : decode cX2_judge 39 = .ok (.aload_n 0, 1) := by decide +kernel
theorem dX2_judge_40 : decode cX2_judge 40 = .ok (.iload_n 3, 1) := by decide +kernel
theorem dX2_judge_41 : decode cX2_judge 41 = .ok (.putfield 31, 3) := by decide +kernel
theorem dX2_judge_44 : decode cX2_judge 44 = .ok (.aload_n 0, 1) := by decide +kernel
theorem dX2_judge_45 : decode cX2_judge 45 = .ok (.iload_n 2, 1) := by decide +kernel
theorem dX2_judge_46 : decode cX2_judge 46 = .ok (.putfield 25, 3) := by decide +kernel
theorem dX2_judge_49 : decode cX2_judge 49 = .ok (.return_, 1) := by decide +kernel
theorem dX2_judge_5 : decode cX2_judge 5 = .ok (.istore 4, 2) := by decide +kernel
theorem dX2_judge_7 : decode cX2_judge 7 = .ok (.iload 4, 2) := by decide +kernel
theorem dX2_judge_9 : decode cX2_judge 9 = .ok (.aload_n 0, 1) := by decide +kernel
theorem dX2_search_0 : decode cX2_search 0 = .ok (.aload_n 0, 1) := by decide +kernel
theorem dX2_search_1 : decode cX2_search 1 = .ok (.iload_n 2, 1) := by decide +kernel
theorem dX2_search_10 : decode cX2_search 10 = .ok (.aload_n 0, 1) := by decide +kernel
theorem dX2_search_11 : decode cX2_search 11 = .ok (.iconst 0, 1) := by decide +kernel
theorem dX2_search_12 : decode cX2_search 12 = .ok (.putfield 25, 3) := by decide +kernel
theorem dX2_search_15 : decode cX2_search 15 = .ok (.aload_n 0, 1) := by decide +kernel
theorem dX2_search_16 : decode cX2_search 16 = .ok (.iconst (-1), 1) := by decide +kernel
theorem dX2_search_17 : decode cX2_search 17 = .ok (.putfield 28, 3) := by decide +kernel
theorem dX2_search_2 : decode cX2_search 2 = .ok (.putfield 18, 3) := by decide +kernel
theorem dX2_search_20 : decode cX2_search 20 = .ok (.aload_n 0, 1) := by decide +kernel
theorem dX2_search_21 : decode cX2_search 21 = .ok (.iconst 0, 1) := by decide +kernel
theorem dX2_search_22 : decode cX2_search 22 = .ok (.putfield 31, 3) := by decide +kernel
theorem dX2_search_25 : decode cX2_search 25 = .ok (.aload_n 0, 1) := by decide +kernel
theorem dX2_search_26 : decode cX2_search 26 = .ok (.getfield 13, 3) := by decide +kernel
theorem dX2_search_29 : decode cX2_search 29 = .ok (.iconst 0, 1) := by decide +kernel
theorem dX2_search_30 : decode cX2_search 30 = .ok (.aaload, 1) := by decide +kernel
theorem dX2_search_31 : decode cX2_search 31 = .ok (.aload_n 1, 1) := by decide +kernel
theorem dX2_search_32 : decode cX2_search 32 = .ok (.invokevirtual 34, 3) := by decide +kernel
theorem dX2_search_35 : decode cX2_search 35 = .ok (.aload_n 0, 1) := by decide +kernel
theorem dX2_search_36 : decode cX2_search 36 = .ok (.iconst 0, 1) := by decide +kernel
theorem dX2_search_37 : decode cX2_search 37 = .ok (.iconst 0, 1) := by decide +kernel
theorem dX2_search_38 : decode cX2_search 38 = .ok (.iconst 0, 1) := by decide +kernel
theorem dX2_search_39 : decode cX2_search 39 = .ok (.invokevirtual 38, 3) := by decide +kernel
theorem dX2_search_42 : decode cX2_search 42 = .ok (.return_, 1) := by decide +kernel
theorem dX2_search_5 : decode cX2_search 5 = .ok (.aload_n 0, 1) := by decide +kernel
theorem dX2_search_6 : decode cX2_search 6 = .ok (.iload_n 3, 1) := by decide +kernel
theorem dX2_search_7 : decode cX2_search 7 = .ok (.putfield 22, 3) := by decide +kernel
theorem dX2_tryRows_0 : decode cX2_tryRows 0 = .ok (.iload_n 1, 1) := by decide +kernel
theorem dX2_tryRows_1 : decode cX2_tryRows 1 = .ok (.aload_n 0, 1) := by decide +kernel
theorem dX2_tryRows_100 : decode cX2_tryRows 100 = .ok (.invokevirtual 38, 3) := by decide +kernel
theorem dX2_tryRows_103 : decode cX2_tryRows 103 = .ok (.iinc 4 1, 3) := by decide +kernel
theorem dX2_tryRows_106 : decode cX2_tryRows 106 = .ok (.goto (-76), 3) := by decide +kernel
theorem dX2_tryRows_109 : decode cX2_tryRows 109 = .ok (.return_, 1) := by decide +kernel
theorem dX2_tryRows_11 : decode cX2_tryRows 11 = .ok (.if_icmp .lt 16, 3) := by decide +kernel
theorem dX2_tryRows_14 : decode cX2_tryRows 14 = .ok (.aload_n 0, 1) := by decide +kernel
theorem dX2_tryRows_15 : decode cX2_tryRows 15 = .ok (.aload_n 0, 1) := by decide +kernel
theorem dX2_tryRows_16 : decode cX2_tryRows 16 = .ok (.getfield 13, 3) := by decide +kernel
theorem dX2_tryRows_19 : decode cX2_tryRows 19 = .ok (.iload_n 1, 1) := by decide +kernel
theorem dX2_tryRows_2 : decode cX2_tryRows 2 = .ok (.getfield 18, 3) := by decide +kernel
theorem dX2_tryRows_20 : decode cX2_tryRows 20 = .ok (.aaload, 1) := by decide +kernel
theorem dX2_tryRows_21 : decode cX2_tryRows 21 = .ok (.iload_n 2, 1) := by decide +kernel
theorem dX2_tryRows_22 : decode cX2_tryRows 22 = .ok (.iload_n 3, 1) := by decide +kernel
theorem dX2_tryRows_23 : decode cX2_tryRows 23 = .ok (.invokevirtual 42, 3) := by decide +kernel
theorem dX2_tryRows_26 : decode cX2_tryRows 26 = .ok (.return_, 1) := by decide +kernel
theorem dX2_tryRows_27 : decode cX2_tryRows 27 = .ok (.iconst 0, 1) := by decide +kernel
theorem dX2_tryRows_28 : decode cX2_tryRows 28 = .ok (.istore 4, 2) := by decide +kernel
theorem dX2_tryRows_30 : decode cX2_tryRows 30 = .ok (.iload 4, 2) := by decide +kernel
theorem dX2_tryRows_32 : decode cX2_tryRows 32 = .ok (.iconst 1, 1) := by decide +kernel
theorem dX2_tryRows_33 : decode cX2_tryRows 33 = .ok (.if_icmp .gt 76, 3) := by decide +kernel
theorem dX2_tryRows_36 : decode cX2_tryRows 36 = .ok (.aload_n 0, 1) := by decide +kernel
theorem dX2_tryRows_37 : decode cX2_tryRows 37 = .ok (.getfield 13, 3) := by decide +kernel
theorem dX2_tryRows_40 : decode cX2_tryRows 40 = .ok (.iload_n 1, 1) := by decide +kernel
theorem dX2_tryRows_41 : decode cX2_tryRows 41 = .ok (.iconst 1, 1) := by decide +kernel
theorem dX2_tryRows_42 : decode cX2_tryRows 42 = .ok (.iadd, 1) := by decide +kernel
theorem dX2_tryRows_43 : decode cX2_tryRows 43 = .ok (.aaload, 1) := by decide +kernel
theorem dX2_tryRows_44 : decode cX2_tryRows 44 = .ok (.astore 5, 2) := by decide +kernel
theorem dX2_tryRows_46 : decode cX2_tryRows 46 = .ok (.aload 5, 2) := by decide +kernel
theorem dX2_tryRows_48 : decode cX2_tryRows 48 = .ok (.aload_n 0, 1) := by decide +kernel
theorem dX2_tryRows_49 : decode cX2_tryRows 49 = .ok (.getfield 13, 3) := by decide +kernel
theorem dX2_tryRows_5 : decode cX2_tryRows 5 = .ok (.if_icmp .ge 9, 3) := by decide +kernel
theorem dX2_tryRows_52 : decode cX2_tryRows 52 = .ok (.iload_n 1, 1) := by decide +kernel
theorem dX2_tryRows_53 : decode cX2_tryRows 53 = .ok (.aaload, 1) := by decide +kernel
theorem dX2_tryRows_54 : decode cX2_tryRows 54 = .ok (.invokevirtual 34, 3) := by decide +kernel
theorem dX2_tryRows_57 : decode cX2_tryRows 57 = .ok (.aload 5, 2) := by decide +kernel
theorem dX2_tryRows_59 : decode cX2_tryRows 59 = .ok (.getfield 46, 3) := by decide +kernel
theorem dX2_tryRows_62 : decode cX2_tryRows 62 = .ok (.iload 4, 2) := by decide +kernel
theorem dX2_tryRows_64 : decode cX2_tryRows 64 = .ok (.if_icmp .ne 7, 3) := by decide +kernel
theorem dX2_tryRows_67 : decode cX2_tryRows 67 = .ok (.iconst 0, 1) := by decide +kernel
theorem dX2_tryRows_68 : decode cX2_tryRows 68 = .ok (.goto 4, 3) := by decide +kernel
theorem dX2_tryRows_71 : decode cX2_tryRows 71 = .ok (.iconst 1, 1) := by decide +kernel
theorem dX2_tryRows_72 : decode cX2_tryRows 72 = .ok (.istore 6, 2) := by decide +kernel
theorem dX2_tryRows_74 : decode cX2_tryRows 74 = .ok (.aload 5, 2) := by decide +kernel
theorem dX2_tryRows_76 : decode cX2_tryRows 76 = .ok (.iload 4, 2) := by decide +kernel
theorem dX2_tryRows_78 : decode cX2_tryRows 78 = .ok (.putfield 46, 3) := by decide +kernel
theorem dX2_tryRows_8 : decode cX2_tryRows 8 = .ok (.iload_n 1, 1) := by decide +kernel
theorem dX2_tryRows_81 : decode cX2_tryRows 81 = .ok (.aload 5, 2) := by decide +kernel
theorem dX2_tryRows_83 : decode cX2_tryRows 83 = .ok (.invokevirtual 49, 3) := by decide +kernel
theorem dX2_tryRows_86 : decode cX2_tryRows 86 = .ok (.aload_n 0, 1) := by decide +kernel
theorem dX2_tryRows_87 : decode cX2_tryRows 87 = .ok (.iload_n 1, 1) := by decide +kernel
theorem dX2_tryRows_88 : decode cX2_tryRows 88 = .ok (.iconst 1, 1) := by decide +kernel
theorem dX2_tryRows_89 : decode cX2_tryRows 89 = .ok (.iadd, 1) := by decide +kernel
theorem dX2_tryRows_9 : decode cX2_tryRows 9 = .ok (.bipush 8, 2) := by decide +kernel
theorem dX2_tryRows_90 : decode cX2_tryRows 90 = .ok (.iload_n 2, 1) := by decide +kernel
theorem dX2_tryRows_91 : decode cX2_tryRows 91 = .ok (.iconst 1, 1) := by decide +kernel
theorem dX2_tryRows_92 : decode cX2_tryRows 92 = .ok (.ishl, 1) := by decide +kernel
theorem dX2_tryRows_93 : decode cX2_tryRows 93 = .ok (.iload 4, 2) := by decide +kernel
theorem dX2_tryRows_95 : decode cX2_tryRows 95 = .ok (.ior, 1) := by decide +kernel
theorem dX2_tryRows_96 : decode cX2_tryRows 96 = .ok (.iload_n 3, 1) := by decide +kernel
theorem dX2_tryRows_97 : decode cX2_tryRows 97 = .ok (.iload 6, 2) := by decide +kernel
theorem dX2_tryRows_99 : decode cX2_tryRows 99 = .ok (.iadd, 1) := by decide +kernel
theorem dX2_worthOf_0 : decode cX2_worthOf 0 = .ok (.aload_n 0, 1) := by decide +kernel
theorem dX2_worthOf_1 : decode cX2_worthOf 1 = .ok (.getfield 22, 3) := by decide +kernel
theorem dX2_worthOf_12 : decode cX2_worthOf 12 = .ok (.ireturn, 1) := by decide +kernel
theorem dX2_worthOf_13 : decode cX2_worthOf 13 = .ok (.aload_n 0, 1) := by decide +kernel
theorem dX2_worthOf_14 : decode cX2_worthOf 14 = .ok (.getfield 22, 3) := by decide +kernel
theorem dX2_worthOf_17 : decode cX2_worthOf 17 = .ok (.aload_n 1, 1) := by decide +kernel
theorem dX2_worthOf_18 : decode cX2_worthOf 18 = .ok (.iconst 1, 1) := by decide +kernel
theorem dX2_worthOf_19 : decode cX2_worthOf 19 = .ok (.invokevirtual 59, 3) := by decide +kernel
theorem dX2_worthOf_22 : decode cX2_worthOf 22 = .ok (.iconst (-1), 1) := by decide +kernel
theorem dX2_worthOf_23 : decode cX2_worthOf 23 = .ok (.ixor, 1) := by decide +kernel
theorem dX2_worthOf_24 : decode cX2_worthOf 24 = .ok (.iand, 1) := by decide +kernel
theorem dX2_worthOf_25 : decode cX2_worthOf 25 = .ok (.ifCond .ne 7, 3) := by decide +kernel
theorem dX2_worthOf_28 : decode cX2_worthOf 28 = .ok (.iconst 1, 1) := by decide +kernel
theorem dX2_worthOf_29 : decode cX2_worthOf 29 = .ok (.goto 4, 3) := by decide +kernel
theorem dX2_worthOf_32 : decode cX2_worthOf 32 = .ok (.iconst 0, 1) := by decide +kernel
theorem dX2_worthOf_33 : decode cX2_worthOf 33 = .ok (.ireturn, 1) := by decide +kernel
theorem dX2_worthOf_4 : decode cX2_worthOf 4 = .ok (.iconst (-1), 1) := by decide +kernel
theorem dX2_worthOf_5 : decode cX2_worthOf 5 = .ok (.if_icmp .ne 8, 3) := by decide +kernel
theorem dX2_worthOf_8 : decode cX2_worthOf 8 = .ok (.aload_n 1, 1) := by decide +kernel
theorem dX2_worthOf_9 : decode cX2_worthOf 9 = .ok (.getfield 56, 3) := by decide +kernel
set_option maxRecDepth 20000 in
theorem ggX2_judge_X2_worthOf : GoodIn wsX2_judge wsX2_worthOf := goodIn_r _ [8, 9, 10, 11, 12, 13, 14, 15, 16, 17, 18, 19, 20, 21, 22, 23, 24, 25, 26, 27, 28, 29, 30, 31, 32, 33, 34, 35, 36] (by decide +kernel) (by decide +kernel)
set_option maxRecDepth 20000 in
theorem gX2_judge_X2_worthOf : GoodIn wsX2_judge (wsV RX2 52 RX2 yX2_worthOf wsX2_worthOf) := goodIn_app (goodIn_of _ (by decide +kernel)) ggX2_judge_X2_worthOf
set_option maxRecDepth 20000 in
theorem ggX2_search_X2_tryRows : GoodIn wsX2_search wsX2_tryRows := goodIn_r _ [33, 1, 6, 34, 35, 36, 37, 32, 38, 4, 5, 3, 39, 40, 41, 42, 2, 43, 44, 45, 46, 10, 47, 19, 28, 7, 8, 9, 11, 12, 13, 14, 15, 16, 17, 18, 20, 21, 22, 23, 24, 25, 26, 27, 48, 49, 50, 51, 52, 53, 54, 55, 56, 57, 58, 59, 60, 61, 62, 63, 64, 65, 66, 67, 68, 69, 70, 71, 72, 73, 74, 75, 76, 77, 78, 79, 80, 81, 82, 83, 84, 85, 86, 87, 29, 30, 31, 88, 89, 90, 91, 92, 93, 94, 95, 96, 97, 98, 99, 100, 101, 102, 103, 104, 105, 106] (by decide +kernel) (by decide +kernel)
set_option maxRecDepth 20000 in
theorem gX2_search_X2_tryRows : GoodIn wsX2_search (wsV RX2 38 RX2 yX2_tryRows wsX2_tryRows) := goodIn_app (goodIn_of _ (by decide +kernel)) ggX2_search_X2_tryRows
set_option maxRecDepth 20000 in
theorem ggX2_search_X3_becomeLike : GoodIn wsX2_search wsX3_becomeLike := goodIn_r _ [11, 12, 13, 14, 15, 16, 17, 18, 19, 20, 21, 22, 23, 24, 25, 26, 27, 28, 94, 95, 96, 97, 98, 99, 100, 101, 102, 103, 104, 105, 106] (by decide +kernel) (by decide +kernel)
set_option maxRecDepth 20000 in
theorem gX2_search_X3_becomeLike : GoodIn wsX2_search (wsV RX2 34 RX3 yX3_becomeLike wsX3_becomeLike) := goodIn_app (goodIn_of _ (by decide +kernel)) ggX2_search_X3_becomeLike
set_option maxRecDepth 20000 in
theorem ggX2_tryRows_X2_judge : GoodIn wsX2_tryRows wsX2_judge := goodIn_r _ [8, 9, 10, 11, 12, 13, 14, 7, 15, 16, 17, 18, 19, 20, 21, 22, 23, 24, 87, 88, 89, 90, 91, 92, 93, 94, 95, 96, 97, 98, 99, 100, 101, 102, 103, 104, 105] (by decide +kernel) (by decide +kernel)
set_option maxRecDepth 20000 in
theorem gX2_tryRows_X2_judge : GoodIn wsX2_tryRows (wsV RX2 42 RX2 yX2_judge wsX2_judge) := goodIn_app (goodIn_of _ (by decide +kernel)) ggX2_tryRows_X2_judge
set_option maxRecDepth 20000 in
theorem ggX2_tryRows_X2_tryRows : GoodIn wsX2_tryRows wsX2_tryRows := goodIn_r _ [0, 1, 2, 3, 4, 5, 6, 7, 8, 9, 10, 11, 12, 13, 14, 15, 16, 17, 18, 19, 20, 21, 22, 23, 24, 25, 26, 27, 28, 29, 30, 31, 32, 33, 34, 35, 36, 37, 38, 39, 40, 41, 42, 43, 44, 45, 46, 47, 48, 49, 50, 51, 52, 53, 54, 55, 56, 57, 58, 59, 60, 61, 62, 63, 64, 65, 66, 67, 68, 69, 70, 71, 72, 73, 74, 75, 76, 77, 78, 79, 80, 81, 82, 83, 84, 85, 86, 87, 88, 89, 90, 91, 92, 93, 94, 95, 96, 97, 98, 99, 100, 101, 102, 103, 104, 105] (by decide +kernel) (by decide +kernel)
set_option maxRecDepth 20000 in
theorem gX2_tryRows_X2_tryRows : GoodIn wsX2_tryRows (wsV RX2 38 RX2 yX2_tryRows wsX2_tryRows) := goodIn_app (goodIn_of _ (by decide +kernel)) ggX2_tryRows_X2_tryRows
set_option maxRecDepth 20000 in
theorem ggX2_tryRows_X3_becomeLike : GoodIn wsX2_tryRows wsX3_becomeLike := goodIn_r _ [28, 29, 30, 31, 32, 33, 34, 35, 23, 36, 37, 38, 39, 40, 41, 42, 43, 24, 93, 94, 95, 96, 97, 98, 99, 100, 101, 102, 103, 104, 105] (by decide +kernel) (by decide +kernel)
set_option maxRecDepth 20000 in
theorem gX2_tryRows_X3_becomeLike : GoodIn wsX2_tryRows (wsV RX2 34 RX3 yX3_becomeLike wsX3_becomeLike) := goodIn_app (goodIn_of _ (by decide +kernel)) ggX2_tryRows_X3_becomeLike
set_option maxRecDepth 20000 in
theorem ggX2_tryRows_X3_pass : GoodIn wsX2_tryRows wsX3_pass := goodIn_r _ [47, 23, 33, 48, 49, 50, 21, 51, 35, 36, 52, 53, 54, 55, 42, 24, 34, 56, 57, 58, 59, 60, 61, 62, 63, 64, 65, 66, 67, 41, 68, 69, 70, 71, 43, 72, 73, 74, 75, 29, 76, 77, 78, 79, 80, 81, 82, 83, 32, 30, 31, 93, 94, 95, 96, 97, 98, 99, 100, 101, 102, 103, 104, 105] (by decide +kernel) (by decide +kernel)
set_option maxRecDepth 20000 in
theorem gX2_tryRows_X3_pass : GoodIn wsX2_tryRows (wsV RX2 49 RX3 yX3_pass wsX3_pass) := goodIn_app (goodIn_of _ (by decide +kernel)) ggX2_tryRows_X3_pass
set_option maxRecDepth 20000 in
theorem ggX2_worthOf_X3_soundsThatAre : GoodIn wsX2_worthOf wsX3_soundsThatAre := goodIn_r _ [7, 8, 9, 16, 17, 18, 19, 20, 21, 22, 23, 24, 25, 26, 27, 28] (by decide +kernel) (by decide +kernel)
set_option maxRecDepth 20000 in
theorem gX2_worthOf_X3_soundsThatAre : GoodIn wsX2_worthOf (wsV RX2 59 RX3 yX3_soundsThatAre wsX3_soundsThatAre) := goodIn_app (goodIn_of _ (by decide +kernel)) ggX2_worthOf_X3_soundsThatAre
set_option maxRecDepth 20000 in
theorem i_X2_bestCap_X2 : ∀ w ∈ u_ws RX2 TX2 6, w ∈ wsX2_bestCap := by decide +kernel
set_option maxRecDepth 20000 in
theorem i_X2_judge_X2 : ∀ w ∈ u_ws RX2 TX2 6, w ∈ wsX2_judge := by decide +kernel
set_option maxRecDepth 20000 in
theorem i_X2_search_X2 : ∀ w ∈ u_ws RX2 TX2 6, w ∈ wsX2_search := by decide +kernel
set_option maxRecDepth 20000 in
theorem i_X2_tryRows_X2 : ∀ w ∈ u_ws RX2 TX2 6, w ∈ wsX2_tryRows := by decide +kernel
set_option maxRecDepth 20000 in
theorem i_X2_tryRows_X3 : ∀ w ∈ u_ws RX3 TX3 13, w ∈ wsX2_tryRows := by decide +kernel
set_option maxRecDepth 20000 in
theorem i_X2_worthOf_X2 : ∀ w ∈ u_ws RX2 TX2 6, w ∈ wsX2_worthOf := by decide +kernel
set_option maxRecDepth 20000 in
theorem i_X2_worthOf_X3 : ∀ w ∈ u_ws RX3 TX3 13, w ∈ wsX2_worthOf := by decide +kernel
