theorem nI_inj {a b : Nat} (h : nI a = nI b) (ha : a < 2 ^ 31) (hb : b < 2 ^ 31) : a = b := (nI_eq ha hb).mp h
theorem shl1 : ∀ w : Nat, w ≤ 6 → ∃ sh : Nat, (1 : Int32) <<< (nI w &&& 31) = nI sh ∧ sh ≤ 64 := by
  intro w hw
  rcases (show w = 0 ∨ w = 1 ∨ w = 2 ∨ w = 3 ∨ w = 4 ∨ w = 5 ∨ w = 6 by omega) with rfl | rfl | rfl | rfl | rfl | rfl | rfl
  · exact ⟨1, by decide, by decide⟩
  · exact ⟨2, by decide, by decide⟩
  · exact ⟨4, by decide, by decide⟩
  · exact ⟨8, by decide, by decide⟩
  · exact ⟨16, by decide, by decide⟩
  · exact ⟨32, by decide, by decide⟩
  · exact ⟨64, by decide, by decide⟩
theorem in_61 {x : Int32} (h1 : ¬ x < 0) (h2 : ¬ 60 < x) : vp_in x 61 := by
  rw [vp_in_iff]
  rw [Int32.lt_iff_toInt_lt] at h1 h2
  have e1 : (0 : Int32).toInt = 0 := rfl
  have e2 : (60 : Int32).toInt = 60 := rfl
  rw [e1] at h1
  rw [e2] at h2
  constructor <;> omega
theorem in_13 {x : Int32} (h1 : ¬ x < 1) (h2 : ¬ 12 < x) : vp_in x 13 := by
  rw [vp_in_iff]
  rw [Int32.lt_iff_toInt_lt] at h1 h2
  have e1 : (1 : Int32).toInt = 1 := rfl
  have e2 : (12 : Int32).toInt = 12 := rfl
  rw [e1] at h1
  rw [e2] at h2
  constructor <;> omega
/-- a number by two tests: at least 0 or 1, at most n -/
theorem nat_le {x y : Int32} {n : Nat} (h1 : ¬ x < 0) (hy : y.toInt = n) (h2 : x ≤ y) (hn : n < 2 ^ 30) : ∃ j : Nat, j ≤ n ∧ x = nI j := by
  obtain ⟨j, hj, rfl⟩ := nI_of h1
  rw [Int32.le_iff_toInt_le, hy, nI_toInt hj] at h2
  exact ⟨j, by omega, rfl⟩
theorem nn_1 {x : Int32} (h : ¬ x < 1) : ¬ x < 0 := by
  rw [Int32.lt_iff_toInt_lt] at h ⊢
  have e1 : (1 : Int32).toInt = 1 := rfl
  have e2 : (0 : Int32).toInt = 0 := rfl
  rw [e1] at h
  rw [e2]
  omega
theorem le_nlt {x y : Int32} (h : ¬ y < x) : x ≤ y := i_nlt.mp h
theorem lt_le_ {x : Int32} (h : x < 2) : x ≤ 1 := by
  rw [Int32.lt_iff_toInt_lt] at h
  rw [Int32.le_iff_toInt_le]
  have e1 : (1 : Int32).toInt = 1 := rfl
  have e2 : (2 : Int32).toInt = 2 := rfl
  rw [e2] at h
  rw [e1]
  omega
theorem dJ6_bitCount_0f7a4_0 : decode cJ6_bitCount_0f7a4 0 = .ok (.iload_n 0, 1) := by decide +kernel
theorem dJ6_bitCount_0f7a4_1 : decode cJ6_bitCount_0f7a4 1 = .ok (.iload_n 0, 1) := by decide +kernel
theorem dJ6_bitCount_0f7a4_10 : decode cJ6_bitCount_0f7a4 10 = .ok (.iload_n 0, 1) := by decide +kernel
theorem dJ6_bitCount_0f7a4_11 : decode cJ6_bitCount_0f7a4 11 = .ok (.ldc_w 266, 3) := by decide +kernel
theorem dJ6_bitCount_0f7a4_14 : decode cJ6_bitCount_0f7a4 14 = .ok (.iand, 1) := by decide +kernel
theorem dJ6_bitCount_0f7a4_15 : decode cJ6_bitCount_0f7a4 15 = .ok (.iload_n 0, 1) := by decide +kernel
theorem dJ6_bitCount_0f7a4_16 : decode cJ6_bitCount_0f7a4 16 = .ok (.iconst 2, 1) := by decide +kernel
theorem dJ6_bitCount_0f7a4_17 : decode cJ6_bitCount_0f7a4 17 = .ok (.iushr, 1) := by decide +kernel
theorem dJ6_bitCount_0f7a4_18 : decode cJ6_bitCount_0f7a4 18 = .ok (.ldc_w 266, 3) := by decide +kernel
theorem dJ6_bitCount_0f7a4_2 : decode cJ6_bitCount_0f7a4 2 = .ok (.iconst 1, 1) := by decide +kernel
theorem dJ6_bitCount_0f7a4_21 : decode cJ6_bitCount_0f7a4 21 = .ok (.iand, 1) := by decide +kernel
theorem dJ6_bitCount_0f7a4_22 : decode cJ6_bitCount_0f7a4 22 = .ok (.iadd, 1) := by decide +kernel
theorem dJ6_bitCount_0f7a4_23 : decode cJ6_bitCount_0f7a4 23 = .ok (.istore_n 0, 1) := by decide +kernel
theorem dJ6_bitCount_0f7a4_24 : decode cJ6_bitCount_0f7a4 24 = .ok (.iload_n 0, 1) := by decide +kernel
theorem dJ6_bitCount_0f7a4_25 : decode cJ6_bitCount_0f7a4 25 = .ok (.iload_n 0, 1) := by decide +kernel
theorem dJ6_bitCount_0f7a4_26 : decode cJ6_bitCount_0f7a4 26 = .ok (.iconst 4, 1) := by decide +kernel
theorem dJ6_bitCount_0f7a4_27 : decode cJ6_bitCount_0f7a4 27 = .ok (.iushr, 1) := by decide +kernel
theorem dJ6_bitCount_0f7a4_28 : decode cJ6_bitCount_0f7a4 28 = .ok (.iadd, 1) := by decide +kernel
theorem dJ6_bitCount_0f7a4_29 : decode cJ6_bitCount_0f7a4 29 = .ok (.ldc_w 267, 3) := by decide +kernel
theorem dJ6_bitCount_0f7a4_3 : decode cJ6_bitCount_0f7a4 3 = .ok (.iushr, 1) := by decide +kernel
theorem dJ6_bitCount_0f7a4_32 : decode cJ6_bitCount_0f7a4 32 = .ok (.iand, 1) := by decide +kernel
theorem dJ6_bitCount_0f7a4_33 : decode cJ6_bitCount_0f7a4 33 = .ok (.istore_n 0, 1) := by decide +kernel
theorem dJ6_bitCount_0f7a4_34 : decode cJ6_bitCount_0f7a4 34 = .ok (.iload_n 0, 1) := by decide +kernel
theorem dJ6_bitCount_0f7a4_35 : decode cJ6_bitCount_0f7a4 35 = .ok (.iload_n 0, 1) := by decide +kernel
theorem dJ6_bitCount_0f7a4_36 : decode cJ6_bitCount_0f7a4 36 = .ok (.bipush 8, 2) := by decide +kernel
theorem dJ6_bitCount_0f7a4_38 : decode cJ6_bitCount_0f7a4 38 = .ok (.iushr, 1) := by decide +kernel
theorem dJ6_bitCount_0f7a4_39 : decode cJ6_bitCount_0f7a4 39 = .ok (.iadd, 1) := by decide +kernel
theorem dJ6_bitCount_0f7a4_4 : decode cJ6_bitCount_0f7a4 4 = .ok (.ldc_w 265, 3) := by decide +kernel
theorem dJ6_bitCount_0f7a4_40 : decode cJ6_bitCount_0f7a4 40 = .ok (.istore_n 0, 1) := by decide +kernel
theorem dJ6_bitCount_0f7a4_41 : decode cJ6_bitCount_0f7a4 41 = .ok (.iload_n 0, 1) := by decide +kernel
theorem dJ6_bitCount_0f7a4_42 : decode cJ6_bitCount_0f7a4 42 = .ok (.iload_n 0, 1) := by decide +kernel
theorem dJ6_bitCount_0f7a4_43 : decode cJ6_bitCount_0f7a4 43 = .ok (.bipush 16, 2) := by decide +kernel
theorem dJ6_bitCount_0f7a4_45 : decode cJ6_bitCount_0f7a4 45 = .ok (.iushr, 1) := by decide +kernel
theorem dJ6_bitCount_0f7a4_46 : decode cJ6_bitCount_0f7a4 46 = .ok (.iadd, 1) := by decide +kernel
theorem dJ6_bitCount_0f7a4_47 : decode cJ6_bitCount_0f7a4 47 = .ok (.istore_n 0, 1) := by decide +kernel
theorem dJ6_bitCount_0f7a4_48 : decode cJ6_bitCount_0f7a4 48 = .ok (.iload_n 0, 1) := by decide +kernel
theorem dJ6_bitCount_0f7a4_49 : decode cJ6_bitCount_0f7a4 49 = .ok (.bipush 63, 2) := by decide +kernel
theorem dJ6_bitCount_0f7a4_51 : decode cJ6_bitCount_0f7a4 51 = .ok (.iand, 1) := by decide +kernel
theorem dJ6_bitCount_0f7a4_52 : decode cJ6_bitCount_0f7a4 52 = .ok (.ireturn, 1) := by decide +kernel
theorem dJ6_bitCount_0f7a4_7 : decode cJ6_bitCount_0f7a4 7 = .ok (.iand, 1) := by decide +kernel
theorem dJ6_bitCount_0f7a4_8 : decode cJ6_bitCount_0f7a4 8 = .ok (.isub, 1) := by decide +kernel
theorem dJ6_bitCount_0f7a4_9 : decode cJ6_bitCount_0f7a4 9 = .ok (.istore_n 0, 1) := by decide +kernel
theorem dX7_count_0 : decode cX7_count 0 = .ok (.iload_n 1, 1) := by decide +kernel
theorem dX7_count_1 : decode cX7_count 1 = .ok (.tableswitch 115 0 7 #[47, 55, 63, 71, 79, 87, 99, 107], 47) := by decide +kernel
theorem dX7_count_100 : decode cX7_count 100 = .ok (.aload_n 0, 1) := by decide +kernel
theorem dX7_count_101 : decode cX7_count 101 = .ok (.getfield 33, 3) := by decide +kernel
theorem dX7_count_104 : decode cX7_count 104 = .ok (.getfield 138, 3) := by decide +kernel
theorem dX7_count_107 : decode cX7_count 107 = .ok (.ireturn, 1) := by decide +kernel
theorem dX7_count_108 : decode cX7_count 108 = .ok (.aload_n 0, 1) := by decide +kernel
theorem dX7_count_109 : decode cX7_count 109 = .ok (.getfield 19, 3) := by decide +kernel
theorem dX7_count_112 : decode cX7_count 112 = .ok (.getfield 322, 3) := by decide +kernel
theorem dX7_count_115 : decode cX7_count 115 = .ok (.ireturn, 1) := by decide +kernel
theorem dX7_count_116 : decode cX7_count 116 = .ok (.ldc 72, 2) := by decide +kernel
theorem dX7_count_118 : decode cX7_count 118 = .ok (.ireturn, 1) := by decide +kernel
theorem dX7_count_48 : decode cX7_count 48 = .ok (.aload_n 0, 1) := by decide +kernel
theorem dX7_count_49 : decode cX7_count 49 = .ok (.getfield 10, 3) := by decide +kernel
theorem dX7_count_52 : decode cX7_count 52 = .ok (.invokevirtual 319, 3) := by decide +kernel
theorem dX7_count_55 : decode cX7_count 55 = .ok (.ireturn, 1) := by decide +kernel
theorem dX7_count_56 : decode cX7_count 56 = .ok (.aload_n 0, 1) := by decide +kernel
theorem dX7_count_57 : decode cX7_count 57 = .ok (.getfield 26, 3) := by decide +kernel
theorem dX7_count_60 : decode cX7_count 60 = .ok (.getfield 135, 3) := by decide +kernel
theorem dX7_count_63 : decode cX7_count 63 = .ok (.ireturn, 1) := by decide +kernel
theorem dX7_count_64 : decode cX7_count 64 = .ok (.aload_n 0, 1) := by decide +kernel
theorem dX7_count_65 : decode cX7_count 65 = .ok (.getfield 26, 3) := by decide +kernel
theorem dX7_count_68 : decode cX7_count 68 = .ok (.getfield 269, 3) := by decide +kernel
theorem dX7_count_71 : decode cX7_count 71 = .ok (.ireturn, 1) := by decide +kernel
theorem dX7_count_72 : decode cX7_count 72 = .ok (.aload_n 0, 1) := by decide +kernel
theorem dX7_count_73 : decode cX7_count 73 = .ok (.getfield 26, 3) := by decide +kernel
theorem dX7_count_76 : decode cX7_count 76 = .ok (.getfield 148, 3) := by decide +kernel
theorem dX7_count_79 : decode cX7_count 79 = .ok (.ireturn, 1) := by decide +kernel
theorem dX7_count_80 : decode cX7_count 80 = .ok (.aload_n 0, 1) := by decide +kernel
theorem dX7_count_81 : decode cX7_count 81 = .ok (.getfield 26, 3) := by decide +kernel
theorem dX7_count_84 : decode cX7_count 84 = .ok (.getfield 157, 3) := by decide +kernel
theorem dX7_count_87 : decode cX7_count 87 = .ok (.ireturn, 1) := by decide +kernel
theorem dX7_count_88 : decode cX7_count 88 = .ok (.aload_n 0, 1) := by decide +kernel
theorem dX7_count_89 : decode cX7_count 89 = .ok (.getfield 26, 3) := by decide +kernel
theorem dX7_count_92 : decode cX7_count 92 = .ok (.iconst 0, 1) := by decide +kernel
theorem dX7_count_93 : decode cX7_count 93 = .ok (.invokevirtual 185, 3) := by decide +kernel
theorem dX7_count_96 : decode cX7_count 96 = .ok (.invokestatic 296, 3) := by decide +kernel
theorem dX7_count_99 : decode cX7_count 99 = .ok (.ireturn, 1) := by decide +kernel
theorem dX7_fault_0 : decode cX7_fault 0 = .ok (.aload_n 0, 1) := by decide +kernel
theorem dX7_fault_1 : decode cX7_fault 1 = .ok (.getfield 117, 3) := by decide +kernel
theorem dX7_fault_4 : decode cX7_fault 4 = .ok (.ireturn, 1) := by decide +kernel
theorem dX7_foundNothing_0 : decode cX7_foundNothing 0 = .ok (.aload_n 0, 1) := by decide +kernel
theorem dX7_foundNothing_1 : decode cX7_foundNothing 1 = .ok (.iconst 0, 1) := by decide +kernel
theorem dX7_foundNothing_2 : decode cX7_foundNothing 2 = .ok (.putfield 323, 3) := by decide +kernel
theorem dX7_foundNothing_5 : decode cX7_foundNothing 5 = .ok (.iload_n 1, 1) := by decide +kernel
theorem dX7_foundNothing_6 : decode cX7_foundNothing 6 = .ok (.ireturn, 1) := by decide +kernel
theorem dX7_found_0 : decode cX7_found 0 = .ok (.aload_n 0, 1) := by decide +kernel
theorem dX7_found_1 : decode cX7_found 1 = .ok (.iload_n 1, 1) := by decide +kernel
theorem dX7_found_10 : decode cX7_found 10 = .ok (.ireturn, 1) := by decide +kernel
theorem dX7_found_2 : decode cX7_found 2 = .ok (.putfield 323, 3) := by decide +kernel
theorem dX7_found_5 : decode cX7_found 5 = .ok (.ldc_w 326, 3) := by decide +kernel
theorem dX7_found_8 : decode cX7_found 8 = .ok (.iload_n 1, 1) := by decide +kernel
theorem dX7_found_9 : decode cX7_found 9 = .ok (.isub, 1) := by decide +kernel
theorem dX7_gust_0 : decode cX7_gust 0 = .ok (.aload_n 0, 1) := by decide +kernel
theorem dX7_gust_1 : decode cX7_gust 1 = .ok (.getfield 26, 3) := by decide +kernel
theorem dX7_gust_10 : decode cX7_gust 10 = .ok (.ldc 141, 2) := by decide +kernel
theorem dX7_gust_12 : decode cX7_gust 12 = .ok (.ireturn, 1) := by decide +kernel
theorem dX7_gust_13 : decode cX7_gust 13 = .ok (.iload_n 1, 1) := by decide +kernel
theorem dX7_gust_14 : decode cX7_gust 14 = .ok (.invokestatic 207, 3) := by decide +kernel
theorem dX7_gust_17 : decode cX7_gust 17 = .ok (.ifCond .eq 14, 3) := by decide +kernel
theorem dX7_gust_20 : decode cX7_gust 20 = .ok (.aload_n 0, 1) := by decide +kernel
theorem dX7_gust_21 : decode cX7_gust 21 = .ok (.getfield 26, 3) := by decide +kernel
theorem dX7_gust_24 : decode cX7_gust 24 = .ok (.iload_n 1, 1) := by decide +kernel
theorem dX7_gust_25 : decode cX7_gust 25 = .ok (.invokevirtual 188, 3) := by decide +kernel
theorem dX7_gust_28 : decode cX7_gust 28 = .ok (.goto 5, 3) := by decide +kernel
theorem dX7_gust_31 : decode cX7_gust 31 = .ok (.ldc 72, 2) := by decide +kernel
theorem dX7_gust_33 : decode cX7_gust 33 = .ok (.ireturn, 1) := by decide +kernel
theorem dX7_gust_4 : decode cX7_gust 4 = .ok (.invokevirtual 145, 3) := by decide +kernel
theorem dX7_gust_7 : decode cX7_gust 7 = .ok (.ifCond .ne 6, 3) := by decide +kernel
theorem dX7_isForetold_0 : decode cX7_isForetold 0 = .ok (.iload_n 0, 1) := by decide +kernel
theorem dX7_isForetold_1 : decode cX7_isForetold 1 = .ok (.ifCond .lt 13, 3) := by decide +kernel
theorem dX7_isForetold_10 : decode cX7_isForetold 10 = .ok (.iconst 1, 1) := by decide +kernel
theorem dX7_isForetold_11 : decode cX7_isForetold 11 = .ok (.goto 4, 3) := by decide +kernel
theorem dX7_isForetold_14 : decode cX7_isForetold 14 = .ok (.iconst 0, 1) := by decide +kernel
theorem dX7_isForetold_15 : decode cX7_isForetold 15 = .ok (.ireturn, 1) := by decide +kernel
theorem dX7_isForetold_4 : decode cX7_isForetold 4 = .ok (.iload_n 0, 1) := by decide +kernel
theorem dX7_isForetold_5 : decode cX7_isForetold 5 = .ok (.bipush 60, 2) := by decide +kernel
theorem dX7_isForetold_7 : decode cX7_isForetold 7 = .ok (.if_icmp .gt 7, 3) := by decide +kernel
theorem dX7_isHeard_0 : decode cX7_isHeard 0 = .ok (.iload_n 0, 1) := by decide +kernel
theorem dX7_isHeard_1 : decode cX7_isHeard 1 = .ok (.invokestatic 65, 3) := by decide +kernel
theorem dX7_isHeard_12 : decode cX7_isHeard 12 = .ok (.iload_n 1, 1) := by decide +kernel
theorem dX7_isHeard_13 : decode cX7_isHeard 13 = .ok (.bipush 12, 2) := by decide +kernel
theorem dX7_isHeard_15 : decode cX7_isHeard 15 = .ok (.if_icmp .gt 7, 3) := by decide +kernel
theorem dX7_isHeard_18 : decode cX7_isHeard 18 = .ok (.iconst 1, 1) := by decide +kernel
theorem dX7_isHeard_19 : decode cX7_isHeard 19 = .ok (.goto 4, 3) := by decide +kernel
theorem dX7_isHeard_22 : decode cX7_isHeard 22 = .ok (.iconst 0, 1) := by decide +kernel
theorem dX7_isHeard_23 : decode cX7_isHeard 23 = .ok (.ireturn, 1) := by decide +kernel
theorem dX7_isHeard_4 : decode cX7_isHeard 4 = .ok (.ifCond .eq 18, 3) := by decide +kernel
theorem dX7_isHeard_7 : decode cX7_isHeard 7 = .ok (.iload_n 1, 1) := by decide +kernel
theorem dX7_isHeard_8 : decode cX7_isHeard 8 = .ok (.iconst 1, 1) := by decide +kernel
theorem dX7_isHeard_9 : decode cX7_isHeard 9 = .ok (.if_icmp .lt 13, 3) := by decide +kernel
theorem dX7_isOfKind_0 : decode cX7_isOfKind 0 = .ok (.iload_n 0, 1) := by decide +kernel
theorem dX7_isOfKind_1 : decode cX7_isOfKind 1 = .ok (.istore_n 2, 1) := by decide +kernel
theorem dX7_isOfKind_12 : decode cX7_isOfKind 12 = .ok (.iload_n 2, 1) := by decide +kernel
theorem dX7_isOfKind_13 : decode cX7_isOfKind 13 = .ok (.ifCond .lt 30, 3) := by decide +kernel
theorem dX7_isOfKind_16 : decode cX7_isOfKind 16 = .ok (.iload_n 2, 1) := by decide +kernel
theorem dX7_isOfKind_17 : decode cX7_isOfKind 17 = .ok (.getstatic 327, 3) := by decide +kernel
theorem dX7_isOfKind_2 : decode cX7_isOfKind 2 = .ok (.iconst 0, 1) := by decide +kernel
theorem dX7_isOfKind_20 : decode cX7_isOfKind 20 = .ok (.arraylength, 1) := by decide +kernel
theorem dX7_isOfKind_21 : decode cX7_isOfKind 21 = .ok (.if_icmp .ge 22, 3) := by decide +kernel
theorem dX7_isOfKind_24 : decode cX7_isOfKind 24 = .ok (.iload_n 2, 1) := by decide +kernel
theorem dX7_isOfKind_25 : decode cX7_isOfKind 25 = .ok (.iload_n 1, 1) := by decide +kernel
theorem dX7_isOfKind_26 : decode cX7_isOfKind 26 = .ok (.if_icmp .ne 5, 3) := by decide +kernel
theorem dX7_isOfKind_29 : decode cX7_isOfKind 29 = .ok (.iconst 1, 1) := by decide +kernel
theorem dX7_isOfKind_3 : decode cX7_isOfKind 3 = .ok (.istore_n 3, 1) := by decide +kernel
theorem dX7_isOfKind_30 : decode cX7_isOfKind 30 = .ok (.ireturn, 1) := by decide +kernel
theorem dX7_isOfKind_31 : decode cX7_isOfKind 31 = .ok (.getstatic 327, 3) := by decide +kernel
theorem dX7_isOfKind_34 : decode cX7_isOfKind 34 = .ok (.iload_n 2, 1) := by decide +kernel
theorem dX7_isOfKind_35 : decode cX7_isOfKind 35 = .ok (.iaload, 1) := by decide +kernel
theorem dX7_isOfKind_36 : decode cX7_isOfKind 36 = .ok (.istore_n 2, 1) := by decide +kernel
theorem dX7_isOfKind_37 : decode cX7_isOfKind 37 = .ok (.iinc 3 1, 3) := by decide +kernel
theorem dX7_isOfKind_4 : decode cX7_isOfKind 4 = .ok (.iload_n 3, 1) := by decide +kernel
theorem dX7_isOfKind_40 : decode cX7_isOfKind 40 = .ok (.goto (-36), 3) := by decide +kernel
theorem dX7_isOfKind_43 : decode cX7_isOfKind 43 = .ok (.iconst 0, 1) := by decide +kernel
theorem dX7_isOfKind_44 : decode cX7_isOfKind 44 = .ok (.ireturn, 1) := by decide +kernel
theorem dX7_isOfKind_5 : decode cX7_isOfKind 5 = .ok (.getstatic 327, 3) := by decide +kernel
theorem dX7_isOfKind_8 : decode cX7_isOfKind 8 = .ok (.arraylength, 1) := by decide +kernel
theorem dX7_isOfKind_9 : decode cX7_isOfKind 9 = .ok (.if_icmp .ge 34, 3) := by decide +kernel
theorem dX7_kind_0 : decode cX7_kind 0 = .ok (.aload_n 0, 1) := by decide +kernel
theorem dX7_kind_1 : decode cX7_kind 1 = .ok (.getfield 26, 3) := by decide +kernel
theorem dX7_kind_11 : decode cX7_kind 11 = .ok (.aload_n 0, 1) := by decide +kernel
theorem dX7_kind_12 : decode cX7_kind 12 = .ok (.getfield 26, 3) := by decide +kernel
theorem dX7_kind_15 : decode cX7_kind 15 = .ok (.getfield 301, 3) := by decide +kernel
theorem dX7_kind_18 : decode cX7_kind 18 = .ok (.iload_n 1, 1) := by decide +kernel
theorem dX7_kind_19 : decode cX7_kind 19 = .ok (.iaload, 1) := by decide +kernel
theorem dX7_kind_20 : decode cX7_kind 20 = .ok (.goto 5, 3) := by decide +kernel
theorem dX7_kind_23 : decode cX7_kind 23 = .ok (.ldc 72, 2) := by decide +kernel
theorem dX7_kind_25 : decode cX7_kind 25 = .ok (.ireturn, 1) := by decide +kernel
theorem dX7_kind_4 : decode cX7_kind 4 = .ok (.iload_n 1, 1) := by decide +kernel
theorem dX7_kind_5 : decode cX7_kind 5 = .ok (.invokevirtual 173, 3) := by decide +kernel
theorem dX7_kind_8 : decode cX7_kind 8 = .ok (.ifCond .eq 15, 3) := by decide +kernel
theorem dX7_sack_0 : decode cX7_sack 0 = .ok (.aload_n 0, 1) := by decide +kernel
theorem dX7_sack_1 : decode cX7_sack 1 = .ok (.getfield 26, 3) := by decide +kernel
theorem dX7_sack_10 : decode cX7_sack 10 = .ok (.ldc 141, 2) := by decide +kernel
theorem dX7_sack_100 : decode cX7_sack 100 = .ok (.istore 5, 2) := by decide +kernel
theorem dX7_sack_102 : decode cX7_sack 102 = .ok (.iload 6, 2) := by decide +kernel
theorem dX7_sack_104 : decode cX7_sack 104 = .ok (.iload 7, 2) := by decide +kernel
theorem dX7_sack_106 : decode cX7_sack 106 = .ok (.ior, 1) := by decide +kernel
theorem dX7_sack_107 : decode cX7_sack 107 = .ok (.istore 6, 2) := by decide +kernel
theorem dX7_sack_109 : decode cX7_sack 109 = .ok (.iinc 7 1, 3) := by decide +kernel
theorem dX7_sack_112 : decode cX7_sack 112 = .ok (.goto (-56), 3) := by decide +kernel
theorem dX7_sack_115 : decode cX7_sack 115 = .ok (.iload_n 2, 1) := by decide +kernel
theorem dX7_sack_116 : decode cX7_sack 116 = .ok (.ifCond .ne 6, 3) := by decide +kernel
theorem dX7_sack_119 : decode cX7_sack 119 = .ok (.iload 4, 2) := by decide +kernel
theorem dX7_sack_12 : decode cX7_sack 12 = .ok (.ireturn, 1) := by decide +kernel
theorem dX7_sack_121 : decode cX7_sack 121 = .ok (.ireturn, 1) := by decide +kernel
theorem dX7_sack_122 : decode cX7_sack 122 = .ok (.iload_n 2, 1) := by decide +kernel
theorem dX7_sack_123 : decode cX7_sack 123 = .ok (.iconst 2, 1) := by decide +kernel
theorem dX7_sack_124 : decode cX7_sack 124 = .ok (.if_icmp .ne 8, 3) := by decide +kernel
theorem dX7_sack_127 : decode cX7_sack 127 = .ok (.iload 6, 2) := by decide +kernel
theorem dX7_sack_129 : decode cX7_sack 129 = .ok (.goto 14, 3) := by decide +kernel
theorem dX7_sack_13 : decode cX7_sack 13 = .ok (.iload_n 1, 1) := by decide +kernel
theorem dX7_sack_132 : decode cX7_sack 132 = .ok (.iload 4, 2) := by decide +kernel
theorem dX7_sack_134 : decode cX7_sack 134 = .ok (.ifCond .ne 7, 3) := by decide +kernel
theorem dX7_sack_137 : decode cX7_sack 137 = .ok (.iconst 0, 1) := by decide +kernel
theorem dX7_sack_138 : decode cX7_sack 138 = .ok (.goto 5, 3) := by decide +kernel
theorem dX7_sack_14 : decode cX7_sack 14 = .ok (.ifCond .lt 18, 3) := by decide +kernel
theorem dX7_sack_141 : decode cX7_sack 141 = .ok (.iload 5, 2) := by decide +kernel
theorem dX7_sack_143 : decode cX7_sack 143 = .ok (.ireturn, 1) := by decide +kernel
theorem dX7_sack_17 : decode cX7_sack 17 = .ok (.iload_n 1, 1) := by decide +kernel
theorem dX7_sack_18 : decode cX7_sack 18 = .ok (.bipush 120, 2) := by decide +kernel
theorem dX7_sack_20 : decode cX7_sack 20 = .ok (.if_icmp .gt 12, 3) := by decide +kernel
theorem dX7_sack_23 : decode cX7_sack 23 = .ok (.iload_n 2, 1) := by decide +kernel
theorem dX7_sack_24 : decode cX7_sack 24 = .ok (.ifCond .lt 8, 3) := by decide +kernel
theorem dX7_sack_27 : decode cX7_sack 27 = .ok (.iload_n 2, 1) := by decide +kernel
theorem dX7_sack_28 : decode cX7_sack 28 = .ok (.iconst 2, 1) := by decide +kernel
theorem dX7_sack_29 : decode cX7_sack 29 = .ok (.if_icmp .le 6, 3) := by decide +kernel
theorem dX7_sack_32 : decode cX7_sack 32 = .ok (.ldc 72, 2) := by decide +kernel
theorem dX7_sack_34 : decode cX7_sack 34 = .ok (.ireturn, 1) := by decide +kernel
theorem dX7_sack_35 : decode cX7_sack 35 = .ok (.aload_n 0, 1) := by decide +kernel
theorem dX7_sack_36 : decode cX7_sack 36 = .ok (.getfield 26, 3) := by decide +kernel
theorem dX7_sack_39 : decode cX7_sack 39 = .ok (.iconst 0, 1) := by decide +kernel
theorem dX7_sack_4 : decode cX7_sack 4 = .ok (.invokevirtual 145, 3) := by decide +kernel
theorem dX7_sack_40 : decode cX7_sack 40 = .ok (.invokevirtual 185, 3) := by decide +kernel
theorem dX7_sack_43 : decode cX7_sack 43 = .ok (.istore_n 3, 1) := by decide +kernel
theorem dX7_sack_44 : decode cX7_sack 44 = .ok (.iconst 0, 1) := by decide +kernel
theorem dX7_sack_45 : decode cX7_sack 45 = .ok (.istore 4, 2) := by decide +kernel
theorem dX7_sack_47 : decode cX7_sack 47 = .ok (.iload_n 3, 1) := by decide +kernel
theorem dX7_sack_48 : decode cX7_sack 48 = .ok (.istore 5, 2) := by decide +kernel
theorem dX7_sack_50 : decode cX7_sack 50 = .ok (.iconst 0, 1) := by decide +kernel
theorem dX7_sack_51 : decode cX7_sack 51 = .ok (.istore 6, 2) := by decide +kernel
theorem dX7_sack_53 : decode cX7_sack 53 = .ok (.iconst 0, 1) := by decide +kernel
theorem dX7_sack_54 : decode cX7_sack 54 = .ok (.istore 7, 2) := by decide +kernel
theorem dX7_sack_56 : decode cX7_sack 56 = .ok (.iload 7, 2) := by decide +kernel
theorem dX7_sack_58 : decode cX7_sack 58 = .ok (.iconst 1, 1) := by decide +kernel
theorem dX7_sack_59 : decode cX7_sack 59 = .ok (.aload_n 0, 1) := by decide +kernel
theorem dX7_sack_60 : decode cX7_sack 60 = .ok (.getfield 26, 3) := by decide +kernel
theorem dX7_sack_63 : decode cX7_sack 63 = .ok (.getfield 135, 3) := by decide +kernel
theorem dX7_sack_66 : decode cX7_sack 66 = .ok (.ishl, 1) := by decide +kernel
theorem dX7_sack_67 : decode cX7_sack 67 = .ok (.if_icmp .ge 48, 3) := by decide +kernel
theorem dX7_sack_7 : decode cX7_sack 7 = .ok (.ifCond .ne 6, 3) := by decide +kernel
theorem dX7_sack_70 : decode cX7_sack 70 = .ok (.iload 7, 2) := by decide +kernel
theorem dX7_sack_72 : decode cX7_sack 72 = .ok (.iload_n 3, 1) := by decide +kernel
theorem dX7_sack_73 : decode cX7_sack 73 = .ok (.iconst (-1), 1) := by decide +kernel
theorem dX7_sack_74 : decode cX7_sack 74 = .ok (.ixor, 1) := by decide +kernel
theorem dX7_sack_75 : decode cX7_sack 75 = .ok (.iand, 1) := by decide +kernel
theorem dX7_sack_76 : decode cX7_sack 76 = .ok (.ifCond .ne 33, 3) := by decide +kernel
theorem dX7_sack_79 : decode cX7_sack 79 = .ok (.aload_n 0, 1) := by decide +kernel
theorem dX7_sack_80 : decode cX7_sack 80 = .ok (.getfield 26, 3) := by decide +kernel
theorem dX7_sack_83 : decode cX7_sack 83 = .ok (.iload 7, 2) := by decide +kernel
theorem dX7_sack_85 : decode cX7_sack 85 = .ok (.invokevirtual 237, 3) := by decide +kernel
theorem dX7_sack_88 : decode cX7_sack 88 = .ok (.iload_n 1, 1) := by decide +kernel
theorem dX7_sack_89 : decode cX7_sack 89 = .ok (.if_icmp .ne 20, 3) := by decide +kernel
theorem dX7_sack_92 : decode cX7_sack 92 = .ok (.iinc 4 1, 3) := by decide +kernel
theorem dX7_sack_95 : decode cX7_sack 95 = .ok (.iload 5, 2) := by decide +kernel
theorem dX7_sack_97 : decode cX7_sack 97 = .ok (.iload 7, 2) := by decide +kernel
theorem dX7_sack_99 : decode cX7_sack 99 = .ok (.iand, 1) := by decide +kernel
theorem dX7_share_0 : decode cX7_share 0 = .ok (.aload_n 0, 1) := by decide +kernel
theorem dX7_share_1 : decode cX7_share 1 = .ok (.getfield 26, 3) := by decide +kernel
theorem dX7_share_101 : decode cX7_share 101 = .ok (.iload 6, 2) := by decide +kernel
theorem dX7_share_103 : decode cX7_share 103 = .ok (.iaload, 1) := by decide +kernel
theorem dX7_share_104 : decode cX7_share 104 = .ok (.imul, 1) := by decide +kernel
theorem dX7_share_105 : decode cX7_share 105 = .ok (.iload_n 3, 1) := by decide +kernel
theorem dX7_share_106 : decode cX7_share 106 = .ok (.idiv, 1) := by decide +kernel
theorem dX7_share_107 : decode cX7_share 107 = .ok (.isub, 1) := by decide +kernel
theorem dX7_share_108 : decode cX7_share 108 = .ok (.istore 4, 2) := by decide +kernel
theorem dX7_share_11 : decode cX7_share 11 = .ok (.iload_n 2, 1) := by decide +kernel
theorem dX7_share_110 : decode cX7_share 110 = .ok (.iload 5, 2) := by decide +kernel
theorem dX7_share_112 : decode cX7_share 112 = .ok (.iload 6, 2) := by decide +kernel
theorem dX7_share_114 : decode cX7_share 114 = .ok (.iload_n 1, 1) := by decide +kernel
theorem dX7_share_115 : decode cX7_share 115 = .ok (.if_icmp .ge 7, 3) := by decide +kernel
theorem dX7_share_118 : decode cX7_share 118 = .ok (.iconst 1, 1) := by decide +kernel
theorem dX7_share_119 : decode cX7_share 119 = .ok (.goto 4, 3) := by decide +kernel
theorem dX7_share_12 : decode cX7_share 12 = .ok (.ifCond .lt 10, 3) := by decide +kernel
theorem dX7_share_122 : decode cX7_share 122 = .ok (.iconst 0, 1) := by decide +kernel
theorem dX7_share_123 : decode cX7_share 123 = .ok (.iadd, 1) := by decide +kernel
theorem dX7_share_124 : decode cX7_share 124 = .ok (.istore 5, 2) := by decide +kernel
theorem dX7_share_126 : decode cX7_share 126 = .ok (.iinc 6 1, 3) := by decide +kernel
theorem dX7_share_129 : decode cX7_share 129 = .ok (.goto (-62), 3) := by decide +kernel
theorem dX7_share_132 : decode cX7_share 132 = .ok (.iload_n 2, 1) := by decide +kernel
theorem dX7_share_133 : decode cX7_share 133 = .ok (.aload_n 0, 1) := by decide +kernel
theorem dX7_share_134 : decode cX7_share 134 = .ok (.getfield 26, 3) := by decide +kernel
theorem dX7_share_137 : decode cX7_share 137 = .ok (.getfield 240, 3) := by decide +kernel
theorem dX7_share_140 : decode cX7_share 140 = .ok (.iload_n 1, 1) := by decide +kernel
theorem dX7_share_141 : decode cX7_share 141 = .ok (.iaload, 1) := by decide +kernel
theorem dX7_share_142 : decode cX7_share 142 = .ok (.imul, 1) := by decide +kernel
theorem dX7_share_143 : decode cX7_share 143 = .ok (.iload_n 3, 1) := by decide +kernel
theorem dX7_share_144 : decode cX7_share 144 = .ok (.idiv, 1) := by decide +kernel
theorem dX7_share_145 : decode cX7_share 145 = .ok (.iload 5, 2) := by decide +kernel
theorem dX7_share_147 : decode cX7_share 147 = .ok (.iload 4, 2) := by decide +kernel
theorem dX7_share_149 : decode cX7_share 149 = .ok (.if_icmp .ge 7, 3) := by decide +kernel
theorem dX7_share_15 : decode cX7_share 15 = .ok (.iload_n 2, 1) := by decide +kernel
theorem dX7_share_152 : decode cX7_share 152 = .ok (.iconst 1, 1) := by decide +kernel
theorem dX7_share_153 : decode cX7_share 153 = .ok (.goto 4, 3) := by decide +kernel
theorem dX7_share_156 : decode cX7_share 156 = .ok (.iconst 0, 1) := by decide +kernel
theorem dX7_share_157 : decode cX7_share 157 = .ok (.iadd, 1) := by decide +kernel
theorem dX7_share_158 : decode cX7_share 158 = .ok (.ireturn, 1) := by decide +kernel
theorem dX7_share_16 : decode cX7_share 16 = .ok (.sipush 999, 3) := by decide +kernel
theorem dX7_share_19 : decode cX7_share 19 = .ok (.if_icmp .le 6, 3) := by decide +kernel
theorem dX7_share_22 : decode cX7_share 22 = .ok (.ldc 72, 2) := by decide +kernel
theorem dX7_share_24 : decode cX7_share 24 = .ok (.ireturn, 1) := by decide +kernel
theorem dX7_share_25 : decode cX7_share 25 = .ok (.aload_n 0, 1) := by decide +kernel
theorem dX7_share_26 : decode cX7_share 26 = .ok (.getfield 26, 3) := by decide +kernel
theorem dX7_share_29 : decode cX7_share 29 = .ok (.aload_n 0, 1) := by decide +kernel
theorem dX7_share_30 : decode cX7_share 30 = .ok (.getfield 26, 3) := by decide +kernel
theorem dX7_share_33 : decode cX7_share 33 = .ok (.iconst 0, 1) := by decide +kernel
theorem dX7_share_34 : decode cX7_share 34 = .ok (.invokevirtual 185, 3) := by decide +kernel
theorem dX7_share_37 : decode cX7_share 37 = .ok (.invokevirtual 237, 3) := by decide +kernel
theorem dX7_share_4 : decode cX7_share 4 = .ok (.iload_n 1, 1) := by decide +kernel
theorem dX7_share_40 : decode cX7_share 40 = .ok (.istore_n 3, 1) := by decide +kernel
theorem dX7_share_41 : decode cX7_share 41 = .ok (.aload_n 0, 1) := by decide +kernel
theorem dX7_share_42 : decode cX7_share 42 = .ok (.getfield 26, 3) := by decide +kernel
theorem dX7_share_45 : decode cX7_share 45 = .ok (.iload_n 1, 1) := by decide +kernel
theorem dX7_share_46 : decode cX7_share 46 = .ok (.invokevirtual 179, 3) := by decide +kernel
theorem dX7_share_49 : decode cX7_share 49 = .ok (.ifCond .eq 7, 3) := by decide +kernel
theorem dX7_share_5 : decode cX7_share 5 = .ok (.invokevirtual 173, 3) := by decide +kernel
theorem dX7_share_52 : decode cX7_share 52 = .ok (.iload_n 3, 1) := by decide +kernel
theorem dX7_share_53 : decode cX7_share 53 = .ok (.ifCond .gt 5, 3) := by decide +kernel
theorem dX7_share_56 : decode cX7_share 56 = .ok (.iconst 0, 1) := by decide +kernel
theorem dX7_share_57 : decode cX7_share 57 = .ok (.ireturn, 1) := by decide +kernel
theorem dX7_share_58 : decode cX7_share 58 = .ok (.iload_n 2, 1) := by decide +kernel
theorem dX7_share_59 : decode cX7_share 59 = .ok (.istore 4, 2) := by decide +kernel
theorem dX7_share_61 : decode cX7_share 61 = .ok (.iconst 0, 1) := by decide +kernel
theorem dX7_share_62 : decode cX7_share 62 = .ok (.istore 5, 2) := by decide +kernel
theorem dX7_share_64 : decode cX7_share 64 = .ok (.iconst 0, 1) := by decide +kernel
theorem dX7_share_65 : decode cX7_share 65 = .ok (.istore 6, 2) := by decide +kernel
theorem dX7_share_67 : decode cX7_share 67 = .ok (.iload 6, 2) := by decide +kernel
theorem dX7_share_69 : decode cX7_share 69 = .ok (.aload_n 0, 1) := by decide +kernel
theorem dX7_share_70 : decode cX7_share 70 = .ok (.getfield 26, 3) := by decide +kernel
theorem dX7_share_73 : decode cX7_share 73 = .ok (.getfield 135, 3) := by decide +kernel
theorem dX7_share_76 : decode cX7_share 76 = .ok (.if_icmp .ge 56, 3) := by decide +kernel
theorem dX7_share_79 : decode cX7_share 79 = .ok (.aload_n 0, 1) := by decide +kernel
theorem dX7_share_8 : decode cX7_share 8 = .ok (.ifCond .eq 14, 3) := by decide +kernel
theorem dX7_share_80 : decode cX7_share 80 = .ok (.getfield 26, 3) := by decide +kernel
theorem dX7_share_83 : decode cX7_share 83 = .ok (.iload 6, 2) := by decide +kernel
theorem dX7_share_85 : decode cX7_share 85 = .ok (.invokevirtual 179, 3) := by decide +kernel
theorem dX7_share_88 : decode cX7_share 88 = .ok (.ifCond .eq 38, 3) := by decide +kernel
theorem dX7_share_91 : decode cX7_share 91 = .ok (.iload 4, 2) := by decide +kernel
theorem dX7_share_93 : decode cX7_share 93 = .ok (.iload_n 2, 1) := by decide +kernel
theorem dX7_share_94 : decode cX7_share 94 = .ok (.aload_n 0, 1) := by decide +kernel
theorem dX7_share_95 : decode cX7_share 95 = .ok (.getfield 26, 3) := by decide +kernel
theorem dX7_share_98 : decode cX7_share 98 = .ok (.getfield 240, 3) := by decide +kernel
theorem dX7_sound_0 : decode cX7_sound 0 = .ok (.aload_n 0, 1) := by decide +kernel
theorem dX7_sound_1 : decode cX7_sound 1 = .ok (.getfield 26, 3) := by decide +kernel
theorem dX7_sound_11 : decode cX7_sound 11 = .ok (.iload_n 2, 1) := by decide +kernel
theorem dX7_sound_12 : decode cX7_sound 12 = .ok (.ifCond .lt 8, 3) := by decide +kernel
theorem dX7_sound_15 : decode cX7_sound 15 = .ok (.iload_n 2, 1) := by decide +kernel
theorem dX7_sound_16 : decode cX7_sound 16 = .ok (.iconst 3, 1) := by decide +kernel
theorem dX7_sound_17 : decode cX7_sound 17 = .ok (.if_icmp .le 6, 3) := by decide +kernel
theorem dX7_sound_20 : decode cX7_sound 20 = .ok (.ldc 72, 2) := by decide +kernel
theorem dX7_sound_22 : decode cX7_sound 22 = .ok (.ireturn, 1) := by decide +kernel
theorem dX7_sound_23 : decode cX7_sound 23 = .ok (.iload_n 2, 1) := by decide +kernel
theorem dX7_sound_24 : decode cX7_sound 24 = .ok (.iconst 3, 1) := by decide +kernel
theorem dX7_sound_25 : decode cX7_sound 25 = .ok (.if_icmp .ne 22, 3) := by decide +kernel
theorem dX7_sound_28 : decode cX7_sound 28 = .ok (.aload_n 0, 1) := by decide +kernel
theorem dX7_sound_29 : decode cX7_sound 29 = .ok (.getfield 26, 3) := by decide +kernel
theorem dX7_sound_32 : decode cX7_sound 32 = .ok (.iload_n 1, 1) := by decide +kernel
theorem dX7_sound_33 : decode cX7_sound 33 = .ok (.aload_n 0, 1) := by decide +kernel
theorem dX7_sound_34 : decode cX7_sound 34 = .ok (.getfield 26, 3) := by decide +kernel
theorem dX7_sound_37 : decode cX7_sound 37 = .ok (.iconst 0, 1) := by decide +kernel
theorem dX7_sound_38 : decode cX7_sound 38 = .ok (.invokevirtual 188, 3) := by decide +kernel
theorem dX7_sound_4 : decode cX7_sound 4 = .ok (.iload_n 1, 1) := by decide +kernel
theorem dX7_sound_41 : decode cX7_sound 41 = .ok (.invokevirtual 191, 3) := by decide +kernel
theorem dX7_sound_44 : decode cX7_sound 44 = .ok (.goto 12, 3) := by decide +kernel
theorem dX7_sound_47 : decode cX7_sound 47 = .ok (.aload_n 0, 1) := by decide +kernel
theorem dX7_sound_48 : decode cX7_sound 48 = .ok (.getfield 26, 3) := by decide +kernel
theorem dX7_sound_5 : decode cX7_sound 5 = .ok (.invokevirtual 173, 3) := by decide +kernel
theorem dX7_sound_51 : decode cX7_sound 51 = .ok (.iload_n 1, 1) := by decide +kernel
theorem dX7_sound_52 : decode cX7_sound 52 = .ok (.iload_n 2, 1) := by decide +kernel
theorem dX7_sound_53 : decode cX7_sound 53 = .ok (.invokevirtual 195, 3) := by decide +kernel
theorem dX7_sound_56 : decode cX7_sound 56 = .ok (.ireturn, 1) := by decide +kernel
theorem dX7_sound_8 : decode cX7_sound 8 = .ok (.ifCond .eq 12, 3) := by decide +kernel
theorem dX7_stand_0 : decode cX7_stand 0 = .ok (.aload_n 0, 1) := by decide +kernel
theorem dX7_stand_1 : decode cX7_stand 1 = .ok (.getfield 26, 3) := by decide +kernel
theorem dX7_stand_10 : decode cX7_stand 10 = .ok (.ldc 141, 2) := by decide +kernel
theorem dX7_stand_101 : decode cX7_stand 101 = .ok (.iconst 1, 1) := by decide +kernel
theorem dX7_stand_102 : decode cX7_stand 102 = .ok (.invokevirtual 185, 3) := by decide +kernel
theorem dX7_stand_105 : decode cX7_stand 105 = .ok (.ireturn, 1) := by decide +kernel
theorem dX7_stand_106 : decode cX7_stand 106 = .ok (.aload_n 0, 1) := by decide +kernel
theorem dX7_stand_107 : decode cX7_stand 107 = .ok (.getfield 26, 3) := by decide +kernel
theorem dX7_stand_110 : decode cX7_stand 110 = .ok (.iconst 2, 1) := by decide +kernel
theorem dX7_stand_111 : decode cX7_stand 111 = .ok (.invokevirtual 185, 3) := by decide +kernel
theorem dX7_stand_114 : decode cX7_stand 114 = .ok (.ireturn, 1) := by decide +kernel
theorem dX7_stand_115 : decode cX7_stand 115 = .ok (.ldc 72, 2) := by decide +kernel
theorem dX7_stand_117 : decode cX7_stand 117 = .ok (.ireturn, 1) := by decide +kernel
theorem dX7_stand_12 : decode cX7_stand 12 = .ok (.ireturn, 1) := by decide +kernel
theorem dX7_stand_13 : decode cX7_stand 13 = .ok (.iload_n 1, 1) := by decide +kernel
theorem dX7_stand_14 : decode cX7_stand 14 = .ok (.tableswitch 101 0 6 #[42, 50, 58, 66, 74, 83, 92], 42) := by decide +kernel
theorem dX7_stand_4 : decode cX7_stand 4 = .ok (.invokevirtual 145, 3) := by decide +kernel
theorem dX7_stand_56 : decode cX7_stand 56 = .ok (.aload_n 0, 1) := by decide +kernel
theorem dX7_stand_57 : decode cX7_stand 57 = .ok (.getfield 26, 3) := by decide +kernel
theorem dX7_stand_60 : decode cX7_stand 60 = .ok (.getfield 198, 3) := by decide +kernel
theorem dX7_stand_63 : decode cX7_stand 63 = .ok (.ireturn, 1) := by decide +kernel
theorem dX7_stand_64 : decode cX7_stand 64 = .ok (.aload_n 0, 1) := by decide +kernel
theorem dX7_stand_65 : decode cX7_stand 65 = .ok (.getfield 26, 3) := by decide +kernel
theorem dX7_stand_68 : decode cX7_stand 68 = .ok (.getfield 201, 3) := by decide +kernel
theorem dX7_stand_7 : decode cX7_stand 7 = .ok (.ifCond .ne 6, 3) := by decide +kernel
theorem dX7_stand_71 : decode cX7_stand 71 = .ok (.ireturn, 1) := by decide +kernel
theorem dX7_stand_72 : decode cX7_stand 72 = .ok (.aload_n 0, 1) := by decide +kernel
theorem dX7_stand_73 : decode cX7_stand 73 = .ok (.getfield 26, 3) := by decide +kernel
theorem dX7_stand_76 : decode cX7_stand 76 = .ok (.getfield 204, 3) := by decide +kernel
theorem dX7_stand_79 : decode cX7_stand 79 = .ok (.ireturn, 1) := by decide +kernel
theorem dX7_stand_80 : decode cX7_stand 80 = .ok (.aload_n 0, 1) := by decide +kernel
theorem dX7_stand_81 : decode cX7_stand 81 = .ok (.getfield 26, 3) := by decide +kernel
theorem dX7_stand_84 : decode cX7_stand 84 = .ok (.getfield 163, 3) := by decide +kernel
theorem dX7_stand_87 : decode cX7_stand 87 = .ok (.ireturn, 1) := by decide +kernel
theorem dX7_stand_88 : decode cX7_stand 88 = .ok (.aload_n 0, 1) := by decide +kernel
theorem dX7_stand_89 : decode cX7_stand 89 = .ok (.getfield 26, 3) := by decide +kernel
theorem dX7_stand_92 : decode cX7_stand 92 = .ok (.iconst 0, 1) := by decide +kernel
theorem dX7_stand_93 : decode cX7_stand 93 = .ok (.invokevirtual 185, 3) := by decide +kernel
theorem dX7_stand_96 : decode cX7_stand 96 = .ok (.ireturn, 1) := by decide +kernel
theorem dX7_stand_97 : decode cX7_stand 97 = .ok (.aload_n 0, 1) := by decide +kernel
theorem dX7_stand_98 : decode cX7_stand 98 = .ok (.getfield 26, 3) := by decide +kernel
theorem dX7_status_0 : decode cX7_status 0 = .ok (.aload_n 0, 1) := by decide +kernel
theorem dX7_status_1 : decode cX7_status 1 = .ok (.getfield 323, 3) := by decide +kernel
theorem dX7_status_4 : decode cX7_status 4 = .ok (.ireturn, 1) := by decide +kernel
theorem dX7_trace_0 : decode cX7_trace 0 = .ok (.iload_n 1, 1) := by decide +kernel
theorem dX7_trace_1 : decode cX7_trace 1 = .ok (.ifCond .lt 26, 3) := by decide +kernel
theorem dX7_trace_12 : decode cX7_trace 12 = .ok (.if_icmp .ge 15, 3) := by decide +kernel
theorem dX7_trace_15 : decode cX7_trace 15 = .ok (.aload_n 0, 1) := by decide +kernel
theorem dX7_trace_16 : decode cX7_trace 16 = .ok (.getfield 61, 3) := by decide +kernel
theorem dX7_trace_19 : decode cX7_trace 19 = .ok (.getfield 316, 3) := by decide +kernel
theorem dX7_trace_22 : decode cX7_trace 22 = .ok (.iload_n 1, 1) := by decide +kernel
theorem dX7_trace_23 : decode cX7_trace 23 = .ok (.iaload, 1) := by decide +kernel
theorem dX7_trace_24 : decode cX7_trace 24 = .ok (.goto 5, 3) := by decide +kernel
theorem dX7_trace_27 : decode cX7_trace 27 = .ok (.ldc 220, 2) := by decide +kernel
theorem dX7_trace_29 : decode cX7_trace 29 = .ok (.ireturn, 1) := by decide +kernel
theorem dX7_trace_4 : decode cX7_trace 4 = .ok (.iload_n 1, 1) := by decide +kernel
theorem dX7_trace_5 : decode cX7_trace 5 = .ok (.aload_n 0, 1) := by decide +kernel
theorem dX7_trace_6 : decode cX7_trace 6 = .ok (.getfield 61, 3) := by decide +kernel
theorem dX7_trace_9 : decode cX7_trace 9 = .ok (.getfield 313, 3) := by decide +kernel
set_option maxRecDepth 20000 in
theorem ggX7_count_J6_bitCount_0f7a4 : GoodIn wsX7_count wsJ6_bitCount_0f7a4 := goodIn_r _ [32, 33, 34, 35] (by decide +kernel) (by decide +kernel)
set_option maxRecDepth 20000 in
theorem gX7_count_J6_bitCount_0f7a4 : GoodIn wsX7_count (va_wsS RX7 296 yJ6_bitCount_0f7a4 wsJ6_bitCount_0f7a4) := goodIn_app (goodIn_of _ (by decide +kernel)) ggX7_count_J6_bitCount_0f7a4
set_option maxRecDepth 20000 in
theorem ggX7_count_X3_soundsThatAre : GoodIn wsX7_count wsX3_soundsThatAre := goodIn_r _ [26, 27, 28, 47, 48, 49, 50, 51, 52, 53, 54, 55, 56, 57, 58, 59] (by decide +kernel) (by decide +kernel)
set_option maxRecDepth 20000 in
theorem gX7_count_X3_soundsThatAre : GoodIn wsX7_count (wsV RX7 185 RX3 yX3_soundsThatAre wsX3_soundsThatAre) := goodIn_app (goodIn_of _ (by decide +kernel)) ggX7_count_X3_soundsThatAre
set_option maxRecDepth 20000 in
theorem ggX7_count_X5_present : GoodIn wsX7_count wsX5_present := goodIn_r _ [16, 17, 18, 19, 15, 20, 21, 69, 70, 71] (by decide +kernel) (by decide +kernel)
set_option maxRecDepth 20000 in
theorem gX7_count_X5_present : GoodIn wsX7_count (wsV RX7 319 RX5 yX5_present wsX5_present) := goodIn_app (goodIn_of _ (by decide +kernel)) ggX7_count_X5_present
set_option maxRecDepth 20000 in
theorem ggX7_gust_X3_isTold : GoodIn wsX7_gust wsX3_isTold := goodIn_r _ [8, 9, 32, 33, 34, 35, 36, 37, 38, 39, 40, 41, 42, 43, 44] (by decide +kernel) (by decide +kernel)
set_option maxRecDepth 20000 in
theorem gX7_gust_X3_isTold : GoodIn wsX7_gust (wsV RX7 145 RX3 yX3_isTold wsX3_isTold) := goodIn_app (goodIn_of _ (by decide +kernel)) ggX7_gust_X3_isTold
set_option maxRecDepth 20000 in
theorem ggX7_gust_X3_windOn : GoodIn wsX7_gust wsX3_windOn := goodIn_r _ [17, 18, 19, 20, 32, 33, 34, 35, 36, 37, 38, 39, 40, 41, 42, 43, 44] (by decide +kernel) (by decide +kernel)
set_option maxRecDepth 20000 in
theorem gX7_gust_X3_windOn : GoodIn wsX7_gust (wsV RX7 188 RX3 yX3_windOn wsX3_windOn) := goodIn_app (goodIn_of _ (by decide +kernel)) ggX7_gust_X3_windOn
set_option maxRecDepth 20000 in
theorem ggX7_gust_X7_isForetold : GoodIn wsX7_gust wsX7_isForetold := goodIn_r _ [13] (by decide +kernel) (by decide +kernel)
set_option maxRecDepth 20000 in
theorem gX7_gust_X7_isForetold : GoodIn wsX7_gust (va_wsS RX7 207 yX7_isForetold wsX7_isForetold) := goodIn_app (goodIn_of _ (by decide +kernel)) ggX7_gust_X7_isForetold
set_option maxRecDepth 20000 in
theorem ggX7_isHeard_X5_isRow : GoodIn wsX7_isHeard wsX5_isRow := goodIn_r _ [4] (by decide +kernel) (by decide +kernel)
set_option maxRecDepth 20000 in
theorem gX7_isHeard_X5_isRow : GoodIn wsX7_isHeard (va_wsS RX7 65 yX5_isRow wsX5_isRow) := goodIn_app (goodIn_of _ (by decide +kernel)) ggX7_isHeard_X5_isRow
set_option maxRecDepth 20000 in
theorem ggX7_kind_X3_hasSound : GoodIn wsX7_kind wsX3_hasSound := goodIn_r _ [8, 9, 21, 22, 23, 24, 25, 26, 27, 28, 29, 30, 31, 32, 33] (by decide +kernel) (by decide +kernel)
set_option maxRecDepth 20000 in
theorem gX7_kind_X3_hasSound : GoodIn wsX7_kind (wsV RX7 173 RX3 yX3_hasSound wsX3_hasSound) := goodIn_app (goodIn_of _ (by decide +kernel)) ggX7_kind_X3_hasSound
set_option maxRecDepth 20000 in
theorem ggX7_sack_X3_isTold : GoodIn wsX7_sack wsX3_isTold := goodIn_r _ [9, 10, 33, 34, 35, 36, 37, 38, 39, 40, 41, 42, 43, 44, 45] (by decide +kernel) (by decide +kernel)
set_option maxRecDepth 20000 in
theorem gX7_sack_X3_isTold : GoodIn wsX7_sack (wsV RX7 145 RX3 yX3_isTold wsX3_isTold) := goodIn_app (goodIn_of _ (by decide +kernel)) ggX7_sack_X3_isTold
set_option maxRecDepth 20000 in
theorem ggX7_sack_X3_loudOf : GoodIn wsX7_sack wsX3_loudOf := goodIn_r _ [20, 15, 21, 33, 34, 35, 36, 37, 38, 39, 40, 41, 42, 43, 44, 45] (by decide +kernel) (by decide +kernel)
set_option maxRecDepth 20000 in
theorem gX7_sack_X3_loudOf : GoodIn wsX7_sack (wsV RX7 237 RX3 yX3_loudOf wsX3_loudOf) := goodIn_app (goodIn_of _ (by decide +kernel)) ggX7_sack_X3_loudOf
set_option maxRecDepth 20000 in
theorem ggX7_sack_X3_soundsThatAre : GoodIn wsX7_sack wsX3_soundsThatAre := goodIn_r _ [14, 15, 16, 33, 34, 35, 36, 37, 38, 39, 40, 41, 42, 43, 44, 45] (by decide +kernel) (by decide +kernel)
set_option maxRecDepth 20000 in
theorem gX7_sack_X3_soundsThatAre : GoodIn wsX7_sack (wsV RX7 185 RX3 yX3_soundsThatAre wsX3_soundsThatAre) := goodIn_app (goodIn_of _ (by decide +kernel)) ggX7_sack_X3_soundsThatAre
set_option maxRecDepth 20000 in
theorem ggX7_share_X3_hasSound : GoodIn wsX7_share wsX3_hasSound := goodIn_r _ [9, 10, 36, 37, 38, 39, 40, 41, 42, 43, 44, 45, 46, 47, 48] (by decide +kernel) (by decide +kernel)
set_option maxRecDepth 20000 in
theorem gX7_share_X3_hasSound : GoodIn wsX7_share (wsV RX7 173 RX3 yX3_hasSound wsX3_hasSound) := goodIn_app (goodIn_of _ (by decide +kernel)) ggX7_share_X3_hasSound
set_option maxRecDepth 20000 in
theorem ggX7_share_X3_isLoose : GoodIn wsX7_share wsX3_isLoose := goodIn_r _ [24, 15, 36, 37, 38, 39, 40, 41, 42, 43, 44, 45, 46, 47, 48] (by decide +kernel) (by decide +kernel)
set_option maxRecDepth 20000 in
theorem gX7_share_X3_isLoose : GoodIn wsX7_share (wsV RX7 179 RX3 yX3_isLoose wsX3_isLoose) := goodIn_app (goodIn_of _ (by decide +kernel)) ggX7_share_X3_isLoose
set_option maxRecDepth 20000 in
theorem ggX7_share_X3_loudOf : GoodIn wsX7_share wsX3_loudOf := goodIn_r _ [19, 10, 20, 36, 37, 38, 39, 40, 41, 42, 43, 44, 45, 46, 47, 48] (by decide +kernel) (by decide +kernel)
set_option maxRecDepth 20000 in
theorem gX7_share_X3_loudOf : GoodIn wsX7_share (wsV RX7 237 RX3 yX3_loudOf wsX3_loudOf) := goodIn_app (goodIn_of _ (by decide +kernel)) ggX7_share_X3_loudOf
set_option maxRecDepth 20000 in
theorem ggX7_share_X3_soundsThatAre : GoodIn wsX7_share wsX3_soundsThatAre := goodIn_r _ [14, 10, 15, 36, 37, 38, 39, 40, 41, 42, 43, 44, 45, 46, 47, 48] (by decide +kernel) (by decide +kernel)
set_option maxRecDepth 20000 in
theorem gX7_share_X3_soundsThatAre : GoodIn wsX7_share (wsV RX7 185 RX3 yX3_soundsThatAre wsX3_soundsThatAre) := goodIn_app (goodIn_of _ (by decide +kernel)) ggX7_share_X3_soundsThatAre
set_option maxRecDepth 20000 in
theorem ggX7_sound_X3_driftOf : GoodIn wsX7_sound wsX3_driftOf := goodIn_r _ [19, 20, 44, 45, 46, 47, 48, 49, 50, 51, 52, 53, 54, 55, 56] (by decide +kernel) (by decide +kernel)
set_option maxRecDepth 20000 in
theorem gX7_sound_X3_driftOf : GoodIn wsX7_sound (wsV RX7 191 RX3 yX3_driftOf wsX3_driftOf) := goodIn_app (goodIn_of _ (by decide +kernel)) ggX7_sound_X3_driftOf
set_option maxRecDepth 20000 in
theorem ggX7_sound_X3_hasSound : GoodIn wsX7_sound wsX3_hasSound := goodIn_r _ [7, 8, 44, 45, 46, 47, 48, 49, 50, 51, 52, 53, 54, 55, 56] (by decide +kernel) (by decide +kernel)
set_option maxRecDepth 20000 in
theorem gX7_sound_X3_hasSound : GoodIn wsX7_sound (wsV RX7 173 RX3 yX3_hasSound wsX3_hasSound) := goodIn_app (goodIn_of _ (by decide +kernel)) ggX7_sound_X3_hasSound
set_option maxRecDepth 20000 in
theorem ggX7_sound_X3_tellOf : GoodIn wsX7_sound wsX3_tellOf := goodIn_r _ [24, 25, 26, 27, 28, 29, 30, 31, 6, 32, 44, 45, 46, 47, 48, 49, 50, 51, 52, 53, 54, 55, 56] (by decide +kernel) (by decide +kernel)
set_option maxRecDepth 20000 in
theorem gX7_sound_X3_tellOf : GoodIn wsX7_sound (wsV RX7 195 RX3 yX3_tellOf wsX3_tellOf) := goodIn_app (goodIn_of _ (by decide +kernel)) ggX7_sound_X3_tellOf
set_option maxRecDepth 20000 in
theorem ggX7_sound_X3_windOn : GoodIn wsX7_sound wsX3_windOn := goodIn_r _ [12, 13, 14, 15, 44, 45, 46, 47, 48, 49, 50, 51, 52, 53, 54, 55, 56] (by decide +kernel) (by decide +kernel)
set_option maxRecDepth 20000 in
theorem gX7_sound_X3_windOn : GoodIn wsX7_sound (wsV RX7 188 RX3 yX3_windOn wsX3_windOn) := goodIn_app (goodIn_of _ (by decide +kernel)) ggX7_sound_X3_windOn
set_option maxRecDepth 20000 in
theorem ggX7_stand_X3_isTold : GoodIn wsX7_stand wsX3_isTold := goodIn_r _ [12, 13, 31, 32, 33, 34, 35, 36, 37, 38, 39, 40, 41, 42, 43] (by decide +kernel) (by decide +kernel)
set_option maxRecDepth 20000 in
theorem gX7_stand_X3_isTold : GoodIn wsX7_stand (wsV RX7 145 RX3 yX3_isTold wsX3_isTold) := goodIn_app (goodIn_of _ (by decide +kernel)) ggX7_stand_X3_isTold
set_option maxRecDepth 20000 in
theorem ggX7_stand_X3_soundsThatAre : GoodIn wsX7_stand wsX3_soundsThatAre := goodIn_r _ [17, 18, 19, 31, 32, 33, 34, 35, 36, 37, 38, 39, 40, 41, 42, 43] (by decide +kernel) (by decide +kernel)
set_option maxRecDepth 20000 in
theorem gX7_stand_X3_soundsThatAre : GoodIn wsX7_stand (wsV RX7 185 RX3 yX3_soundsThatAre wsX3_soundsThatAre) := goodIn_app (goodIn_of _ (by decide +kernel)) ggX7_stand_X3_soundsThatAre
set_option maxRecDepth 20000 in
theorem i_X7_count_X0 : ∀ w ∈ u_ws RX0 TX0 3, w ∈ wsX7_count := by decide +kernel
set_option maxRecDepth 20000 in
theorem i_X7_count_X3 : ∀ w ∈ u_ws RX3 TX3 13, w ∈ wsX7_count := by decide +kernel
set_option maxRecDepth 20000 in
theorem i_X7_count_X6 : ∀ w ∈ u_ws RX6 TX6 6, w ∈ wsX7_count := by decide +kernel
set_option maxRecDepth 20000 in
theorem i_X7_count_X7 : ∀ w ∈ u_ws RX7 TX7 11, w ∈ wsX7_count := by decide +kernel
set_option maxRecDepth 20000 in
theorem i_X7_fault_X7 : ∀ w ∈ u_ws RX7 TX7 11, w ∈ wsX7_fault := by decide +kernel
set_option maxRecDepth 20000 in
theorem i_X7_found_X7 : ∀ w ∈ u_ws RX7 TX7 11, w ∈ wsX7_found := by decide +kernel
set_option maxRecDepth 20000 in
theorem i_X7_foundNothing_X7 : ∀ w ∈ u_ws RX7 TX7 11, w ∈ wsX7_foundNothing := by decide +kernel
set_option maxRecDepth 20000 in
theorem i_X7_gust_X7 : ∀ w ∈ u_ws RX7 TX7 11, w ∈ wsX7_gust := by decide +kernel
set_option maxRecDepth 20000 in
theorem i_X7_kind_X3 : ∀ w ∈ u_ws RX3 TX3 13, w ∈ wsX7_kind := by decide +kernel
set_option maxRecDepth 20000 in
theorem i_X7_kind_X7 : ∀ w ∈ u_ws RX7 TX7 11, w ∈ wsX7_kind := by decide +kernel
set_option maxRecDepth 20000 in
theorem i_X7_sack_X3 : ∀ w ∈ u_ws RX3 TX3 13, w ∈ wsX7_sack := by decide +kernel
set_option maxRecDepth 20000 in
theorem i_X7_sack_X7 : ∀ w ∈ u_ws RX7 TX7 11, w ∈ wsX7_sack := by decide +kernel
set_option maxRecDepth 20000 in
theorem i_X7_share_X3 : ∀ w ∈ u_ws RX3 TX3 13, w ∈ wsX7_share := by decide +kernel
set_option maxRecDepth 20000 in
theorem i_X7_share_X7 : ∀ w ∈ u_ws RX7 TX7 11, w ∈ wsX7_share := by decide +kernel
set_option maxRecDepth 20000 in
theorem i_X7_sound_X7 : ∀ w ∈ u_ws RX7 TX7 11, w ∈ wsX7_sound := by decide +kernel
set_option maxRecDepth 20000 in
theorem i_X7_stand_X3 : ∀ w ∈ u_ws RX3 TX3 13, w ∈ wsX7_stand := by decide +kernel
set_option maxRecDepth 20000 in
theorem i_X7_stand_X7 : ∀ w ∈ u_ws RX7 TX7 11, w ∈ wsX7_stand := by decide +kernel
set_option maxRecDepth 20000 in
theorem i_X7_status_X7 : ∀ w ∈ u_ws RX7 TX7 11, w ∈ wsX7_status := by decide +kernel
set_option maxRecDepth 20000 in
theorem i_X7_trace_X1 : ∀ w ∈ u_ws RX1 TX1 6, w ∈ wsX7_trace := by decide +kernel
set_option maxRecDepth 20000 in
theorem i_X7_trace_X7 : ∀ w ∈ u_ws RX7 TX7 11, w ∈ wsX7_trace := by decide +kernel
