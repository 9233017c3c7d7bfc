theorem max1_nz (x : Int32) : ¬ (if x < 1 then 1 else x) = 0 := by
  split
  · decide
  · rename_i h
    intro q
    rw [q] at h
    exact h (by decide)
theorem cl_bound (x : Int32) : ∃ c : Nat, c < 2 ^ 31 ∧ ∀ i : Nat, i < 2 ^ 31 → (x ≤ nI i ↔ c ≤ i) := by
  by_cases h : x < 0
  · refine ⟨0, by decide, fun i hi => ⟨fun _ => Nat.zero_le _, fun _ => ?_⟩⟩
    rw [Int32.lt_iff_toInt_lt] at h
    rw [Int32.le_iff_toInt_le, nI_toInt hi]
    have e1 : (0 : Int32).toInt = 0 := rfl
    rw [e1] at h
    omega
  · obtain ⟨j, hj, rfl⟩ := nI_of h
    exact ⟨j, hj, fun i hi => nI_leI hj hi⟩
theorem lN_nz {n : Nat} (h0 : 0 < n) (h : n < 2 ^ 31) : ¬ lN n = 0 := fun q => by
  have h1 := (lN_eq (a := n) (b := 0) h (by decide)).mp q
  omega
theorem l_nz {x : Int32} (h : 0 < x) : ¬ x.toInt64 = 0 := fun q => by
  have h1 : x.toInt64 = (0 : Int32).toInt64 := q
  have h2 : ¬ (0 : Int32).toInt64 < x.toInt64 := by rw [h1]; decide
  exact h2 ((w_lt 0 x).mpr h)
theorem dX3_takeDraw_0 : decode cX3_takeDraw 0 = .ok (.aload_n 0, 1) := by decide +kernel
theorem dX3_takeDraw_1 : decode cX3_takeDraw 1 = .ok (.getfield 46, 3) := by decide +kernel
theorem dX3_takeDraw_11 : decode cX3_takeDraw 11 = .ok (.ifCond .le 10, 3) := by decide +kernel
theorem dX3_takeDraw_14 : decode cX3_takeDraw 14 = .ok (.aload_n 0, 1) := by decide +kernel
theorem dX3_takeDraw_15 : decode cX3_takeDraw 15 = .ok (.getfield 27, 3) := by decide +kernel
theorem dX3_takeDraw_18 : decode cX3_takeDraw 18 = .ok (.ifCond .gt 4, 3) := by decide +kernel
theorem dX3_takeDraw_21 : decode cX3_takeDraw 21 = .ok (.return_, 1) := by decide +kernel
theorem dX3_takeDraw_22 : decode cX3_takeDraw 22 = .ok (.lload_n 1, 1) := by decide +kernel
theorem dX3_takeDraw_23 : decode cX3_takeDraw 23 = .ok (.ldc2_w 97, 3) := by decide +kernel
theorem dX3_takeDraw_26 : decode cX3_takeDraw 26 = .ok (.lrem, 1) := by decide +kernel
theorem dX3_takeDraw_27 : decode cX3_takeDraw 27 = .ok (.lconst 0, 1) := by decide +kernel
theorem dX3_takeDraw_28 : decode cX3_takeDraw 28 = .ok (.lcmp, 1) := by decide +kernel
theorem dX3_takeDraw_29 : decode cX3_takeDraw 29 = .ok (.ifCond .ne 22, 3) := by decide +kernel
theorem dX3_takeDraw_32 : decode cX3_takeDraw 32 = .ok (.aload_n 0, 1) := by decide +kernel
theorem dX3_takeDraw_33 : decode cX3_takeDraw 33 = .ok (.getfield 9, 3) := by decide +kernel
theorem dX3_takeDraw_36 : decode cX3_takeDraw 36 = .ok (.lload_n 1, 1) := by decide +kernel
theorem dX3_takeDraw_37 : decode cX3_takeDraw 37 = .ok (.aload_n 0, 1) := by decide +kernel
theorem dX3_takeDraw_38 : decode cX3_takeDraw 38 = .ok (.getfield 46, 3) := by decide +kernel
theorem dX3_takeDraw_4 : decode cX3_takeDraw 4 = .ok (.ifCond .le 17, 3) := by decide +kernel
theorem dX3_takeDraw_41 : decode cX3_takeDraw 41 = .ok (.i2l, 1) := by decide +kernel
theorem dX3_takeDraw_42 : decode cX3_takeDraw 42 = .ok (.lrem, 1) := by decide +kernel
theorem dX3_takeDraw_43 : decode cX3_takeDraw 43 = .ok (.l2i, 1) := by decide +kernel
theorem dX3_takeDraw_44 : decode cX3_takeDraw 44 = .ok (.lload_n 1, 1) := by decide +kernel
theorem dX3_takeDraw_45 : decode cX3_takeDraw 45 = .ok (.ldc2_w 99, 3) := by decide +kernel
theorem dX3_takeDraw_48 : decode cX3_takeDraw 48 = .ok (.lrem, 1) := by decide +kernel
theorem dX3_takeDraw_49 : decode cX3_takeDraw 49 = .ok (.l2i, 1) := by decide +kernel
theorem dX3_takeDraw_50 : decode cX3_takeDraw 50 = .ok (.iastore, 1) := by decide +kernel
theorem dX3_takeDraw_51 : decode cX3_takeDraw 51 = .ok (.aload_n 0, 1) := by decide +kernel
theorem dX3_takeDraw_52 : decode cX3_takeDraw 52 = .ok (.lload_n 1, 1) := by decide +kernel
theorem dX3_takeDraw_53 : decode cX3_takeDraw 53 = .ok (.ldc2_w 101, 3) := by decide +kernel
theorem dX3_takeDraw_56 : decode cX3_takeDraw 56 = .ok (.lrem, 1) := by decide +kernel
theorem dX3_takeDraw_57 : decode cX3_takeDraw 57 = .ok (.l2i, 1) := by decide +kernel
theorem dX3_takeDraw_58 : decode cX3_takeDraw 58 = .ok (.putfield 37, 3) := by decide +kernel
theorem dX3_takeDraw_61 : decode cX3_takeDraw 61 = .ok (.lload_n 1, 1) := by decide +kernel
theorem dX3_takeDraw_62 : decode cX3_takeDraw 62 = .ok (.aload_n 0, 1) := by decide +kernel
theorem dX3_takeDraw_63 : decode cX3_takeDraw 63 = .ok (.getfield 49, 3) := by decide +kernel
theorem dX3_takeDraw_66 : decode cX3_takeDraw 66 = .ok (.i2l, 1) := by decide +kernel
theorem dX3_takeDraw_67 : decode cX3_takeDraw 67 = .ok (.lrem, 1) := by decide +kernel
theorem dX3_takeDraw_68 : decode cX3_takeDraw 68 = .ok (.l2i, 1) := by decide +kernel
theorem dX3_takeDraw_69 : decode cX3_takeDraw 69 = .ok (.istore_n 3, 1) := by decide +kernel
theorem dX3_takeDraw_7 : decode cX3_takeDraw 7 = .ok (.aload_n 0, 1) := by decide +kernel
theorem dX3_takeDraw_70 : decode cX3_takeDraw 70 = .ok (.aload_n 0, 1) := by decide +kernel
theorem dX3_takeDraw_71 : decode cX3_takeDraw 71 = .ok (.iload_n 3, 1) := by decide +kernel
theorem dX3_takeDraw_72 : decode cX3_takeDraw 72 = .ok (.invokevirtual 58, 3) := by decide +kernel
theorem dX3_takeDraw_75 : decode cX3_takeDraw 75 = .ok (.ifCond .ne 24, 3) := by decide +kernel
theorem dX3_takeDraw_78 : decode cX3_takeDraw 78 = .ok (.aload_n 0, 1) := by decide +kernel
theorem dX3_takeDraw_79 : decode cX3_takeDraw 79 = .ok (.iload_n 3, 1) := by decide +kernel
theorem dX3_takeDraw_8 : decode cX3_takeDraw 8 = .ok (.getfield 49, 3) := by decide +kernel
theorem dX3_takeDraw_80 : decode cX3_takeDraw 80 = .ok (.lload_n 1, 1) := by decide +kernel
theorem dX3_takeDraw_81 : decode cX3_takeDraw 81 = .ok (.aload_n 0, 1) := by decide +kernel
theorem dX3_takeDraw_82 : decode cX3_takeDraw 82 = .ok (.getfield 27, 3) := by decide +kernel
theorem dX3_takeDraw_85 : decode cX3_takeDraw 85 = .ok (.i2l, 1) := by decide +kernel
theorem dX3_takeDraw_86 : decode cX3_takeDraw 86 = .ok (.lrem, 1) := by decide +kernel
theorem dX3_takeDraw_87 : decode cX3_takeDraw 87 = .ok (.l2i, 1) := by decide +kernel
theorem dX3_takeDraw_88 : decode cX3_takeDraw 88 = .ok (.lload_n 1, 1) := by decide +kernel
theorem dX3_takeDraw_89 : decode cX3_takeDraw 89 = .ok (.ldc2_w 103, 3) := by decide +kernel
theorem dX3_takeDraw_92 : decode cX3_takeDraw 92 = .ok (.lrem, 1) := by decide +kernel
theorem dX3_takeDraw_93 : decode cX3_takeDraw 93 = .ok (.l2i, 1) := by decide +kernel
theorem dX3_takeDraw_94 : decode cX3_takeDraw 94 = .ok (.iconst 1, 1) := by decide +kernel
theorem dX3_takeDraw_95 : decode cX3_takeDraw 95 = .ok (.iadd, 1) := by decide +kernel
theorem dX3_takeDraw_96 : decode cX3_takeDraw 96 = .ok (.invokevirtual 79, 3) := by decide +kernel
theorem dX3_takeDraw_99 : decode cX3_takeDraw 99 = .ok (.return_, 1) := by decide +kernel
theorem dX7_ahead_0 : decode cX7_ahead 0 = .ok (.aload_n 0, 1) := by decide +kernel
theorem dX7_ahead_1 : decode cX7_ahead 1 = .ok (.getfield 26, 3) := by decide +kernel
theorem dX7_ahead_11 : decode cX7_ahead 11 = .ok (.iload_n 2, 1) := by decide +kernel
theorem dX7_ahead_12 : decode cX7_ahead 12 = .ok (.invokestatic 207, 3) := by decide +kernel
theorem dX7_ahead_15 : decode cX7_ahead 15 = .ok (.ifCond .eq 12, 3) := by decide +kernel
theorem dX7_ahead_18 : decode cX7_ahead 18 = .ok (.iload_n 3, 1) := by decide +kernel
theorem dX7_ahead_19 : decode cX7_ahead 19 = .ok (.ifCond .lt 8, 3) := by decide +kernel
theorem dX7_ahead_22 : decode cX7_ahead 22 = .ok (.iload_n 3, 1) := by decide +kernel
theorem dX7_ahead_23 : decode cX7_ahead 23 = .ok (.iconst 2, 1) := by decide +kernel
theorem dX7_ahead_24 : decode cX7_ahead 24 = .ok (.if_icmp .le 6, 3) := by decide +kernel
theorem dX7_ahead_27 : decode cX7_ahead 27 = .ok (.ldc 72, 2) := by decide +kernel
theorem dX7_ahead_29 : decode cX7_ahead 29 = .ok (.ireturn, 1) := by decide +kernel
theorem dX7_ahead_30 : decode cX7_ahead 30 = .ok (.aload_n 0, 1) := by decide +kernel
theorem dX7_ahead_31 : decode cX7_ahead 31 = .ok (.getfield 41, 3) := by decide +kernel
theorem dX7_ahead_34 : decode cX7_ahead 34 = .ok (.aload_n 0, 1) := by decide +kernel
theorem dX7_ahead_35 : decode cX7_ahead 35 = .ok (.getfield 26, 3) := by decide +kernel
theorem dX7_ahead_38 : decode cX7_ahead 38 = .ok (.invokevirtual 128, 3) := by decide +kernel
theorem dX7_ahead_4 : decode cX7_ahead 4 = .ok (.iload_n 1, 1) := by decide +kernel
theorem dX7_ahead_41 : decode cX7_ahead 41 = .ok (.aload_n 0, 1) := by decide +kernel
theorem dX7_ahead_42 : decode cX7_ahead 42 = .ok (.getfield 41, 3) := by decide +kernel
theorem dX7_ahead_45 : decode cX7_ahead 45 = .ok (.iload_n 1, 1) := by decide +kernel
theorem dX7_ahead_46 : decode cX7_ahead 46 = .ok (.iload_n 2, 1) := by decide +kernel
theorem dX7_ahead_47 : decode cX7_ahead 47 = .ok (.invokevirtual 210, 3) := by decide +kernel
theorem dX7_ahead_5 : decode cX7_ahead 5 = .ok (.invokevirtual 173, 3) := by decide +kernel
theorem dX7_ahead_50 : decode cX7_ahead 50 = .ok (.aload_n 0, 1) := by decide +kernel
theorem dX7_ahead_51 : decode cX7_ahead 51 = .ok (.getfield 41, 3) := by decide +kernel
theorem dX7_ahead_54 : decode cX7_ahead 54 = .ok (.iload_n 1, 1) := by decide +kernel
theorem dX7_ahead_55 : decode cX7_ahead 55 = .ok (.iload_n 3, 1) := by decide +kernel
theorem dX7_ahead_56 : decode cX7_ahead 56 = .ok (.invokevirtual 195, 3) := by decide +kernel
theorem dX7_ahead_59 : decode cX7_ahead 59 = .ok (.ireturn, 1) := by decide +kernel
theorem dX7_ahead_8 : decode cX7_ahead 8 = .ok (.ifCond .eq 19, 3) := by decide +kernel
theorem dX7_calm_0 : decode cX7_calm 0 = .ok (.aload_n 0, 1) := by decide +kernel
theorem dX7_calm_1 : decode cX7_calm 1 = .ok (.getfield 26, 3) := by decide +kernel
theorem dX7_calm_100 : decode cX7_calm 100 = .ok (.iload 8, 2) := by decide +kernel
theorem dX7_calm_102 : decode cX7_calm 102 = .ok (.iadd, 1) := by decide +kernel
theorem dX7_calm_103 : decode cX7_calm 103 = .ok (.istore 5, 2) := by decide +kernel
theorem dX7_calm_105 : decode cX7_calm 105 = .ok (.iinc 7 1, 3) := by decide +kernel
theorem dX7_calm_108 : decode cX7_calm 108 = .ok (.goto (-56), 3) := by decide +kernel
theorem dX7_calm_11 : decode cX7_calm 11 = .ok (.iload_n 2, 1) := by decide +kernel
theorem dX7_calm_111 : decode cX7_calm 111 = .ok (.iload 5, 2) := by decide +kernel
theorem dX7_calm_113 : decode cX7_calm 113 = .ok (.iload 6, 2) := by decide +kernel
theorem dX7_calm_115 : decode cX7_calm 115 = .ok (.invokestatic 279, 3) := by decide +kernel
theorem dX7_calm_118 : decode cX7_calm 118 = .ok (.iconst 1, 1) := by decide +kernel
theorem dX7_calm_119 : decode cX7_calm 119 = .ok (.invokestatic 282, 3) := by decide +kernel
theorem dX7_calm_12 : decode cX7_calm 12 = .ok (.invokestatic 207, 3) := by decide +kernel
theorem dX7_calm_122 : decode cX7_calm 122 = .ok (.istore 7, 2) := by decide +kernel
theorem dX7_calm_124 : decode cX7_calm 124 = .ok (.iload 4, 2) := by decide +kernel
theorem dX7_calm_126 : decode cX7_calm 126 = .ok (.ifCond .ne 8, 3) := by decide +kernel
theorem dX7_calm_129 : decode cX7_calm 129 = .ok (.iload 5, 2) := by decide +kernel
theorem dX7_calm_131 : decode cX7_calm 131 = .ok (.goto 5, 3) := by decide +kernel
theorem dX7_calm_134 : decode cX7_calm 134 = .ok (.iload 6, 2) := by decide +kernel
theorem dX7_calm_136 : decode cX7_calm 136 = .ok (.iload 7, 2) := by decide +kernel
theorem dX7_calm_138 : decode cX7_calm 138 = .ok (.idiv, 1) := by decide +kernel
theorem dX7_calm_139 : decode cX7_calm 139 = .ok (.i2l, 1) := by decide +kernel
theorem dX7_calm_140 : decode cX7_calm 140 = .ok (.lreturn, 1) := by decide +kernel
theorem dX7_calm_15 : decode cX7_calm 15 = .ok (.ifCond .eq 24, 3) := by decide +kernel
theorem dX7_calm_18 : decode cX7_calm 18 = .ok (.iload_n 3, 1) := by decide +kernel
theorem dX7_calm_19 : decode cX7_calm 19 = .ok (.ifCond .lt 20, 3) := by decide +kernel
theorem dX7_calm_22 : decode cX7_calm 22 = .ok (.iload_n 3, 1) := by decide +kernel
theorem dX7_calm_23 : decode cX7_calm 23 = .ok (.bipush 10, 2) := by decide +kernel
theorem dX7_calm_25 : decode cX7_calm 25 = .ok (.if_icmp .gt 14, 3) := by decide +kernel
theorem dX7_calm_28 : decode cX7_calm 28 = .ok (.iload 4, 2) := by decide +kernel
theorem dX7_calm_30 : decode cX7_calm 30 = .ok (.ifCond .lt 9, 3) := by decide +kernel
theorem dX7_calm_33 : decode cX7_calm 33 = .ok (.iload 4, 2) := by decide +kernel
theorem dX7_calm_35 : decode cX7_calm 35 = .ok (.iconst 1, 1) := by decide +kernel
theorem dX7_calm_36 : decode cX7_calm 36 = .ok (.if_icmp .le 7, 3) := by decide +kernel
theorem dX7_calm_39 : decode cX7_calm 39 = .ok (.ldc2_w 267, 3) := by decide +kernel
theorem dX7_calm_4 : decode cX7_calm 4 = .ok (.iload_n 1, 1) := by decide +kernel
theorem dX7_calm_42 : decode cX7_calm 42 = .ok (.lreturn, 1) := by decide +kernel
theorem dX7_calm_43 : decode cX7_calm 43 = .ok (.iconst 0, 1) := by decide +kernel
theorem dX7_calm_44 : decode cX7_calm 44 = .ok (.istore 5, 2) := by decide +kernel
theorem dX7_calm_46 : decode cX7_calm 46 = .ok (.iconst 0, 1) := by decide +kernel
theorem dX7_calm_47 : decode cX7_calm 47 = .ok (.istore 6, 2) := by decide +kernel
theorem dX7_calm_49 : decode cX7_calm 49 = .ok (.iconst 0, 1) := by decide +kernel
theorem dX7_calm_5 : decode cX7_calm 5 = .ok (.invokevirtual 173, 3) := by decide +kernel
theorem dX7_calm_50 : decode cX7_calm 50 = .ok (.istore 7, 2) := by decide +kernel
theorem dX7_calm_52 : decode cX7_calm 52 = .ok (.iload 7, 2) := by decide +kernel
theorem dX7_calm_54 : decode cX7_calm 54 = .ok (.iconst 1, 1) := by decide +kernel
theorem dX7_calm_55 : decode cX7_calm 55 = .ok (.aload_n 0, 1) := by decide +kernel
theorem dX7_calm_56 : decode cX7_calm 56 = .ok (.getfield 26, 3) := by decide +kernel
theorem dX7_calm_59 : decode cX7_calm 59 = .ok (.getfield 269, 3) := by decide +kernel
theorem dX7_calm_62 : decode cX7_calm 62 = .ok (.ishl, 1) := by decide +kernel
theorem dX7_calm_63 : decode cX7_calm 63 = .ok (.if_icmp .ge 48, 3) := by decide +kernel
theorem dX7_calm_66 : decode cX7_calm 66 = .ok (.aload_n 0, 1) := by decide +kernel
theorem dX7_calm_67 : decode cX7_calm 67 = .ok (.iload 7, 2) := by decide +kernel
theorem dX7_calm_69 : decode cX7_calm 69 = .ok (.iload_n 3, 1) := by decide +kernel
theorem dX7_calm_70 : decode cX7_calm 70 = .ok (.invokevirtual 272, 3) := by decide +kernel
theorem dX7_calm_73 : decode cX7_calm 73 = .ok (.istore 8, 2) := by decide +kernel
theorem dX7_calm_75 : decode cX7_calm 75 = .ok (.iload 6, 2) := by decide +kernel
theorem dX7_calm_77 : decode cX7_calm 77 = .ok (.iload 8, 2) := by decide +kernel
theorem dX7_calm_79 : decode cX7_calm 79 = .ok (.iadd, 1) := by decide +kernel
theorem dX7_calm_8 : decode cX7_calm 8 = .ok (.ifCond .eq 31, 3) := by decide +kernel
theorem dX7_calm_80 : decode cX7_calm 80 = .ok (.istore 6, 2) := by decide +kernel
theorem dX7_calm_82 : decode cX7_calm 82 = .ok (.iload 8, 2) := by decide +kernel
theorem dX7_calm_84 : decode cX7_calm 84 = .ok (.ifCond .le 21, 3) := by decide +kernel
theorem dX7_calm_87 : decode cX7_calm 87 = .ok (.aload_n 0, 1) := by decide +kernel
theorem dX7_calm_88 : decode cX7_calm 88 = .ok (.iload_n 1, 1) := by decide +kernel
theorem dX7_calm_89 : decode cX7_calm 89 = .ok (.iload_n 2, 1) := by decide +kernel
theorem dX7_calm_90 : decode cX7_calm 90 = .ok (.iload 7, 2) := by decide +kernel
theorem dX7_calm_92 : decode cX7_calm 92 = .ok (.invokevirtual 275, 3) := by decide +kernel
theorem dX7_calm_95 : decode cX7_calm 95 = .ok (.ifCond .eq 10, 3) := by decide +kernel
theorem dX7_calm_98 : decode cX7_calm 98 = .ok (.iload 5, 2) := by decide +kernel
theorem dX7_casesOf_0 : decode cX7_casesOf 0 = .ok (.iconst 1, 1) := by decide +kernel
theorem dX7_casesOf_1 : decode cX7_casesOf 1 = .ok (.istore_n 3, 1) := by decide +kernel
theorem dX7_casesOf_11 : decode cX7_casesOf 11 = .ok (.getfield 269, 3) := by decide +kernel
theorem dX7_casesOf_14 : decode cX7_casesOf 14 = .ok (.if_icmp .ge 30, 3) := by decide +kernel
theorem dX7_casesOf_17 : decode cX7_casesOf 17 = .ok (.iload_n 3, 1) := by decide +kernel
theorem dX7_casesOf_18 : decode cX7_casesOf 18 = .ok (.iload_n 1, 1) := by decide +kernel
theorem dX7_casesOf_19 : decode cX7_casesOf 19 = .ok (.iload 4, 2) := by decide +kernel
theorem dX7_casesOf_2 : decode cX7_casesOf 2 = .ok (.iconst 0, 1) := by decide +kernel
theorem dX7_casesOf_21 : decode cX7_casesOf 21 = .ok (.ishr, 1) := by decide +kernel
theorem dX7_casesOf_22 : decode cX7_casesOf 22 = .ok (.iconst 1, 1) := by decide +kernel
theorem dX7_casesOf_23 : decode cX7_casesOf 23 = .ok (.iand, 1) := by decide +kernel
theorem dX7_casesOf_24 : decode cX7_casesOf 24 = .ok (.iconst 1, 1) := by decide +kernel
theorem dX7_casesOf_25 : decode cX7_casesOf 25 = .ok (.if_icmp .ne 7, 3) := by decide +kernel
theorem dX7_casesOf_28 : decode cX7_casesOf 28 = .ok (.iload_n 2, 1) := by decide +kernel
theorem dX7_casesOf_29 : decode cX7_casesOf 29 = .ok (.goto 7, 3) := by decide +kernel
theorem dX7_casesOf_3 : decode cX7_casesOf 3 = .ok (.istore 4, 2) := by decide +kernel
theorem dX7_casesOf_32 : decode cX7_casesOf 32 = .ok (.bipush 10, 2) := by decide +kernel
theorem dX7_casesOf_34 : decode cX7_casesOf 34 = .ok (.iload_n 2, 1) := by decide +kernel
theorem dX7_casesOf_35 : decode cX7_casesOf 35 = .ok (.isub, 1) := by decide +kernel
theorem dX7_casesOf_36 : decode cX7_casesOf 36 = .ok (.imul, 1) := by decide +kernel
theorem dX7_casesOf_37 : decode cX7_casesOf 37 = .ok (.istore_n 3, 1) := by decide +kernel
theorem dX7_casesOf_38 : decode cX7_casesOf 38 = .ok (.iinc 4 1, 3) := by decide +kernel
theorem dX7_casesOf_41 : decode cX7_casesOf 41 = .ok (.goto (-36), 3) := by decide +kernel
theorem dX7_casesOf_44 : decode cX7_casesOf 44 = .ok (.iload_n 3, 1) := by decide +kernel
theorem dX7_casesOf_45 : decode cX7_casesOf 45 = .ok (.ireturn, 1) := by decide +kernel
theorem dX7_casesOf_5 : decode cX7_casesOf 5 = .ok (.iload 4, 2) := by decide +kernel
theorem dX7_casesOf_7 : decode cX7_casesOf 7 = .ok (.aload_n 0, 1) := by decide +kernel
theorem dX7_casesOf_8 : decode cX7_casesOf 8 = .ok (.getfield 26, 3) := by decide +kernel
theorem dX7_commonDivisor_0 : decode cX7_commonDivisor 0 = .ok (.iload_n 1, 1) := by decide +kernel
theorem dX7_commonDivisor_1 : decode cX7_commonDivisor 1 = .ok (.istore_n 2, 1) := by decide +kernel
theorem dX7_commonDivisor_11 : decode cX7_commonDivisor 11 = .ok (.if_icmp .ge 23, 3) := by decide +kernel
theorem dX7_commonDivisor_14 : decode cX7_commonDivisor 14 = .ok (.iload_n 3, 1) := by decide +kernel
theorem dX7_commonDivisor_15 : decode cX7_commonDivisor 15 = .ok (.ifCond .le 19, 3) := by decide +kernel
theorem dX7_commonDivisor_18 : decode cX7_commonDivisor 18 = .ok (.iload_n 2, 1) := by decide +kernel
theorem dX7_commonDivisor_19 : decode cX7_commonDivisor 19 = .ok (.iload_n 3, 1) := by decide +kernel
theorem dX7_commonDivisor_2 : decode cX7_commonDivisor 2 = .ok (.iload_n 0, 1) := by decide +kernel
theorem dX7_commonDivisor_20 : decode cX7_commonDivisor 20 = .ok (.irem, 1) := by decide +kernel
theorem dX7_commonDivisor_21 : decode cX7_commonDivisor 21 = .ok (.istore 5, 2) := by decide +kernel
theorem dX7_commonDivisor_23 : decode cX7_commonDivisor 23 = .ok (.iload_n 3, 1) := by decide +kernel
theorem dX7_commonDivisor_24 : decode cX7_commonDivisor 24 = .ok (.istore_n 2, 1) := by decide +kernel
theorem dX7_commonDivisor_25 : decode cX7_commonDivisor 25 = .ok (.iload 5, 2) := by decide +kernel
theorem dX7_commonDivisor_27 : decode cX7_commonDivisor 27 = .ok (.istore_n 3, 1) := by decide +kernel
theorem dX7_commonDivisor_28 : decode cX7_commonDivisor 28 = .ok (.iinc 4 1, 3) := by decide +kernel
theorem dX7_commonDivisor_3 : decode cX7_commonDivisor 3 = .ok (.istore_n 3, 1) := by decide +kernel
theorem dX7_commonDivisor_31 : decode cX7_commonDivisor 31 = .ok (.goto (-24), 3) := by decide +kernel
theorem dX7_commonDivisor_34 : decode cX7_commonDivisor 34 = .ok (.iload_n 2, 1) := by decide +kernel
theorem dX7_commonDivisor_35 : decode cX7_commonDivisor 35 = .ok (.ireturn, 1) := by decide +kernel
theorem dX7_commonDivisor_4 : decode cX7_commonDivisor 4 = .ok (.iconst 0, 1) := by decide +kernel
theorem dX7_commonDivisor_5 : decode cX7_commonDivisor 5 = .ok (.istore 4, 2) := by decide +kernel
theorem dX7_commonDivisor_7 : decode cX7_commonDivisor 7 = .ok (.iload 4, 2) := by decide +kernel
theorem dX7_commonDivisor_9 : decode cX7_commonDivisor 9 = .ok (.bipush 64, 2) := by decide +kernel
theorem dX7_drawn_0 : decode cX7_drawn 0 = .ok (.aload_n 0, 1) := by decide +kernel
theorem dX7_drawn_1 : decode cX7_drawn 1 = .ok (.getfield 26, 3) := by decide +kernel
theorem dX7_drawn_10 : decode cX7_drawn 10 = .ok (.ldc 141, 2) := by decide +kernel
theorem dX7_drawn_102 : decode cX7_drawn 102 = .ok (.iload_n 3, 1) := by decide +kernel
theorem dX7_drawn_103 : decode cX7_drawn 103 = .ok (.ifCond .ne 21, 3) := by decide +kernel
theorem dX7_drawn_106 : decode cX7_drawn 106 = .ok (.aload_n 0, 1) := by decide +kernel
theorem dX7_drawn_107 : decode cX7_drawn 107 = .ok (.getfield 41, 3) := by decide +kernel
theorem dX7_drawn_110 : decode cX7_drawn 110 = .ok (.getfield 157, 3) := by decide +kernel
theorem dX7_drawn_113 : decode cX7_drawn 113 = .ok (.aload_n 0, 1) := by decide +kernel
theorem dX7_drawn_114 : decode cX7_drawn 114 = .ok (.getfield 26, 3) := by decide +kernel
theorem dX7_drawn_117 : decode cX7_drawn 117 = .ok (.getfield 157, 3) := by decide +kernel
theorem dX7_drawn_12 : decode cX7_drawn 12 = .ok (.ireturn, 1) := by decide +kernel
theorem dX7_drawn_120 : decode cX7_drawn 120 = .ok (.isub, 1) := by decide +kernel
theorem dX7_drawn_121 : decode cX7_drawn 121 = .ok (.goto 14, 3) := by decide +kernel
theorem dX7_drawn_124 : decode cX7_drawn 124 = .ok (.aload_n 0, 1) := by decide +kernel
theorem dX7_drawn_125 : decode cX7_drawn 125 = .ok (.getfield 41, 3) := by decide +kernel
theorem dX7_drawn_128 : decode cX7_drawn 128 = .ok (.iconst 2, 1) := by decide +kernel
theorem dX7_drawn_129 : decode cX7_drawn 129 = .ok (.invokevirtual 185, 3) := by decide +kernel
theorem dX7_drawn_13 : decode cX7_drawn 13 = .ok (.iload_n 1, 1) := by decide +kernel
theorem dX7_drawn_132 : decode cX7_drawn 132 = .ok (.invokestatic 296, 3) := by decide +kernel
theorem dX7_drawn_135 : decode cX7_drawn 135 = .ok (.ireturn, 1) := by decide +kernel
theorem dX7_drawn_14 : decode cX7_drawn 14 = .ok (.invokestatic 207, 3) := by decide +kernel
theorem dX7_drawn_17 : decode cX7_drawn 17 = .ok (.ifCond .eq 24, 3) := by decide +kernel
theorem dX7_drawn_20 : decode cX7_drawn 20 = .ok (.iload_n 2, 1) := by decide +kernel
theorem dX7_drawn_21 : decode cX7_drawn 21 = .ok (.iconst 1, 1) := by decide +kernel
theorem dX7_drawn_22 : decode cX7_drawn 22 = .ok (.if_icmp .lt 19, 3) := by decide +kernel
theorem dX7_drawn_25 : decode cX7_drawn 25 = .ok (.iload_n 2, 1) := by decide +kernel
theorem dX7_drawn_26 : decode cX7_drawn 26 = .ok (.ldc_w 287, 3) := by decide +kernel
theorem dX7_drawn_29 : decode cX7_drawn 29 = .ok (.if_icmp .gt 12, 3) := by decide +kernel
theorem dX7_drawn_32 : decode cX7_drawn 32 = .ok (.iload_n 3, 1) := by decide +kernel
theorem dX7_drawn_33 : decode cX7_drawn 33 = .ok (.ifCond .lt 8, 3) := by decide +kernel
theorem dX7_drawn_36 : decode cX7_drawn 36 = .ok (.iload_n 3, 1) := by decide +kernel
theorem dX7_drawn_37 : decode cX7_drawn 37 = .ok (.iconst 1, 1) := by decide +kernel
theorem dX7_drawn_38 : decode cX7_drawn 38 = .ok (.if_icmp .le 6, 3) := by decide +kernel
theorem dX7_drawn_4 : decode cX7_drawn 4 = .ok (.invokevirtual 145, 3) := by decide +kernel
theorem dX7_drawn_41 : decode cX7_drawn 41 = .ok (.ldc 72, 2) := by decide +kernel
theorem dX7_drawn_43 : decode cX7_drawn 43 = .ok (.ireturn, 1) := by decide +kernel
theorem dX7_drawn_44 : decode cX7_drawn 44 = .ok (.aload_n 0, 1) := by decide +kernel
theorem dX7_drawn_45 : decode cX7_drawn 45 = .ok (.getfield 41, 3) := by decide +kernel
theorem dX7_drawn_48 : decode cX7_drawn 48 = .ok (.aload_n 0, 1) := by decide +kernel
theorem dX7_drawn_49 : decode cX7_drawn 49 = .ok (.getfield 26, 3) := by decide +kernel
theorem dX7_drawn_52 : decode cX7_drawn 52 = .ok (.invokevirtual 128, 3) := by decide +kernel
theorem dX7_drawn_55 : decode cX7_drawn 55 = .ok (.iload_n 2, 1) := by decide +kernel
theorem dX7_drawn_56 : decode cX7_drawn 56 = .ok (.i2l, 1) := by decide +kernel
theorem dX7_drawn_57 : decode cX7_drawn 57 = .ok (.lstore 4, 2) := by decide +kernel
theorem dX7_drawn_59 : decode cX7_drawn 59 = .ok (.iconst 0, 1) := by decide +kernel
theorem dX7_drawn_60 : decode cX7_drawn 60 = .ok (.istore 6, 2) := by decide +kernel
theorem dX7_drawn_62 : decode cX7_drawn 62 = .ok (.iload 6, 2) := by decide +kernel
theorem dX7_drawn_64 : decode cX7_drawn 64 = .ok (.iload_n 1, 1) := by decide +kernel
theorem dX7_drawn_65 : decode cX7_drawn 65 = .ok (.if_icmp .ge 37, 3) := by decide +kernel
theorem dX7_drawn_68 : decode cX7_drawn 68 = .ok (.lload 4, 2) := by decide +kernel
theorem dX7_drawn_7 : decode cX7_drawn 7 = .ok (.ifCond .ne 6, 3) := by decide +kernel
theorem dX7_drawn_70 : decode cX7_drawn 70 = .ok (.ldc2_w 288, 3) := by decide +kernel
theorem dX7_drawn_73 : decode cX7_drawn 73 = .ok (.lmul, 1) := by decide +kernel
theorem dX7_drawn_74 : decode cX7_drawn 74 = .ok (.ldc2_w 290, 3) := by decide +kernel
theorem dX7_drawn_77 : decode cX7_drawn 77 = .ok (.lrem, 1) := by decide +kernel
theorem dX7_drawn_78 : decode cX7_drawn 78 = .ok (.lstore 4, 2) := by decide +kernel
theorem dX7_drawn_80 : decode cX7_drawn 80 = .ok (.aload_n 0, 1) := by decide +kernel
theorem dX7_drawn_81 : decode cX7_drawn 81 = .ok (.getfield 41, 3) := by decide +kernel
theorem dX7_drawn_84 : decode cX7_drawn 84 = .ok (.lload 4, 2) := by decide +kernel
theorem dX7_drawn_86 : decode cX7_drawn 86 = .ok (.invokevirtual 292, 3) := by decide +kernel
theorem dX7_drawn_89 : decode cX7_drawn 89 = .ok (.aload_n 0, 1) := by decide +kernel
theorem dX7_drawn_90 : decode cX7_drawn 90 = .ok (.getfield 41, 3) := by decide +kernel
theorem dX7_drawn_93 : decode cX7_drawn 93 = .ok (.invokevirtual 154, 3) := by decide +kernel
theorem dX7_drawn_96 : decode cX7_drawn 96 = .ok (.iinc 6 1, 3) := by decide +kernel
theorem dX7_drawn_99 : decode cX7_drawn 99 = .ok (.goto (-37), 3) := by decide +kernel
theorem dX7_gusts_0 : decode cX7_gusts 0 = .ok (.iload_n 1, 1) := by decide +kernel
theorem dX7_gusts_1 : decode cX7_gusts 1 = .ok (.iconst (-1), 1) := by decide +kernel
theorem dX7_gusts_10 : decode cX7_gusts 10 = .ok (.invokevirtual 166, 3) := by decide +kernel
theorem dX7_gusts_13 : decode cX7_gusts 13 = .ok (.ifCond .eq 23, 3) := by decide +kernel
theorem dX7_gusts_16 : decode cX7_gusts 16 = .ok (.aload_n 0, 1) := by decide +kernel
theorem dX7_gusts_17 : decode cX7_gusts 17 = .ok (.getfield 26, 3) := by decide +kernel
theorem dX7_gusts_2 : decode cX7_gusts 2 = .ok (.if_icmp .eq 14, 3) := by decide +kernel
theorem dX7_gusts_20 : decode cX7_gusts 20 = .ok (.iload_n 2, 1) := by decide +kernel
theorem dX7_gusts_21 : decode cX7_gusts 21 = .ok (.invokevirtual 173, 3) := by decide +kernel
theorem dX7_gusts_24 : decode cX7_gusts 24 = .ok (.ifCond .eq 12, 3) := by decide +kernel
theorem dX7_gusts_27 : decode cX7_gusts 27 = .ok (.iload_n 3, 1) := by decide +kernel
theorem dX7_gusts_28 : decode cX7_gusts 28 = .ok (.iload 5, 2) := by decide +kernel
theorem dX7_gusts_30 : decode cX7_gusts 30 = .ok (.invokestatic 247, 3) := by decide +kernel
theorem dX7_gusts_33 : decode cX7_gusts 33 = .ok (.ifCond .ne 6, 3) := by decide +kernel
theorem dX7_gusts_36 : decode cX7_gusts 36 = .ok (.ldc 72, 2) := by decide +kernel
theorem dX7_gusts_38 : decode cX7_gusts 38 = .ok (.ireturn, 1) := by decide +kernel
theorem dX7_gusts_39 : decode cX7_gusts 39 = .ok (.aload_n 0, 1) := by decide +kernel
theorem dX7_gusts_40 : decode cX7_gusts 40 = .ok (.iload_n 2, 1) := by decide +kernel
theorem dX7_gusts_41 : decode cX7_gusts 41 = .ok (.iload_n 3, 1) := by decide +kernel
theorem dX7_gusts_42 : decode cX7_gusts 42 = .ok (.iload 4, 2) := by decide +kernel
theorem dX7_gusts_44 : decode cX7_gusts 44 = .ok (.iload 5, 2) := by decide +kernel
theorem dX7_gusts_46 : decode cX7_gusts 46 = .ok (.invokevirtual 251, 3) := by decide +kernel
theorem dX7_gusts_49 : decode cX7_gusts 49 = .ok (.istore 6, 2) := by decide +kernel
theorem dX7_gusts_5 : decode cX7_gusts 5 = .ok (.aload_n 0, 1) := by decide +kernel
theorem dX7_gusts_51 : decode cX7_gusts 51 = .ok (.iload 6, 2) := by decide +kernel
theorem dX7_gusts_53 : decode cX7_gusts 53 = .ok (.ifCond .eq 6, 3) := by decide +kernel
theorem dX7_gusts_56 : decode cX7_gusts 56 = .ok (.iload 6, 2) := by decide +kernel
theorem dX7_gusts_58 : decode cX7_gusts 58 = .ok (.ireturn, 1) := by decide +kernel
theorem dX7_gusts_59 : decode cX7_gusts 59 = .ok (.aload_n 0, 1) := by decide +kernel
theorem dX7_gusts_6 : decode cX7_gusts 6 = .ok (.getfield 26, 3) := by decide +kernel
theorem dX7_gusts_60 : decode cX7_gusts 60 = .ok (.iload_n 1, 1) := by decide +kernel
theorem dX7_gusts_61 : decode cX7_gusts 61 = .ok (.iconst (-1), 1) := by decide +kernel
theorem dX7_gusts_62 : decode cX7_gusts 62 = .ok (.if_icmp .ne 16, 3) := by decide +kernel
theorem dX7_gusts_65 : decode cX7_gusts 65 = .ok (.aload_n 0, 1) := by decide +kernel
theorem dX7_gusts_66 : decode cX7_gusts 66 = .ok (.iload_n 2, 1) := by decide +kernel
theorem dX7_gusts_67 : decode cX7_gusts 67 = .ok (.iload_n 3, 1) := by decide +kernel
theorem dX7_gusts_68 : decode cX7_gusts 68 = .ok (.iload 4, 2) := by decide +kernel
theorem dX7_gusts_70 : decode cX7_gusts 70 = .ok (.iload 5, 2) := by decide +kernel
theorem dX7_gusts_72 : decode cX7_gusts 72 = .ok (.invokevirtual 261, 3) := by decide +kernel
theorem dX7_gusts_75 : decode cX7_gusts 75 = .ok (.goto 14, 3) := by decide +kernel
theorem dX7_gusts_78 : decode cX7_gusts 78 = .ok (.aload_n 0, 1) := by decide +kernel
theorem dX7_gusts_79 : decode cX7_gusts 79 = .ok (.iload_n 1, 1) := by decide +kernel
theorem dX7_gusts_80 : decode cX7_gusts 80 = .ok (.iload_n 2, 1) := by decide +kernel
theorem dX7_gusts_81 : decode cX7_gusts 81 = .ok (.iload_n 3, 1) := by decide +kernel
theorem dX7_gusts_82 : decode cX7_gusts 82 = .ok (.iload 4, 2) := by decide +kernel
theorem dX7_gusts_84 : decode cX7_gusts 84 = .ok (.iload 5, 2) := by decide +kernel
theorem dX7_gusts_86 : decode cX7_gusts 86 = .ok (.invokevirtual 264, 3) := by decide +kernel
theorem dX7_gusts_89 : decode cX7_gusts 89 = .ok (.invokevirtual 81, 3) := by decide +kernel
theorem dX7_gusts_9 : decode cX7_gusts 9 = .ok (.iload_n 1, 1) := by decide +kernel
theorem dX7_gusts_92 : decode cX7_gusts 92 = .ok (.ireturn, 1) := by decide +kernel
theorem dX7_isGroundIfDropped_0 : decode cX7_isGroundIfDropped 0 = .ok (.aload_n 0, 1) := by decide +kernel
theorem dX7_isGroundIfDropped_1 : decode cX7_isGroundIfDropped 1 = .ok (.getfield 41, 3) := by decide +kernel
theorem dX7_isGroundIfDropped_11 : decode cX7_isGroundIfDropped 11 = .ok (.iconst 0, 1) := by decide +kernel
theorem dX7_isGroundIfDropped_12 : decode cX7_isGroundIfDropped 12 = .ok (.istore 4, 2) := by decide +kernel
theorem dX7_isGroundIfDropped_14 : decode cX7_isGroundIfDropped 14 = .ok (.iload 4, 2) := by decide +kernel
theorem dX7_isGroundIfDropped_16 : decode cX7_isGroundIfDropped 16 = .ok (.aload_n 0, 1) := by decide +kernel
theorem dX7_isGroundIfDropped_17 : decode cX7_isGroundIfDropped 17 = .ok (.getfield 41, 3) := by decide +kernel
theorem dX7_isGroundIfDropped_20 : decode cX7_isGroundIfDropped 20 = .ok (.getfield 269, 3) := by decide +kernel
theorem dX7_isGroundIfDropped_23 : decode cX7_isGroundIfDropped 23 = .ok (.if_icmp .ge 30, 3) := by decide +kernel
theorem dX7_isGroundIfDropped_26 : decode cX7_isGroundIfDropped 26 = .ok (.iload_n 3, 1) := by decide +kernel
theorem dX7_isGroundIfDropped_27 : decode cX7_isGroundIfDropped 27 = .ok (.iload 4, 2) := by decide +kernel
theorem dX7_isGroundIfDropped_29 : decode cX7_isGroundIfDropped 29 = .ok (.ishr, 1) := by decide +kernel
theorem dX7_isGroundIfDropped_30 : decode cX7_isGroundIfDropped 30 = .ok (.iconst 1, 1) := by decide +kernel
theorem dX7_isGroundIfDropped_31 : decode cX7_isGroundIfDropped 31 = .ok (.iand, 1) := by decide +kernel
theorem dX7_isGroundIfDropped_32 : decode cX7_isGroundIfDropped 32 = .ok (.iconst 1, 1) := by decide +kernel
theorem dX7_isGroundIfDropped_33 : decode cX7_isGroundIfDropped 33 = .ok (.if_icmp .ne 14, 3) := by decide +kernel
theorem dX7_isGroundIfDropped_36 : decode cX7_isGroundIfDropped 36 = .ok (.aload_n 0, 1) := by decide +kernel
theorem dX7_isGroundIfDropped_37 : decode cX7_isGroundIfDropped 37 = .ok (.getfield 41, 3) := by decide +kernel
theorem dX7_isGroundIfDropped_4 : decode cX7_isGroundIfDropped 4 = .ok (.aload_n 0, 1) := by decide +kernel
theorem dX7_isGroundIfDropped_40 : decode cX7_isGroundIfDropped 40 = .ok (.getfield 169, 3) := by decide +kernel
theorem dX7_isGroundIfDropped_43 : decode cX7_isGroundIfDropped 43 = .ok (.iload 4, 2) := by decide +kernel
theorem dX7_isGroundIfDropped_45 : decode cX7_isGroundIfDropped 45 = .ok (.iconst 2, 1) := by decide +kernel
theorem dX7_isGroundIfDropped_46 : decode cX7_isGroundIfDropped 46 = .ok (.iastore, 1) := by decide +kernel
theorem dX7_isGroundIfDropped_47 : decode cX7_isGroundIfDropped 47 = .ok (.iinc 4 1, 3) := by decide +kernel
theorem dX7_isGroundIfDropped_5 : decode cX7_isGroundIfDropped 5 = .ok (.getfield 26, 3) := by decide +kernel
theorem dX7_isGroundIfDropped_50 : decode cX7_isGroundIfDropped 50 = .ok (.goto (-36), 3) := by decide +kernel
theorem dX7_isGroundIfDropped_53 : decode cX7_isGroundIfDropped 53 = .ok (.aload_n 0, 1) := by decide +kernel
theorem dX7_isGroundIfDropped_54 : decode cX7_isGroundIfDropped 54 = .ok (.getfield 41, 3) := by decide +kernel
theorem dX7_isGroundIfDropped_57 : decode cX7_isGroundIfDropped 57 = .ok (.iload_n 1, 1) := by decide +kernel
theorem dX7_isGroundIfDropped_58 : decode cX7_isGroundIfDropped 58 = .ok (.iload_n 2, 1) := by decide +kernel
theorem dX7_isGroundIfDropped_59 : decode cX7_isGroundIfDropped 59 = .ok (.invokevirtual 210, 3) := by decide +kernel
theorem dX7_isGroundIfDropped_62 : decode cX7_isGroundIfDropped 62 = .ok (.aload_n 0, 1) := by decide +kernel
theorem dX7_isGroundIfDropped_63 : decode cX7_isGroundIfDropped 63 = .ok (.getfield 41, 3) := by decide +kernel
theorem dX7_isGroundIfDropped_66 : decode cX7_isGroundIfDropped 66 = .ok (.getfield 217, 3) := by decide +kernel
theorem dX7_isGroundIfDropped_69 : decode cX7_isGroundIfDropped 69 = .ok (.iload_n 1, 1) := by decide +kernel
theorem dX7_isGroundIfDropped_70 : decode cX7_isGroundIfDropped 70 = .ok (.iaload, 1) := by decide +kernel
theorem dX7_isGroundIfDropped_71 : decode cX7_isGroundIfDropped 71 = .ok (.iconst 1, 1) := by decide +kernel
theorem dX7_isGroundIfDropped_72 : decode cX7_isGroundIfDropped 72 = .ok (.if_icmp .ne 7, 3) := by decide +kernel
theorem dX7_isGroundIfDropped_75 : decode cX7_isGroundIfDropped 75 = .ok (.iconst 1, 1) := by decide +kernel
theorem dX7_isGroundIfDropped_76 : decode cX7_isGroundIfDropped 76 = .ok (.goto 4, 3) := by decide +kernel
theorem dX7_isGroundIfDropped_79 : decode cX7_isGroundIfDropped 79 = .ok (.iconst 0, 1) := by decide +kernel
theorem dX7_isGroundIfDropped_8 : decode cX7_isGroundIfDropped 8 = .ok (.invokevirtual 128, 3) := by decide +kernel
theorem dX7_isGroundIfDropped_80 : decode cX7_isGroundIfDropped 80 = .ok (.ireturn, 1) := by decide +kernel
theorem dX7_kindsThatFit_0 : decode cX7_kindsThatFit 0 = .ok (.iconst 0, 1) := by decide +kernel
theorem dX7_kindsThatFit_1 : decode cX7_kindsThatFit 1 = .ok (.istore 5, 2) := by decide +kernel
theorem dX7_kindsThatFit_12 : decode cX7_kindsThatFit 12 = .ok (.aload_n 0, 1) := by decide +kernel
theorem dX7_kindsThatFit_13 : decode cX7_kindsThatFit 13 = .ok (.getfield 41, 3) := by decide +kernel
theorem dX7_kindsThatFit_16 : decode cX7_kindsThatFit 16 = .ok (.aload_n 0, 1) := by decide +kernel
theorem dX7_kindsThatFit_17 : decode cX7_kindsThatFit 17 = .ok (.getfield 26, 3) := by decide +kernel
theorem dX7_kindsThatFit_20 : decode cX7_kindsThatFit 20 = .ok (.invokevirtual 128, 3) := by decide +kernel
theorem dX7_kindsThatFit_23 : decode cX7_kindsThatFit 23 = .ok (.aload_n 0, 1) := by decide +kernel
theorem dX7_kindsThatFit_24 : decode cX7_kindsThatFit 24 = .ok (.getfield 41, 3) := by decide +kernel
theorem dX7_kindsThatFit_27 : decode cX7_kindsThatFit 27 = .ok (.getfield 301, 3) := by decide +kernel
theorem dX7_kindsThatFit_3 : decode cX7_kindsThatFit 3 = .ok (.iconst 1, 1) := by decide +kernel
theorem dX7_kindsThatFit_30 : decode cX7_kindsThatFit 30 = .ok (.iload_n 1, 1) := by decide +kernel
theorem dX7_kindsThatFit_31 : decode cX7_kindsThatFit 31 = .ok (.iload 6, 2) := by decide +kernel
theorem dX7_kindsThatFit_33 : decode cX7_kindsThatFit 33 = .ok (.iastore, 1) := by decide +kernel
theorem dX7_kindsThatFit_34 : decode cX7_kindsThatFit 34 = .ok (.iload 5, 2) := by decide +kernel
theorem dX7_kindsThatFit_36 : decode cX7_kindsThatFit 36 = .ok (.aload_n 0, 1) := by decide +kernel
theorem dX7_kindsThatFit_37 : decode cX7_kindsThatFit 37 = .ok (.iload_n 1, 1) := by decide +kernel
theorem dX7_kindsThatFit_38 : decode cX7_kindsThatFit 38 = .ok (.iload_n 2, 1) := by decide +kernel
theorem dX7_kindsThatFit_39 : decode cX7_kindsThatFit 39 = .ok (.iload_n 3, 1) := by decide +kernel
theorem dX7_kindsThatFit_4 : decode cX7_kindsThatFit 4 = .ok (.istore 6, 2) := by decide +kernel
theorem dX7_kindsThatFit_40 : decode cX7_kindsThatFit 40 = .ok (.iload 4, 2) := by decide +kernel
theorem dX7_kindsThatFit_42 : decode cX7_kindsThatFit 42 = .ok (.invokevirtual 330, 3) := by decide +kernel
theorem dX7_kindsThatFit_45 : decode cX7_kindsThatFit 45 = .ok (.ifCond .eq 10, 3) := by decide +kernel
theorem dX7_kindsThatFit_48 : decode cX7_kindsThatFit 48 = .ok (.iconst 1, 1) := by decide +kernel
theorem dX7_kindsThatFit_49 : decode cX7_kindsThatFit 49 = .ok (.iload 6, 2) := by decide +kernel
theorem dX7_kindsThatFit_51 : decode cX7_kindsThatFit 51 = .ok (.ishl, 1) := by decide +kernel
theorem dX7_kindsThatFit_52 : decode cX7_kindsThatFit 52 = .ok (.goto 4, 3) := by decide +kernel
theorem dX7_kindsThatFit_55 : decode cX7_kindsThatFit 55 = .ok (.iconst 0, 1) := by decide +kernel
theorem dX7_kindsThatFit_56 : decode cX7_kindsThatFit 56 = .ok (.ior, 1) := by decide +kernel
theorem dX7_kindsThatFit_57 : decode cX7_kindsThatFit 57 = .ok (.istore 5, 2) := by decide +kernel
theorem dX7_kindsThatFit_59 : decode cX7_kindsThatFit 59 = .ok (.iinc 6 1, 3) := by decide +kernel
theorem dX7_kindsThatFit_6 : decode cX7_kindsThatFit 6 = .ok (.iload 6, 2) := by decide +kernel
theorem dX7_kindsThatFit_62 : decode cX7_kindsThatFit 62 = .ok (.goto (-56), 3) := by decide +kernel
theorem dX7_kindsThatFit_65 : decode cX7_kindsThatFit 65 = .ok (.iload 5, 2) := by decide +kernel
theorem dX7_kindsThatFit_67 : decode cX7_kindsThatFit 67 = .ok (.ireturn, 1) := by decide +kernel
theorem dX7_kindsThatFit_8 : decode cX7_kindsThatFit 8 = .ok (.iconst 5, 1) := by decide +kernel
theorem dX7_kindsThatFit_9 : decode cX7_kindsThatFit 9 = .ok (.if_icmp .gt 56, 3) := by decide +kernel
theorem dX7_meal_0 : decode cX7_meal 0 = .ok (.aload_n 0, 1) := by decide +kernel
theorem dX7_meal_1 : decode cX7_meal 1 = .ok (.getfield 26, 3) := by decide +kernel
theorem dX7_meal_10 : decode cX7_meal 10 = .ok (.ldc 141, 2) := by decide +kernel
theorem dX7_meal_12 : decode cX7_meal 12 = .ok (.ireturn, 1) := by decide +kernel
theorem dX7_meal_13 : decode cX7_meal 13 = .ok (.iload_n 1, 1) := by decide +kernel
theorem dX7_meal_14 : decode cX7_meal 14 = .ok (.invokestatic 207, 3) := by decide +kernel
theorem dX7_meal_17 : decode cX7_meal 17 = .ok (.ifCond .ne 6, 3) := by decide +kernel
theorem dX7_meal_20 : decode cX7_meal 20 = .ok (.ldc 72, 2) := by decide +kernel
theorem dX7_meal_22 : decode cX7_meal 22 = .ok (.ireturn, 1) := by decide +kernel
theorem dX7_meal_23 : decode cX7_meal 23 = .ok (.aload_n 0, 1) := by decide +kernel
theorem dX7_meal_24 : decode cX7_meal 24 = .ok (.getfield 41, 3) := by decide +kernel
theorem dX7_meal_27 : decode cX7_meal 27 = .ok (.aload_n 0, 1) := by decide +kernel
theorem dX7_meal_28 : decode cX7_meal 28 = .ok (.getfield 26, 3) := by decide +kernel
theorem dX7_meal_31 : decode cX7_meal 31 = .ok (.invokevirtual 128, 3) := by decide +kernel
theorem dX7_meal_34 : decode cX7_meal 34 = .ok (.aload_n 0, 1) := by decide +kernel
theorem dX7_meal_35 : decode cX7_meal 35 = .ok (.getfield 41, 3) := by decide +kernel
theorem dX7_meal_38 : decode cX7_meal 38 = .ok (.iload_n 1, 1) := by decide +kernel
theorem dX7_meal_39 : decode cX7_meal 39 = .ok (.invokevirtual 214, 3) := by decide +kernel
theorem dX7_meal_4 : decode cX7_meal 4 = .ok (.invokevirtual 145, 3) := by decide +kernel
theorem dX7_meal_42 : decode cX7_meal 42 = .ok (.ireturn, 1) := by decide +kernel
theorem dX7_meal_7 : decode cX7_meal 7 = .ok (.ifCond .ne 6, 3) := by decide +kernel
theorem dX7_reachesThatFit_0 : decode cX7_reachesThatFit 0 = .ok (.iconst 0, 1) := by decide +kernel
theorem dX7_reachesThatFit_1 : decode cX7_reachesThatFit 1 = .ok (.istore 5, 2) := by decide +kernel
theorem dX7_reachesThatFit_12 : decode cX7_reachesThatFit 12 = .ok (.aload_n 0, 1) := by decide +kernel
theorem dX7_reachesThatFit_13 : decode cX7_reachesThatFit 13 = .ok (.getfield 41, 3) := by decide +kernel
theorem dX7_reachesThatFit_16 : decode cX7_reachesThatFit 16 = .ok (.aload_n 0, 1) := by decide +kernel
theorem dX7_reachesThatFit_17 : decode cX7_reachesThatFit 17 = .ok (.getfield 26, 3) := by decide +kernel
theorem dX7_reachesThatFit_20 : decode cX7_reachesThatFit 20 = .ok (.invokevirtual 128, 3) := by decide +kernel
theorem dX7_reachesThatFit_23 : decode cX7_reachesThatFit 23 = .ok (.aload_n 0, 1) := by decide +kernel
theorem dX7_reachesThatFit_24 : decode cX7_reachesThatFit 24 = .ok (.getfield 41, 3) := by decide +kernel
theorem dX7_reachesThatFit_27 : decode cX7_reachesThatFit 27 = .ok (.iload 6, 2) := by decide +kernel
theorem dX7_reachesThatFit_29 : decode cX7_reachesThatFit 29 = .ok (.putfield 204, 3) := by decide +kernel
theorem dX7_reachesThatFit_3 : decode cX7_reachesThatFit 3 = .ok (.iconst 0, 1) := by decide +kernel
theorem dX7_reachesThatFit_32 : decode cX7_reachesThatFit 32 = .ok (.iload 5, 2) := by decide +kernel
theorem dX7_reachesThatFit_34 : decode cX7_reachesThatFit 34 = .ok (.aload_n 0, 1) := by decide +kernel
theorem dX7_reachesThatFit_35 : decode cX7_reachesThatFit 35 = .ok (.iload_n 1, 1) := by decide +kernel
theorem dX7_reachesThatFit_36 : decode cX7_reachesThatFit 36 = .ok (.iload_n 2, 1) := by decide +kernel
theorem dX7_reachesThatFit_37 : decode cX7_reachesThatFit 37 = .ok (.iload_n 3, 1) := by decide +kernel
theorem dX7_reachesThatFit_38 : decode cX7_reachesThatFit 38 = .ok (.iload 4, 2) := by decide +kernel
theorem dX7_reachesThatFit_4 : decode cX7_reachesThatFit 4 = .ok (.istore 6, 2) := by decide +kernel
theorem dX7_reachesThatFit_40 : decode cX7_reachesThatFit 40 = .ok (.invokevirtual 330, 3) := by decide +kernel
theorem dX7_reachesThatFit_43 : decode cX7_reachesThatFit 43 = .ok (.ifCond .eq 10, 3) := by decide +kernel
theorem dX7_reachesThatFit_46 : decode cX7_reachesThatFit 46 = .ok (.iconst 1, 1) := by decide +kernel
theorem dX7_reachesThatFit_47 : decode cX7_reachesThatFit 47 = .ok (.iload 6, 2) := by decide +kernel
theorem dX7_reachesThatFit_49 : decode cX7_reachesThatFit 49 = .ok (.ishl, 1) := by decide +kernel
theorem dX7_reachesThatFit_50 : decode cX7_reachesThatFit 50 = .ok (.goto 4, 3) := by decide +kernel
theorem dX7_reachesThatFit_53 : decode cX7_reachesThatFit 53 = .ok (.iconst 0, 1) := by decide +kernel
theorem dX7_reachesThatFit_54 : decode cX7_reachesThatFit 54 = .ok (.ior, 1) := by decide +kernel
theorem dX7_reachesThatFit_55 : decode cX7_reachesThatFit 55 = .ok (.istore 5, 2) := by decide +kernel
theorem dX7_reachesThatFit_57 : decode cX7_reachesThatFit 57 = .ok (.iinc 6 1, 3) := by decide +kernel
theorem dX7_reachesThatFit_6 : decode cX7_reachesThatFit 6 = .ok (.iload 6, 2) := by decide +kernel
theorem dX7_reachesThatFit_60 : decode cX7_reachesThatFit 60 = .ok (.goto (-54), 3) := by decide +kernel
theorem dX7_reachesThatFit_63 : decode cX7_reachesThatFit 63 = .ok (.iload 5, 2) := by decide +kernel
theorem dX7_reachesThatFit_65 : decode cX7_reachesThatFit 65 = .ok (.ireturn, 1) := by decide +kernel
theorem dX7_reachesThatFit_8 : decode cX7_reachesThatFit 8 = .ok (.iconst 4, 1) := by decide +kernel
theorem dX7_reachesThatFit_9 : decode cX7_reachesThatFit 9 = .ok (.if_icmp .gt 54, 3) := by decide +kernel
theorem dX7_refusalToHear_0 : decode cX7_refusalToHear 0 = .ok (.aload_n 0, 1) := by decide +kernel
theorem dX7_refusalToHear_1 : decode cX7_refusalToHear 1 = .ok (.getfield 26, 3) := by decide +kernel
theorem dX7_refusalToHear_11 : decode cX7_refusalToHear 11 = .ok (.ldc 141, 2) := by decide +kernel
theorem dX7_refusalToHear_13 : decode cX7_refusalToHear 13 = .ok (.ireturn, 1) := by decide +kernel
theorem dX7_refusalToHear_14 : decode cX7_refusalToHear 14 = .ok (.aload_n 0, 1) := by decide +kernel
theorem dX7_refusalToHear_15 : decode cX7_refusalToHear 15 = .ok (.getfield 10, 3) := by decide +kernel
theorem dX7_refusalToHear_18 : decode cX7_refusalToHear 18 = .ok (.iload_n 2, 1) := by decide +kernel
theorem dX7_refusalToHear_19 : decode cX7_refusalToHear 19 = .ok (.iload_n 3, 1) := by decide +kernel
theorem dX7_refusalToHear_20 : decode cX7_refusalToHear 20 = .ok (.iload 4, 2) := by decide +kernel
theorem dX7_refusalToHear_22 : decode cX7_refusalToHear 22 = .ok (.invokevirtual 84, 3) := by decide +kernel
theorem dX7_refusalToHear_25 : decode cX7_refusalToHear 25 = .ok (.istore 5, 2) := by decide +kernel
theorem dX7_refusalToHear_27 : decode cX7_refusalToHear 27 = .ok (.iload 5, 2) := by decide +kernel
theorem dX7_refusalToHear_29 : decode cX7_refusalToHear 29 = .ok (.ifCond .ne 7, 3) := by decide +kernel
theorem dX7_refusalToHear_32 : decode cX7_refusalToHear 32 = .ok (.iconst 0, 1) := by decide +kernel
theorem dX7_refusalToHear_33 : decode cX7_refusalToHear 33 = .ok (.goto 9, 3) := by decide +kernel
theorem dX7_refusalToHear_36 : decode cX7_refusalToHear 36 = .ok (.aload_n 0, 1) := by decide +kernel
theorem dX7_refusalToHear_37 : decode cX7_refusalToHear 37 = .ok (.iload 5, 2) := by decide +kernel
theorem dX7_refusalToHear_39 : decode cX7_refusalToHear 39 = .ok (.invokevirtual 73, 3) := by decide +kernel
theorem dX7_refusalToHear_4 : decode cX7_refusalToHear 4 = .ok (.iload_n 1, 1) := by decide +kernel
theorem dX7_refusalToHear_42 : decode cX7_refusalToHear 42 = .ok (.ireturn, 1) := by decide +kernel
theorem dX7_refusalToHear_5 : decode cX7_refusalToHear 5 = .ok (.invokevirtual 179, 3) := by decide +kernel
theorem dX7_refusalToHear_8 : decode cX7_refusalToHear 8 = .ok (.ifCond .ne 6, 3) := by decide +kernel
theorem dX7_site_0 : decode cX7_site 0 = .ok (.aload_n 0, 1) := by decide +kernel
theorem dX7_site_1 : decode cX7_site 1 = .ok (.getfield 26, 3) := by decide +kernel
theorem dX7_site_10 : decode cX7_site 10 = .ok (.ldc 141, 2) := by decide +kernel
theorem dX7_site_100 : decode cX7_site 100 = .ok (.iinc 5 1, 3) := by decide +kernel
theorem dX7_site_103 : decode cX7_site 103 = .ok (.goto (-59), 3) := by decide +kernel
theorem dX7_site_106 : decode cX7_site 106 = .ok (.iload_n 2, 1) := by decide +kernel
theorem dX7_site_107 : decode cX7_site 107 = .ok (.ifCond .ne 7, 3) := by decide +kernel
theorem dX7_site_110 : decode cX7_site 110 = .ok (.iload_n 3, 1) := by decide +kernel
theorem dX7_site_111 : decode cX7_site 111 = .ok (.goto 5, 3) := by decide +kernel
theorem dX7_site_114 : decode cX7_site 114 = .ok (.iload 4, 2) := by decide +kernel
theorem dX7_site_116 : decode cX7_site 116 = .ok (.ireturn, 1) := by decide +kernel
theorem dX7_site_12 : decode cX7_site 12 = .ok (.ireturn, 1) := by decide +kernel
theorem dX7_site_13 : decode cX7_site 13 = .ok (.iload_n 1, 1) := by decide +kernel
theorem dX7_site_14 : decode cX7_site 14 = .ok (.iconst 1, 1) := by decide +kernel
theorem dX7_site_15 : decode cX7_site 15 = .ok (.if_icmp .lt 18, 3) := by decide +kernel
theorem dX7_site_18 : decode cX7_site 18 = .ok (.iload_n 1, 1) := by decide +kernel
theorem dX7_site_19 : decode cX7_site 19 = .ok (.bipush 30, 2) := by decide +kernel
theorem dX7_site_21 : decode cX7_site 21 = .ok (.if_icmp .gt 12, 3) := by decide +kernel
theorem dX7_site_24 : decode cX7_site 24 = .ok (.iload_n 2, 1) := by decide +kernel
theorem dX7_site_25 : decode cX7_site 25 = .ok (.ifCond .lt 8, 3) := by decide +kernel
theorem dX7_site_28 : decode cX7_site 28 = .ok (.iload_n 2, 1) := by decide +kernel
theorem dX7_site_29 : decode cX7_site 29 = .ok (.iconst 1, 1) := by decide +kernel
theorem dX7_site_30 : decode cX7_site 30 = .ok (.if_icmp .le 6, 3) := by decide +kernel
theorem dX7_site_33 : decode cX7_site 33 = .ok (.ldc 72, 2) := by decide +kernel
theorem dX7_site_35 : decode cX7_site 35 = .ok (.ireturn, 1) := by decide +kernel
theorem dX7_site_36 : decode cX7_site 36 = .ok (.iconst 0, 1) := by decide +kernel
theorem dX7_site_37 : decode cX7_site 37 = .ok (.istore_n 3, 1) := by decide +kernel
theorem dX7_site_38 : decode cX7_site 38 = .ok (.iconst (-1), 1) := by decide +kernel
theorem dX7_site_39 : decode cX7_site 39 = .ok (.istore 4, 2) := by decide +kernel
theorem dX7_site_4 : decode cX7_site 4 = .ok (.invokevirtual 145, 3) := by decide +kernel
theorem dX7_site_41 : decode cX7_site 41 = .ok (.iconst 0, 1) := by decide +kernel
theorem dX7_site_42 : decode cX7_site 42 = .ok (.istore 5, 2) := by decide +kernel
theorem dX7_site_44 : decode cX7_site 44 = .ok (.iload 5, 2) := by decide +kernel
theorem dX7_site_46 : decode cX7_site 46 = .ok (.aload_n 0, 1) := by decide +kernel
theorem dX7_site_47 : decode cX7_site 47 = .ok (.getfield 26, 3) := by decide +kernel
theorem dX7_site_50 : decode cX7_site 50 = .ok (.getfield 198, 3) := by decide +kernel
theorem dX7_site_53 : decode cX7_site 53 = .ok (.if_icmp .ge 53, 3) := by decide +kernel
theorem dX7_site_56 : decode cX7_site 56 = .ok (.aload_n 0, 1) := by decide +kernel
theorem dX7_site_57 : decode cX7_site 57 = .ok (.getfield 41, 3) := by decide +kernel
theorem dX7_site_60 : decode cX7_site 60 = .ok (.aload_n 0, 1) := by decide +kernel
theorem dX7_site_61 : decode cX7_site 61 = .ok (.getfield 26, 3) := by decide +kernel
theorem dX7_site_64 : decode cX7_site 64 = .ok (.invokevirtual 128, 3) := by decide +kernel
theorem dX7_site_67 : decode cX7_site 67 = .ok (.aload_n 0, 1) := by decide +kernel
theorem dX7_site_68 : decode cX7_site 68 = .ok (.getfield 41, 3) := by decide +kernel
theorem dX7_site_7 : decode cX7_site 7 = .ok (.ifCond .ne 6, 3) := by decide +kernel
theorem dX7_site_71 : decode cX7_site 71 = .ok (.iload 5, 2) := by decide +kernel
theorem dX7_site_73 : decode cX7_site 73 = .ok (.putfield 201, 3) := by decide +kernel
theorem dX7_site_76 : decode cX7_site 76 = .ok (.aload_n 0, 1) := by decide +kernel
theorem dX7_site_77 : decode cX7_site 77 = .ok (.getfield 41, 3) := by decide +kernel
theorem dX7_site_80 : decode cX7_site 80 = .ok (.iload_n 1, 1) := by decide +kernel
theorem dX7_site_81 : decode cX7_site 81 = .ok (.invokevirtual 214, 3) := by decide +kernel
theorem dX7_site_84 : decode cX7_site 84 = .ok (.istore 6, 2) := by decide +kernel
theorem dX7_site_86 : decode cX7_site 86 = .ok (.iload 6, 2) := by decide +kernel
theorem dX7_site_88 : decode cX7_site 88 = .ok (.iload 4, 2) := by decide +kernel
theorem dX7_site_90 : decode cX7_site 90 = .ok (.if_icmp .le 10, 3) := by decide +kernel
theorem dX7_site_93 : decode cX7_site 93 = .ok (.iload 6, 2) := by decide +kernel
theorem dX7_site_95 : decode cX7_site 95 = .ok (.istore 4, 2) := by decide +kernel
theorem dX7_site_97 : decode cX7_site 97 = .ok (.iload 5, 2) := by decide +kernel
theorem dX7_site_99 : decode cX7_site 99 = .ok (.istore_n 3, 1) := by decide +kernel
theorem dX7_startsThatFit_0 : decode cX7_startsThatFit 0 = .ok (.iconst 0, 1) := by decide +kernel
theorem dX7_startsThatFit_1 : decode cX7_startsThatFit 1 = .ok (.istore 5, 2) := by decide +kernel
theorem dX7_startsThatFit_12 : decode cX7_startsThatFit 12 = .ok (.getfield 198, 3) := by decide +kernel
theorem dX7_startsThatFit_15 : decode cX7_startsThatFit 15 = .ok (.if_icmp .ge 56, 3) := by decide +kernel
theorem dX7_startsThatFit_18 : decode cX7_startsThatFit 18 = .ok (.aload_n 0, 1) := by decide +kernel
theorem dX7_startsThatFit_19 : decode cX7_startsThatFit 19 = .ok (.getfield 41, 3) := by decide +kernel
theorem dX7_startsThatFit_22 : decode cX7_startsThatFit 22 = .ok (.aload_n 0, 1) := by decide +kernel
theorem dX7_startsThatFit_23 : decode cX7_startsThatFit 23 = .ok (.getfield 26, 3) := by decide +kernel
theorem dX7_startsThatFit_26 : decode cX7_startsThatFit 26 = .ok (.invokevirtual 128, 3) := by decide +kernel
theorem dX7_startsThatFit_29 : decode cX7_startsThatFit 29 = .ok (.aload_n 0, 1) := by decide +kernel
theorem dX7_startsThatFit_3 : decode cX7_startsThatFit 3 = .ok (.iconst 0, 1) := by decide +kernel
theorem dX7_startsThatFit_30 : decode cX7_startsThatFit 30 = .ok (.getfield 41, 3) := by decide +kernel
theorem dX7_startsThatFit_33 : decode cX7_startsThatFit 33 = .ok (.getfield 334, 3) := by decide +kernel
theorem dX7_startsThatFit_36 : decode cX7_startsThatFit 36 = .ok (.iload_n 1, 1) := by decide +kernel
theorem dX7_startsThatFit_37 : decode cX7_startsThatFit 37 = .ok (.iload 6, 2) := by decide +kernel
theorem dX7_startsThatFit_39 : decode cX7_startsThatFit 39 = .ok (.iastore, 1) := by decide +kernel
theorem dX7_startsThatFit_4 : decode cX7_startsThatFit 4 = .ok (.istore 6, 2) := by decide +kernel
theorem dX7_startsThatFit_40 : decode cX7_startsThatFit 40 = .ok (.iload 5, 2) := by decide +kernel
theorem dX7_startsThatFit_42 : decode cX7_startsThatFit 42 = .ok (.aload_n 0, 1) := by decide +kernel
theorem dX7_startsThatFit_43 : decode cX7_startsThatFit 43 = .ok (.iload_n 1, 1) := by decide +kernel
theorem dX7_startsThatFit_44 : decode cX7_startsThatFit 44 = .ok (.iload_n 2, 1) := by decide +kernel
theorem dX7_startsThatFit_45 : decode cX7_startsThatFit 45 = .ok (.iload_n 3, 1) := by decide +kernel
theorem dX7_startsThatFit_46 : decode cX7_startsThatFit 46 = .ok (.iload 4, 2) := by decide +kernel
theorem dX7_startsThatFit_48 : decode cX7_startsThatFit 48 = .ok (.invokevirtual 330, 3) := by decide +kernel
theorem dX7_startsThatFit_51 : decode cX7_startsThatFit 51 = .ok (.ifCond .eq 10, 3) := by decide +kernel
theorem dX7_startsThatFit_54 : decode cX7_startsThatFit 54 = .ok (.iconst 1, 1) := by decide +kernel
theorem dX7_startsThatFit_55 : decode cX7_startsThatFit 55 = .ok (.iload 6, 2) := by decide +kernel
theorem dX7_startsThatFit_57 : decode cX7_startsThatFit 57 = .ok (.ishl, 1) := by decide +kernel
theorem dX7_startsThatFit_58 : decode cX7_startsThatFit 58 = .ok (.goto 4, 3) := by decide +kernel
theorem dX7_startsThatFit_6 : decode cX7_startsThatFit 6 = .ok (.iload 6, 2) := by decide +kernel
theorem dX7_startsThatFit_61 : decode cX7_startsThatFit 61 = .ok (.iconst 0, 1) := by decide +kernel
theorem dX7_startsThatFit_62 : decode cX7_startsThatFit 62 = .ok (.ior, 1) := by decide +kernel
theorem dX7_startsThatFit_63 : decode cX7_startsThatFit 63 = .ok (.istore 5, 2) := by decide +kernel
theorem dX7_startsThatFit_65 : decode cX7_startsThatFit 65 = .ok (.iinc 6 1, 3) := by decide +kernel
theorem dX7_startsThatFit_68 : decode cX7_startsThatFit 68 = .ok (.goto (-62), 3) := by decide +kernel
theorem dX7_startsThatFit_71 : decode cX7_startsThatFit 71 = .ok (.iload 5, 2) := by decide +kernel
theorem dX7_startsThatFit_73 : decode cX7_startsThatFit 73 = .ok (.ireturn, 1) := by decide +kernel
theorem dX7_startsThatFit_8 : decode cX7_startsThatFit 8 = .ok (.aload_n 0, 1) := by decide +kernel
theorem dX7_startsThatFit_9 : decode cX7_startsThatFit 9 = .ok (.getfield 26, 3) := by decide +kernel
theorem dX7_trialFits_0 : decode cX7_trialFits 0 = .ok (.iconst 0, 1) := by decide +kernel
theorem dX7_trialFits_1 : decode cX7_trialFits 1 = .ok (.istore 5, 2) := by decide +kernel
theorem dX7_trialFits_10 : decode cX7_trialFits 10 = .ok (.aload_n 0, 1) := by decide +kernel
theorem dX7_trialFits_11 : decode cX7_trialFits 11 = .ok (.getfield 41, 3) := by decide +kernel
theorem dX7_trialFits_14 : decode cX7_trialFits 14 = .ok (.iload_n 1, 1) := by decide +kernel
theorem dX7_trialFits_15 : decode cX7_trialFits 15 = .ok (.iconst 1, 1) := by decide +kernel
theorem dX7_trialFits_16 : decode cX7_trialFits 16 = .ok (.invokevirtual 210, 3) := by decide +kernel
theorem dX7_trialFits_19 : decode cX7_trialFits 19 = .ok (.aload_n 0, 1) := by decide +kernel
theorem dX7_trialFits_20 : decode cX7_trialFits 20 = .ok (.getfield 41, 3) := by decide +kernel
theorem dX7_trialFits_23 : decode cX7_trialFits 23 = .ok (.iload_n 1, 1) := by decide +kernel
theorem dX7_trialFits_24 : decode cX7_trialFits 24 = .ok (.invokevirtual 179, 3) := by decide +kernel
theorem dX7_trialFits_27 : decode cX7_trialFits 27 = .ok (.ifCond .eq 15, 3) := by decide +kernel
theorem dX7_trialFits_3 : decode cX7_trialFits 3 = .ok (.iload 5, 2) := by decide +kernel
theorem dX7_trialFits_30 : decode cX7_trialFits 30 = .ok (.aload_n 0, 1) := by decide +kernel
theorem dX7_trialFits_31 : decode cX7_trialFits 31 = .ok (.getfield 41, 3) := by decide +kernel
theorem dX7_trialFits_34 : decode cX7_trialFits 34 = .ok (.getfield 334, 3) := by decide +kernel
theorem dX7_trialFits_37 : decode cX7_trialFits 37 = .ok (.iload_n 1, 1) := by decide +kernel
theorem dX7_trialFits_38 : decode cX7_trialFits 38 = .ok (.iaload, 1) := by decide +kernel
theorem dX7_trialFits_39 : decode cX7_trialFits 39 = .ok (.goto 5, 3) := by decide +kernel
theorem dX7_trialFits_42 : decode cX7_trialFits 42 = .ok (.bipush 99, 2) := by decide +kernel
theorem dX7_trialFits_44 : decode cX7_trialFits 44 = .ok (.istore 6, 2) := by decide +kernel
theorem dX7_trialFits_46 : decode cX7_trialFits 46 = .ok (.iload 6, 2) := by decide +kernel
theorem dX7_trialFits_48 : decode cX7_trialFits 48 = .ok (.aload_n 0, 1) := by decide +kernel
theorem dX7_trialFits_49 : decode cX7_trialFits 49 = .ok (.getfield 10, 3) := by decide +kernel
theorem dX7_trialFits_5 : decode cX7_trialFits 5 = .ok (.iload 4, 2) := by decide +kernel
theorem dX7_trialFits_52 : decode cX7_trialFits 52 = .ok (.iload_n 2, 1) := by decide +kernel
theorem dX7_trialFits_53 : decode cX7_trialFits 53 = .ok (.iload_n 3, 1) := by decide +kernel
theorem dX7_trialFits_54 : decode cX7_trialFits 54 = .ok (.iload 5, 2) := by decide +kernel
theorem dX7_trialFits_56 : decode cX7_trialFits 56 = .ok (.iadd, 1) := by decide +kernel
theorem dX7_trialFits_57 : decode cX7_trialFits 57 = .ok (.invokevirtual 337, 3) := by decide +kernel
theorem dX7_trialFits_60 : decode cX7_trialFits 60 = .ok (.if_icmp .eq 5, 3) := by decide +kernel
theorem dX7_trialFits_63 : decode cX7_trialFits 63 = .ok (.iconst 0, 1) := by decide +kernel
theorem dX7_trialFits_64 : decode cX7_trialFits 64 = .ok (.ireturn, 1) := by decide +kernel
theorem dX7_trialFits_65 : decode cX7_trialFits 65 = .ok (.iinc 5 1, 3) := by decide +kernel
theorem dX7_trialFits_68 : decode cX7_trialFits 68 = .ok (.goto (-65), 3) := by decide +kernel
theorem dX7_trialFits_7 : decode cX7_trialFits 7 = .ok (.if_icmp .ge 64, 3) := by decide +kernel
theorem dX7_trialFits_71 : decode cX7_trialFits 71 = .ok (.iconst 1, 1) := by decide +kernel
theorem dX7_trialFits_72 : decode cX7_trialFits 72 = .ok (.ireturn, 1) := by decide +kernel
theorem dX7_when_0 : decode cX7_when 0 = .ok (.aload_n 0, 1) := by decide +kernel
theorem dX7_when_1 : decode cX7_when 1 = .ok (.getfield 26, 3) := by decide +kernel
theorem dX7_when_11 : decode cX7_when 11 = .ok (.iload_n 2, 1) := by decide +kernel
theorem dX7_when_12 : decode cX7_when 12 = .ok (.iconst 1, 1) := by decide +kernel
theorem dX7_when_13 : decode cX7_when 13 = .ok (.if_icmp .lt 8, 3) := by decide +kernel
theorem dX7_when_16 : decode cX7_when 16 = .ok (.iload_n 2, 1) := by decide +kernel
theorem dX7_when_17 : decode cX7_when 17 = .ok (.iconst 2, 1) := by decide +kernel
theorem dX7_when_18 : decode cX7_when 18 = .ok (.if_icmp .le 6, 3) := by decide +kernel
theorem dX7_when_21 : decode cX7_when 21 = .ok (.ldc 72, 2) := by decide +kernel
theorem dX7_when_23 : decode cX7_when 23 = .ok (.ireturn, 1) := by decide +kernel
theorem dX7_when_24 : decode cX7_when 24 = .ok (.aload_n 0, 1) := by decide +kernel
theorem dX7_when_25 : decode cX7_when 25 = .ok (.getfield 41, 3) := by decide +kernel
theorem dX7_when_28 : decode cX7_when 28 = .ok (.aload_n 0, 1) := by decide +kernel
theorem dX7_when_29 : decode cX7_when 29 = .ok (.getfield 26, 3) := by decide +kernel
theorem dX7_when_32 : decode cX7_when 32 = .ok (.invokevirtual 128, 3) := by decide +kernel
theorem dX7_when_35 : decode cX7_when 35 = .ok (.iconst 0, 1) := by decide +kernel
theorem dX7_when_36 : decode cX7_when 36 = .ok (.istore_n 3, 1) := by decide +kernel
theorem dX7_when_37 : decode cX7_when 37 = .ok (.iload_n 3, 1) := by decide +kernel
theorem dX7_when_38 : decode cX7_when 38 = .ok (.bipush 60, 2) := by decide +kernel
theorem dX7_when_4 : decode cX7_when 4 = .ok (.iload_n 1, 1) := by decide +kernel
theorem dX7_when_40 : decode cX7_when 40 = .ok (.if_icmp .gt 33, 3) := by decide +kernel
theorem dX7_when_43 : decode cX7_when 43 = .ok (.aload_n 0, 1) := by decide +kernel
theorem dX7_when_44 : decode cX7_when 44 = .ok (.getfield 41, 3) := by decide +kernel
theorem dX7_when_47 : decode cX7_when 47 = .ok (.getfield 217, 3) := by decide +kernel
theorem dX7_when_5 : decode cX7_when 5 = .ok (.invokevirtual 173, 3) := by decide +kernel
theorem dX7_when_50 : decode cX7_when 50 = .ok (.iload_n 1, 1) := by decide +kernel
theorem dX7_when_51 : decode cX7_when 51 = .ok (.iaload, 1) := by decide +kernel
theorem dX7_when_52 : decode cX7_when 52 = .ok (.iload_n 2, 1) := by decide +kernel
theorem dX7_when_53 : decode cX7_when 53 = .ok (.if_icmp .ne 5, 3) := by decide +kernel
theorem dX7_when_56 : decode cX7_when 56 = .ok (.iload_n 3, 1) := by decide +kernel
theorem dX7_when_57 : decode cX7_when 57 = .ok (.ireturn, 1) := by decide +kernel
theorem dX7_when_58 : decode cX7_when 58 = .ok (.aload_n 0, 1) := by decide +kernel
theorem dX7_when_59 : decode cX7_when 59 = .ok (.getfield 41, 3) := by decide +kernel
theorem dX7_when_62 : decode cX7_when 62 = .ok (.iload_n 1, 1) := by decide +kernel
theorem dX7_when_63 : decode cX7_when 63 = .ok (.iconst 1, 1) := by decide +kernel
theorem dX7_when_64 : decode cX7_when 64 = .ok (.invokevirtual 210, 3) := by decide +kernel
theorem dX7_when_67 : decode cX7_when 67 = .ok (.iinc 3 1, 3) := by decide +kernel
theorem dX7_when_70 : decode cX7_when 70 = .ok (.goto (-33), 3) := by decide +kernel
theorem dX7_when_73 : decode cX7_when 73 = .ok (.ldc 220, 2) := by decide +kernel
theorem dX7_when_75 : decode cX7_when 75 = .ok (.ireturn, 1) := by decide +kernel
theorem dX7_when_8 : decode cX7_when 8 = .ok (.ifCond .eq 13, 3) := by decide +kernel
theorem dX7_who_0 : decode cX7_who 0 = .ok (.aload_n 0, 1) := by decide +kernel
theorem dX7_who_1 : decode cX7_who 1 = .ok (.getfield 26, 3) := by decide +kernel
theorem dX7_who_11 : decode cX7_who 11 = .ok (.iload_n 2, 1) := by decide +kernel
theorem dX7_who_12 : decode cX7_who 12 = .ok (.ifCond .lt 17, 3) := by decide +kernel
theorem dX7_who_15 : decode cX7_who 15 = .ok (.iload_n 2, 1) := by decide +kernel
theorem dX7_who_16 : decode cX7_who 16 = .ok (.iconst 1, 1) := by decide +kernel
theorem dX7_who_17 : decode cX7_who 17 = .ok (.if_icmp .gt 12, 3) := by decide +kernel
theorem dX7_who_20 : decode cX7_who 20 = .ok (.iload_n 3, 1) := by decide +kernel
theorem dX7_who_21 : decode cX7_who 21 = .ok (.iload 5, 2) := by decide +kernel
theorem dX7_who_23 : decode cX7_who 23 = .ok (.invokestatic 247, 3) := by decide +kernel
theorem dX7_who_26 : decode cX7_who 26 = .ok (.ifCond .ne 6, 3) := by decide +kernel
theorem dX7_who_29 : decode cX7_who 29 = .ok (.ldc 72, 2) := by decide +kernel
theorem dX7_who_31 : decode cX7_who 31 = .ok (.ireturn, 1) := by decide +kernel
theorem dX7_who_32 : decode cX7_who 32 = .ok (.aload_n 0, 1) := by decide +kernel
theorem dX7_who_33 : decode cX7_who 33 = .ok (.iload_n 1, 1) := by decide +kernel
theorem dX7_who_34 : decode cX7_who 34 = .ok (.iload_n 3, 1) := by decide +kernel
theorem dX7_who_35 : decode cX7_who 35 = .ok (.iload 4, 2) := by decide +kernel
theorem dX7_who_37 : decode cX7_who 37 = .ok (.iload 5, 2) := by decide +kernel
theorem dX7_who_39 : decode cX7_who 39 = .ok (.invokevirtual 251, 3) := by decide +kernel
theorem dX7_who_4 : decode cX7_who 4 = .ok (.iload_n 1, 1) := by decide +kernel
theorem dX7_who_42 : decode cX7_who 42 = .ok (.istore 6, 2) := by decide +kernel
theorem dX7_who_44 : decode cX7_who 44 = .ok (.iload 6, 2) := by decide +kernel
theorem dX7_who_46 : decode cX7_who 46 = .ok (.ifCond .eq 6, 3) := by decide +kernel
theorem dX7_who_49 : decode cX7_who 49 = .ok (.iload 6, 2) := by decide +kernel
theorem dX7_who_5 : decode cX7_who 5 = .ok (.invokevirtual 173, 3) := by decide +kernel
theorem dX7_who_51 : decode cX7_who 51 = .ok (.ireturn, 1) := by decide +kernel
theorem dX7_who_52 : decode cX7_who 52 = .ok (.aload_n 0, 1) := by decide +kernel
theorem dX7_who_53 : decode cX7_who 53 = .ok (.iload_n 2, 1) := by decide +kernel
theorem dX7_who_54 : decode cX7_who 54 = .ok (.ifCond .ne 16, 3) := by decide +kernel
theorem dX7_who_57 : decode cX7_who 57 = .ok (.aload_n 0, 1) := by decide +kernel
theorem dX7_who_58 : decode cX7_who 58 = .ok (.iload_n 1, 1) := by decide +kernel
theorem dX7_who_59 : decode cX7_who 59 = .ok (.iload_n 3, 1) := by decide +kernel
theorem dX7_who_60 : decode cX7_who 60 = .ok (.iload 4, 2) := by decide +kernel
theorem dX7_who_62 : decode cX7_who 62 = .ok (.iload 5, 2) := by decide +kernel
theorem dX7_who_64 : decode cX7_who 64 = .ok (.invokevirtual 255, 3) := by decide +kernel
theorem dX7_who_67 : decode cX7_who 67 = .ok (.goto 13, 3) := by decide +kernel
theorem dX7_who_70 : decode cX7_who 70 = .ok (.aload_n 0, 1) := by decide +kernel
theorem dX7_who_71 : decode cX7_who 71 = .ok (.iload_n 1, 1) := by decide +kernel
theorem dX7_who_72 : decode cX7_who 72 = .ok (.iload_n 3, 1) := by decide +kernel
theorem dX7_who_73 : decode cX7_who 73 = .ok (.iload 4, 2) := by decide +kernel
theorem dX7_who_75 : decode cX7_who 75 = .ok (.iload 5, 2) := by decide +kernel
theorem dX7_who_77 : decode cX7_who 77 = .ok (.invokevirtual 258, 3) := by decide +kernel
theorem dX7_who_8 : decode cX7_who 8 = .ok (.ifCond .eq 21, 3) := by decide +kernel
theorem dX7_who_80 : decode cX7_who 80 = .ok (.invokevirtual 81, 3) := by decide +kernel
theorem dX7_who_83 : decode cX7_who 83 = .ok (.ireturn, 1) := by decide +kernel
theorem dX7_windsThatFit_0 : decode cX7_windsThatFit 0 = .ok (.iconst 0, 1) := by decide +kernel
theorem dX7_windsThatFit_1 : decode cX7_windsThatFit 1 = .ok (.istore 6, 2) := by decide +kernel
theorem dX7_windsThatFit_12 : decode cX7_windsThatFit 12 = .ok (.aload_n 0, 1) := by decide +kernel
theorem dX7_windsThatFit_13 : decode cX7_windsThatFit 13 = .ok (.getfield 41, 3) := by decide +kernel
theorem dX7_windsThatFit_16 : decode cX7_windsThatFit 16 = .ok (.aload_n 0, 1) := by decide +kernel
theorem dX7_windsThatFit_17 : decode cX7_windsThatFit 17 = .ok (.getfield 26, 3) := by decide +kernel
theorem dX7_windsThatFit_20 : decode cX7_windsThatFit 20 = .ok (.invokevirtual 128, 3) := by decide +kernel
theorem dX7_windsThatFit_23 : decode cX7_windsThatFit 23 = .ok (.aload_n 0, 1) := by decide +kernel
theorem dX7_windsThatFit_24 : decode cX7_windsThatFit 24 = .ok (.getfield 41, 3) := by decide +kernel
theorem dX7_windsThatFit_27 : decode cX7_windsThatFit 27 = .ok (.getfield 169, 3) := by decide +kernel
theorem dX7_windsThatFit_3 : decode cX7_windsThatFit 3 = .ok (.iconst 0, 1) := by decide +kernel
theorem dX7_windsThatFit_30 : decode cX7_windsThatFit 30 = .ok (.iload_n 1, 1) := by decide +kernel
theorem dX7_windsThatFit_31 : decode cX7_windsThatFit 31 = .ok (.iload 7, 2) := by decide +kernel
theorem dX7_windsThatFit_33 : decode cX7_windsThatFit 33 = .ok (.iastore, 1) := by decide +kernel
theorem dX7_windsThatFit_34 : decode cX7_windsThatFit 34 = .ok (.iload 6, 2) := by decide +kernel
theorem dX7_windsThatFit_36 : decode cX7_windsThatFit 36 = .ok (.aload_n 0, 1) := by decide +kernel
theorem dX7_windsThatFit_37 : decode cX7_windsThatFit 37 = .ok (.iload_n 2, 1) := by decide +kernel
theorem dX7_windsThatFit_38 : decode cX7_windsThatFit 38 = .ok (.iload_n 3, 1) := by decide +kernel
theorem dX7_windsThatFit_39 : decode cX7_windsThatFit 39 = .ok (.iload 4, 2) := by decide +kernel
theorem dX7_windsThatFit_4 : decode cX7_windsThatFit 4 = .ok (.istore 7, 2) := by decide +kernel
theorem dX7_windsThatFit_41 : decode cX7_windsThatFit 41 = .ok (.iload 5, 2) := by decide +kernel
theorem dX7_windsThatFit_43 : decode cX7_windsThatFit 43 = .ok (.invokevirtual 330, 3) := by decide +kernel
theorem dX7_windsThatFit_46 : decode cX7_windsThatFit 46 = .ok (.ifCond .eq 10, 3) := by decide +kernel
theorem dX7_windsThatFit_49 : decode cX7_windsThatFit 49 = .ok (.iconst 1, 1) := by decide +kernel
theorem dX7_windsThatFit_50 : decode cX7_windsThatFit 50 = .ok (.iload 7, 2) := by decide +kernel
theorem dX7_windsThatFit_52 : decode cX7_windsThatFit 52 = .ok (.ishl, 1) := by decide +kernel
theorem dX7_windsThatFit_53 : decode cX7_windsThatFit 53 = .ok (.goto 4, 3) := by decide +kernel
theorem dX7_windsThatFit_56 : decode cX7_windsThatFit 56 = .ok (.iconst 0, 1) := by decide +kernel
theorem dX7_windsThatFit_57 : decode cX7_windsThatFit 57 = .ok (.ior, 1) := by decide +kernel
theorem dX7_windsThatFit_58 : decode cX7_windsThatFit 58 = .ok (.istore 6, 2) := by decide +kernel
theorem dX7_windsThatFit_6 : decode cX7_windsThatFit 6 = .ok (.iload 7, 2) := by decide +kernel
theorem dX7_windsThatFit_60 : decode cX7_windsThatFit 60 = .ok (.iinc 7 1, 3) := by decide +kernel
theorem dX7_windsThatFit_63 : decode cX7_windsThatFit 63 = .ok (.goto (-57), 3) := by decide +kernel
theorem dX7_windsThatFit_66 : decode cX7_windsThatFit 66 = .ok (.iload 6, 2) := by decide +kernel
theorem dX7_windsThatFit_68 : decode cX7_windsThatFit 68 = .ok (.ireturn, 1) := by decide +kernel
theorem dX7_windsThatFit_8 : decode cX7_windsThatFit 8 = .ok (.iconst 4, 1) := by decide +kernel
theorem dX7_windsThatFit_9 : decode cX7_windsThatFit 9 = .ok (.if_icmp .gt 57, 3) := by decide +kernel
set_option maxRecDepth 20000 in
theorem ggX3_takeDraw_X3_isLoose : GoodIn wsX3_takeDraw wsX3_isLoose := goodIn_r _ [14, 15, 22, 23, 24, 25, 26, 27, 28, 29, 30, 31, 32, 33, 34] (by decide +kernel) (by decide +kernel)
set_option maxRecDepth 20000 in
theorem gX3_takeDraw_X3_isLoose : GoodIn wsX3_takeDraw (wsV RX3 58 RX3 yX3_isLoose wsX3_isLoose) := goodIn_app (goodIn_of _ (by decide +kernel)) ggX3_takeDraw_X3_isLoose
set_option maxRecDepth 20000 in
theorem ggX3_takeDraw_X3_letLoose : GoodIn wsX3_takeDraw wsX3_letLoose := goodIn_r _ [19, 20, 21, 15, 22, 23, 24, 25, 26, 27, 28, 29, 30, 31, 32, 33, 34] (by decide +kernel) (by decide +kernel)
set_option maxRecDepth 20000 in
theorem gX3_takeDraw_X3_letLoose : GoodIn wsX3_takeDraw (wsV RX3 79 RX3 yX3_letLoose wsX3_letLoose) := goodIn_app (goodIn_of _ (by decide +kernel)) ggX3_takeDraw_X3_letLoose
set_option maxRecDepth 20000 in
theorem ggX7_ahead_X3_becomeLike : GoodIn wsX7_ahead wsX3_becomeLike := goodIn_r _ [17, 18, 19, 20, 21, 22, 23, 24, 9, 25, 26, 27, 28, 29, 30, 31, 32, 33, 90, 91, 92, 93, 94, 95, 96, 97, 98, 99, 100, 101, 102] (by decide +kernel) (by decide +kernel)
set_option maxRecDepth 20000 in
theorem gX7_ahead_X3_becomeLike : GoodIn wsX7_ahead (wsV RX7 128 RX3 yX3_becomeLike wsX3_becomeLike) := goodIn_app (goodIn_of _ (by decide +kernel)) ggX7_ahead_X3_becomeLike
set_option maxRecDepth 20000 in
theorem ggX7_ahead_X3_hasSound : GoodIn wsX7_ahead wsX3_hasSound := goodIn_r _ [8, 9, 90, 91, 92, 93, 94, 95, 96, 97, 98, 99, 100, 101, 102] (by decide +kernel) (by decide +kernel)
set_option maxRecDepth 20000 in
theorem gX7_ahead_X3_hasSound : GoodIn wsX7_ahead (wsV RX7 173 RX3 yX3_hasSound wsX3_hasSound) := goodIn_app (goodIn_of _ (by decide +kernel)) ggX7_ahead_X3_hasSound
set_option maxRecDepth 20000 in
theorem ggX7_ahead_X3_passOnly : GoodIn wsX7_ahead wsX3_passOnly := goodIn_r _ [37, 22, 38, 39, 40, 7, 41, 24, 25, 42, 43, 44, 45, 31, 33, 23, 46, 47, 48, 49, 50, 51, 52, 53, 54, 55, 56, 57, 30, 58, 59, 60, 61, 32, 62, 63, 64, 65, 18, 66, 67, 68, 69, 70, 71, 72, 73, 21, 19, 20, 90, 91, 92, 93, 94, 95, 96, 97, 98, 99, 100, 101, 102] (by decide +kernel) (by decide +kernel)
set_option maxRecDepth 20000 in
theorem gX7_ahead_X3_passOnly : GoodIn wsX7_ahead (wsV RX7 210 RX3 yX3_passOnly wsX3_passOnly) := goodIn_app (goodIn_of _ (by decide +kernel)) ggX7_ahead_X3_passOnly
set_option maxRecDepth 20000 in
theorem ggX7_ahead_X3_tellOf : GoodIn wsX7_ahead wsX3_tellOf := goodIn_r _ [77, 31, 78, 33, 32, 50, 51, 52, 7, 53, 90, 91, 92, 93, 94, 95, 96, 97, 98, 99, 100, 101, 102] (by decide +kernel) (by decide +kernel)
set_option maxRecDepth 20000 in
theorem gX7_ahead_X3_tellOf : GoodIn wsX7_ahead (wsV RX7 195 RX3 yX3_tellOf wsX3_tellOf) := goodIn_app (goodIn_of _ (by decide +kernel)) ggX7_ahead_X3_tellOf
set_option maxRecDepth 20000 in
theorem ggX7_ahead_X7_isForetold : GoodIn wsX7_ahead wsX7_isForetold := goodIn_r _ [13] (by decide +kernel) (by decide +kernel)
set_option maxRecDepth 20000 in
theorem gX7_ahead_X7_isForetold : GoodIn wsX7_ahead (va_wsS RX7 207 yX7_isForetold wsX7_isForetold) := goodIn_app (goodIn_of _ (by decide +kernel)) ggX7_ahead_X7_isForetold
set_option maxRecDepth 20000 in
theorem ggX7_calm_X3_hasSound : GoodIn wsX7_calm wsX3_hasSound := goodIn_r _ [12, 13, 102, 103, 104, 105, 106, 107, 108, 109, 110, 111, 112, 113, 114] (by decide +kernel) (by decide +kernel)
set_option maxRecDepth 20000 in
theorem gX7_calm_X3_hasSound : GoodIn wsX7_calm (wsV RX7 173 RX3 yX3_hasSound wsX3_hasSound) := goodIn_app (goodIn_of _ (by decide +kernel)) ggX7_calm_X3_hasSound
set_option maxRecDepth 20000 in
theorem ggX7_calm_X7_casesOf : GoodIn wsX7_calm wsX7_casesOf := goodIn_r _ [21, 1, 3, 91, 92, 93, 94, 95, 96, 97, 98, 99, 100, 101, 102, 103, 104, 105, 106, 107, 108, 109, 110, 111, 112, 113, 114] (by decide +kernel) (by decide +kernel)
set_option maxRecDepth 20000 in
theorem gX7_calm_X7_casesOf : GoodIn wsX7_calm (wsV RX7 272 RX7 yX7_casesOf wsX7_casesOf) := goodIn_app (goodIn_of _ (by decide +kernel)) ggX7_calm_X7_casesOf
set_option maxRecDepth 20000 in
theorem ggX7_calm_X7_commonDivisor : GoodIn wsX7_calm wsX7_commonDivisor := goodIn_r _ [90] (by decide +kernel) (by decide +kernel)
set_option maxRecDepth 20000 in
theorem gX7_calm_X7_commonDivisor : GoodIn wsX7_calm (va_wsS RX7 279 yX7_commonDivisor wsX7_commonDivisor) := goodIn_app (goodIn_of _ (by decide +kernel)) ggX7_calm_X7_commonDivisor
set_option maxRecDepth 20000 in
theorem ggX7_calm_X7_isForetold : GoodIn wsX7_calm wsX7_isForetold := goodIn_r _ [17] (by decide +kernel) (by decide +kernel)
set_option maxRecDepth 20000 in
theorem gX7_calm_X7_isForetold : GoodIn wsX7_calm (va_wsS RX7 207 yX7_isForetold wsX7_isForetold) := goodIn_app (goodIn_of _ (by decide +kernel)) ggX7_calm_X7_isForetold
set_option maxRecDepth 20000 in
theorem ggX7_calm_X7_isGroundIfDropped : GoodIn wsX7_calm wsX7_isGroundIfDropped := goodIn_r _ [25, 26, 1, 3, 27, 28, 29, 30, 31, 11, 32, 33, 34, 35, 36, 37, 38, 39, 13, 40, 41, 42, 43, 44, 45, 46, 47, 48, 49, 50, 51, 52, 53, 54, 55, 56, 57, 58, 59, 60, 61, 62, 6, 63, 64, 65, 66, 67, 68, 69, 70, 71, 72, 73, 74, 75, 76, 77, 78, 79, 80, 81, 82, 83, 84, 85, 86, 87, 91, 92, 93, 94, 95, 96, 97, 98, 99, 100, 101, 102, 103, 104, 105, 106, 107, 108, 109, 110, 111, 112, 113, 114] (by decide +kernel) (by decide +kernel)
set_option maxRecDepth 20000 in
theorem gX7_calm_X7_isGroundIfDropped : GoodIn wsX7_calm (wsV RX7 275 RX7 yX7_isGroundIfDropped wsX7_isGroundIfDropped) := goodIn_app (goodIn_of _ (by decide +kernel)) ggX7_calm_X7_isGroundIfDropped
set_option maxRecDepth 20000 in
theorem ggX7_drawn_J6_bitCount_0f7a4 : GoodIn wsX7_drawn wsJ6_bitCount_0f7a4 := goodIn_r _ [94, 95, 96, 97] (by decide +kernel) (by decide +kernel)
set_option maxRecDepth 20000 in
theorem gX7_drawn_J6_bitCount_0f7a4 : GoodIn wsX7_drawn (va_wsS RX7 296 yJ6_bitCount_0f7a4 wsJ6_bitCount_0f7a4) := goodIn_app (goodIn_of _ (by decide +kernel)) ggX7_drawn_J6_bitCount_0f7a4
set_option maxRecDepth 20000 in
theorem ggX7_drawn_X3_becomeLike : GoodIn wsX7_drawn wsX3_becomeLike := goodIn_r _ [22, 14, 23, 24, 25, 26, 27, 28, 29, 30, 31, 32, 33, 34, 35, 36, 37, 38, 109, 110, 111, 112, 113, 114, 115, 116, 117, 118, 119, 120, 121] (by decide +kernel) (by decide +kernel)
set_option maxRecDepth 20000 in
theorem gX7_drawn_X3_becomeLike : GoodIn wsX7_drawn (wsV RX7 128 RX3 yX3_becomeLike wsX3_becomeLike) := goodIn_app (goodIn_of _ (by decide +kernel)) ggX7_drawn_X3_becomeLike
set_option maxRecDepth 20000 in
theorem ggX7_drawn_X3_isTold : GoodIn wsX7_drawn wsX3_isTold := goodIn_r _ [13, 14, 109, 110, 111, 112, 113, 114, 115, 116, 117, 118, 119, 120, 121] (by decide +kernel) (by decide +kernel)
set_option maxRecDepth 20000 in
theorem gX7_drawn_X3_isTold : GoodIn wsX7_drawn (wsV RX7 145 RX3 yX3_isTold wsX3_isTold) := goodIn_app (goodIn_of _ (by decide +kernel)) ggX7_drawn_X3_isTold
set_option maxRecDepth 20000 in
theorem ggX7_drawn_X3_pass : GoodIn wsX7_drawn wsX3_pass := goodIn_r _ [58, 29, 26, 59, 60, 61, 12, 62, 28, 30, 63, 64, 65, 66, 36, 38, 27, 67, 68, 69, 70, 47, 48, 49, 50, 71, 72, 73, 74, 35, 75, 76, 77, 78, 37, 79, 80, 81, 82, 14, 51, 52, 53, 54, 83, 84, 85, 86, 25, 23, 24, 109, 110, 111, 112, 113, 114, 115, 116, 117, 118, 119, 120, 121] (by decide +kernel) (by decide +kernel)
set_option maxRecDepth 20000 in
theorem gX7_drawn_X3_pass : GoodIn wsX7_drawn (wsV RX7 154 RX3 yX3_pass wsX3_pass) := goodIn_app (goodIn_of _ (by decide +kernel)) ggX7_drawn_X3_pass
set_option maxRecDepth 20000 in
theorem ggX7_drawn_X3_soundsThatAre : GoodIn wsX7_drawn wsX3_soundsThatAre := goodIn_r _ [90, 29, 38, 109, 110, 111, 112, 113, 114, 115, 116, 117, 118, 119, 120, 121] (by decide +kernel) (by decide +kernel)
set_option maxRecDepth 20000 in
theorem gX7_drawn_X3_soundsThatAre : GoodIn wsX7_drawn (wsV RX7 185 RX3 yX3_soundsThatAre wsX3_soundsThatAre) := goodIn_app (goodIn_of _ (by decide +kernel)) ggX7_drawn_X3_soundsThatAre
set_option maxRecDepth 20000 in
theorem ggX7_drawn_X3_takeDraw : GoodIn wsX7_drawn wsX3_takeDraw := goodIn_r _ [42, 28, 29, 14, 43, 30, 44, 45, 25, 46, 47, 48, 49, 12, 50, 38, 51, 52, 53, 54, 36, 37, 109, 110, 111, 112, 113, 114, 115, 116, 117, 118, 119, 120, 121] (by decide +kernel) (by decide +kernel)
set_option maxRecDepth 20000 in
theorem gX7_drawn_X3_takeDraw : GoodIn wsX7_drawn (wsV RX7 292 RX3 yX3_takeDraw wsX3_takeDraw) := goodIn_app (goodIn_of _ (by decide +kernel)) ggX7_drawn_X3_takeDraw
set_option maxRecDepth 20000 in
theorem ggX7_drawn_X7_isForetold : GoodIn wsX7_drawn wsX7_isForetold := goodIn_r _ [18] (by decide +kernel) (by decide +kernel)
set_option maxRecDepth 20000 in
theorem gX7_drawn_X7_isForetold : GoodIn wsX7_drawn (va_wsS RX7 207 yX7_isForetold wsX7_isForetold) := goodIn_app (goodIn_of _ (by decide +kernel)) ggX7_drawn_X7_isForetold
set_option maxRecDepth 20000 in
theorem ggX7_gusts_X3_hasSound : GoodIn wsX7_gusts wsX3_hasSound := goodIn_r _ [12, 13, 144, 145, 146, 147, 148, 149, 150, 151, 152, 153, 154, 155, 156] (by decide +kernel) (by decide +kernel)
set_option maxRecDepth 20000 in
theorem gX7_gusts_X3_hasSound : GoodIn wsX7_gusts (wsV RX7 173 RX3 yX3_hasSound wsX3_hasSound) := goodIn_app (goodIn_of _ (by decide +kernel)) ggX7_gusts_X3_hasSound
set_option maxRecDepth 20000 in
theorem ggX7_gusts_X3_hasWind : GoodIn wsX7_gusts wsX3_hasWind := goodIn_r _ [7, 8, 144, 145, 146, 147, 148, 149, 150, 151, 152, 153, 154, 155, 156] (by decide +kernel) (by decide +kernel)
set_option maxRecDepth 20000 in
theorem gX7_gusts_X3_hasWind : GoodIn wsX7_gusts (wsV RX7 166 RX3 yX3_hasWind wsX3_hasWind) := goodIn_app (goodIn_of _ (by decide +kernel)) ggX7_gusts_X3_hasWind
set_option maxRecDepth 20000 in
theorem ggX7_gusts_X7_foundNothing : GoodIn wsX7_gusts wsX7_foundNothing := goodIn_r _ [132, 51, 133, 134, 135, 136, 137, 138, 139, 140, 141, 142, 143] (by decide +kernel) (by decide +kernel)
set_option maxRecDepth 20000 in
theorem gX7_gusts_X7_foundNothing : GoodIn wsX7_gusts (wsV RX7 81 RX7 yX7_foundNothing wsX7_foundNothing) := goodIn_app (goodIn_of _ (by decide +kernel)) ggX7_gusts_X7_foundNothing
set_option maxRecDepth 20000 in
theorem ggX7_gusts_X7_isHeard : GoodIn wsX7_gusts wsX7_isHeard := goodIn_r _ [17, 18, 19, 20, 21] (by decide +kernel) (by decide +kernel)
set_option maxRecDepth 20000 in
theorem gX7_gusts_X7_isHeard : GoodIn wsX7_gusts (va_wsS RX7 247 yX7_isHeard wsX7_isHeard) := goodIn_app (goodIn_of _ (by decide +kernel)) ggX7_gusts_X7_isHeard
set_option maxRecDepth 20000 in
theorem ggX7_gusts_X7_reachesThatFit : GoodIn wsX7_gusts wsX7_reachesThatFit := goodIn_r _ [56, 57, 1, 58, 59, 60, 61, 6, 62, 63, 64, 65, 66, 67, 68, 8, 13, 69, 70, 71, 72, 73, 74, 75, 76, 32, 77, 78, 79, 16, 80, 81, 27, 82, 83, 84, 85, 86, 87, 88, 89, 90, 91, 92, 93, 94, 95, 96, 97, 98, 29, 30, 31, 99, 100, 101, 102, 103, 104, 105, 106, 107, 108, 109, 110, 111, 112, 113, 114, 115, 116, 117, 118, 28, 119, 120, 121, 20, 122, 123, 133, 134, 135, 136, 137, 138, 139, 140, 141, 142, 143, 144, 145, 146, 147, 148, 149, 150, 151, 152, 153, 154, 155, 156, 157, 158, 159] (by decide +kernel) (by decide +kernel)
set_option maxRecDepth 20000 in
theorem gX7_gusts_X7_reachesThatFit : GoodIn wsX7_gusts (wsV RX7 261 RX7 yX7_reachesThatFit wsX7_reachesThatFit) := goodIn_app (goodIn_of _ (by decide +kernel)) ggX7_gusts_X7_reachesThatFit
set_option maxRecDepth 20000 in
theorem ggX7_gusts_X7_refusalToHear : GoodIn wsX7_gusts wsX7_refusalToHear := goodIn_r _ [25, 1, 26, 27, 28, 29, 30, 6, 31, 32, 33, 34, 35, 20, 36, 37, 38, 39, 40, 41, 42, 43, 44, 45, 46, 47, 48, 49, 16, 50, 51, 52, 133, 134, 135, 136, 137, 138, 139, 140, 141, 142, 143, 144, 145, 146, 147, 148, 149, 150, 151, 152, 153, 154, 155, 156, 157, 158, 159] (by decide +kernel) (by decide +kernel)
set_option maxRecDepth 20000 in
theorem gX7_gusts_X7_refusalToHear : GoodIn wsX7_gusts (wsV RX7 251 RX7 yX7_refusalToHear wsX7_refusalToHear) := goodIn_app (goodIn_of _ (by decide +kernel)) ggX7_gusts_X7_refusalToHear
set_option maxRecDepth 20000 in
theorem ggX7_gusts_X7_windsThatFit : GoodIn wsX7_gusts wsX7_windsThatFit := goodIn_r _ [127, 57, 1, 128, 59, 60, 61, 6, 62, 63, 64, 65, 66, 67, 68, 8, 13, 69, 70, 71, 72, 73, 74, 75, 76, 32, 77, 78, 79, 16, 80, 81, 27, 82, 83, 84, 85, 86, 87, 88, 89, 90, 91, 92, 93, 94, 95, 96, 97, 98, 29, 30, 31, 99, 100, 101, 102, 103, 104, 105, 106, 107, 108, 109, 110, 111, 112, 113, 114, 115, 116, 117, 118, 28, 119, 120, 121, 20, 122, 123, 133, 134, 135, 136, 137, 138, 139, 140, 141, 142, 143, 144, 145, 146, 147, 148, 149, 150, 151, 152, 153, 154, 155, 156, 157, 158, 159] (by decide +kernel) (by decide +kernel)
set_option maxRecDepth 20000 in
theorem gX7_gusts_X7_windsThatFit : GoodIn wsX7_gusts (wsV RX7 264 RX7 yX7_windsThatFit wsX7_windsThatFit) := goodIn_app (goodIn_of _ (by decide +kernel)) ggX7_gusts_X7_windsThatFit
set_option maxRecDepth 20000 in
theorem ggX7_isGroundIfDropped_X3_becomeLike : GoodIn wsX7_isGroundIfDropped wsX3_becomeLike := goodIn_r _ [10, 11, 12, 13, 14, 15, 16, 17, 18, 19, 20, 21, 22, 23, 24, 25, 26, 27, 79, 80, 81, 82, 83, 84, 85, 86, 87, 88, 89, 90, 91] (by decide +kernel) (by decide +kernel)
set_option maxRecDepth 20000 in
theorem gX7_isGroundIfDropped_X3_becomeLike : GoodIn wsX7_isGroundIfDropped (wsV RX7 128 RX3 yX3_becomeLike wsX3_becomeLike) := goodIn_app (goodIn_of _ (by decide +kernel)) ggX7_isGroundIfDropped_X3_becomeLike
set_option maxRecDepth 20000 in
theorem ggX7_isGroundIfDropped_X3_passOnly : GoodIn wsX7_isGroundIfDropped wsX3_passOnly := goodIn_r _ [31, 15, 32, 33, 34, 9, 35, 17, 19, 36, 37, 38, 39, 25, 27, 16, 40, 41, 42, 43, 44, 45, 46, 47, 48, 49, 50, 51, 24, 52, 53, 54, 55, 26, 56, 57, 58, 59, 11, 60, 61, 62, 63, 64, 65, 66, 67, 14, 12, 13, 79, 80, 81, 82, 83, 84, 85, 86, 87, 88, 89, 90, 91] (by decide +kernel) (by decide +kernel)
set_option maxRecDepth 20000 in
theorem gX7_isGroundIfDropped_X3_passOnly : GoodIn wsX7_isGroundIfDropped (wsV RX7 210 RX3 yX3_passOnly wsX3_passOnly) := goodIn_app (goodIn_of _ (by decide +kernel)) ggX7_isGroundIfDropped_X3_passOnly
set_option maxRecDepth 20000 in
theorem ggX7_kindsThatFit_X3_becomeLike : GoodIn wsX7_kindsThatFit wsX3_becomeLike := goodIn_r _ [8, 9, 10, 11, 12, 13, 14, 15, 16, 17, 18, 19, 20, 21, 22, 23, 24, 25, 91, 92, 93, 94, 95, 96, 97, 98, 99, 100, 101, 102, 103] (by decide +kernel) (by decide +kernel)
set_option maxRecDepth 20000 in
theorem gX7_kindsThatFit_X3_becomeLike : GoodIn wsX7_kindsThatFit (wsV RX7 128 RX3 yX3_becomeLike wsX3_becomeLike) := goodIn_app (goodIn_of _ (by decide +kernel)) ggX7_kindsThatFit_X3_becomeLike
set_option maxRecDepth 20000 in
theorem ggX7_kindsThatFit_X7_trialFits : GoodIn wsX7_kindsThatFit wsX7_trialFits := goodIn_r _ [30, 1, 31, 32, 33, 34, 35, 7, 36, 13, 37, 38, 39, 40, 15, 17, 41, 42, 43, 44, 23, 25, 14, 45, 46, 47, 48, 49, 50, 51, 52, 53, 54, 55, 56, 22, 57, 58, 59, 60, 24, 61, 62, 63, 64, 9, 65, 66, 67, 68, 69, 70, 71, 72, 12, 10, 11, 73, 74, 75, 76, 77, 78, 79, 80, 81, 82, 83, 84, 85, 86, 87, 88, 89, 90, 91, 92, 93, 94, 95, 96, 97, 98, 99, 100, 101, 102, 103, 104, 105, 106] (by decide +kernel) (by decide +kernel)
set_option maxRecDepth 20000 in
theorem gX7_kindsThatFit_X7_trialFits : GoodIn wsX7_kindsThatFit (wsV RX7 330 RX7 yX7_trialFits wsX7_trialFits) := goodIn_app (goodIn_of _ (by decide +kernel)) ggX7_kindsThatFit_X7_trialFits
set_option maxRecDepth 20000 in
theorem ggX7_meal_X3_becomeLike : GoodIn wsX7_meal wsX3_becomeLike := goodIn_r _ [18, 10, 19, 20, 21, 22, 23, 24, 25, 26, 27, 28, 29, 30, 31, 32, 33, 34, 90, 91, 92, 93, 94, 95, 96, 97, 98, 99, 100, 101, 102] (by decide +kernel) (by decide +kernel)
set_option maxRecDepth 20000 in
theorem gX7_meal_X3_becomeLike : GoodIn wsX7_meal (wsV RX7 128 RX3 yX3_becomeLike wsX3_becomeLike) := goodIn_app (goodIn_of _ (by decide +kernel)) ggX7_meal_X3_becomeLike
set_option maxRecDepth 20000 in
theorem ggX7_meal_X3_isTold : GoodIn wsX7_meal wsX3_isTold := goodIn_r _ [9, 10, 90, 91, 92, 93, 94, 95, 96, 97, 98, 99, 100, 101, 102] (by decide +kernel) (by decide +kernel)
set_option maxRecDepth 20000 in
theorem gX7_meal_X3_isTold : GoodIn wsX7_meal (wsV RX7 145 RX3 yX3_isTold wsX3_isTold) := goodIn_app (goodIn_of _ (by decide +kernel)) ggX7_meal_X3_isTold
set_option maxRecDepth 20000 in
theorem ggX7_meal_X3_mealBehind : GoodIn wsX7_meal wsX3_mealBehind := goodIn_r _ [38, 23, 39, 40, 41, 8, 42, 25, 22, 43, 44, 45, 46, 24, 26, 47, 48, 49, 50, 32, 34, 51, 52, 53, 54, 55, 56, 57, 58, 59, 60, 61, 62, 31, 63, 64, 65, 66, 33, 67, 68, 69, 70, 10, 71, 72, 73, 74, 75, 76, 77, 78, 21, 19, 20, 90, 91, 92, 93, 94, 95, 96, 97, 98, 99, 100, 101, 102] (by decide +kernel) (by decide +kernel)
set_option maxRecDepth 20000 in
theorem gX7_meal_X3_mealBehind : GoodIn wsX7_meal (wsV RX7 214 RX3 yX3_mealBehind wsX3_mealBehind) := goodIn_app (goodIn_of _ (by decide +kernel)) ggX7_meal_X3_mealBehind
set_option maxRecDepth 20000 in
theorem ggX7_meal_X7_isForetold : GoodIn wsX7_meal wsX7_isForetold := goodIn_r _ [14] (by decide +kernel) (by decide +kernel)
set_option maxRecDepth 20000 in
theorem gX7_meal_X7_isForetold : GoodIn wsX7_meal (va_wsS RX7 207 yX7_isForetold wsX7_isForetold) := goodIn_app (goodIn_of _ (by decide +kernel)) ggX7_meal_X7_isForetold
set_option maxRecDepth 20000 in
theorem ggX7_reachesThatFit_X3_becomeLike : GoodIn wsX7_reachesThatFit wsX3_becomeLike := goodIn_r _ [8, 9, 10, 11, 12, 13, 14, 15, 16, 17, 18, 19, 20, 21, 22, 23, 24, 25, 91, 92, 93, 94, 95, 96, 97, 98, 99, 100, 101, 102, 103] (by decide +kernel) (by decide +kernel)
set_option maxRecDepth 20000 in
theorem gX7_reachesThatFit_X3_becomeLike : GoodIn wsX7_reachesThatFit (wsV RX7 128 RX3 yX3_becomeLike wsX3_becomeLike) := goodIn_app (goodIn_of _ (by decide +kernel)) ggX7_reachesThatFit_X3_becomeLike
set_option maxRecDepth 20000 in
theorem ggX7_reachesThatFit_X7_trialFits : GoodIn wsX7_reachesThatFit wsX7_trialFits := goodIn_r _ [30, 1, 31, 32, 33, 34, 35, 7, 36, 13, 37, 38, 39, 40, 15, 17, 41, 42, 43, 44, 23, 25, 14, 45, 46, 47, 48, 49, 50, 51, 52, 53, 54, 55, 56, 22, 57, 58, 59, 60, 24, 61, 62, 63, 64, 9, 65, 66, 67, 68, 69, 70, 71, 72, 12, 10, 11, 73, 74, 75, 76, 77, 78, 79, 80, 81, 82, 83, 84, 85, 86, 87, 88, 89, 90, 91, 92, 93, 94, 95, 96, 97, 98, 99, 100, 101, 102, 103, 104, 105, 106] (by decide +kernel) (by decide +kernel)
set_option maxRecDepth 20000 in
theorem gX7_reachesThatFit_X7_trialFits : GoodIn wsX7_reachesThatFit (wsV RX7 330 RX7 yX7_trialFits wsX7_trialFits) := goodIn_app (goodIn_of _ (by decide +kernel)) ggX7_reachesThatFit_X7_trialFits
set_option maxRecDepth 20000 in
theorem ggX7_refusalToHear_X3_isLoose : GoodIn wsX7_refusalToHear wsX3_isLoose := goodIn_r _ [8, 9, 43, 44, 45, 46, 47, 48, 49, 50, 51, 52, 53, 54, 55] (by decide +kernel) (by decide +kernel)
set_option maxRecDepth 20000 in
theorem gX7_refusalToHear_X3_isLoose : GoodIn wsX7_refusalToHear (wsV RX7 179 RX3 yX3_isLoose wsX3_isLoose) := goodIn_app (goodIn_of _ (by decide +kernel)) ggX7_refusalToHear_X3_isLoose
set_option maxRecDepth 20000 in
theorem ggX7_refusalToHear_X5_findingOf : GoodIn wsX7_refusalToHear wsX5_findingOf := goodIn_r _ [14, 15, 16, 17, 13, 18, 19, 20, 21, 22, 23, 24, 56, 57, 58] (by decide +kernel) (by decide +kernel)
set_option maxRecDepth 20000 in
theorem gX7_refusalToHear_X5_findingOf : GoodIn wsX7_refusalToHear (wsV RX7 84 RX5 yX5_findingOf wsX5_findingOf) := goodIn_app (goodIn_of _ (by decide +kernel)) ggX7_refusalToHear_X5_findingOf
set_option maxRecDepth 20000 in
theorem ggX7_refusalToHear_X7_found : GoodIn wsX7_refusalToHear wsX7_found := goodIn_r _ [29, 30, 31, 32, 33, 34, 35, 36, 37, 38, 39, 40, 41, 42] (by decide +kernel) (by decide +kernel)
set_option maxRecDepth 20000 in
theorem gX7_refusalToHear_X7_found : GoodIn wsX7_refusalToHear (wsV RX7 73 RX7 yX7_found wsX7_found) := goodIn_app (goodIn_of _ (by decide +kernel)) ggX7_refusalToHear_X7_found
set_option maxRecDepth 20000 in
theorem ggX7_site_X3_becomeLike : GoodIn wsX7_site wsX3_becomeLike := goodIn_r _ [16, 12, 17, 18, 19, 20, 21, 22, 23, 24, 25, 26, 27, 28, 29, 30, 31, 32, 88, 89, 90, 91, 92, 93, 94, 95, 96, 97, 98, 99, 100] (by decide +kernel) (by decide +kernel)
set_option maxRecDepth 20000 in
theorem gX7_site_X3_becomeLike : GoodIn wsX7_site (wsV RX7 128 RX3 yX3_becomeLike wsX3_becomeLike) := goodIn_app (goodIn_of _ (by decide +kernel)) ggX7_site_X3_becomeLike
set_option maxRecDepth 20000 in
theorem ggX7_site_X3_isTold : GoodIn wsX7_site wsX3_isTold := goodIn_r _ [11, 12, 88, 89, 90, 91, 92, 93, 94, 95, 96, 97, 98, 99, 100] (by decide +kernel) (by decide +kernel)
set_option maxRecDepth 20000 in
theorem gX7_site_X3_isTold : GoodIn wsX7_site (wsV RX7 145 RX3 yX3_isTold wsX3_isTold) := goodIn_app (goodIn_of _ (by decide +kernel)) ggX7_site_X3_isTold
set_option maxRecDepth 20000 in
theorem ggX7_site_X3_mealBehind : GoodIn wsX7_site wsX3_mealBehind := goodIn_r _ [36, 21, 37, 38, 39, 10, 40, 23, 20, 41, 42, 43, 44, 22, 24, 45, 46, 47, 48, 30, 32, 49, 50, 51, 52, 53, 54, 55, 56, 57, 58, 59, 60, 29, 61, 62, 63, 64, 31, 65, 66, 67, 68, 12, 69, 70, 71, 72, 73, 74, 75, 76, 19, 17, 18, 88, 89, 90, 91, 92, 93, 94, 95, 96, 97, 98, 99, 100] (by decide +kernel) (by decide +kernel)
set_option maxRecDepth 20000 in
theorem gX7_site_X3_mealBehind : GoodIn wsX7_site (wsV RX7 214 RX3 yX3_mealBehind wsX3_mealBehind) := goodIn_app (goodIn_of _ (by decide +kernel)) ggX7_site_X3_mealBehind
set_option maxRecDepth 20000 in
theorem ggX7_startsThatFit_X3_becomeLike : GoodIn wsX7_startsThatFit wsX3_becomeLike := goodIn_r _ [9, 10, 11, 12, 13, 14, 15, 16, 17, 18, 19, 20, 21, 22, 23, 24, 25, 26, 91, 92, 93, 94, 95, 96, 97, 98, 99, 100, 101, 102, 103] (by decide +kernel) (by decide +kernel)
set_option maxRecDepth 20000 in
theorem gX7_startsThatFit_X3_becomeLike : GoodIn wsX7_startsThatFit (wsV RX7 128 RX3 yX3_becomeLike wsX3_becomeLike) := goodIn_app (goodIn_of _ (by decide +kernel)) ggX7_startsThatFit_X3_becomeLike
set_option maxRecDepth 20000 in
theorem ggX7_startsThatFit_X7_trialFits : GoodIn wsX7_startsThatFit wsX7_trialFits := goodIn_r _ [31, 3, 4, 32, 33, 34, 35, 8, 36, 14, 37, 38, 39, 40, 16, 18, 41, 42, 43, 44, 24, 26, 15, 45, 46, 47, 48, 49, 50, 51, 52, 53, 54, 55, 56, 23, 57, 58, 59, 60, 25, 61, 62, 63, 64, 10, 65, 66, 67, 68, 69, 70, 71, 72, 13, 11, 12, 73, 74, 75, 76, 77, 78, 79, 80, 81, 82, 83, 84, 85, 86, 87, 88, 89, 90, 91, 92, 93, 94, 95, 96, 97, 98, 99, 100, 101, 102, 103, 104, 105, 106] (by decide +kernel) (by decide +kernel)
set_option maxRecDepth 20000 in
theorem gX7_startsThatFit_X7_trialFits : GoodIn wsX7_startsThatFit (wsV RX7 330 RX7 yX7_trialFits wsX7_trialFits) := goodIn_app (goodIn_of _ (by decide +kernel)) ggX7_startsThatFit_X7_trialFits
set_option maxRecDepth 20000 in
theorem ggX7_trialFits_X3_isLoose : GoodIn wsX7_trialFits wsX3_isLoose := goodIn_r _ [30, 21, 75, 76, 77, 78, 79, 80, 81, 82, 83, 84, 85, 86, 87] (by decide +kernel) (by decide +kernel)
set_option maxRecDepth 20000 in
theorem gX7_trialFits_X3_isLoose : GoodIn wsX7_trialFits (wsV RX7 179 RX3 yX3_isLoose wsX3_isLoose) := goodIn_app (goodIn_of _ (by decide +kernel)) ggX7_trialFits_X3_isLoose
set_option maxRecDepth 20000 in
theorem ggX7_trialFits_X3_passOnly : GoodIn wsX7_trialFits wsX3_passOnly := goodIn_r _ [8, 9, 10, 11, 12, 7, 13, 14, 15, 16, 17, 18, 19, 20, 21, 22, 23, 24, 25, 26, 27, 28, 29, 30, 31, 32, 33, 34, 35, 36, 37, 38, 39, 40, 41, 42, 43, 44, 45, 46, 47, 48, 49, 50, 51, 52, 53, 54, 55, 56, 75, 76, 77, 78, 79, 80, 81, 82, 83, 84, 85, 86, 87] (by decide +kernel) (by decide +kernel)
set_option maxRecDepth 20000 in
theorem gX7_trialFits_X3_passOnly : GoodIn wsX7_trialFits (wsV RX7 210 RX3 yX3_passOnly wsX3_passOnly) := goodIn_app (goodIn_of _ (by decide +kernel)) ggX7_trialFits_X3_passOnly
set_option maxRecDepth 20000 in
theorem ggX7_trialFits_X5_item : GoodIn wsX7_trialFits wsX5_item := goodIn_r _ [62, 63, 88, 89, 90] (by decide +kernel) (by decide +kernel)
set_option maxRecDepth 20000 in
theorem gX7_trialFits_X5_item : GoodIn wsX7_trialFits (wsV RX7 337 RX5 yX5_item wsX5_item) := goodIn_app (goodIn_of _ (by decide +kernel)) ggX7_trialFits_X5_item
set_option maxRecDepth 20000 in
theorem ggX7_when_X3_becomeLike : GoodIn wsX7_when wsX3_becomeLike := goodIn_r _ [15, 16, 17, 18, 19, 20, 21, 22, 11, 23, 24, 25, 26, 27, 28, 29, 30, 31, 83, 84, 85, 86, 87, 88, 89, 90, 91, 92, 93, 94, 95] (by decide +kernel) (by decide +kernel)
set_option maxRecDepth 20000 in
theorem gX7_when_X3_becomeLike : GoodIn wsX7_when (wsV RX7 128 RX3 yX3_becomeLike wsX3_becomeLike) := goodIn_app (goodIn_of _ (by decide +kernel)) ggX7_when_X3_becomeLike
set_option maxRecDepth 20000 in
theorem ggX7_when_X3_hasSound : GoodIn wsX7_when wsX3_hasSound := goodIn_r _ [10, 11, 83, 84, 85, 86, 87, 88, 89, 90, 91, 92, 93, 94, 95] (by decide +kernel) (by decide +kernel)
set_option maxRecDepth 20000 in
theorem gX7_when_X3_hasSound : GoodIn wsX7_when (wsV RX7 173 RX3 yX3_hasSound wsX3_hasSound) := goodIn_app (goodIn_of _ (by decide +kernel)) ggX7_when_X3_hasSound
set_option maxRecDepth 20000 in
theorem ggX7_when_X3_passOnly : GoodIn wsX7_when wsX3_passOnly := goodIn_r _ [35, 20, 36, 37, 38, 9, 39, 22, 23, 40, 41, 42, 43, 29, 31, 21, 44, 45, 46, 47, 48, 49, 50, 51, 52, 53, 54, 55, 28, 56, 57, 58, 59, 30, 60, 61, 62, 63, 16, 64, 65, 66, 67, 68, 69, 70, 71, 19, 17, 18, 83, 84, 85, 86, 87, 88, 89, 90, 91, 92, 93, 94, 95] (by decide +kernel) (by decide +kernel)
set_option maxRecDepth 20000 in
theorem gX7_when_X3_passOnly : GoodIn wsX7_when (wsV RX7 210 RX3 yX3_passOnly wsX3_passOnly) := goodIn_app (goodIn_of _ (by decide +kernel)) ggX7_when_X3_passOnly
set_option maxRecDepth 20000 in
theorem ggX7_who_X3_hasSound : GoodIn wsX7_who wsX3_hasSound := goodIn_r _ [7, 8, 140, 141, 142, 143, 144, 145, 146, 147, 148, 149, 150, 151, 152] (by decide +kernel) (by decide +kernel)
set_option maxRecDepth 20000 in
theorem gX7_who_X3_hasSound : GoodIn wsX7_who (wsV RX7 173 RX3 yX3_hasSound wsX3_hasSound) := goodIn_app (goodIn_of _ (by decide +kernel)) ggX7_who_X3_hasSound
set_option maxRecDepth 20000 in
theorem ggX7_who_X7_foundNothing : GoodIn wsX7_who wsX7_foundNothing := goodIn_r _ [128, 46, 129, 130, 131, 132, 133, 134, 135, 136, 137, 138, 139] (by decide +kernel) (by decide +kernel)
set_option maxRecDepth 20000 in
theorem gX7_who_X7_foundNothing : GoodIn wsX7_who (wsV RX7 81 RX7 yX7_foundNothing wsX7_foundNothing) := goodIn_app (goodIn_of _ (by decide +kernel)) ggX7_who_X7_foundNothing
set_option maxRecDepth 20000 in
theorem ggX7_who_X7_isHeard : GoodIn wsX7_who wsX7_isHeard := goodIn_r _ [12, 13, 14, 15, 16] (by decide +kernel) (by decide +kernel)
set_option maxRecDepth 20000 in
theorem gX7_who_X7_isHeard : GoodIn wsX7_who (va_wsS RX7 247 yX7_isHeard wsX7_isHeard) := goodIn_app (goodIn_of _ (by decide +kernel)) ggX7_who_X7_isHeard
set_option maxRecDepth 20000 in
theorem ggX7_who_X7_kindsThatFit : GoodIn wsX7_who wsX7_kindsThatFit := goodIn_r _ [51, 52, 1, 53, 54, 55, 56, 6, 57, 58, 59, 60, 61, 62, 63, 64, 8, 65, 66, 67, 68, 69, 70, 71, 72, 27, 73, 74, 75, 11, 76, 77, 22, 78, 79, 80, 81, 82, 83, 84, 85, 86, 87, 88, 89, 90, 91, 92, 93, 94, 24, 25, 26, 95, 96, 97, 98, 99, 100, 101, 102, 103, 104, 105, 106, 107, 108, 109, 110, 111, 112, 113, 114, 23, 115, 116, 117, 15, 118, 119, 129, 130, 131, 132, 133, 134, 135, 136, 137, 138, 139, 140, 141, 142, 143, 144, 145, 146, 147, 148, 149, 150, 151, 152, 153, 154, 155] (by decide +kernel) (by decide +kernel)
set_option maxRecDepth 20000 in
theorem gX7_who_X7_kindsThatFit : GoodIn wsX7_who (wsV RX7 255 RX7 yX7_kindsThatFit wsX7_kindsThatFit) := goodIn_app (goodIn_of _ (by decide +kernel)) ggX7_who_X7_kindsThatFit
set_option maxRecDepth 20000 in
theorem ggX7_who_X7_refusalToHear : GoodIn wsX7_who wsX7_refusalToHear := goodIn_r _ [20, 1, 21, 22, 23, 24, 25, 6, 26, 27, 28, 29, 30, 15, 31, 32, 33, 34, 35, 36, 37, 38, 39, 40, 41, 42, 43, 44, 11, 45, 46, 47, 129, 130, 131, 132, 133, 134, 135, 136, 137, 138, 139, 140, 141, 142, 143, 144, 145, 146, 147, 148, 149, 150, 151, 152, 153, 154, 155] (by decide +kernel) (by decide +kernel)
set_option maxRecDepth 20000 in
theorem gX7_who_X7_refusalToHear : GoodIn wsX7_who (wsV RX7 251 RX7 yX7_refusalToHear wsX7_refusalToHear) := goodIn_app (goodIn_of _ (by decide +kernel)) ggX7_who_X7_refusalToHear
set_option maxRecDepth 20000 in
theorem ggX7_who_X7_startsThatFit : GoodIn wsX7_who wsX7_startsThatFit := goodIn_r _ [123, 1, 124, 52, 77, 54, 55, 56, 6, 57, 58, 59, 60, 61, 62, 63, 64, 8, 65, 66, 67, 68, 69, 70, 71, 72, 27, 73, 74, 75, 11, 76, 22, 78, 79, 80, 81, 82, 83, 84, 85, 86, 87, 88, 89, 90, 91, 92, 93, 94, 24, 25, 26, 95, 96, 97, 98, 99, 100, 101, 102, 103, 104, 105, 106, 107, 108, 109, 110, 111, 112, 113, 114, 23, 115, 116, 117, 15, 118, 119, 129, 130, 131, 132, 133, 134, 135, 136, 137, 138, 139, 140, 141, 142, 143, 144, 145, 146, 147, 148, 149, 150, 151, 152, 153, 154, 155] (by decide +kernel) (by decide +kernel)
set_option maxRecDepth 20000 in
theorem gX7_who_X7_startsThatFit : GoodIn wsX7_who (wsV RX7 258 RX7 yX7_startsThatFit wsX7_startsThatFit) := goodIn_app (goodIn_of _ (by decide +kernel)) ggX7_who_X7_startsThatFit
set_option maxRecDepth 20000 in
theorem ggX7_windsThatFit_X3_becomeLike : GoodIn wsX7_windsThatFit wsX3_becomeLike := goodIn_r _ [8, 9, 10, 11, 12, 13, 14, 15, 16, 17, 18, 19, 20, 21, 22, 23, 24, 25, 91, 92, 93, 94, 95, 96, 97, 98, 99, 100, 101, 102, 103] (by decide +kernel) (by decide +kernel)
set_option maxRecDepth 20000 in
theorem gX7_windsThatFit_X3_becomeLike : GoodIn wsX7_windsThatFit (wsV RX7 128 RX3 yX3_becomeLike wsX3_becomeLike) := goodIn_app (goodIn_of _ (by decide +kernel)) ggX7_windsThatFit_X3_becomeLike
set_option maxRecDepth 20000 in
theorem ggX7_windsThatFit_X7_trialFits : GoodIn wsX7_windsThatFit wsX7_trialFits := goodIn_r _ [30, 1, 31, 32, 33, 34, 35, 7, 36, 13, 37, 38, 39, 40, 15, 17, 41, 42, 43, 44, 23, 25, 14, 45, 46, 47, 48, 49, 50, 51, 52, 53, 54, 55, 56, 22, 57, 58, 59, 60, 24, 61, 62, 63, 64, 9, 65, 66, 67, 68, 69, 70, 71, 72, 12, 10, 11, 73, 74, 75, 76, 77, 78, 79, 80, 81, 82, 83, 84, 85, 86, 87, 88, 89, 90, 91, 92, 93, 94, 95, 96, 97, 98, 99, 100, 101, 102, 103, 104, 105, 106] (by decide +kernel) (by decide +kernel)
set_option maxRecDepth 20000 in
theorem gX7_windsThatFit_X7_trialFits : GoodIn wsX7_windsThatFit (wsV RX7 330 RX7 yX7_trialFits wsX7_trialFits) := goodIn_app (goodIn_of _ (by decide +kernel)) ggX7_windsThatFit_X7_trialFits
set_option maxRecDepth 20000 in
theorem i_X3_takeDraw_X3 : ∀ w ∈ u_ws RX3 TX3 13, w ∈ wsX3_takeDraw := by decide +kernel
set_option maxRecDepth 20000 in
theorem i_X7_ahead_X7 : ∀ w ∈ u_ws RX7 TX7 11, w ∈ wsX7_ahead := by decide +kernel
set_option maxRecDepth 20000 in
theorem i_X7_calm_X3 : ∀ w ∈ u_ws RX3 TX3 13, w ∈ wsX7_calm := by decide +kernel
set_option maxRecDepth 20000 in
theorem i_X7_calm_X7 : ∀ w ∈ u_ws RX7 TX7 11, w ∈ wsX7_calm := by decide +kernel
set_option maxRecDepth 20000 in
theorem i_X7_casesOf_X3 : ∀ w ∈ u_ws RX3 TX3 13, w ∈ wsX7_casesOf := by decide +kernel
set_option maxRecDepth 20000 in
theorem i_X7_casesOf_X7 : ∀ w ∈ u_ws RX7 TX7 11, w ∈ wsX7_casesOf := by decide +kernel
set_option maxRecDepth 20000 in
theorem i_X7_drawn_X3 : ∀ w ∈ u_ws RX3 TX3 13, w ∈ wsX7_drawn := by decide +kernel
set_option maxRecDepth 20000 in
theorem i_X7_drawn_X7 : ∀ w ∈ u_ws RX7 TX7 11, w ∈ wsX7_drawn := by decide +kernel
set_option maxRecDepth 20000 in
theorem i_X7_gusts_X7 : ∀ w ∈ u_ws RX7 TX7 11, w ∈ wsX7_gusts := by decide +kernel
set_option maxRecDepth 20000 in
theorem i_X7_isGroundIfDropped_X3 : ∀ w ∈ u_ws RX3 TX3 13, w ∈ wsX7_isGroundIfDropped := by decide +kernel
set_option maxRecDepth 20000 in
theorem i_X7_isGroundIfDropped_X7 : ∀ w ∈ u_ws RX7 TX7 11, w ∈ wsX7_isGroundIfDropped := by decide +kernel
set_option maxRecDepth 20000 in
theorem i_X7_kindsThatFit_X3 : ∀ w ∈ u_ws RX3 TX3 13, w ∈ wsX7_kindsThatFit := by decide +kernel
set_option maxRecDepth 20000 in
theorem i_X7_kindsThatFit_X7 : ∀ w ∈ u_ws RX7 TX7 11, w ∈ wsX7_kindsThatFit := by decide +kernel
set_option maxRecDepth 20000 in
theorem i_X7_meal_X7 : ∀ w ∈ u_ws RX7 TX7 11, w ∈ wsX7_meal := by decide +kernel
set_option maxRecDepth 20000 in
theorem i_X7_reachesThatFit_X3 : ∀ w ∈ u_ws RX3 TX3 13, w ∈ wsX7_reachesThatFit := by decide +kernel
set_option maxRecDepth 20000 in
theorem i_X7_reachesThatFit_X7 : ∀ w ∈ u_ws RX7 TX7 11, w ∈ wsX7_reachesThatFit := by decide +kernel
set_option maxRecDepth 20000 in
theorem i_X7_refusalToHear_X7 : ∀ w ∈ u_ws RX7 TX7 11, w ∈ wsX7_refusalToHear := by decide +kernel
set_option maxRecDepth 20000 in
theorem i_X7_site_X3 : ∀ w ∈ u_ws RX3 TX3 13, w ∈ wsX7_site := by decide +kernel
set_option maxRecDepth 20000 in
theorem i_X7_site_X7 : ∀ w ∈ u_ws RX7 TX7 11, w ∈ wsX7_site := by decide +kernel
set_option maxRecDepth 20000 in
theorem i_X7_startsThatFit_X3 : ∀ w ∈ u_ws RX3 TX3 13, w ∈ wsX7_startsThatFit := by decide +kernel
set_option maxRecDepth 20000 in
theorem i_X7_startsThatFit_X7 : ∀ w ∈ u_ws RX7 TX7 11, w ∈ wsX7_startsThatFit := by decide +kernel
set_option maxRecDepth 20000 in
theorem i_X7_trialFits_X3 : ∀ w ∈ u_ws RX3 TX3 13, w ∈ wsX7_trialFits := by decide +kernel
set_option maxRecDepth 20000 in
theorem i_X7_trialFits_X7 : ∀ w ∈ u_ws RX7 TX7 11, w ∈ wsX7_trialFits := by decide +kernel
set_option maxRecDepth 20000 in
theorem i_X7_when_X3 : ∀ w ∈ u_ws RX3 TX3 13, w ∈ wsX7_when := by decide +kernel
set_option maxRecDepth 20000 in
theorem i_X7_when_X7 : ∀ w ∈ u_ws RX7 TX7 11, w ∈ wsX7_when := by decide +kernel
set_option maxRecDepth 20000 in
theorem i_X7_who_X7 : ∀ w ∈ u_ws RX7 TX7 11, w ∈ wsX7_who := by decide +kernel
set_option maxRecDepth 20000 in
theorem i_X7_windsThatFit_X3 : ∀ w ∈ u_ws RX3 TX3 13, w ∈ wsX7_windsThatFit := by decide +kernel
set_option maxRecDepth 20000 in
theorem i_X7_windsThatFit_X7 : ∀ w ∈ u_ws RX7 TX7 11, w ∈ wsX7_windsThatFit := by decide +kernel
