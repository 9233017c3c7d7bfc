theorem nI_inj2 {a b : Nat} (h : nI a = nI b) (ha : a < 2 ^ 31) (hb : b < 2 ^ 31) : a = b := (nI_eq ha hb).mp h
theorem cp_0 {F g src : Nat → Int32} {i : Nat} {v : Int32} (h : ∀ j : Nat, j < i → F j = src j) (hi : i < 2 ^ 31) (e : v = src (nI i).toNatClampNeg) (hg : upd F (nI i).toNatClampNeg v = g) : ∀ j : Nat, j < i + 1 → g j = src j := by
  intro j hj
  rw [nI_clamp hi] at e hg
  rw [← hg]
  unfold upd
  split
  · rename_i q
    rw [q, e]
  · exact h j (by omega)
theorem cp_d {F g src : Nat → Int32} {i a : Nat} {v : Int32} (h : ∀ j : Nat, j < i → F (a + j) = src j) (hi : a + i < 2 ^ 31) (e : v = src (nI i).toNatClampNeg) (hg : upd F (nI (a + i)).toNatClampNeg v = g) : ∀ j : Nat, j < i + 1 → g (a + j) = src j := by
  intro j hj
  rw [nI_clamp (by omega)] at e
  rw [nI_clamp hi] at hg
  rw [← hg]
  unfold upd
  split
  · rename_i q
    have q2 : j = i := by omega
    rw [q2, e]
  · exact h j (by omega)
theorem cp_do {F g old : Nat → Int32} {i a n : Nat} {v : Int32} (h : ∀ j : Nat, j < a ∨ a + n ≤ j → F j = old j) (hin : i < n) (hi : a + i < 2 ^ 31) (hg : upd F (nI (a + i)).toNatClampNeg v = g) : ∀ j : Nat, j < a ∨ a + n ≤ j → g j = old j := by
  intro j hj
  rw [nI_clamp hi] at hg
  rw [← hg]
  unfold upd
  rw [if_neg (by omega)]
  exact h j hj
theorem cp_s {F g src : Nat → Int32} {i a : Nat} {v : Int32} (h : ∀ j : Nat, j < i → F j = src (a + j)) (hi : a + i < 2 ^ 31) (e : v = src (nI (a + i)).toNatClampNeg) (hg : upd F (nI i).toNatClampNeg v = g) : ∀ j : Nat, j < i + 1 → g j = src (a + j) := by
  intro j hj
  rw [nI_clamp hi] at e
  rw [nI_clamp (by omega)] at hg
  rw [← hg]
  unfold upd
  split
  · rename_i q
    rw [q, e]
  · exact h j (by omega)
/-- the shift: below i the item 38 on, from i on as it was -/
theorem cp_sh {F g old : Nat → Int32} {i : Nat} {v : Int32} (h : (∀ j : Nat, j < i → F j = old (j + 38)) ∧ ∀ j : Nat, i ≤ j → F j = old j) (hi : i + 38 < 2 ^ 31) (e : v = F (nI (i + 38)).toNatClampNeg) (hg : upd F (nI i).toNatClampNeg v = g) : (∀ j : Nat, j < i + 1 → g j = old (j + 38)) ∧ ∀ j : Nat, i + 1 ≤ j → g j = old j := by
  rw [nI_clamp hi] at e
  rw [nI_clamp (by omega)] at hg
  constructor
  · intro j hj
    rw [← hg]
    unfold upd
    split
    · rename_i q
      rw [q, e, h.2 _ (by omega)]
    · exact h.1 j (by omega)
  · intro j hj
    rw [← hg]
    unfold upd
    rw [if_neg (by omega)]
    exact h.2 j (by omega)
/-- a level that was kept: told, its hour at most 999 -/
def okK (f : Nat → Int32) : Prop := ∃ w k h : Nat, okM f w k h ∧ 1 ≤ k ∧ h ≤ 999
theorem okK_eq {f g : Nat → Int32} (hK : okK f) (e : ∀ j : Nat, j < 38 → g j = f j) : okK g := by
  obtain ⟨w, k, h, h1, h2, h3⟩ := hK
  exact ⟨w, k, h, okM_eq h1 e, h2, h3⟩
/-- the acts: n levels of 38 numbers one behind another -/
def okA (f : Nat → Int32) (n : Nat) : Prop := ∀ r : Nat, r < n → okK (fun j => f (38 * r + j))
theorem okA_sh {f g : Nat → Int32} {n : Nat} (h : okA f 24) (e : (∀ j : Nat, j < 874 → g j = f (j + 38)) ∧ ∀ j : Nat, 874 ≤ j → g j = f j) (hn : n = 24) : okA g (n - 1) := by
  intro r hr
  refine okK_eq (h (r + 1) (by omega)) (fun j hj => ?_)
  show g (38 * r + j) = f (38 * (r + 1) + j)
  rw [e.1 _ (by omega)]
  congr 1
  omega
theorem okA_push {f g src : Nat → Int32} {n : Nat} (h : okA f n) (hs : okK src) (e1 : ∀ j : Nat, j < 38 → g (38 * n + j) = src j) (e2 : ∀ j : Nat, j < 38 * n ∨ 38 * n + 38 ≤ j → g j = f j) : okA g (n + 1) := by
  intro r hr
  by_cases q : r = n
  · subst q
    exact okK_eq hs e1
  · refine okK_eq (h r (by omega)) (fun j hj => ?_)
    exact e2 _ (by omega)
theorem okA_0 (f : Nat → Int32) : okA f 0 := fun r hr => absurd hr (Nat.not_lt_zero r)
theorem okA_le {f : Nat → Int32} {n m : Nat} (h : okA f n) (hm : m ≤ n) : okA f m := fun r hr => h r (by omega)
theorem dX8_ahead_0 : decode cX8_ahead 0 = .ok (.aload_n 0, 1) := by decide +kernel
theorem dX8_ahead_1 : decode cX8_ahead 1 = .ok (.iload_n 1, 1) := by decide +kernel
theorem dX8_ahead_10 : decode cX8_ahead 10 = .ok (.lconst 0, 1) := by decide +kernel
theorem dX8_ahead_101 : decode cX8_ahead 101 = .ok (.istore 5, 2) := by decide +kernel
theorem dX8_ahead_103 : decode cX8_ahead 103 = .ok (.aload_n 0, 1) := by decide +kernel
theorem dX8_ahead_104 : decode cX8_ahead 104 = .ok (.invokevirtual 194, 3) := by decide +kernel
theorem dX8_ahead_107 : decode cX8_ahead 107 = .ok (.iload 5, 2) := by decide +kernel
theorem dX8_ahead_109 : decode cX8_ahead 109 = .ok (.ireturn, 1) := by decide +kernel
theorem dX8_ahead_11 : decode cX8_ahead 11 = .ok (.ldc2_w 188, 3) := by decide +kernel
theorem dX8_ahead_14 : decode cX8_ahead 14 = .ok (.invokestatic 57, 3) := by decide +kernel
theorem dX8_ahead_17 : decode cX8_ahead 17 = .ok (.ifCond .eq 15, 3) := by decide +kernel
theorem dX8_ahead_2 : decode cX8_ahead 2 = .ok (.invokevirtual 173, 3) := by decide +kernel
theorem dX8_ahead_20 : decode cX8_ahead 20 = .ok (.iload_n 3, 1) := by decide +kernel
theorem dX8_ahead_21 : decode cX8_ahead 21 = .ok (.i2l, 1) := by decide +kernel
theorem dX8_ahead_22 : decode cX8_ahead 22 = .ok (.lconst 0, 1) := by decide +kernel
theorem dX8_ahead_23 : decode cX8_ahead 23 = .ok (.ldc2_w 65, 3) := by decide +kernel
theorem dX8_ahead_26 : decode cX8_ahead 26 = .ok (.invokestatic 57, 3) := by decide +kernel
theorem dX8_ahead_29 : decode cX8_ahead 29 = .ok (.ifCond .ne 6, 3) := by decide +kernel
theorem dX8_ahead_32 : decode cX8_ahead 32 = .ok (.ldc 67, 2) := by decide +kernel
theorem dX8_ahead_34 : decode cX8_ahead 34 = .ok (.ireturn, 1) := by decide +kernel
theorem dX8_ahead_35 : decode cX8_ahead 35 = .ok (.aload_n 0, 1) := by decide +kernel
theorem dX8_ahead_36 : decode cX8_ahead 36 = .ok (.invokevirtual 197, 3) := by decide +kernel
theorem dX8_ahead_39 : decode cX8_ahead 39 = .ok (.aload_n 0, 1) := by decide +kernel
theorem dX8_ahead_40 : decode cX8_ahead 40 = .ok (.iload_n 2, 1) := by decide +kernel
theorem dX8_ahead_41 : decode cX8_ahead 41 = .ok (.invokevirtual 190, 3) := by decide +kernel
theorem dX8_ahead_44 : decode cX8_ahead 44 = .ok (.aload_n 0, 1) := by decide +kernel
theorem dX8_ahead_45 : decode cX8_ahead 45 = .ok (.getfield 19, 3) := by decide +kernel
theorem dX8_ahead_48 : decode cX8_ahead 48 = .ok (.bipush 26, 2) := by decide +kernel
theorem dX8_ahead_5 : decode cX8_ahead 5 = .ok (.ifCond .eq 27, 3) := by decide +kernel
theorem dX8_ahead_50 : decode cX8_ahead 50 = .ok (.iload_n 1, 1) := by decide +kernel
theorem dX8_ahead_51 : decode cX8_ahead 51 = .ok (.iadd, 1) := by decide +kernel
theorem dX8_ahead_52 : decode cX8_ahead 52 = .ok (.iaload, 1) := by decide +kernel
theorem dX8_ahead_53 : decode cX8_ahead 53 = .ok (.istore 4, 2) := by decide +kernel
theorem dX8_ahead_55 : decode cX8_ahead 55 = .ok (.iload_n 3, 1) := by decide +kernel
theorem dX8_ahead_56 : decode cX8_ahead 56 = .ok (.iconst 1, 1) := by decide +kernel
theorem dX8_ahead_57 : decode cX8_ahead 57 = .ok (.if_icmp .ne 8, 3) := by decide +kernel
theorem dX8_ahead_60 : decode cX8_ahead 60 = .ok (.iload 4, 2) := by decide +kernel
theorem dX8_ahead_62 : decode cX8_ahead 62 = .ok (.goto 39, 3) := by decide +kernel
theorem dX8_ahead_65 : decode cX8_ahead 65 = .ok (.iload_n 3, 1) := by decide +kernel
theorem dX8_ahead_66 : decode cX8_ahead 66 = .ok (.iconst 2, 1) := by decide +kernel
theorem dX8_ahead_67 : decode cX8_ahead 67 = .ok (.if_icmp .ne 15, 3) := by decide +kernel
theorem dX8_ahead_70 : decode cX8_ahead 70 = .ok (.aload_n 0, 1) := by decide +kernel
theorem dX8_ahead_71 : decode cX8_ahead 71 = .ok (.getfield 19, 3) := by decide +kernel
theorem dX8_ahead_74 : decode cX8_ahead 74 = .ok (.bipush 32, 2) := by decide +kernel
theorem dX8_ahead_76 : decode cX8_ahead 76 = .ok (.iload_n 1, 1) := by decide +kernel
theorem dX8_ahead_77 : decode cX8_ahead 77 = .ok (.iadd, 1) := by decide +kernel
theorem dX8_ahead_78 : decode cX8_ahead 78 = .ok (.iaload, 1) := by decide +kernel
theorem dX8_ahead_79 : decode cX8_ahead 79 = .ok (.goto 22, 3) := by decide +kernel
theorem dX8_ahead_8 : decode cX8_ahead 8 = .ok (.iload_n 2, 1) := by decide +kernel
theorem dX8_ahead_82 : decode cX8_ahead 82 = .ok (.iload 4, 2) := by decide +kernel
theorem dX8_ahead_84 : decode cX8_ahead 84 = .ok (.ifCond .ne 15, 3) := by decide +kernel
theorem dX8_ahead_87 : decode cX8_ahead 87 = .ok (.aload_n 0, 1) := by decide +kernel
theorem dX8_ahead_88 : decode cX8_ahead 88 = .ok (.getfield 19, 3) := by decide +kernel
theorem dX8_ahead_9 : decode cX8_ahead 9 = .ok (.i2l, 1) := by decide +kernel
theorem dX8_ahead_91 : decode cX8_ahead 91 = .ok (.bipush 20, 2) := by decide +kernel
theorem dX8_ahead_93 : decode cX8_ahead 93 = .ok (.iload_n 1, 1) := by decide +kernel
theorem dX8_ahead_94 : decode cX8_ahead 94 = .ok (.iadd, 1) := by decide +kernel
theorem dX8_ahead_95 : decode cX8_ahead 95 = .ok (.iaload, 1) := by decide +kernel
theorem dX8_ahead_96 : decode cX8_ahead 96 = .ok (.goto 5, 3) := by decide +kernel
theorem dX8_ahead_99 : decode cX8_ahead 99 = .ok (.ldc 187, 2) := by decide +kernel
theorem dX8_caps_0 : decode cX8_caps 0 = .ok (.aload_n 0, 1) := by decide +kernel
theorem dX8_caps_1 : decode cX8_caps 1 = .ok (.getfield 138, 3) := by decide +kernel
theorem dX8_caps_10 : decode cX8_caps 10 = .ok (.iload_n 1, 1) := by decide +kernel
theorem dX8_caps_100 : decode cX8_caps 100 = .ok (.iload 8, 2) := by decide +kernel
theorem dX8_caps_102 : decode cX8_caps 102 = .ok (.istore 4, 2) := by decide +kernel
theorem dX8_caps_104 : decode cX8_caps 104 = .ok (.iload 7, 2) := by decide +kernel
theorem dX8_caps_106 : decode cX8_caps 106 = .ok (.istore 5, 2) := by decide +kernel
theorem dX8_caps_108 : decode cX8_caps 108 = .ok (.iinc 6 1, 3) := by decide +kernel
theorem dX8_caps_11 : decode cX8_caps 11 = .ok (.i2l, 1) := by decide +kernel
theorem dX8_caps_111 : decode cX8_caps 111 = .ok (.goto (-65), 3) := by decide +kernel
theorem dX8_caps_114 : decode cX8_caps 114 = .ok (.iload_n 2, 1) := by decide +kernel
theorem dX8_caps_115 : decode cX8_caps 115 = .ok (.iconst (-1), 1) := by decide +kernel
theorem dX8_caps_116 : decode cX8_caps 116 = .ok (.if_icmp .ne 8, 3) := by decide +kernel
theorem dX8_caps_119 : decode cX8_caps 119 = .ok (.iload 4, 2) := by decide +kernel
theorem dX8_caps_12 : decode cX8_caps 12 = .ok (.lconst 1, 1) := by decide +kernel
theorem dX8_caps_121 : decode cX8_caps 121 = .ok (.goto 33, 3) := by decide +kernel
theorem dX8_caps_124 : decode cX8_caps 124 = .ok (.iload_n 2, 1) := by decide +kernel
theorem dX8_caps_125 : decode cX8_caps 125 = .ok (.bipush (-2), 2) := by decide +kernel
theorem dX8_caps_127 : decode cX8_caps 127 = .ok (.if_icmp .ne 8, 3) := by decide +kernel
theorem dX8_caps_13 : decode cX8_caps 13 = .ok (.ldc2_w 203, 3) := by decide +kernel
theorem dX8_caps_130 : decode cX8_caps 130 = .ok (.iload 5, 2) := by decide +kernel
theorem dX8_caps_132 : decode cX8_caps 132 = .ok (.goto 22, 3) := by decide +kernel
theorem dX8_caps_135 : decode cX8_caps 135 = .ok (.iload_n 2, 1) := by decide +kernel
theorem dX8_caps_136 : decode cX8_caps 136 = .ok (.iload_n 1, 1) := by decide +kernel
theorem dX8_caps_137 : decode cX8_caps 137 = .ok (.if_icmp .ge 15, 3) := by decide +kernel
theorem dX8_caps_140 : decode cX8_caps 140 = .ok (.iload_n 3, 1) := by decide +kernel
theorem dX8_caps_141 : decode cX8_caps 141 = .ok (.iload_n 1, 1) := by decide +kernel
theorem dX8_caps_142 : decode cX8_caps 142 = .ok (.iconst 1, 1) := by decide +kernel
theorem dX8_caps_143 : decode cX8_caps 143 = .ok (.isub, 1) := by decide +kernel
theorem dX8_caps_144 : decode cX8_caps 144 = .ok (.iload_n 2, 1) := by decide +kernel
theorem dX8_caps_145 : decode cX8_caps 145 = .ok (.isub, 1) := by decide +kernel
theorem dX8_caps_146 : decode cX8_caps 146 = .ok (.ishr, 1) := by decide +kernel
theorem dX8_caps_147 : decode cX8_caps 147 = .ok (.iconst 1, 1) := by decide +kernel
theorem dX8_caps_148 : decode cX8_caps 148 = .ok (.iand, 1) := by decide +kernel
theorem dX8_caps_149 : decode cX8_caps 149 = .ok (.goto 5, 3) := by decide +kernel
theorem dX8_caps_152 : decode cX8_caps 152 = .ok (.ldc 187, 2) := by decide +kernel
theorem dX8_caps_154 : decode cX8_caps 154 = .ok (.ireturn, 1) := by decide +kernel
theorem dX8_caps_16 : decode cX8_caps 16 = .ok (.invokestatic 57, 3) := by decide +kernel
theorem dX8_caps_19 : decode cX8_caps 19 = .ok (.ifCond .eq 9, 3) := by decide +kernel
theorem dX8_caps_22 : decode cX8_caps 22 = .ok (.iload_n 2, 1) := by decide +kernel
theorem dX8_caps_23 : decode cX8_caps 23 = .ok (.bipush (-2), 2) := by decide +kernel
theorem dX8_caps_25 : decode cX8_caps 25 = .ok (.if_icmp .ge 6, 3) := by decide +kernel
theorem dX8_caps_28 : decode cX8_caps 28 = .ok (.ldc 67, 2) := by decide +kernel
theorem dX8_caps_30 : decode cX8_caps 30 = .ok (.ireturn, 1) := by decide +kernel
theorem dX8_caps_31 : decode cX8_caps 31 = .ok (.aload_n 0, 1) := by decide +kernel
theorem dX8_caps_32 : decode cX8_caps 32 = .ok (.invokevirtual 197, 3) := by decide +kernel
theorem dX8_caps_35 : decode cX8_caps 35 = .ok (.iconst 0, 1) := by decide +kernel
theorem dX8_caps_36 : decode cX8_caps 36 = .ok (.istore_n 3, 1) := by decide +kernel
theorem dX8_caps_37 : decode cX8_caps 37 = .ok (.iconst (-1), 1) := by decide +kernel
theorem dX8_caps_38 : decode cX8_caps 38 = .ok (.istore 4, 2) := by decide +kernel
theorem dX8_caps_4 : decode cX8_caps 4 = .ok (.ifCond .ne 6, 3) := by decide +kernel
theorem dX8_caps_40 : decode cX8_caps 40 = .ok (.iconst 0, 1) := by decide +kernel
theorem dX8_caps_41 : decode cX8_caps 41 = .ok (.istore 5, 2) := by decide +kernel
theorem dX8_caps_43 : decode cX8_caps 43 = .ok (.iconst 0, 1) := by decide +kernel
theorem dX8_caps_44 : decode cX8_caps 44 = .ok (.istore 6, 2) := by decide +kernel
theorem dX8_caps_46 : decode cX8_caps 46 = .ok (.iload 6, 2) := by decide +kernel
theorem dX8_caps_48 : decode cX8_caps 48 = .ok (.iconst 1, 1) := by decide +kernel
theorem dX8_caps_49 : decode cX8_caps 49 = .ok (.iload_n 1, 1) := by decide +kernel
theorem dX8_caps_50 : decode cX8_caps 50 = .ok (.ishl, 1) := by decide +kernel
theorem dX8_caps_51 : decode cX8_caps 51 = .ok (.if_icmp .ge 63, 3) := by decide +kernel
theorem dX8_caps_54 : decode cX8_caps 54 = .ok (.aload_n 0, 1) := by decide +kernel
theorem dX8_caps_55 : decode cX8_caps 55 = .ok (.iload 6, 2) := by decide +kernel
theorem dX8_caps_57 : decode cX8_caps 57 = .ok (.iload_n 1, 1) := by decide +kernel
theorem dX8_caps_58 : decode cX8_caps 58 = .ok (.invokevirtual 205, 3) := by decide +kernel
theorem dX8_caps_61 : decode cX8_caps 61 = .ok (.istore 7, 2) := by decide +kernel
theorem dX8_caps_63 : decode cX8_caps 63 = .ok (.aload_n 0, 1) := by decide +kernel
theorem dX8_caps_64 : decode cX8_caps 64 = .ok (.getfield 19, 3) := by decide +kernel
theorem dX8_caps_67 : decode cX8_caps 67 = .ok (.bipush 7, 2) := by decide +kernel
theorem dX8_caps_69 : decode cX8_caps 69 = .ok (.iaload, 1) := by decide +kernel
theorem dX8_caps_7 : decode cX8_caps 7 = .ok (.ldc 161, 2) := by decide +kernel
theorem dX8_caps_70 : decode cX8_caps 70 = .ok (.istore 8, 2) := by decide +kernel
theorem dX8_caps_72 : decode cX8_caps 72 = .ok (.aload_n 0, 1) := by decide +kernel
theorem dX8_caps_73 : decode cX8_caps 73 = .ok (.invokevirtual 194, 3) := by decide +kernel
theorem dX8_caps_76 : decode cX8_caps 76 = .ok (.iload 8, 2) := by decide +kernel
theorem dX8_caps_78 : decode cX8_caps 78 = .ok (.iload 4, 2) := by decide +kernel
theorem dX8_caps_80 : decode cX8_caps 80 = .ok (.if_icmp .gt 17, 3) := by decide +kernel
theorem dX8_caps_83 : decode cX8_caps 83 = .ok (.iload 8, 2) := by decide +kernel
theorem dX8_caps_85 : decode cX8_caps 85 = .ok (.iload 4, 2) := by decide +kernel
theorem dX8_caps_87 : decode cX8_caps 87 = .ok (.if_icmp .ne 21, 3) := by decide +kernel
theorem dX8_caps_9 : decode cX8_caps 9 = .ok (.ireturn, 1) := by decide +kernel
theorem dX8_caps_90 : decode cX8_caps 90 = .ok (.iload 7, 2) := by decide +kernel
theorem dX8_caps_92 : decode cX8_caps 92 = .ok (.iload 5, 2) := by decide +kernel
theorem dX8_caps_94 : decode cX8_caps 94 = .ok (.if_icmp .ge 14, 3) := by decide +kernel
theorem dX8_caps_97 : decode cX8_caps 97 = .ok (.iload 6, 2) := by decide +kernel
theorem dX8_caps_99 : decode cX8_caps 99 = .ok (.istore_n 3, 1) := by decide +kernel
theorem dX8_goOn_0 : decode cX8_goOn 0 = .ok (.iconst 0, 1) := by decide +kernel
theorem dX8_goOn_1 : decode cX8_goOn 1 = .ok (.istore_n 2, 1) := by decide +kernel
theorem dX8_goOn_11 : decode cX8_goOn 11 = .ok (.pop, 1) := by decide +kernel
theorem dX8_goOn_12 : decode cX8_goOn 12 = .ok (.iinc 2 1, 3) := by decide +kernel
theorem dX8_goOn_15 : decode cX8_goOn 15 = .ok (.goto (-13), 3) := by decide +kernel
theorem dX8_goOn_18 : decode cX8_goOn 18 = .ok (.return_, 1) := by decide +kernel
theorem dX8_goOn_2 : decode cX8_goOn 2 = .ok (.iload_n 2, 1) := by decide +kernel
theorem dX8_goOn_3 : decode cX8_goOn 3 = .ok (.iload_n 1, 1) := by decide +kernel
theorem dX8_goOn_4 : decode cX8_goOn 4 = .ok (.if_icmp .ge 14, 3) := by decide +kernel
theorem dX8_goOn_7 : decode cX8_goOn 7 = .ok (.aload_n 0, 1) := by decide +kernel
theorem dX8_goOn_8 : decode cX8_goOn 8 = .ok (.invokevirtual 167, 3) := by decide +kernel
theorem dX8_goTurning_0 : decode cX8_goTurning 0 = .ok (.iconst 0, 1) := by decide +kernel
theorem dX8_goTurning_1 : decode cX8_goTurning 1 = .ok (.istore_n 3, 1) := by decide +kernel
theorem dX8_goTurning_12 : decode cX8_goTurning 12 = .ok (.iload_n 1, 1) := by decide +kernel
theorem dX8_goTurning_13 : decode cX8_goTurning 13 = .ok (.iload 4, 2) := by decide +kernel
theorem dX8_goTurning_15 : decode cX8_goTurning 15 = .ok (.ishr, 1) := by decide +kernel
theorem dX8_goTurning_16 : decode cX8_goTurning 16 = .ok (.iconst 1, 1) := by decide +kernel
theorem dX8_goTurning_17 : decode cX8_goTurning 17 = .ok (.iand, 1) := by decide +kernel
theorem dX8_goTurning_18 : decode cX8_goTurning 18 = .ok (.istore 5, 2) := by decide +kernel
theorem dX8_goTurning_2 : decode cX8_goTurning 2 = .ok (.iload_n 2, 1) := by decide +kernel
theorem dX8_goTurning_20 : decode cX8_goTurning 20 = .ok (.iload_n 3, 1) := by decide +kernel
theorem dX8_goTurning_21 : decode cX8_goTurning 21 = .ok (.iload 5, 2) := by decide +kernel
theorem dX8_goTurning_23 : decode cX8_goTurning 23 = .ok (.aload_n 0, 1) := by decide +kernel
theorem dX8_goTurning_24 : decode cX8_goTurning 24 = .ok (.getfield 19, 3) := by decide +kernel
theorem dX8_goTurning_27 : decode cX8_goTurning 27 = .ok (.bipush 6, 2) := by decide +kernel
theorem dX8_goTurning_29 : decode cX8_goTurning 29 = .ok (.iaload, 1) := by decide +kernel
theorem dX8_goTurning_3 : decode cX8_goTurning 3 = .ok (.iconst 1, 1) := by decide +kernel
theorem dX8_goTurning_30 : decode cX8_goTurning 30 = .ok (.if_icmp .ne 7, 3) := by decide +kernel
theorem dX8_goTurning_33 : decode cX8_goTurning 33 = .ok (.iconst 0, 1) := by decide +kernel
theorem dX8_goTurning_34 : decode cX8_goTurning 34 = .ok (.goto 4, 3) := by decide +kernel
theorem dX8_goTurning_37 : decode cX8_goTurning 37 = .ok (.iconst 1, 1) := by decide +kernel
theorem dX8_goTurning_38 : decode cX8_goTurning 38 = .ok (.iadd, 1) := by decide +kernel
theorem dX8_goTurning_39 : decode cX8_goTurning 39 = .ok (.istore_n 3, 1) := by decide +kernel
theorem dX8_goTurning_4 : decode cX8_goTurning 4 = .ok (.isub, 1) := by decide +kernel
theorem dX8_goTurning_40 : decode cX8_goTurning 40 = .ok (.aload_n 0, 1) := by decide +kernel
theorem dX8_goTurning_41 : decode cX8_goTurning 41 = .ok (.getfield 19, 3) := by decide +kernel
theorem dX8_goTurning_44 : decode cX8_goTurning 44 = .ok (.bipush 6, 2) := by decide +kernel
theorem dX8_goTurning_46 : decode cX8_goTurning 46 = .ok (.iload 5, 2) := by decide +kernel
theorem dX8_goTurning_48 : decode cX8_goTurning 48 = .ok (.iastore, 1) := by decide +kernel
theorem dX8_goTurning_49 : decode cX8_goTurning 49 = .ok (.aload_n 0, 1) := by decide +kernel
theorem dX8_goTurning_5 : decode cX8_goTurning 5 = .ok (.istore 4, 2) := by decide +kernel
theorem dX8_goTurning_50 : decode cX8_goTurning 50 = .ok (.invokevirtual 167, 3) := by decide +kernel
theorem dX8_goTurning_53 : decode cX8_goTurning 53 = .ok (.pop, 1) := by decide +kernel
theorem dX8_goTurning_54 : decode cX8_goTurning 54 = .ok (.iinc 4 (-1), 3) := by decide +kernel
theorem dX8_goTurning_57 : decode cX8_goTurning 57 = .ok (.goto (-50), 3) := by decide +kernel
theorem dX8_goTurning_60 : decode cX8_goTurning 60 = .ok (.iload_n 3, 1) := by decide +kernel
theorem dX8_goTurning_61 : decode cX8_goTurning 61 = .ok (.ireturn, 1) := by decide +kernel
theorem dX8_goTurning_7 : decode cX8_goTurning 7 = .ok (.iload 4, 2) := by decide +kernel
theorem dX8_goTurning_9 : decode cX8_goTurning 9 = .ok (.ifCond .lt 51, 3) := by decide +kernel
theorem dX8_gust_0 : decode cX8_gust 0 = .ok (.aload_n 0, 1) := by decide +kernel
theorem dX8_gust_1 : decode cX8_gust 1 = .ok (.getfield 138, 3) := by decide +kernel
theorem dX8_gust_12 : decode cX8_gust 12 = .ok (.iload_n 1, 1) := by decide +kernel
theorem dX8_gust_13 : decode cX8_gust 13 = .ok (.i2l, 1) := by decide +kernel
theorem dX8_gust_14 : decode cX8_gust 14 = .ok (.lconst 0, 1) := by decide +kernel
theorem dX8_gust_15 : decode cX8_gust 15 = .ok (.ldc2_w 188, 3) := by decide +kernel
theorem dX8_gust_18 : decode cX8_gust 18 = .ok (.invokestatic 57, 3) := by decide +kernel
theorem dX8_gust_21 : decode cX8_gust 21 = .ok (.ifCond .eq 18, 3) := by decide +kernel
theorem dX8_gust_24 : decode cX8_gust 24 = .ok (.aload_n 0, 1) := by decide +kernel
theorem dX8_gust_25 : decode cX8_gust 25 = .ok (.aload_n 0, 1) := by decide +kernel
theorem dX8_gust_26 : decode cX8_gust 26 = .ok (.getfield 19, 3) := by decide +kernel
theorem dX8_gust_29 : decode cX8_gust 29 = .ok (.iconst 5, 1) := by decide +kernel
theorem dX8_gust_30 : decode cX8_gust 30 = .ok (.iaload, 1) := by decide +kernel
theorem dX8_gust_31 : decode cX8_gust 31 = .ok (.iload_n 1, 1) := by decide +kernel
theorem dX8_gust_32 : decode cX8_gust 32 = .ok (.iadd, 1) := by decide +kernel
theorem dX8_gust_33 : decode cX8_gust 33 = .ok (.invokevirtual 151, 3) := by decide +kernel
theorem dX8_gust_36 : decode cX8_gust 36 = .ok (.goto 5, 3) := by decide +kernel
theorem dX8_gust_39 : decode cX8_gust 39 = .ok (.ldc 67, 2) := by decide +kernel
theorem dX8_gust_4 : decode cX8_gust 4 = .ok (.ifCond .ne 8, 3) := by decide +kernel
theorem dX8_gust_41 : decode cX8_gust 41 = .ok (.ireturn, 1) := by decide +kernel
theorem dX8_gust_7 : decode cX8_gust 7 = .ok (.ldc 161, 2) := by decide +kernel
theorem dX8_gust_9 : decode cX8_gust 9 = .ok (.goto 32, 3) := by decide +kernel
theorem dX8_had_0 : decode cX8_had 0 = .ok (.aload_n 0, 1) := by decide +kernel
theorem dX8_had_1 : decode cX8_had 1 = .ok (.getfield 138, 3) := by decide +kernel
theorem dX8_had_10 : decode cX8_had 10 = .ok (.iload_n 1, 1) := by decide +kernel
theorem dX8_had_100 : decode cX8_had 100 = .ok (.iload_n 3, 1) := by decide +kernel
theorem dX8_had_101 : decode cX8_had 101 = .ok (.ifCond .lt 9, 3) := by decide +kernel
theorem dX8_had_104 : decode cX8_had 104 = .ok (.iload 5, 2) := by decide +kernel
theorem dX8_had_106 : decode cX8_had 106 = .ok (.iload_n 3, 1) := by decide +kernel
theorem dX8_had_107 : decode cX8_had 107 = .ok (.if_icmp .ge 8, 3) := by decide +kernel
theorem dX8_had_11 : decode cX8_had 11 = .ok (.i2l, 1) := by decide +kernel
theorem dX8_had_110 : decode cX8_had 110 = .ok (.iload 5, 2) := by decide +kernel
theorem dX8_had_112 : decode cX8_had 112 = .ok (.goto 4, 3) := by decide +kernel
theorem dX8_had_115 : decode cX8_had 115 = .ok (.iload_n 3, 1) := by decide +kernel
theorem dX8_had_116 : decode cX8_had 116 = .ok (.istore_n 3, 1) := by decide +kernel
theorem dX8_had_117 : decode cX8_had 117 = .ok (.iinc 4 1, 3) := by decide +kernel
theorem dX8_had_12 : decode cX8_had 12 = .ok (.lconst 0, 1) := by decide +kernel
theorem dX8_had_120 : decode cX8_had 120 = .ok (.goto (-65), 3) := by decide +kernel
theorem dX8_had_123 : decode cX8_had 123 = .ok (.iload_n 3, 1) := by decide +kernel
theorem dX8_had_124 : decode cX8_had 124 = .ok (.ireturn, 1) := by decide +kernel
theorem dX8_had_13 : decode cX8_had 13 = .ok (.iconst 1, 1) := by decide +kernel
theorem dX8_had_14 : decode cX8_had 14 = .ok (.aload_n 0, 1) := by decide +kernel
theorem dX8_had_15 : decode cX8_had 15 = .ok (.getfield 19, 3) := by decide +kernel
theorem dX8_had_18 : decode cX8_had 18 = .ok (.iconst 4, 1) := by decide +kernel
theorem dX8_had_19 : decode cX8_had 19 = .ok (.iaload, 1) := by decide +kernel
theorem dX8_had_20 : decode cX8_had 20 = .ok (.ishl, 1) := by decide +kernel
theorem dX8_had_21 : decode cX8_had 21 = .ok (.iconst 1, 1) := by decide +kernel
theorem dX8_had_22 : decode cX8_had 22 = .ok (.isub, 1) := by decide +kernel
theorem dX8_had_23 : decode cX8_had 23 = .ok (.i2l, 1) := by decide +kernel
theorem dX8_had_24 : decode cX8_had 24 = .ok (.invokestatic 57, 3) := by decide +kernel
theorem dX8_had_27 : decode cX8_had 27 = .ok (.ifCond .eq 15, 3) := by decide +kernel
theorem dX8_had_30 : decode cX8_had 30 = .ok (.iload_n 2, 1) := by decide +kernel
theorem dX8_had_31 : decode cX8_had 31 = .ok (.i2l, 1) := by decide +kernel
theorem dX8_had_32 : decode cX8_had 32 = .ok (.lconst 1, 1) := by decide +kernel
theorem dX8_had_33 : decode cX8_had 33 = .ok (.ldc2_w 203, 3) := by decide +kernel
theorem dX8_had_36 : decode cX8_had 36 = .ok (.invokestatic 57, 3) := by decide +kernel
theorem dX8_had_39 : decode cX8_had 39 = .ok (.ifCond .ne 6, 3) := by decide +kernel
theorem dX8_had_4 : decode cX8_had 4 = .ok (.ifCond .ne 6, 3) := by decide +kernel
theorem dX8_had_42 : decode cX8_had 42 = .ok (.ldc 67, 2) := by decide +kernel
theorem dX8_had_44 : decode cX8_had 44 = .ok (.ireturn, 1) := by decide +kernel
theorem dX8_had_45 : decode cX8_had 45 = .ok (.aload_n 0, 1) := by decide +kernel
theorem dX8_had_46 : decode cX8_had 46 = .ok (.invokevirtual 197, 3) := by decide +kernel
theorem dX8_had_49 : decode cX8_had 49 = .ok (.ldc 187, 2) := by decide +kernel
theorem dX8_had_51 : decode cX8_had 51 = .ok (.istore_n 3, 1) := by decide +kernel
theorem dX8_had_52 : decode cX8_had 52 = .ok (.iconst 0, 1) := by decide +kernel
theorem dX8_had_53 : decode cX8_had 53 = .ok (.istore 4, 2) := by decide +kernel
theorem dX8_had_55 : decode cX8_had 55 = .ok (.iload 4, 2) := by decide +kernel
theorem dX8_had_57 : decode cX8_had 57 = .ok (.iconst 1, 1) := by decide +kernel
theorem dX8_had_58 : decode cX8_had 58 = .ok (.iload_n 2, 1) := by decide +kernel
theorem dX8_had_59 : decode cX8_had 59 = .ok (.ishl, 1) := by decide +kernel
theorem dX8_had_60 : decode cX8_had 60 = .ok (.if_icmp .ge 63, 3) := by decide +kernel
theorem dX8_had_63 : decode cX8_had 63 = .ok (.aload_n 0, 1) := by decide +kernel
theorem dX8_had_64 : decode cX8_had 64 = .ok (.iload 4, 2) := by decide +kernel
theorem dX8_had_66 : decode cX8_had 66 = .ok (.iload_n 2, 1) := by decide +kernel
theorem dX8_had_67 : decode cX8_had 67 = .ok (.invokevirtual 205, 3) := by decide +kernel
theorem dX8_had_7 : decode cX8_had 7 = .ok (.ldc 161, 2) := by decide +kernel
theorem dX8_had_70 : decode cX8_had 70 = .ok (.istore 5, 2) := by decide +kernel
theorem dX8_had_72 : decode cX8_had 72 = .ok (.iload_n 1, 1) := by decide +kernel
theorem dX8_had_73 : decode cX8_had 73 = .ok (.aload_n 0, 1) := by decide +kernel
theorem dX8_had_74 : decode cX8_had 74 = .ok (.iconst 1, 1) := by decide +kernel
theorem dX8_had_75 : decode cX8_had 75 = .ok (.invokevirtual 182, 3) := by decide +kernel
theorem dX8_had_78 : decode cX8_had 78 = .ok (.iconst (-1), 1) := by decide +kernel
theorem dX8_had_79 : decode cX8_had 79 = .ok (.ixor, 1) := by decide +kernel
theorem dX8_had_80 : decode cX8_had 80 = .ok (.iand, 1) := by decide +kernel
theorem dX8_had_81 : decode cX8_had 81 = .ok (.ifCond .ne 7, 3) := by decide +kernel
theorem dX8_had_84 : decode cX8_had 84 = .ok (.iconst 1, 1) := by decide +kernel
theorem dX8_had_85 : decode cX8_had 85 = .ok (.goto 4, 3) := by decide +kernel
theorem dX8_had_88 : decode cX8_had 88 = .ok (.iconst 0, 1) := by decide +kernel
theorem dX8_had_89 : decode cX8_had 89 = .ok (.istore 6, 2) := by decide +kernel
theorem dX8_had_9 : decode cX8_had 9 = .ok (.ireturn, 1) := by decide +kernel
theorem dX8_had_91 : decode cX8_had 91 = .ok (.aload_n 0, 1) := by decide +kernel
theorem dX8_had_92 : decode cX8_had 92 = .ok (.invokevirtual 194, 3) := by decide +kernel
theorem dX8_had_95 : decode cX8_had 95 = .ok (.iload 6, 2) := by decide +kernel
theorem dX8_had_97 : decode cX8_had 97 = .ok (.ifCond .eq 18, 3) := by decide +kernel
theorem dX8_kind_0 : decode cX8_kind 0 = .ok (.aload_n 0, 1) := by decide +kernel
theorem dX8_kind_1 : decode cX8_kind 1 = .ok (.iload_n 1, 1) := by decide +kernel
theorem dX8_kind_12 : decode cX8_kind 12 = .ok (.bipush 14, 2) := by decide +kernel
theorem dX8_kind_14 : decode cX8_kind 14 = .ok (.iload_n 1, 1) := by decide +kernel
theorem dX8_kind_15 : decode cX8_kind 15 = .ok (.iadd, 1) := by decide +kernel
theorem dX8_kind_16 : decode cX8_kind 16 = .ok (.iaload, 1) := by decide +kernel
theorem dX8_kind_17 : decode cX8_kind 17 = .ok (.goto 5, 3) := by decide +kernel
theorem dX8_kind_2 : decode cX8_kind 2 = .ok (.invokevirtual 173, 3) := by decide +kernel
theorem dX8_kind_20 : decode cX8_kind 20 = .ok (.ldc 67, 2) := by decide +kernel
theorem dX8_kind_22 : decode cX8_kind 22 = .ok (.ireturn, 1) := by decide +kernel
theorem dX8_kind_5 : decode cX8_kind 5 = .ok (.ifCond .eq 15, 3) := by decide +kernel
theorem dX8_kind_8 : decode cX8_kind 8 = .ok (.aload_n 0, 1) := by decide +kernel
theorem dX8_kind_9 : decode cX8_kind 9 = .ok (.getfield 19, 3) := by decide +kernel
theorem dX8_mealBehind_0 : decode cX8_mealBehind 0 = .ok (.aload_n 0, 1) := by decide +kernel
theorem dX8_mealBehind_1 : decode cX8_mealBehind 1 = .ok (.iload_n 1, 1) := by decide +kernel
theorem dX8_mealBehind_11 : decode cX8_mealBehind 11 = .ok (.iaload, 1) := by decide +kernel
theorem dX8_mealBehind_12 : decode cX8_mealBehind 12 = .ok (.istore_n 2, 1) := by decide +kernel
theorem dX8_mealBehind_13 : decode cX8_mealBehind 13 = .ok (.aload_n 0, 1) := by decide +kernel
theorem dX8_mealBehind_14 : decode cX8_mealBehind 14 = .ok (.invokevirtual 194, 3) := by decide +kernel
theorem dX8_mealBehind_17 : decode cX8_mealBehind 17 = .ok (.iload_n 2, 1) := by decide +kernel
theorem dX8_mealBehind_18 : decode cX8_mealBehind 18 = .ok (.ireturn, 1) := by decide +kernel
theorem dX8_mealBehind_2 : decode cX8_mealBehind 2 = .ok (.invokevirtual 190, 3) := by decide +kernel
theorem dX8_mealBehind_5 : decode cX8_mealBehind 5 = .ok (.aload_n 0, 1) := by decide +kernel
theorem dX8_mealBehind_6 : decode cX8_mealBehind 6 = .ok (.getfield 19, 3) := by decide +kernel
theorem dX8_mealBehind_9 : decode cX8_mealBehind 9 = .ok (.bipush 7, 2) := by decide +kernel
theorem dX8_meal_0 : decode cX8_meal 0 = .ok (.aload_n 0, 1) := by decide +kernel
theorem dX8_meal_1 : decode cX8_meal 1 = .ok (.getfield 138, 3) := by decide +kernel
theorem dX8_meal_10 : decode cX8_meal 10 = .ok (.iload_n 1, 1) := by decide +kernel
theorem dX8_meal_11 : decode cX8_meal 11 = .ok (.i2l, 1) := by decide +kernel
theorem dX8_meal_12 : decode cX8_meal 12 = .ok (.lconst 0, 1) := by decide +kernel
theorem dX8_meal_13 : decode cX8_meal 13 = .ok (.ldc2_w 188, 3) := by decide +kernel
theorem dX8_meal_16 : decode cX8_meal 16 = .ok (.invokestatic 57, 3) := by decide +kernel
theorem dX8_meal_19 : decode cX8_meal 19 = .ok (.ifCond .ne 6, 3) := by decide +kernel
theorem dX8_meal_22 : decode cX8_meal 22 = .ok (.ldc 67, 2) := by decide +kernel
theorem dX8_meal_24 : decode cX8_meal 24 = .ok (.ireturn, 1) := by decide +kernel
theorem dX8_meal_25 : decode cX8_meal 25 = .ok (.aload_n 0, 1) := by decide +kernel
theorem dX8_meal_26 : decode cX8_meal 26 = .ok (.invokevirtual 197, 3) := by decide +kernel
theorem dX8_meal_29 : decode cX8_meal 29 = .ok (.aload_n 0, 1) := by decide +kernel
theorem dX8_meal_30 : decode cX8_meal 30 = .ok (.iload_n 1, 1) := by decide +kernel
theorem dX8_meal_31 : decode cX8_meal 31 = .ok (.invokevirtual 200, 3) := by decide +kernel
theorem dX8_meal_34 : decode cX8_meal 34 = .ok (.ireturn, 1) := by decide +kernel
theorem dX8_meal_4 : decode cX8_meal 4 = .ok (.ifCond .ne 6, 3) := by decide +kernel
theorem dX8_meal_7 : decode cX8_meal 7 = .ok (.ldc 161, 2) := by decide +kernel
theorem dX8_meal_9 : decode cX8_meal 9 = .ok (.ireturn, 1) := by decide +kernel
theorem dX8_putAside_0 : decode cX8_putAside 0 = .ok (.iconst 0, 1) := by decide +kernel
theorem dX8_putAside_1 : decode cX8_putAside 1 = .ok (.istore_n 1, 1) := by decide +kernel
theorem dX8_putAside_12 : decode cX8_putAside 12 = .ok (.iload_n 1, 1) := by decide +kernel
theorem dX8_putAside_13 : decode cX8_putAside 13 = .ok (.aload_n 0, 1) := by decide +kernel
theorem dX8_putAside_14 : decode cX8_putAside 14 = .ok (.getfield 19, 3) := by decide +kernel
theorem dX8_putAside_17 : decode cX8_putAside 17 = .ok (.iload_n 1, 1) := by decide +kernel
theorem dX8_putAside_18 : decode cX8_putAside 18 = .ok (.iaload, 1) := by decide +kernel
theorem dX8_putAside_19 : decode cX8_putAside 19 = .ok (.iastore, 1) := by decide +kernel
theorem dX8_putAside_2 : decode cX8_putAside 2 = .ok (.iload_n 1, 1) := by decide +kernel
theorem dX8_putAside_20 : decode cX8_putAside 20 = .ok (.iinc 1 1, 3) := by decide +kernel
theorem dX8_putAside_23 : decode cX8_putAside 23 = .ok (.goto (-21), 3) := by decide +kernel
theorem dX8_putAside_26 : decode cX8_putAside 26 = .ok (.return_, 1) := by decide +kernel
theorem dX8_putAside_3 : decode cX8_putAside 3 = .ok (.bipush 38, 2) := by decide +kernel
theorem dX8_putAside_5 : decode cX8_putAside 5 = .ok (.if_icmp .ge 21, 3) := by decide +kernel
theorem dX8_putAside_8 : decode cX8_putAside 8 = .ok (.aload_n 0, 1) := by decide +kernel
theorem dX8_putAside_9 : decode cX8_putAside 9 = .ok (.getfield 34, 3) := by decide +kernel
theorem dX8_sack_0 : decode cX8_sack 0 = .ok (.aload_n 0, 1) := by decide +kernel
theorem dX8_sack_1 : decode cX8_sack 1 = .ok (.getfield 138, 3) := by decide +kernel
theorem dX8_sack_10 : decode cX8_sack 10 = .ok (.iload_n 1, 1) := by decide +kernel
theorem dX8_sack_100 : decode cX8_sack 100 = .ok (.goto (-45), 3) := by decide +kernel
theorem dX8_sack_103 : decode cX8_sack 103 = .ok (.iload_n 2, 1) := by decide +kernel
theorem dX8_sack_104 : decode cX8_sack 104 = .ok (.ifCond .ne 8, 3) := by decide +kernel
theorem dX8_sack_107 : decode cX8_sack 107 = .ok (.iload 4, 2) := by decide +kernel
theorem dX8_sack_109 : decode cX8_sack 109 = .ok (.goto 24, 3) := by decide +kernel
theorem dX8_sack_11 : decode cX8_sack 11 = .ok (.i2l, 1) := by decide +kernel
theorem dX8_sack_112 : decode cX8_sack 112 = .ok (.iload_n 2, 1) := by decide +kernel
theorem dX8_sack_113 : decode cX8_sack 113 = .ok (.iconst 2, 1) := by decide +kernel
theorem dX8_sack_114 : decode cX8_sack 114 = .ok (.if_icmp .ne 8, 3) := by decide +kernel
theorem dX8_sack_117 : decode cX8_sack 117 = .ok (.iload 6, 2) := by decide +kernel
theorem dX8_sack_119 : decode cX8_sack 119 = .ok (.goto 14, 3) := by decide +kernel
theorem dX8_sack_12 : decode cX8_sack 12 = .ok (.lconst 0, 1) := by decide +kernel
theorem dX8_sack_122 : decode cX8_sack 122 = .ok (.iload 4, 2) := by decide +kernel
theorem dX8_sack_124 : decode cX8_sack 124 = .ok (.ifCond .ne 7, 3) := by decide +kernel
theorem dX8_sack_127 : decode cX8_sack 127 = .ok (.iconst 0, 1) := by decide +kernel
theorem dX8_sack_128 : decode cX8_sack 128 = .ok (.goto 5, 3) := by decide +kernel
theorem dX8_sack_13 : decode cX8_sack 13 = .ok (.ldc2_w 217, 3) := by decide +kernel
theorem dX8_sack_131 : decode cX8_sack 131 = .ok (.iload 5, 2) := by decide +kernel
theorem dX8_sack_133 : decode cX8_sack 133 = .ok (.ireturn, 1) := by decide +kernel
theorem dX8_sack_16 : decode cX8_sack 16 = .ok (.invokestatic 57, 3) := by decide +kernel
theorem dX8_sack_19 : decode cX8_sack 19 = .ok (.ifCond .eq 15, 3) := by decide +kernel
theorem dX8_sack_22 : decode cX8_sack 22 = .ok (.iload_n 2, 1) := by decide +kernel
theorem dX8_sack_23 : decode cX8_sack 23 = .ok (.i2l, 1) := by decide +kernel
theorem dX8_sack_24 : decode cX8_sack 24 = .ok (.lconst 0, 1) := by decide +kernel
theorem dX8_sack_25 : decode cX8_sack 25 = .ok (.ldc2_w 65, 3) := by decide +kernel
theorem dX8_sack_28 : decode cX8_sack 28 = .ok (.invokestatic 57, 3) := by decide +kernel
theorem dX8_sack_31 : decode cX8_sack 31 = .ok (.ifCond .ne 6, 3) := by decide +kernel
theorem dX8_sack_34 : decode cX8_sack 34 = .ok (.ldc 67, 2) := by decide +kernel
theorem dX8_sack_36 : decode cX8_sack 36 = .ok (.ireturn, 1) := by decide +kernel
theorem dX8_sack_37 : decode cX8_sack 37 = .ok (.aload_n 0, 1) := by decide +kernel
theorem dX8_sack_38 : decode cX8_sack 38 = .ok (.iconst 0, 1) := by decide +kernel
theorem dX8_sack_39 : decode cX8_sack 39 = .ok (.invokevirtual 182, 3) := by decide +kernel
theorem dX8_sack_4 : decode cX8_sack 4 = .ok (.ifCond .ne 6, 3) := by decide +kernel
theorem dX8_sack_42 : decode cX8_sack 42 = .ok (.istore_n 3, 1) := by decide +kernel
theorem dX8_sack_43 : decode cX8_sack 43 = .ok (.iconst 0, 1) := by decide +kernel
theorem dX8_sack_44 : decode cX8_sack 44 = .ok (.istore 4, 2) := by decide +kernel
theorem dX8_sack_46 : decode cX8_sack 46 = .ok (.iload_n 3, 1) := by decide +kernel
theorem dX8_sack_47 : decode cX8_sack 47 = .ok (.istore 5, 2) := by decide +kernel
theorem dX8_sack_49 : decode cX8_sack 49 = .ok (.iconst 0, 1) := by decide +kernel
theorem dX8_sack_50 : decode cX8_sack 50 = .ok (.istore 6, 2) := by decide +kernel
theorem dX8_sack_52 : decode cX8_sack 52 = .ok (.iconst 0, 1) := by decide +kernel
theorem dX8_sack_53 : decode cX8_sack 53 = .ok (.istore 7, 2) := by decide +kernel
theorem dX8_sack_55 : decode cX8_sack 55 = .ok (.iload 7, 2) := by decide +kernel
theorem dX8_sack_57 : decode cX8_sack 57 = .ok (.iload_n 3, 1) := by decide +kernel
theorem dX8_sack_58 : decode cX8_sack 58 = .ok (.if_icmp .gt 45, 3) := by decide +kernel
theorem dX8_sack_61 : decode cX8_sack 61 = .ok (.iload 7, 2) := by decide +kernel
theorem dX8_sack_63 : decode cX8_sack 63 = .ok (.iload_n 3, 1) := by decide +kernel
theorem dX8_sack_64 : decode cX8_sack 64 = .ok (.iconst (-1), 1) := by decide +kernel
theorem dX8_sack_65 : decode cX8_sack 65 = .ok (.ixor, 1) := by decide +kernel
theorem dX8_sack_66 : decode cX8_sack 66 = .ok (.iand, 1) := by decide +kernel
theorem dX8_sack_67 : decode cX8_sack 67 = .ok (.ifCond .ne 30, 3) := by decide +kernel
theorem dX8_sack_7 : decode cX8_sack 7 = .ok (.ldc 161, 2) := by decide +kernel
theorem dX8_sack_70 : decode cX8_sack 70 = .ok (.aload_n 0, 1) := by decide +kernel
theorem dX8_sack_71 : decode cX8_sack 71 = .ok (.iload 7, 2) := by decide +kernel
theorem dX8_sack_73 : decode cX8_sack 73 = .ok (.invokevirtual 219, 3) := by decide +kernel
theorem dX8_sack_76 : decode cX8_sack 76 = .ok (.iload_n 1, 1) := by decide +kernel
theorem dX8_sack_77 : decode cX8_sack 77 = .ok (.if_icmp .ne 20, 3) := by decide +kernel
theorem dX8_sack_80 : decode cX8_sack 80 = .ok (.iinc 4 1, 3) := by decide +kernel
theorem dX8_sack_83 : decode cX8_sack 83 = .ok (.iload 5, 2) := by decide +kernel
theorem dX8_sack_85 : decode cX8_sack 85 = .ok (.iload 7, 2) := by decide +kernel
theorem dX8_sack_87 : decode cX8_sack 87 = .ok (.iand, 1) := by decide +kernel
theorem dX8_sack_88 : decode cX8_sack 88 = .ok (.istore 5, 2) := by decide +kernel
theorem dX8_sack_9 : decode cX8_sack 9 = .ok (.ireturn, 1) := by decide +kernel
theorem dX8_sack_90 : decode cX8_sack 90 = .ok (.iload 6, 2) := by decide +kernel
theorem dX8_sack_92 : decode cX8_sack 92 = .ok (.iload 7, 2) := by decide +kernel
theorem dX8_sack_94 : decode cX8_sack 94 = .ok (.ior, 1) := by decide +kernel
theorem dX8_sack_95 : decode cX8_sack 95 = .ok (.istore 6, 2) := by decide +kernel
theorem dX8_sack_97 : decode cX8_sack 97 = .ok (.iinc 7 1, 3) := by decide +kernel
theorem dX8_site_0 : decode cX8_site 0 = .ok (.aload_n 0, 1) := by decide +kernel
theorem dX8_site_1 : decode cX8_site 1 = .ok (.getfield 138, 3) := by decide +kernel
theorem dX8_site_10 : decode cX8_site 10 = .ok (.iload_n 1, 1) := by decide +kernel
theorem dX8_site_100 : decode cX8_site 100 = .ok (.iinc 5 1, 3) := by decide +kernel
theorem dX8_site_103 : decode cX8_site 103 = .ok (.goto (-59), 3) := by decide +kernel
theorem dX8_site_106 : decode cX8_site 106 = .ok (.iload_n 2, 1) := by decide +kernel
theorem dX8_site_107 : decode cX8_site 107 = .ok (.ifCond .ne 7, 3) := by decide +kernel
theorem dX8_site_11 : decode cX8_site 11 = .ok (.i2l, 1) := by decide +kernel
theorem dX8_site_110 : decode cX8_site 110 = .ok (.iload_n 3, 1) := by decide +kernel
theorem dX8_site_111 : decode cX8_site 111 = .ok (.goto 5, 3) := by decide +kernel
theorem dX8_site_114 : decode cX8_site 114 = .ok (.iload 4, 2) := by decide +kernel
theorem dX8_site_116 : decode cX8_site 116 = .ok (.ireturn, 1) := by decide +kernel
theorem dX8_site_12 : decode cX8_site 12 = .ok (.lconst 1, 1) := by decide +kernel
theorem dX8_site_13 : decode cX8_site 13 = .ok (.ldc2_w 208, 3) := by decide +kernel
theorem dX8_site_16 : decode cX8_site 16 = .ok (.invokestatic 57, 3) := by decide +kernel
theorem dX8_site_19 : decode cX8_site 19 = .ok (.ifCond .eq 10, 3) := by decide +kernel
theorem dX8_site_22 : decode cX8_site 22 = .ok (.iload_n 2, 1) := by decide +kernel
theorem dX8_site_23 : decode cX8_site 23 = .ok (.invokestatic 210, 3) := by decide +kernel
theorem dX8_site_26 : decode cX8_site 26 = .ok (.ifCond .ne 6, 3) := by decide +kernel
theorem dX8_site_29 : decode cX8_site 29 = .ok (.ldc 67, 2) := by decide +kernel
theorem dX8_site_31 : decode cX8_site 31 = .ok (.ireturn, 1) := by decide +kernel
theorem dX8_site_32 : decode cX8_site 32 = .ok (.aload_n 0, 1) := by decide +kernel
theorem dX8_site_33 : decode cX8_site 33 = .ok (.invokevirtual 197, 3) := by decide +kernel
theorem dX8_site_36 : decode cX8_site 36 = .ok (.iconst (-1), 1) := by decide +kernel
theorem dX8_site_37 : decode cX8_site 37 = .ok (.istore_n 3, 1) := by decide +kernel
theorem dX8_site_38 : decode cX8_site 38 = .ok (.iconst (-1), 1) := by decide +kernel
theorem dX8_site_39 : decode cX8_site 39 = .ok (.istore 4, 2) := by decide +kernel
theorem dX8_site_4 : decode cX8_site 4 = .ok (.ifCond .ne 6, 3) := by decide +kernel
theorem dX8_site_41 : decode cX8_site 41 = .ok (.iconst 0, 1) := by decide +kernel
theorem dX8_site_42 : decode cX8_site 42 = .ok (.istore 5, 2) := by decide +kernel
theorem dX8_site_44 : decode cX8_site 44 = .ok (.iload 5, 2) := by decide +kernel
theorem dX8_site_46 : decode cX8_site 46 = .ok (.aload_n 0, 1) := by decide +kernel
theorem dX8_site_47 : decode cX8_site 47 = .ok (.getfield 34, 3) := by decide +kernel
theorem dX8_site_50 : decode cX8_site 50 = .ok (.iconst 0, 1) := by decide +kernel
theorem dX8_site_51 : decode cX8_site 51 = .ok (.iaload, 1) := by decide +kernel
theorem dX8_site_52 : decode cX8_site 52 = .ok (.if_icmp .ge 54, 3) := by decide +kernel
theorem dX8_site_55 : decode cX8_site 55 = .ok (.aload_n 0, 1) := by decide +kernel
theorem dX8_site_56 : decode cX8_site 56 = .ok (.getfield 19, 3) := by decide +kernel
theorem dX8_site_59 : decode cX8_site 59 = .ok (.iconst 1, 1) := by decide +kernel
theorem dX8_site_60 : decode cX8_site 60 = .ok (.iload 5, 2) := by decide +kernel
theorem dX8_site_62 : decode cX8_site 62 = .ok (.iastore, 1) := by decide +kernel
theorem dX8_site_63 : decode cX8_site 63 = .ok (.aload_n 0, 1) := by decide +kernel
theorem dX8_site_64 : decode cX8_site 64 = .ok (.iload_n 1, 1) := by decide +kernel
theorem dX8_site_65 : decode cX8_site 65 = .ok (.invokevirtual 200, 3) := by decide +kernel
theorem dX8_site_68 : decode cX8_site 68 = .ok (.istore 6, 2) := by decide +kernel
theorem dX8_site_7 : decode cX8_site 7 = .ok (.ldc 161, 2) := by decide +kernel
theorem dX8_site_70 : decode cX8_site 70 = .ok (.iload 6, 2) := by decide +kernel
theorem dX8_site_72 : decode cX8_site 72 = .ok (.iload 4, 2) := by decide +kernel
theorem dX8_site_74 : decode cX8_site 74 = .ok (.if_icmp .le 8, 3) := by decide +kernel
theorem dX8_site_77 : decode cX8_site 77 = .ok (.iload 5, 2) := by decide +kernel
theorem dX8_site_79 : decode cX8_site 79 = .ok (.goto 4, 3) := by decide +kernel
theorem dX8_site_82 : decode cX8_site 82 = .ok (.iload_n 3, 1) := by decide +kernel
theorem dX8_site_83 : decode cX8_site 83 = .ok (.istore_n 3, 1) := by decide +kernel
theorem dX8_site_84 : decode cX8_site 84 = .ok (.iload 6, 2) := by decide +kernel
theorem dX8_site_86 : decode cX8_site 86 = .ok (.iload 4, 2) := by decide +kernel
theorem dX8_site_88 : decode cX8_site 88 = .ok (.if_icmp .le 8, 3) := by decide +kernel
theorem dX8_site_9 : decode cX8_site 9 = .ok (.ireturn, 1) := by decide +kernel
theorem dX8_site_91 : decode cX8_site 91 = .ok (.iload 6, 2) := by decide +kernel
theorem dX8_site_93 : decode cX8_site 93 = .ok (.goto 5, 3) := by decide +kernel
theorem dX8_site_96 : decode cX8_site 96 = .ok (.iload 4, 2) := by decide +kernel
theorem dX8_site_98 : decode cX8_site 98 = .ok (.istore 4, 2) := by decide +kernel
theorem dX8_sound_0 : decode cX8_sound 0 = .ok (.aload_n 0, 1) := by decide +kernel
theorem dX8_sound_1 : decode cX8_sound 1 = .ok (.iload_n 1, 1) := by decide +kernel
theorem dX8_sound_10 : decode cX8_sound 10 = .ok (.ireturn, 1) := by decide +kernel
theorem dX8_sound_100 : decode cX8_sound 100 = .ok (.aload_n 0, 1) := by decide +kernel
theorem dX8_sound_101 : decode cX8_sound 101 = .ok (.aload_n 0, 1) := by decide +kernel
theorem dX8_sound_102 : decode cX8_sound 102 = .ok (.getfield 19, 3) := by decide +kernel
theorem dX8_sound_105 : decode cX8_sound 105 = .ok (.iconst 5, 1) := by decide +kernel
theorem dX8_sound_106 : decode cX8_sound 106 = .ok (.iaload, 1) := by decide +kernel
theorem dX8_sound_107 : decode cX8_sound 107 = .ok (.invokevirtual 151, 3) := by decide +kernel
theorem dX8_sound_11 : decode cX8_sound 11 = .ok (.iload_n 2, 1) := by decide +kernel
theorem dX8_sound_110 : decode cX8_sound 110 = .ok (.iconst 2, 1) := by decide +kernel
theorem dX8_sound_111 : decode cX8_sound 111 = .ok (.isub, 1) := by decide +kernel
theorem dX8_sound_112 : decode cX8_sound 112 = .ok (.invokestatic 145, 3) := by decide +kernel
theorem dX8_sound_115 : decode cX8_sound 115 = .ok (.ireturn, 1) := by decide +kernel
theorem dX8_sound_116 : decode cX8_sound 116 = .ok (.ldc 67, 2) := by decide +kernel
theorem dX8_sound_118 : decode cX8_sound 118 = .ok (.ireturn, 1) := by decide +kernel
theorem dX8_sound_12 : decode cX8_sound 12 = .ok (.tableswitch 104 0 3 #[32, 59, 69, 79], 32) := by decide +kernel
theorem dX8_sound_2 : decode cX8_sound 2 = .ok (.invokevirtual 173, 3) := by decide +kernel
theorem dX8_sound_44 : decode cX8_sound 44 = .ok (.aload_n 0, 1) := by decide +kernel
theorem dX8_sound_45 : decode cX8_sound 45 = .ok (.getfield 19, 3) := by decide +kernel
theorem dX8_sound_48 : decode cX8_sound 48 = .ok (.bipush 26, 2) := by decide +kernel
theorem dX8_sound_5 : decode cX8_sound 5 = .ok (.ifCond .ne 6, 3) := by decide +kernel
theorem dX8_sound_50 : decode cX8_sound 50 = .ok (.iload_n 1, 1) := by decide +kernel
theorem dX8_sound_51 : decode cX8_sound 51 = .ok (.iadd, 1) := by decide +kernel
theorem dX8_sound_52 : decode cX8_sound 52 = .ok (.iaload, 1) := by decide +kernel
theorem dX8_sound_53 : decode cX8_sound 53 = .ok (.ifCond .ne 15, 3) := by decide +kernel
theorem dX8_sound_56 : decode cX8_sound 56 = .ok (.aload_n 0, 1) := by decide +kernel
theorem dX8_sound_57 : decode cX8_sound 57 = .ok (.getfield 19, 3) := by decide +kernel
theorem dX8_sound_60 : decode cX8_sound 60 = .ok (.bipush 20, 2) := by decide +kernel
theorem dX8_sound_62 : decode cX8_sound 62 = .ok (.iload_n 1, 1) := by decide +kernel
theorem dX8_sound_63 : decode cX8_sound 63 = .ok (.iadd, 1) := by decide +kernel
theorem dX8_sound_64 : decode cX8_sound 64 = .ok (.iaload, 1) := by decide +kernel
theorem dX8_sound_65 : decode cX8_sound 65 = .ok (.goto 5, 3) := by decide +kernel
theorem dX8_sound_68 : decode cX8_sound 68 = .ok (.ldc 187, 2) := by decide +kernel
theorem dX8_sound_70 : decode cX8_sound 70 = .ok (.ireturn, 1) := by decide +kernel
theorem dX8_sound_71 : decode cX8_sound 71 = .ok (.aload_n 0, 1) := by decide +kernel
theorem dX8_sound_72 : decode cX8_sound 72 = .ok (.getfield 19, 3) := by decide +kernel
theorem dX8_sound_75 : decode cX8_sound 75 = .ok (.bipush 26, 2) := by decide +kernel
theorem dX8_sound_77 : decode cX8_sound 77 = .ok (.iload_n 1, 1) := by decide +kernel
theorem dX8_sound_78 : decode cX8_sound 78 = .ok (.iadd, 1) := by decide +kernel
theorem dX8_sound_79 : decode cX8_sound 79 = .ok (.iaload, 1) := by decide +kernel
theorem dX8_sound_8 : decode cX8_sound 8 = .ok (.ldc 67, 2) := by decide +kernel
theorem dX8_sound_80 : decode cX8_sound 80 = .ok (.ireturn, 1) := by decide +kernel
theorem dX8_sound_81 : decode cX8_sound 81 = .ok (.aload_n 0, 1) := by decide +kernel
theorem dX8_sound_82 : decode cX8_sound 82 = .ok (.getfield 19, 3) := by decide +kernel
theorem dX8_sound_85 : decode cX8_sound 85 = .ok (.bipush 32, 2) := by decide +kernel
theorem dX8_sound_87 : decode cX8_sound 87 = .ok (.iload_n 1, 1) := by decide +kernel
theorem dX8_sound_88 : decode cX8_sound 88 = .ok (.iadd, 1) := by decide +kernel
theorem dX8_sound_89 : decode cX8_sound 89 = .ok (.iaload, 1) := by decide +kernel
theorem dX8_sound_90 : decode cX8_sound 90 = .ok (.ireturn, 1) := by decide +kernel
theorem dX8_sound_91 : decode cX8_sound 91 = .ok (.aload_n 0, 1) := by decide +kernel
theorem dX8_sound_92 : decode cX8_sound 92 = .ok (.getfield 19, 3) := by decide +kernel
theorem dX8_sound_95 : decode cX8_sound 95 = .ok (.bipush 14, 2) := by decide +kernel
theorem dX8_sound_97 : decode cX8_sound 97 = .ok (.iload_n 1, 1) := by decide +kernel
theorem dX8_sound_98 : decode cX8_sound 98 = .ok (.iadd, 1) := by decide +kernel
theorem dX8_sound_99 : decode cX8_sound 99 = .ok (.iaload, 1) := by decide +kernel
theorem dX8_stand_0 : decode cX8_stand 0 = .ok (.aload_n 0, 1) := by decide +kernel
theorem dX8_stand_1 : decode cX8_stand 1 = .ok (.getfield 138, 3) := by decide +kernel
theorem dX8_stand_10 : decode cX8_stand 10 = .ok (.iload_n 1, 1) := by decide +kernel
theorem dX8_stand_101 : decode cX8_stand 101 = .ok (.ireturn, 1) := by decide +kernel
theorem dX8_stand_11 : decode cX8_stand 11 = .ok (.tableswitch 88 0 6 #[41, 48, 55, 62, 70, 76, 82], 41) := by decide +kernel
theorem dX8_stand_4 : decode cX8_stand 4 = .ok (.ifCond .ne 6, 3) := by decide +kernel
theorem dX8_stand_52 : decode cX8_stand 52 = .ok (.aload_n 0, 1) := by decide +kernel
theorem dX8_stand_53 : decode cX8_stand 53 = .ok (.getfield 19, 3) := by decide +kernel
theorem dX8_stand_56 : decode cX8_stand 56 = .ok (.iconst 0, 1) := by decide +kernel
theorem dX8_stand_57 : decode cX8_stand 57 = .ok (.iaload, 1) := by decide +kernel
theorem dX8_stand_58 : decode cX8_stand 58 = .ok (.ireturn, 1) := by decide +kernel
theorem dX8_stand_59 : decode cX8_stand 59 = .ok (.aload_n 0, 1) := by decide +kernel
theorem dX8_stand_60 : decode cX8_stand 60 = .ok (.getfield 19, 3) := by decide +kernel
theorem dX8_stand_63 : decode cX8_stand 63 = .ok (.iconst 1, 1) := by decide +kernel
theorem dX8_stand_64 : decode cX8_stand 64 = .ok (.iaload, 1) := by decide +kernel
theorem dX8_stand_65 : decode cX8_stand 65 = .ok (.ireturn, 1) := by decide +kernel
theorem dX8_stand_66 : decode cX8_stand 66 = .ok (.aload_n 0, 1) := by decide +kernel
theorem dX8_stand_67 : decode cX8_stand 67 = .ok (.getfield 19, 3) := by decide +kernel
theorem dX8_stand_7 : decode cX8_stand 7 = .ok (.ldc 161, 2) := by decide +kernel
theorem dX8_stand_70 : decode cX8_stand 70 = .ok (.iconst 2, 1) := by decide +kernel
theorem dX8_stand_71 : decode cX8_stand 71 = .ok (.iaload, 1) := by decide +kernel
theorem dX8_stand_72 : decode cX8_stand 72 = .ok (.ireturn, 1) := by decide +kernel
theorem dX8_stand_73 : decode cX8_stand 73 = .ok (.aload_n 0, 1) := by decide +kernel
theorem dX8_stand_74 : decode cX8_stand 74 = .ok (.getfield 19, 3) := by decide +kernel
theorem dX8_stand_77 : decode cX8_stand 77 = .ok (.bipush 6, 2) := by decide +kernel
theorem dX8_stand_79 : decode cX8_stand 79 = .ok (.iaload, 1) := by decide +kernel
theorem dX8_stand_80 : decode cX8_stand 80 = .ok (.ireturn, 1) := by decide +kernel
theorem dX8_stand_81 : decode cX8_stand 81 = .ok (.aload_n 0, 1) := by decide +kernel
theorem dX8_stand_82 : decode cX8_stand 82 = .ok (.iconst 0, 1) := by decide +kernel
theorem dX8_stand_83 : decode cX8_stand 83 = .ok (.invokevirtual 182, 3) := by decide +kernel
theorem dX8_stand_86 : decode cX8_stand 86 = .ok (.ireturn, 1) := by decide +kernel
theorem dX8_stand_87 : decode cX8_stand 87 = .ok (.aload_n 0, 1) := by decide +kernel
theorem dX8_stand_88 : decode cX8_stand 88 = .ok (.iconst 1, 1) := by decide +kernel
theorem dX8_stand_89 : decode cX8_stand 89 = .ok (.invokevirtual 182, 3) := by decide +kernel
theorem dX8_stand_9 : decode cX8_stand 9 = .ok (.ireturn, 1) := by decide +kernel
theorem dX8_stand_92 : decode cX8_stand 92 = .ok (.ireturn, 1) := by decide +kernel
theorem dX8_stand_93 : decode cX8_stand 93 = .ok (.aload_n 0, 1) := by decide +kernel
theorem dX8_stand_94 : decode cX8_stand 94 = .ok (.iconst 2, 1) := by decide +kernel
theorem dX8_stand_95 : decode cX8_stand 95 = .ok (.invokevirtual 182, 3) := by decide +kernel
theorem dX8_stand_98 : decode cX8_stand 98 = .ok (.ireturn, 1) := by decide +kernel
theorem dX8_stand_99 : decode cX8_stand 99 = .ok (.ldc 67, 2) := by decide +kernel
theorem dX8_takeBack_0 : decode cX8_takeBack 0 = .ok (.iconst 0, 1) := by decide +kernel
theorem dX8_takeBack_1 : decode cX8_takeBack 1 = .ok (.istore_n 1, 1) := by decide +kernel
theorem dX8_takeBack_12 : decode cX8_takeBack 12 = .ok (.iload_n 1, 1) := by decide +kernel
theorem dX8_takeBack_13 : decode cX8_takeBack 13 = .ok (.aload_n 0, 1) := by decide +kernel
theorem dX8_takeBack_14 : decode cX8_takeBack 14 = .ok (.getfield 34, 3) := by decide +kernel
theorem dX8_takeBack_17 : decode cX8_takeBack 17 = .ok (.iload_n 1, 1) := by decide +kernel
theorem dX8_takeBack_18 : decode cX8_takeBack 18 = .ok (.iaload, 1) := by decide +kernel
theorem dX8_takeBack_19 : decode cX8_takeBack 19 = .ok (.iastore, 1) := by decide +kernel
theorem dX8_takeBack_2 : decode cX8_takeBack 2 = .ok (.iload_n 1, 1) := by decide +kernel
theorem dX8_takeBack_20 : decode cX8_takeBack 20 = .ok (.iinc 1 1, 3) := by decide +kernel
theorem dX8_takeBack_23 : decode cX8_takeBack 23 = .ok (.goto (-21), 3) := by decide +kernel
theorem dX8_takeBack_26 : decode cX8_takeBack 26 = .ok (.return_, 1) := by decide +kernel
theorem dX8_takeBack_3 : decode cX8_takeBack 3 = .ok (.bipush 38, 2) := by decide +kernel
theorem dX8_takeBack_5 : decode cX8_takeBack 5 = .ok (.if_icmp .ge 21, 3) := by decide +kernel
theorem dX8_takeBack_8 : decode cX8_takeBack 8 = .ok (.aload_n 0, 1) := by decide +kernel
theorem dX8_takeBack_9 : decode cX8_takeBack 9 = .ok (.getfield 19, 3) := by decide +kernel
theorem dX8_when_0 : decode cX8_when 0 = .ok (.aload_n 0, 1) := by decide +kernel
theorem dX8_when_1 : decode cX8_when 1 = .ok (.iload_n 1, 1) := by decide +kernel
theorem dX8_when_10 : decode cX8_when 10 = .ok (.lconst 1, 1) := by decide +kernel
theorem dX8_when_11 : decode cX8_when 11 = .ok (.ldc2_w 65, 3) := by decide +kernel
theorem dX8_when_14 : decode cX8_when 14 = .ok (.invokestatic 57, 3) := by decide +kernel
theorem dX8_when_17 : decode cX8_when 17 = .ok (.ifCond .ne 6, 3) := by decide +kernel
theorem dX8_when_2 : decode cX8_when 2 = .ok (.invokevirtual 173, 3) := by decide +kernel
theorem dX8_when_20 : decode cX8_when 20 = .ok (.ldc 67, 2) := by decide +kernel
theorem dX8_when_22 : decode cX8_when 22 = .ok (.ireturn, 1) := by decide +kernel
theorem dX8_when_23 : decode cX8_when 23 = .ok (.aload_n 0, 1) := by decide +kernel
theorem dX8_when_24 : decode cX8_when 24 = .ok (.invokevirtual 197, 3) := by decide +kernel
theorem dX8_when_27 : decode cX8_when 27 = .ok (.iconst 0, 1) := by decide +kernel
theorem dX8_when_28 : decode cX8_when 28 = .ok (.istore_n 3, 1) := by decide +kernel
theorem dX8_when_29 : decode cX8_when 29 = .ok (.aload_n 0, 1) := by decide +kernel
theorem dX8_when_30 : decode cX8_when 30 = .ok (.getfield 19, 3) := by decide +kernel
theorem dX8_when_33 : decode cX8_when 33 = .ok (.bipush 26, 2) := by decide +kernel
theorem dX8_when_35 : decode cX8_when 35 = .ok (.iload_n 1, 1) := by decide +kernel
theorem dX8_when_36 : decode cX8_when 36 = .ok (.iadd, 1) := by decide +kernel
theorem dX8_when_37 : decode cX8_when 37 = .ok (.iaload, 1) := by decide +kernel
theorem dX8_when_38 : decode cX8_when 38 = .ok (.iload_n 2, 1) := by decide +kernel
theorem dX8_when_39 : decode cX8_when 39 = .ok (.if_icmp .eq 20, 3) := by decide +kernel
theorem dX8_when_42 : decode cX8_when 42 = .ok (.iload_n 3, 1) := by decide +kernel
theorem dX8_when_43 : decode cX8_when 43 = .ok (.bipush 60, 2) := by decide +kernel
theorem dX8_when_45 : decode cX8_when 45 = .ok (.if_icmp .ge 14, 3) := by decide +kernel
theorem dX8_when_48 : decode cX8_when 48 = .ok (.aload_n 0, 1) := by decide +kernel
theorem dX8_when_49 : decode cX8_when 49 = .ok (.invokevirtual 167, 3) := by decide +kernel
theorem dX8_when_5 : decode cX8_when 5 = .ok (.ifCond .eq 15, 3) := by decide +kernel
theorem dX8_when_52 : decode cX8_when 52 = .ok (.pop, 1) := by decide +kernel
theorem dX8_when_53 : decode cX8_when 53 = .ok (.iinc 3 1, 3) := by decide +kernel
theorem dX8_when_56 : decode cX8_when 56 = .ok (.goto (-27), 3) := by decide +kernel
theorem dX8_when_59 : decode cX8_when 59 = .ok (.aload_n 0, 1) := by decide +kernel
theorem dX8_when_60 : decode cX8_when 60 = .ok (.getfield 19, 3) := by decide +kernel
theorem dX8_when_63 : decode cX8_when 63 = .ok (.bipush 26, 2) := by decide +kernel
theorem dX8_when_65 : decode cX8_when 65 = .ok (.iload_n 1, 1) := by decide +kernel
theorem dX8_when_66 : decode cX8_when 66 = .ok (.iadd, 1) := by decide +kernel
theorem dX8_when_67 : decode cX8_when 67 = .ok (.iaload, 1) := by decide +kernel
theorem dX8_when_68 : decode cX8_when 68 = .ok (.iload_n 2, 1) := by decide +kernel
theorem dX8_when_69 : decode cX8_when 69 = .ok (.if_icmp .ne 7, 3) := by decide +kernel
theorem dX8_when_72 : decode cX8_when 72 = .ok (.iconst 1, 1) := by decide +kernel
theorem dX8_when_73 : decode cX8_when 73 = .ok (.goto 4, 3) := by decide +kernel
theorem dX8_when_76 : decode cX8_when 76 = .ok (.iconst 0, 1) := by decide +kernel
theorem dX8_when_77 : decode cX8_when 77 = .ok (.istore 4, 2) := by decide +kernel
theorem dX8_when_79 : decode cX8_when 79 = .ok (.aload_n 0, 1) := by decide +kernel
theorem dX8_when_8 : decode cX8_when 8 = .ok (.iload_n 2, 1) := by decide +kernel
theorem dX8_when_80 : decode cX8_when 80 = .ok (.invokevirtual 194, 3) := by decide +kernel
theorem dX8_when_83 : decode cX8_when 83 = .ok (.iload 4, 2) := by decide +kernel
theorem dX8_when_85 : decode cX8_when 85 = .ok (.ifCond .eq 7, 3) := by decide +kernel
theorem dX8_when_88 : decode cX8_when 88 = .ok (.iload_n 3, 1) := by decide +kernel
theorem dX8_when_89 : decode cX8_when 89 = .ok (.goto 5, 3) := by decide +kernel
theorem dX8_when_9 : decode cX8_when 9 = .ok (.i2l, 1) := by decide +kernel
theorem dX8_when_92 : decode cX8_when 92 = .ok (.ldc 187, 2) := by decide +kernel
theorem dX8_when_94 : decode cX8_when 94 = .ok (.ireturn, 1) := by decide +kernel
set_option maxRecDepth 20000 in
theorem ggX8_ahead_X8_goOn : GoodIn wsX8_ahead wsX8_goOn := goodIn_r _ [22, 23, 24, 25, 9, 26, 4, 27, 28, 29, 30, 31, 32, 33, 34, 35, 36, 37, 38, 39, 40, 41, 11, 12, 13, 42, 43, 44, 45, 50, 51, 52, 53, 54, 55, 56, 57, 58, 59, 60, 61, 62, 63, 64, 65, 66, 67, 68, 69, 70, 71, 72, 73] (by decide +kernel) (by decide +kernel)
set_option maxRecDepth 20000 in
theorem gX8_ahead_X8_goOn : GoodIn wsX8_ahead (wsV RX8 190 RX8 yX8_goOn wsX8_goOn) := goodIn_app (goodIn_of _ (by decide +kernel)) ggX8_ahead_X8_goOn
set_option maxRecDepth 20000 in
theorem ggX8_ahead_X8_in : GoodIn wsX8_ahead wsX8_in := goodIn_r _ [13] (by decide +kernel) (by decide +kernel)
set_option maxRecDepth 20000 in
theorem gX8_ahead_X8_in : GoodIn wsX8_ahead (va_wsS RX8 57 yX8_in wsX8_in) := goodIn_app (goodIn_of _ (by decide +kernel)) ggX8_ahead_X8_in
set_option maxRecDepth 20000 in
theorem ggX8_ahead_X8_isSound : GoodIn wsX8_ahead wsX8_isSound := goodIn_r _ [10, 4, 11, 12, 9, 13, 50, 51, 52, 53, 54, 55, 56, 57, 58, 59, 60, 61, 62, 63, 64, 65, 66, 67, 68, 69, 70, 71, 72, 73] (by decide +kernel) (by decide +kernel)
set_option maxRecDepth 20000 in
theorem gX8_ahead_X8_isSound : GoodIn wsX8_ahead (wsV RX8 173 RX8 yX8_isSound wsX8_isSound) := goodIn_app (goodIn_of _ (by decide +kernel)) ggX8_ahead_X8_isSound
set_option maxRecDepth 20000 in
theorem ggX8_ahead_X8_putAside : GoodIn wsX8_ahead wsX8_putAside := goodIn_r _ [17, 18, 4, 50, 51, 52, 53, 54, 55, 56, 57, 58, 59, 60, 61, 62, 63, 64, 65, 66, 67, 68, 69, 70, 71, 72, 73] (by decide +kernel) (by decide +kernel)
set_option maxRecDepth 20000 in
theorem gX8_ahead_X8_putAside : GoodIn wsX8_ahead (wsV RX8 197 RX8 yX8_putAside wsX8_putAside) := goodIn_app (goodIn_of _ (by decide +kernel)) ggX8_ahead_X8_putAside
set_option maxRecDepth 20000 in
theorem ggX8_ahead_X8_takeBack : GoodIn wsX8_ahead wsX8_takeBack := goodIn_r _ [49, 4, 18, 50, 51, 52, 53, 54, 55, 56, 57, 58, 59, 60, 61, 62, 63, 64, 65, 66, 67, 68, 69, 70, 71, 72, 73] (by decide +kernel) (by decide +kernel)
set_option maxRecDepth 20000 in
theorem gX8_ahead_X8_takeBack : GoodIn wsX8_ahead (wsV RX8 194 RX8 yX8_takeBack wsX8_takeBack) := goodIn_app (goodIn_of _ (by decide +kernel)) ggX8_ahead_X8_takeBack
set_option maxRecDepth 20000 in
theorem ggX8_caps_X8_goTurning : GoodIn wsX8_caps wsX8_goTurning := goodIn_r _ [19, 5, 20, 21, 22, 9, 23, 24, 25, 26, 27, 28, 29, 30, 31, 32, 33, 34, 35, 36, 37, 38, 7, 8, 10, 39, 40, 41, 42, 47, 48, 49, 50, 51, 52, 53, 54, 55, 56, 57, 58, 59, 60, 61, 62, 63, 64, 65, 66, 67, 68, 69, 70] (by decide +kernel) (by decide +kernel)
set_option maxRecDepth 20000 in
theorem gX8_caps_X8_goTurning : GoodIn wsX8_caps (wsV RX8 205 RX8 yX8_goTurning wsX8_goTurning) := goodIn_app (goodIn_of _ (by decide +kernel)) ggX8_caps_X8_goTurning
set_option maxRecDepth 20000 in
theorem ggX8_caps_X8_in : GoodIn wsX8_caps wsX8_in := goodIn_r _ [10] (by decide +kernel) (by decide +kernel)
set_option maxRecDepth 20000 in
theorem gX8_caps_X8_in : GoodIn wsX8_caps (va_wsS RX8 57 yX8_in wsX8_in) := goodIn_app (goodIn_of _ (by decide +kernel)) ggX8_caps_X8_in
set_option maxRecDepth 20000 in
theorem ggX8_caps_X8_putAside : GoodIn wsX8_caps wsX8_putAside := goodIn_r _ [14, 15, 5, 47, 48, 49, 50, 51, 52, 53, 54, 55, 56, 57, 58, 59, 60, 61, 62, 63, 64, 65, 66, 67, 68, 69, 70] (by decide +kernel) (by decide +kernel)
set_option maxRecDepth 20000 in
theorem gX8_caps_X8_putAside : GoodIn wsX8_caps (wsV RX8 197 RX8 yX8_putAside wsX8_putAside) := goodIn_app (goodIn_of _ (by decide +kernel)) ggX8_caps_X8_putAside
set_option maxRecDepth 20000 in
theorem ggX8_caps_X8_takeBack : GoodIn wsX8_caps wsX8_takeBack := goodIn_r _ [46, 5, 15, 47, 48, 49, 50, 51, 52, 53, 54, 55, 56, 57, 58, 59, 60, 61, 62, 63, 64, 65, 66, 67, 68, 69, 70] (by decide +kernel) (by decide +kernel)
set_option maxRecDepth 20000 in
theorem gX8_caps_X8_takeBack : GoodIn wsX8_caps (wsV RX8 194 RX8 yX8_takeBack wsX8_takeBack) := goodIn_app (goodIn_of _ (by decide +kernel)) ggX8_caps_X8_takeBack
set_option maxRecDepth 20000 in
theorem ggX8_goOn_X8_oneHour : GoodIn wsX8_goOn wsX8_oneHour := goodIn_r _ [5, 6, 7, 8, 9, 4, 10, 11, 12, 13, 14, 15, 16, 17, 18, 19, 20, 21, 22, 23, 24, 25, 26, 27, 28, 29, 30, 31, 32, 33, 34, 35, 36, 37, 38, 39, 40, 41, 42, 43, 44, 45, 46, 47, 48, 49, 50, 51, 52] (by decide +kernel) (by decide +kernel)
set_option maxRecDepth 20000 in
theorem gX8_goOn_X8_oneHour : GoodIn wsX8_goOn (wsV RX8 167 RX8 yX8_oneHour wsX8_oneHour) := goodIn_app (goodIn_of _ (by decide +kernel)) ggX8_goOn_X8_oneHour
set_option maxRecDepth 20000 in
theorem ggX8_goTurning_X8_oneHour : GoodIn wsX8_goTurning wsX8_oneHour := goodIn_r _ [6, 1, 7, 8, 9, 5, 10, 11, 12, 13, 14, 15, 16, 17, 18, 19, 20, 21, 22, 23, 24, 25, 26, 27, 28, 29, 30, 31, 32, 33, 34, 35, 36, 37, 38, 39, 40, 41, 42, 43, 44, 45, 46, 47, 48, 49, 50, 51, 52] (by decide +kernel) (by decide +kernel)
set_option maxRecDepth 20000 in
theorem gX8_goTurning_X8_oneHour : GoodIn wsX8_goTurning (wsV RX8 167 RX8 yX8_oneHour wsX8_oneHour) := goodIn_app (goodIn_of _ (by decide +kernel)) ggX8_goTurning_X8_oneHour
set_option maxRecDepth 20000 in
theorem ggX8_gust_X8_gustOf : GoodIn wsX8_gust wsX8_gustOf := goodIn_r _ [13, 4, 14, 15, 16, 17, 18, 19, 20, 21, 22, 23, 24, 25, 26, 27, 28, 29, 30, 31, 32, 33, 34, 35, 36, 37] (by decide +kernel) (by decide +kernel)
set_option maxRecDepth 20000 in
theorem gX8_gust_X8_gustOf : GoodIn wsX8_gust (wsV RX8 151 RX8 yX8_gustOf wsX8_gustOf) := goodIn_app (goodIn_of _ (by decide +kernel)) ggX8_gust_X8_gustOf
set_option maxRecDepth 20000 in
theorem ggX8_gust_X8_in : GoodIn wsX8_gust wsX8_in := goodIn_r _ [9] (by decide +kernel) (by decide +kernel)
set_option maxRecDepth 20000 in
theorem gX8_gust_X8_in : GoodIn wsX8_gust (va_wsS RX8 57 yX8_in wsX8_in) := goodIn_app (goodIn_of _ (by decide +kernel)) ggX8_gust_X8_in
set_option maxRecDepth 20000 in
theorem ggX8_had_X8_goTurning : GoodIn wsX8_had wsX8_goTurning := goodIn_r _ [19, 3, 20, 21, 22, 9, 23, 24, 25, 26, 27, 28, 29, 30, 31, 32, 33, 34, 35, 36, 37, 38, 7, 8, 10, 39, 40, 41, 42, 51, 52, 53, 54, 55, 56, 57, 58, 59, 60, 61, 62, 63, 64, 65, 66, 67, 68, 69, 70, 71, 72, 73, 74] (by decide +kernel) (by decide +kernel)
set_option maxRecDepth 20000 in
theorem gX8_had_X8_goTurning : GoodIn wsX8_had (wsV RX8 205 RX8 yX8_goTurning wsX8_goTurning) := goodIn_app (goodIn_of _ (by decide +kernel)) ggX8_had_X8_goTurning
set_option maxRecDepth 20000 in
theorem ggX8_had_X8_in : GoodIn wsX8_had wsX8_in := goodIn_r _ [10] (by decide +kernel) (by decide +kernel)
set_option maxRecDepth 20000 in
theorem gX8_had_X8_in : GoodIn wsX8_had (va_wsS RX8 57 yX8_in wsX8_in) := goodIn_app (goodIn_of _ (by decide +kernel)) ggX8_had_X8_in
set_option maxRecDepth 20000 in
theorem ggX8_had_X8_putAside : GoodIn wsX8_had wsX8_putAside := goodIn_r _ [14, 15, 3, 51, 52, 53, 54, 55, 56, 57, 58, 59, 60, 61, 62, 63, 64, 65, 66, 67, 68, 69, 70, 71, 72, 73, 74] (by decide +kernel) (by decide +kernel)
set_option maxRecDepth 20000 in
theorem gX8_had_X8_putAside : GoodIn wsX8_had (wsV RX8 197 RX8 yX8_putAside wsX8_putAside) := goodIn_app (goodIn_of _ (by decide +kernel)) ggX8_had_X8_putAside
set_option maxRecDepth 20000 in
theorem ggX8_had_X8_takeBack : GoodIn wsX8_had wsX8_takeBack := goodIn_r _ [50, 3, 15, 51, 52, 53, 54, 55, 56, 57, 58, 59, 60, 61, 62, 63, 64, 65, 66, 67, 68, 69, 70, 71, 72, 73, 74] (by decide +kernel) (by decide +kernel)
set_option maxRecDepth 20000 in
theorem gX8_had_X8_takeBack : GoodIn wsX8_had (wsV RX8 194 RX8 yX8_takeBack wsX8_takeBack) := goodIn_app (goodIn_of _ (by decide +kernel)) ggX8_had_X8_takeBack
set_option maxRecDepth 20000 in
theorem ggX8_had_X8_those : GoodIn wsX8_had wsX8_those := goodIn_r _ [46, 3, 51, 52, 53, 54, 55, 56, 57, 58, 59, 60, 61, 62, 63, 64, 65, 66, 67, 68, 69, 70, 71, 72, 73, 74] (by decide +kernel) (by decide +kernel)
set_option maxRecDepth 20000 in
theorem gX8_had_X8_those : GoodIn wsX8_had (wsV RX8 182 RX8 yX8_those wsX8_those) := goodIn_app (goodIn_of _ (by decide +kernel)) ggX8_had_X8_those
set_option maxRecDepth 20000 in
theorem ggX8_kind_X8_isSound : GoodIn wsX8_kind wsX8_isSound := goodIn_r _ [7, 1, 8, 9, 6, 10, 11, 12, 13, 14, 15, 16, 17, 18, 19, 20, 21, 22, 23, 24, 25, 26, 27, 28, 29, 30, 31, 32, 33, 34] (by decide +kernel) (by decide +kernel)
set_option maxRecDepth 20000 in
theorem gX8_kind_X8_isSound : GoodIn wsX8_kind (wsV RX8 173 RX8 yX8_isSound wsX8_isSound) := goodIn_app (goodIn_of _ (by decide +kernel)) ggX8_kind_X8_isSound
set_option maxRecDepth 20000 in
theorem ggX8_mealBehind_X8_goOn : GoodIn wsX8_mealBehind wsX8_goOn := goodIn_r _ [6, 7, 8, 9, 5, 10, 1, 11, 12, 13, 14, 15, 16, 17, 18, 19, 20, 21, 22, 23, 24, 25, 26, 27, 28, 29, 30, 31, 32, 38, 39, 40, 41, 42, 43, 44, 45, 46, 47, 48, 49, 50, 51, 52, 53, 54, 55, 56, 57, 58, 59, 60, 61] (by decide +kernel) (by decide +kernel)
set_option maxRecDepth 20000 in
theorem gX8_mealBehind_X8_goOn : GoodIn wsX8_mealBehind (wsV RX8 190 RX8 yX8_goOn wsX8_goOn) := goodIn_app (goodIn_of _ (by decide +kernel)) ggX8_mealBehind_X8_goOn
set_option maxRecDepth 20000 in
theorem ggX8_mealBehind_X8_takeBack : GoodIn wsX8_mealBehind wsX8_takeBack := goodIn_r _ [36, 1, 37, 38, 39, 40, 41, 42, 43, 44, 45, 46, 47, 48, 49, 50, 51, 52, 53, 54, 55, 56, 57, 58, 59, 60, 61] (by decide +kernel) (by decide +kernel)
set_option maxRecDepth 20000 in
theorem gX8_mealBehind_X8_takeBack : GoodIn wsX8_mealBehind (wsV RX8 194 RX8 yX8_takeBack wsX8_takeBack) := goodIn_app (goodIn_of _ (by decide +kernel)) ggX8_mealBehind_X8_takeBack
set_option maxRecDepth 20000 in
theorem ggX8_meal_X8_in : GoodIn wsX8_meal wsX8_in := goodIn_r _ [8] (by decide +kernel) (by decide +kernel)
set_option maxRecDepth 20000 in
theorem gX8_meal_X8_in : GoodIn wsX8_meal (va_wsS RX8 57 yX8_in wsX8_in) := goodIn_app (goodIn_of _ (by decide +kernel)) ggX8_meal_X8_in
set_option maxRecDepth 20000 in
theorem ggX8_meal_X8_mealBehind : GoodIn wsX8_meal wsX8_mealBehind := goodIn_r _ [18, 14, 19, 20, 21, 7, 22, 23, 24, 25, 26, 27, 28, 29, 30, 31, 32, 33, 34, 35, 36, 37, 38, 39, 40, 41, 5, 6, 8, 42, 43, 44, 45, 46, 47, 48, 49, 13, 50, 51, 52, 53, 54, 55, 56, 57, 58, 59, 60, 61, 62, 63, 64, 65, 66, 67, 68, 69, 70, 71, 72, 73] (by decide +kernel) (by decide +kernel)
set_option maxRecDepth 20000 in
theorem gX8_meal_X8_mealBehind : GoodIn wsX8_meal (wsV RX8 200 RX8 yX8_mealBehind wsX8_mealBehind) := goodIn_app (goodIn_of _ (by decide +kernel)) ggX8_meal_X8_mealBehind
set_option maxRecDepth 20000 in
theorem ggX8_meal_X8_putAside : GoodIn wsX8_meal wsX8_putAside := goodIn_r _ [12, 13, 14, 50, 51, 52, 53, 54, 55, 56, 57, 58, 59, 60, 61, 62, 63, 64, 65, 66, 67, 68, 69, 70, 71, 72, 73] (by decide +kernel) (by decide +kernel)
set_option maxRecDepth 20000 in
theorem gX8_meal_X8_putAside : GoodIn wsX8_meal (wsV RX8 197 RX8 yX8_putAside wsX8_putAside) := goodIn_app (goodIn_of _ (by decide +kernel)) ggX8_meal_X8_putAside
set_option maxRecDepth 20000 in
theorem ggX8_sack_X8_in : GoodIn wsX8_sack wsX8_in := goodIn_r _ [9] (by decide +kernel) (by decide +kernel)
set_option maxRecDepth 20000 in
theorem gX8_sack_X8_in : GoodIn wsX8_sack (va_wsS RX8 57 yX8_in wsX8_in) := goodIn_app (goodIn_of _ (by decide +kernel)) ggX8_sack_X8_in
set_option maxRecDepth 20000 in
theorem ggX8_sack_X8_loudOf : GoodIn wsX8_sack wsX8_loudOf := goodIn_r _ [18, 14, 19, 20, 8, 21, 22, 23, 24, 25, 26, 27, 28, 29, 30, 31, 32, 33, 34, 35, 36, 37, 38, 39, 40, 41, 42, 43, 44, 45] (by decide +kernel) (by decide +kernel)
set_option maxRecDepth 20000 in
theorem gX8_sack_X8_loudOf : GoodIn wsX8_sack (wsV RX8 219 RX8 yX8_loudOf wsX8_loudOf) := goodIn_app (goodIn_of _ (by decide +kernel)) ggX8_sack_X8_loudOf
set_option maxRecDepth 20000 in
theorem ggX8_sack_X8_those : GoodIn wsX8_sack wsX8_those := goodIn_r _ [13, 14, 22, 23, 24, 25, 26, 27, 28, 29, 30, 31, 32, 33, 34, 35, 36, 37, 38, 39, 40, 41, 42, 43, 44, 45] (by decide +kernel) (by decide +kernel)
set_option maxRecDepth 20000 in
theorem gX8_sack_X8_those : GoodIn wsX8_sack (wsV RX8 182 RX8 yX8_those wsX8_those) := goodIn_app (goodIn_of _ (by decide +kernel)) ggX8_sack_X8_those
set_option maxRecDepth 20000 in
theorem ggX8_site_X8_in : GoodIn wsX8_site wsX8_in := goodIn_r _ [10] (by decide +kernel) (by decide +kernel)
set_option maxRecDepth 20000 in
theorem gX8_site_X8_in : GoodIn wsX8_site (va_wsS RX8 57 yX8_in wsX8_in) := goodIn_app (goodIn_of _ (by decide +kernel)) ggX8_site_X8_in
set_option maxRecDepth 20000 in
theorem ggX8_site_X8_isWhat : GoodIn wsX8_site wsX8_isWhat := goodIn_r _ [13, 7, 8, 9, 10] (by decide +kernel) (by decide +kernel)
set_option maxRecDepth 20000 in
theorem gX8_site_X8_isWhat : GoodIn wsX8_site (va_wsS RX8 210 yX8_isWhat wsX8_isWhat) := goodIn_app (goodIn_of _ (by decide +kernel)) ggX8_site_X8_isWhat
set_option maxRecDepth 20000 in
theorem ggX8_site_X8_mealBehind : GoodIn wsX8_site wsX8_mealBehind := goodIn_r _ [21, 6, 22, 23, 24, 9, 25, 26, 27, 28, 29, 30, 31, 32, 33, 34, 35, 36, 37, 38, 39, 40, 41, 42, 43, 44, 7, 8, 10, 45, 46, 47, 48, 49, 50, 51, 52, 5, 53, 54, 55, 56, 57, 58, 59, 60, 61, 62, 63, 64, 65, 66, 67, 68, 69, 70, 71, 72, 73, 74, 75, 76] (by decide +kernel) (by decide +kernel)
set_option maxRecDepth 20000 in
theorem gX8_site_X8_mealBehind : GoodIn wsX8_site (wsV RX8 200 RX8 yX8_mealBehind wsX8_mealBehind) := goodIn_app (goodIn_of _ (by decide +kernel)) ggX8_site_X8_mealBehind
set_option maxRecDepth 20000 in
theorem ggX8_site_X8_putAside : GoodIn wsX8_site wsX8_putAside := goodIn_r _ [17, 5, 6, 53, 54, 55, 56, 57, 58, 59, 60, 61, 62, 63, 64, 65, 66, 67, 68, 69, 70, 71, 72, 73, 74, 75, 76] (by decide +kernel) (by decide +kernel)
set_option maxRecDepth 20000 in
theorem gX8_site_X8_putAside : GoodIn wsX8_site (wsV RX8 197 RX8 yX8_putAside wsX8_putAside) := goodIn_app (goodIn_of _ (by decide +kernel)) ggX8_site_X8_putAside
set_option maxRecDepth 20000 in
theorem ggX8_sound_X8_drifts : GoodIn wsX8_sound wsX8_drifts := goodIn_r _ [18] (by decide +kernel) (by decide +kernel)
set_option maxRecDepth 20000 in
theorem gX8_sound_X8_drifts : GoodIn wsX8_sound (va_wsS RX8 145 yX8_drifts wsX8_drifts) := goodIn_app (goodIn_of _ (by decide +kernel)) ggX8_sound_X8_drifts
set_option maxRecDepth 20000 in
theorem ggX8_sound_X8_gustOf : GoodIn wsX8_sound wsX8_gustOf := goodIn_r _ [15, 2, 19, 20, 21, 22, 23, 24, 25, 26, 27, 28, 29, 30, 31, 32, 33, 34, 35, 36, 37, 38, 39, 40, 41, 42] (by decide +kernel) (by decide +kernel)
set_option maxRecDepth 20000 in
theorem gX8_sound_X8_gustOf : GoodIn wsX8_sound (wsV RX8 151 RX8 yX8_gustOf wsX8_gustOf) := goodIn_app (goodIn_of _ (by decide +kernel)) ggX8_sound_X8_gustOf
set_option maxRecDepth 20000 in
theorem ggX8_sound_X8_isSound : GoodIn wsX8_sound wsX8_isSound := goodIn_r _ [8, 2, 9, 10, 7, 11, 19, 20, 21, 22, 23, 24, 25, 26, 27, 28, 29, 30, 31, 32, 33, 34, 35, 36, 37, 38, 39, 40, 41, 42] (by decide +kernel) (by decide +kernel)
set_option maxRecDepth 20000 in
theorem gX8_sound_X8_isSound : GoodIn wsX8_sound (wsV RX8 173 RX8 yX8_isSound wsX8_isSound) := goodIn_app (goodIn_of _ (by decide +kernel)) ggX8_sound_X8_isSound
set_option maxRecDepth 20000 in
theorem ggX8_stand_X8_those : GoodIn wsX8_stand wsX8_those := goodIn_r _ [9, 3, 10, 11, 12, 13, 14, 15, 16, 17, 18, 19, 20, 21, 22, 23, 24, 25, 26, 27, 28, 29, 30, 31, 32, 33] (by decide +kernel) (by decide +kernel)
set_option maxRecDepth 20000 in
theorem gX8_stand_X8_those : GoodIn wsX8_stand (wsV RX8 182 RX8 yX8_those wsX8_those) := goodIn_app (goodIn_of _ (by decide +kernel)) ggX8_stand_X8_those
set_option maxRecDepth 20000 in
theorem ggX8_when_X8_in : GoodIn wsX8_when wsX8_in := goodIn_r _ [12] (by decide +kernel) (by decide +kernel)
set_option maxRecDepth 20000 in
theorem gX8_when_X8_in : GoodIn wsX8_when (va_wsS RX8 57 yX8_in wsX8_in) := goodIn_app (goodIn_of _ (by decide +kernel)) ggX8_when_X8_in
set_option maxRecDepth 20000 in
theorem ggX8_when_X8_isSound : GoodIn wsX8_when wsX8_isSound := goodIn_r _ [9, 3, 10, 11, 8, 12, 45, 46, 47, 48, 49, 50, 51, 52, 53, 54, 55, 56, 57, 58, 59, 60, 61, 62, 63, 64, 65, 66, 67, 68] (by decide +kernel) (by decide +kernel)
set_option maxRecDepth 20000 in
theorem gX8_when_X8_isSound : GoodIn wsX8_when (wsV RX8 173 RX8 yX8_isSound wsX8_isSound) := goodIn_app (goodIn_of _ (by decide +kernel)) ggX8_when_X8_isSound
set_option maxRecDepth 20000 in
theorem ggX8_when_X8_oneHour : GoodIn wsX8_when wsX8_oneHour := goodIn_r _ [21, 3, 22, 23, 24, 8, 25, 26, 27, 28, 29, 30, 31, 32, 33, 34, 35, 36, 10, 11, 12, 37, 38, 39, 40, 45, 46, 47, 48, 49, 50, 51, 52, 53, 54, 55, 56, 57, 58, 59, 60, 61, 62, 63, 64, 65, 66, 67, 68] (by decide +kernel) (by decide +kernel)
set_option maxRecDepth 20000 in
theorem gX8_when_X8_oneHour : GoodIn wsX8_when (wsV RX8 167 RX8 yX8_oneHour wsX8_oneHour) := goodIn_app (goodIn_of _ (by decide +kernel)) ggX8_when_X8_oneHour
set_option maxRecDepth 20000 in
theorem ggX8_when_X8_putAside : GoodIn wsX8_when wsX8_putAside := goodIn_r _ [16, 17, 3, 45, 46, 47, 48, 49, 50, 51, 52, 53, 54, 55, 56, 57, 58, 59, 60, 61, 62, 63, 64, 65, 66, 67, 68] (by decide +kernel) (by decide +kernel)
set_option maxRecDepth 20000 in
theorem gX8_when_X8_putAside : GoodIn wsX8_when (wsV RX8 197 RX8 yX8_putAside wsX8_putAside) := goodIn_app (goodIn_of _ (by decide +kernel)) ggX8_when_X8_putAside
set_option maxRecDepth 20000 in
theorem ggX8_when_X8_takeBack : GoodIn wsX8_when wsX8_takeBack := goodIn_r _ [44, 3, 17, 45, 46, 47, 48, 49, 50, 51, 52, 53, 54, 55, 56, 57, 58, 59, 60, 61, 62, 63, 64, 65, 66, 67, 68] (by decide +kernel) (by decide +kernel)
set_option maxRecDepth 20000 in
theorem gX8_when_X8_takeBack : GoodIn wsX8_when (wsV RX8 194 RX8 yX8_takeBack wsX8_takeBack) := goodIn_app (goodIn_of _ (by decide +kernel)) ggX8_when_X8_takeBack
set_option maxRecDepth 20000 in
theorem i_X8_ahead_X8 : ∀ w ∈ u_ws RX8 TX8 24, w ∈ wsX8_ahead := by decide +kernel
set_option maxRecDepth 20000 in
theorem i_X8_caps_X8 : ∀ w ∈ u_ws RX8 TX8 24, w ∈ wsX8_caps := by decide +kernel
set_option maxRecDepth 20000 in
theorem i_X8_goTurning_X8 : ∀ w ∈ u_ws RX8 TX8 24, w ∈ wsX8_goTurning := by decide +kernel
set_option maxRecDepth 20000 in
theorem i_X8_gust_X8 : ∀ w ∈ u_ws RX8 TX8 24, w ∈ wsX8_gust := by decide +kernel
set_option maxRecDepth 20000 in
theorem i_X8_had_X8 : ∀ w ∈ u_ws RX8 TX8 24, w ∈ wsX8_had := by decide +kernel
set_option maxRecDepth 20000 in
theorem i_X8_kind_X8 : ∀ w ∈ u_ws RX8 TX8 24, w ∈ wsX8_kind := by decide +kernel
set_option maxRecDepth 20000 in
theorem i_X8_meal_X8 : ∀ w ∈ u_ws RX8 TX8 24, w ∈ wsX8_meal := by decide +kernel
set_option maxRecDepth 20000 in
theorem i_X8_mealBehind_X8 : ∀ w ∈ u_ws RX8 TX8 24, w ∈ wsX8_mealBehind := by decide +kernel
set_option maxRecDepth 20000 in
theorem i_X8_putAside_X8 : ∀ w ∈ u_ws RX8 TX8 24, w ∈ wsX8_putAside := by decide +kernel
set_option maxRecDepth 20000 in
theorem i_X8_sack_X8 : ∀ w ∈ u_ws RX8 TX8 24, w ∈ wsX8_sack := by decide +kernel
set_option maxRecDepth 20000 in
theorem i_X8_site_X8 : ∀ w ∈ u_ws RX8 TX8 24, w ∈ wsX8_site := by decide +kernel
set_option maxRecDepth 20000 in
theorem i_X8_sound_X8 : ∀ w ∈ u_ws RX8 TX8 24, w ∈ wsX8_sound := by decide +kernel
set_option maxRecDepth 20000 in
theorem i_X8_stand_X8 : ∀ w ∈ u_ws RX8 TX8 24, w ∈ wsX8_stand := by decide +kernel
set_option maxRecDepth 20000 in
theorem i_X8_takeBack_X8 : ∀ w ∈ u_ws RX8 TX8 24, w ∈ wsX8_takeBack := by decide +kernel
set_option maxRecDepth 20000 in
theorem i_X8_when_X8 : ∀ w ∈ u_ws RX8 TX8 24, w ∈ wsX8_when := by decide +kernel
