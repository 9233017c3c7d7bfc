/-- a level that is being read: cells, winds, sounds, hour 0; loudness of the first n sounds -/
def okR (f : Nat → Int32) (c w k n : Nat) : Prop := f 0 = nI c ∧ c ≤ 15 ∧ f 3 = nI w ∧ w ≤ 6 ∧ f 4 = nI k ∧ k ≤ 6 ∧ f 5 = nI 0 ∧ ∀ s : Nat, s < n → ∃ L : Nat, 1 ≤ L ∧ L ≤ 20 ∧ f (32 + s) = nI L
theorem okR_off {f g : Nat → Int32} {c w k n i : Nat} {v : Int32} (h : okR f c w k n) (e : upd f i v = g) (hi : i < 32) (h0 : i ≠ 0) (h3 : i ≠ 3) (h4 : i ≠ 4) (h5 : i ≠ 5) : okR g c w k n := by
  obtain ⟨a0, a1, a2, a3, a4, a5, a6, a7⟩ := h
  have o : ∀ j : Nat, j ≠ i → g j = f j := fun j hj => by rw [← e]; unfold upd; rw [if_neg hj]
  exact ⟨by rw [o 0 (Ne.symm h0)]; exact a0, a1, by rw [o 3 (Ne.symm h3)]; exact a2, a3, by rw [o 4 (Ne.symm h4)]; exact a4, a5, by rw [o 5 (Ne.symm h5)]; exact a6, fun s hs => by rw [o _ (by omega)]; exact a7 s hs⟩
theorem okR_3 {f g : Nat → Int32} {c w k n : Nat} (h : okR f c w k n) (e : upd f 3 (nI (w + 1)) = g) (hw : w < 6) : okR g c (w + 1) k n := by
  obtain ⟨a0, a1, a2, a3, a4, a5, a6, a7⟩ := h
  have o : ∀ j : Nat, j ≠ 3 → g j = f j := fun j hj => by rw [← e]; unfold upd; rw [if_neg hj]
  exact ⟨by rw [o 0 (by decide)]; exact a0, a1, by rw [← e]; unfold upd; rw [if_pos rfl], by omega, by rw [o 4 (by decide)]; exact a4, a5, by rw [o 5 (by decide)]; exact a6, fun s hs => by rw [o _ (by omega)]; exact a7 s hs⟩
theorem okR_4 {f g : Nat → Int32} {c w k n : Nat} (h : okR f c w k n) (e : upd f 4 (nI (k + 1)) = g) (hk : k < 6) : okR g c w (k + 1) n := by
  obtain ⟨a0, a1, a2, a3, a4, a5, a6, a7⟩ := h
  have o : ∀ j : Nat, j ≠ 4 → g j = f j := fun j hj => by rw [← e]; unfold upd; rw [if_neg hj]
  exact ⟨by rw [o 0 (by decide)]; exact a0, a1, by rw [o 3 (by decide)]; exact a2, a3, by rw [← e]; unfold upd; rw [if_pos rfl], by omega, by rw [o 5 (by decide)]; exact a6, fun s hs => by rw [o _ (by omega)]; exact a7 s hs⟩
theorem okR_0 {f g : Nat → Int32} {c w k n : Nat} {v : Int32} (h : okR f c w k n) (e : upd f 0 v = g) (hv : ¬ (v.toInt64 < (5 : Int32).toInt64 ∨ (15 : Int32).toInt64 < v.toInt64)) : ∃ cq : Nat, 5 ≤ cq ∧ okR g cq w k n := by
  obtain ⟨a0, a1, a2, a3, a4, a5, a6, a7⟩ := h
  have o : ∀ j : Nat, j ≠ 0 → g j = f j := fun j hj => by rw [← e]; unfold upd; rw [if_neg hj]
  obtain ⟨q, hq, hq5, rfl⟩ := in64 (lo := 5) (n := 15) rfl rfl (by decide) hv
  exact ⟨q, hq5, by rw [← e]; unfold upd; rw [if_pos rfl], by omega, by rw [o 3 (by decide)]; exact a2, a3, by rw [o 4 (by decide)]; exact a4, a5, by rw [o 5 (by decide)]; exact a6, fun s hs => by rw [o _ (by omega)]; exact a7 s hs⟩
theorem okR_L {f g : Nat → Int32} {c w k n : Nat} {v : Int32} (h : okR f c w k n) (e : upd f (32 + n) v = g) (hv : ¬ (v.toInt64 < (1 : Int32).toInt64 ∨ (20 : Int32).toInt64 < v.toInt64)) : okR g c w k (n + 1) := by
  obtain ⟨a0, a1, a2, a3, a4, a5, a6, a7⟩ := h
  have o : ∀ j : Nat, j ≠ 32 + n → g j = f j := fun j hj => by rw [← e]; unfold upd; rw [if_neg hj]
  obtain ⟨q, hq, hq5, rfl⟩ := in64 (lo := 1) (n := 20) rfl rfl (by decide) hv
  refine ⟨by rw [o 0 (by omega)]; exact a0, a1, by rw [o 3 (by omega)]; exact a2, a3, by rw [o 4 (by omega)]; exact a4, a5, by rw [o 5 (by omega)]; exact a6, fun s hs => ?_⟩
  by_cases z : s = n
  · subst z
    exact ⟨q, hq5, hq, by rw [← e]; unfold upd; rw [if_pos rfl]⟩
  · rw [o _ (by omega)]
    exact a7 s (by omega)
theorem okR_init {f g : Nat → Int32} (h : ∀ j : Nat, j < 38 → f j = 0) (e : upd f 6 1 = g) : okR g 0 0 0 0 := by
  have o : ∀ j : Nat, j ≠ 6 → g j = f j := fun j hj => by rw [← e]; unfold upd; rw [if_neg hj]
  exact ⟨by rw [o 0 (by decide), h 0 (by decide)]; rfl, by decide, by rw [o 3 (by decide), h 3 (by decide)]; rfl, by decide, by rw [o 4 (by decide), h 4 (by decide)]; rfl, by decide, by rw [o 5 (by decide), h 5 (by decide)]; rfl, fun s hs => absurd hs (Nat.not_lt_zero s)⟩
theorem okR_M {f : Nat → Int32} {c w k : Nat} (h : okR f c w k k) (hc : 1 ≤ c) (hw : 1 ≤ w) (hk : 1 ≤ k) : okM f w k 0 := by
  obtain ⟨a0, a1, a2, a3, a4, a5, a6, a7⟩ := h
  exact ⟨a2, a4, a6, a3, a5, ⟨fun _ => hw, fun _ => hk⟩, ⟨c, a1, fun _ => hc, a0⟩, a7⟩
theorem fl0 {F g : Nat → Int32} {i : Nat} (h : ∀ j : Nat, j < i → F j = 0) (hi : i < 2 ^ 31) (e : upd F (nI i).toNatClampNeg 0 = g) : ∀ j : Nat, j < i + 1 → g j = 0 := by
  intro j hj
  rw [nI_clamp hi] at e
  rw [← e]
  unfold upd
  split
  · rfl
  · exact h j (by omega)
theorem ms_n {a b : Int32} {n : Nat} (e1 : a = nI n) (e2 : b = nI (n + 1)) (h : n < 6) : 6 - b.toNatClampNeg < 6 - a.toNatClampNeg := by
  rw [e1, e2, nI_clamp (by omega), nI_clamp (by omega)]
  omega
theorem dX8_faults_0 : decode cX8_faults 0 = .ok (.aload_n 0, 1) := by decide +kernel
theorem dX8_faults_1 : decode cX8_faults 1 = .ok (.iload_n 1, 1) := by decide +kernel
theorem dX8_faults_2 : decode cX8_faults 2 = .ok (.putfield 105, 3) := by decide +kernel
theorem dX8_faults_5 : decode cX8_faults 5 = .ok (.iconst 0, 1) := by decide +kernel
theorem dX8_faults_6 : decode cX8_faults 6 = .ok (.ireturn, 1) := by decide +kernel
theorem dX8_level_0 : decode cX8_level 0 = .ok (.aload_n 0, 1) := by decide +kernel
theorem dX8_level_1 : decode cX8_level 1 = .ok (.invokevirtual 131, 3) := by decide +kernel
theorem dX8_level_10 : decode cX8_level 10 = .ok (.iload_n 1, 1) := by decide +kernel
theorem dX8_level_11 : decode cX8_level 11 = .ok (.ifCond .ne 19, 3) := by decide +kernel
theorem dX8_level_14 : decode cX8_level 14 = .ok (.aload_n 0, 1) := by decide +kernel
theorem dX8_level_15 : decode cX8_level 15 = .ok (.aload_n 0, 1) := by decide +kernel
theorem dX8_level_16 : decode cX8_level 16 = .ok (.getfield 105, 3) := by decide +kernel
theorem dX8_level_19 : decode cX8_level 19 = .ok (.putfield 134, 3) := by decide +kernel
theorem dX8_level_22 : decode cX8_level 22 = .ok (.ldc 137, 2) := by decide +kernel
theorem dX8_level_24 : decode cX8_level 24 = .ok (.aload_n 0, 1) := by decide +kernel
theorem dX8_level_25 : decode cX8_level 25 = .ok (.getfield 88, 3) := by decide +kernel
theorem dX8_level_28 : decode cX8_level 28 = .ok (.isub, 1) := by decide +kernel
theorem dX8_level_29 : decode cX8_level 29 = .ok (.ireturn, 1) := by decide +kernel
theorem dX8_level_30 : decode cX8_level 30 = .ok (.iconst 0, 1) := by decide +kernel
theorem dX8_level_31 : decode cX8_level 31 = .ok (.istore_n 2, 1) := by decide +kernel
theorem dX8_level_32 : decode cX8_level 32 = .ok (.iload_n 2, 1) := by decide +kernel
theorem dX8_level_33 : decode cX8_level 33 = .ok (.bipush 38, 2) := by decide +kernel
theorem dX8_level_35 : decode cX8_level 35 = .ok (.if_icmp .ge 21, 3) := by decide +kernel
theorem dX8_level_38 : decode cX8_level 38 = .ok (.aload_n 0, 1) := by decide +kernel
theorem dX8_level_39 : decode cX8_level 39 = .ok (.getfield 19, 3) := by decide +kernel
theorem dX8_level_4 : decode cX8_level 4 = .ok (.istore_n 1, 1) := by decide +kernel
theorem dX8_level_42 : decode cX8_level 42 = .ok (.iload_n 2, 1) := by decide +kernel
theorem dX8_level_43 : decode cX8_level 43 = .ok (.aload_n 0, 1) := by decide +kernel
theorem dX8_level_44 : decode cX8_level 44 = .ok (.getfield 28, 3) := by decide +kernel
theorem dX8_level_47 : decode cX8_level 47 = .ok (.iload_n 2, 1) := by decide +kernel
theorem dX8_level_48 : decode cX8_level 48 = .ok (.iaload, 1) := by decide +kernel
theorem dX8_level_49 : decode cX8_level 49 = .ok (.iastore, 1) := by decide +kernel
theorem dX8_level_5 : decode cX8_level 5 = .ok (.aload_n 0, 1) := by decide +kernel
theorem dX8_level_50 : decode cX8_level 50 = .ok (.iinc 2 1, 3) := by decide +kernel
theorem dX8_level_53 : decode cX8_level 53 = .ok (.goto (-21), 3) := by decide +kernel
theorem dX8_level_56 : decode cX8_level 56 = .ok (.aload_n 0, 1) := by decide +kernel
theorem dX8_level_57 : decode cX8_level 57 = .ok (.iconst 1, 1) := by decide +kernel
theorem dX8_level_58 : decode cX8_level 58 = .ok (.putfield 138, 3) := by decide +kernel
theorem dX8_level_6 : decode cX8_level 6 = .ok (.iconst 0, 1) := by decide +kernel
theorem dX8_level_61 : decode cX8_level 61 = .ok (.aload_n 0, 1) := by decide +kernel
theorem dX8_level_62 : decode cX8_level 62 = .ok (.iconst 0, 1) := by decide +kernel
theorem dX8_level_63 : decode cX8_level 63 = .ok (.putfield 142, 3) := by decide +kernel
theorem dX8_level_66 : decode cX8_level 66 = .ok (.aload_n 0, 1) := by decide +kernel
theorem dX8_level_67 : decode cX8_level 67 = .ok (.getfield 19, 3) := by decide +kernel
theorem dX8_level_7 : decode cX8_level 7 = .ok (.putfield 81, 3) := by decide +kernel
theorem dX8_level_70 : decode cX8_level 70 = .ok (.iconst 4, 1) := by decide +kernel
theorem dX8_level_71 : decode cX8_level 71 = .ok (.iaload, 1) := by decide +kernel
theorem dX8_level_72 : decode cX8_level 72 = .ok (.ireturn, 1) := by decide +kernel
theorem dX8_nextToken_0 : decode cX8_nextToken 0 = .ok (.aload_n 0, 1) := by decide +kernel
theorem dX8_nextToken_1 : decode cX8_nextToken 1 = .ok (.aload_n 0, 1) := by decide +kernel
theorem dX8_nextToken_10 : decode cX8_nextToken 10 = .ok (.getfield 85, 3) := by decide +kernel
theorem dX8_nextToken_100 : decode cX8_nextToken 100 = .ok (.bipush 48, 2) := by decide +kernel
theorem dX8_nextToken_102 : decode cX8_nextToken 102 = .ok (.isub, 1) := by decide +kernel
theorem dX8_nextToken_103 : decode cX8_nextToken 103 = .ok (.putfield 94, 3) := by decide +kernel
theorem dX8_nextToken_106 : decode cX8_nextToken 106 = .ok (.aload_n 0, 1) := by decide +kernel
theorem dX8_nextToken_107 : decode cX8_nextToken 107 = .ok (.dup, 1) := by decide +kernel
theorem dX8_nextToken_108 : decode cX8_nextToken 108 = .ok (.getfield 85, 3) := by decide +kernel
theorem dX8_nextToken_111 : decode cX8_nextToken 111 = .ok (.iconst 1, 1) := by decide +kernel
theorem dX8_nextToken_112 : decode cX8_nextToken 112 = .ok (.iadd, 1) := by decide +kernel
theorem dX8_nextToken_113 : decode cX8_nextToken 113 = .ok (.putfield 85, 3) := by decide +kernel
theorem dX8_nextToken_116 : decode cX8_nextToken 116 = .ok (.goto (-83), 3) := by decide +kernel
theorem dX8_nextToken_119 : decode cX8_nextToken 119 = .ok (.aload_n 0, 1) := by decide +kernel
theorem dX8_nextToken_120 : decode cX8_nextToken 120 = .ok (.getfield 85, 3) := by decide +kernel
theorem dX8_nextToken_123 : decode cX8_nextToken 123 = .ok (.aload_n 0, 1) := by decide +kernel
theorem dX8_nextToken_124 : decode cX8_nextToken 124 = .ok (.getfield 88, 3) := by decide +kernel
theorem dX8_nextToken_127 : decode cX8_nextToken 127 = .ok (.if_icmp .le 28, 3) := by decide +kernel
theorem dX8_nextToken_13 : decode cX8_nextToken 13 = .ok (.aload_n 0, 1) := by decide +kernel
theorem dX8_nextToken_130 : decode cX8_nextToken 130 = .ok (.aload_n 0, 1) := by decide +kernel
theorem dX8_nextToken_131 : decode cX8_nextToken 131 = .ok (.aload_n 0, 1) := by decide +kernel
theorem dX8_nextToken_132 : decode cX8_nextToken 132 = .ok (.getfield 85, 3) := by decide +kernel
theorem dX8_nextToken_135 : decode cX8_nextToken 135 = .ok (.aload_n 0, 1) := by decide +kernel
theorem dX8_nextToken_136 : decode cX8_nextToken 136 = .ok (.getfield 88, 3) := by decide +kernel
theorem dX8_nextToken_139 : decode cX8_nextToken 139 = .ok (.isub, 1) := by decide +kernel
theorem dX8_nextToken_14 : decode cX8_nextToken 14 = .ok (.getfield 81, 3) := by decide +kernel
theorem dX8_nextToken_140 : decode cX8_nextToken 140 = .ok (.iconst 2, 1) := by decide +kernel
theorem dX8_nextToken_141 : decode cX8_nextToken 141 = .ok (.if_icmp .le 7, 3) := by decide +kernel
theorem dX8_nextToken_144 : decode cX8_nextToken 144 = .ok (.iconst 0, 1) := by decide +kernel
theorem dX8_nextToken_145 : decode cX8_nextToken 145 = .ok (.goto 4, 3) := by decide +kernel
theorem dX8_nextToken_148 : decode cX8_nextToken 148 = .ok (.iconst 2, 1) := by decide +kernel
theorem dX8_nextToken_149 : decode cX8_nextToken 149 = .ok (.putfield 91, 3) := by decide +kernel
theorem dX8_nextToken_152 : decode cX8_nextToken 152 = .ok (.goto 77, 3) := by decide +kernel
theorem dX8_nextToken_155 : decode cX8_nextToken 155 = .ok (.aload_n 0, 1) := by decide +kernel
theorem dX8_nextToken_156 : decode cX8_nextToken 156 = .ok (.getfield 91, 3) := by decide +kernel
theorem dX8_nextToken_159 : decode cX8_nextToken 159 = .ok (.ifCond .ne 70, 3) := by decide +kernel
theorem dX8_nextToken_162 : decode cX8_nextToken 162 = .ok (.aload_n 0, 1) := by decide +kernel
theorem dX8_nextToken_163 : decode cX8_nextToken 163 = .ok (.aload_n 0, 1) := by decide +kernel
theorem dX8_nextToken_164 : decode cX8_nextToken 164 = .ok (.getfield 25, 3) := by decide +kernel
theorem dX8_nextToken_167 : decode cX8_nextToken 167 = .ok (.aload_n 0, 1) := by decide +kernel
theorem dX8_nextToken_168 : decode cX8_nextToken 168 = .ok (.getfield 85, 3) := by decide +kernel
theorem dX8_nextToken_17 : decode cX8_nextToken 17 = .ok (.if_icmp .ne 7, 3) := by decide +kernel
theorem dX8_nextToken_171 : decode cX8_nextToken 171 = .ok (.iaload, 1) := by decide +kernel
theorem dX8_nextToken_172 : decode cX8_nextToken 172 = .ok (.putfield 94, 3) := by decide +kernel
theorem dX8_nextToken_175 : decode cX8_nextToken 175 = .ok (.aload_n 0, 1) := by decide +kernel
theorem dX8_nextToken_176 : decode cX8_nextToken 176 = .ok (.aload_n 0, 1) := by decide +kernel
theorem dX8_nextToken_177 : decode cX8_nextToken 177 = .ok (.getfield 94, 3) := by decide +kernel
theorem dX8_nextToken_180 : decode cX8_nextToken 180 = .ok (.i2l, 1) := by decide +kernel
theorem dX8_nextToken_181 : decode cX8_nextToken 181 = .ok (.ldc2_w 101, 3) := by decide +kernel
theorem dX8_nextToken_184 : decode cX8_nextToken 184 = .ok (.ldc2_w 103, 3) := by decide +kernel
theorem dX8_nextToken_187 : decode cX8_nextToken 187 = .ok (.invokestatic 57, 3) := by decide +kernel
theorem dX8_nextToken_190 : decode cX8_nextToken 190 = .ok (.ifCond .ne 21, 3) := by decide +kernel
theorem dX8_nextToken_193 : decode cX8_nextToken 193 = .ok (.aload_n 0, 1) := by decide +kernel
theorem dX8_nextToken_194 : decode cX8_nextToken 194 = .ok (.getfield 94, 3) := by decide +kernel
theorem dX8_nextToken_197 : decode cX8_nextToken 197 = .ok (.bipush 44, 2) := by decide +kernel
theorem dX8_nextToken_199 : decode cX8_nextToken 199 = .ok (.if_icmp .eq 12, 3) := by decide +kernel
theorem dX8_nextToken_2 : decode cX8_nextToken 2 = .ok (.getfield 85, 3) := by decide +kernel
theorem dX8_nextToken_20 : decode cX8_nextToken 20 = .ok (.iconst 3, 1) := by decide +kernel
theorem dX8_nextToken_202 : decode cX8_nextToken 202 = .ok (.aload_n 0, 1) := by decide +kernel
theorem dX8_nextToken_203 : decode cX8_nextToken 203 = .ok (.getfield 94, 3) := by decide +kernel
theorem dX8_nextToken_206 : decode cX8_nextToken 206 = .ok (.bipush 59, 2) := by decide +kernel
theorem dX8_nextToken_208 : decode cX8_nextToken 208 = .ok (.if_icmp .ne 7, 3) := by decide +kernel
theorem dX8_nextToken_21 : decode cX8_nextToken 21 = .ok (.goto 4, 3) := by decide +kernel
theorem dX8_nextToken_211 : decode cX8_nextToken 211 = .ok (.iconst 1, 1) := by decide +kernel
theorem dX8_nextToken_212 : decode cX8_nextToken 212 = .ok (.goto 4, 3) := by decide +kernel
theorem dX8_nextToken_215 : decode cX8_nextToken 215 = .ok (.iconst 0, 1) := by decide +kernel
theorem dX8_nextToken_216 : decode cX8_nextToken 216 = .ok (.putfield 91, 3) := by decide +kernel
theorem dX8_nextToken_219 : decode cX8_nextToken 219 = .ok (.aload_n 0, 1) := by decide +kernel
theorem dX8_nextToken_220 : decode cX8_nextToken 220 = .ok (.dup, 1) := by decide +kernel
theorem dX8_nextToken_221 : decode cX8_nextToken 221 = .ok (.getfield 85, 3) := by decide +kernel
theorem dX8_nextToken_224 : decode cX8_nextToken 224 = .ok (.iconst 1, 1) := by decide +kernel
theorem dX8_nextToken_225 : decode cX8_nextToken 225 = .ok (.iadd, 1) := by decide +kernel
theorem dX8_nextToken_226 : decode cX8_nextToken 226 = .ok (.putfield 85, 3) := by decide +kernel
theorem dX8_nextToken_229 : decode cX8_nextToken 229 = .ok (.return_, 1) := by decide +kernel
theorem dX8_nextToken_24 : decode cX8_nextToken 24 = .ok (.iconst 0, 1) := by decide +kernel
theorem dX8_nextToken_25 : decode cX8_nextToken 25 = .ok (.putfield 91, 3) := by decide +kernel
theorem dX8_nextToken_28 : decode cX8_nextToken 28 = .ok (.aload_n 0, 1) := by decide +kernel
theorem dX8_nextToken_29 : decode cX8_nextToken 29 = .ok (.iconst 0, 1) := by decide +kernel
theorem dX8_nextToken_30 : decode cX8_nextToken 30 = .ok (.putfield 94, 3) := by decide +kernel
theorem dX8_nextToken_33 : decode cX8_nextToken 33 = .ok (.aload_n 0, 1) := by decide +kernel
theorem dX8_nextToken_34 : decode cX8_nextToken 34 = .ok (.getfield 85, 3) := by decide +kernel
theorem dX8_nextToken_37 : decode cX8_nextToken 37 = .ok (.aload_n 0, 1) := by decide +kernel
theorem dX8_nextToken_38 : decode cX8_nextToken 38 = .ok (.getfield 81, 3) := by decide +kernel
theorem dX8_nextToken_41 : decode cX8_nextToken 41 = .ok (.if_icmp .ge 78, 3) := by decide +kernel
theorem dX8_nextToken_44 : decode cX8_nextToken 44 = .ok (.aload_n 0, 1) := by decide +kernel
theorem dX8_nextToken_45 : decode cX8_nextToken 45 = .ok (.getfield 25, 3) := by decide +kernel
theorem dX8_nextToken_48 : decode cX8_nextToken 48 = .ok (.aload_n 0, 1) := by decide +kernel
theorem dX8_nextToken_49 : decode cX8_nextToken 49 = .ok (.getfield 85, 3) := by decide +kernel
theorem dX8_nextToken_5 : decode cX8_nextToken 5 = .ok (.putfield 88, 3) := by decide +kernel
theorem dX8_nextToken_52 : decode cX8_nextToken 52 = .ok (.iaload, 1) := by decide +kernel
theorem dX8_nextToken_53 : decode cX8_nextToken 53 = .ok (.i2l, 1) := by decide +kernel
theorem dX8_nextToken_54 : decode cX8_nextToken 54 = .ok (.ldc2_w 97, 3) := by decide +kernel
theorem dX8_nextToken_57 : decode cX8_nextToken 57 = .ok (.ldc2_w 99, 3) := by decide +kernel
theorem dX8_nextToken_60 : decode cX8_nextToken 60 = .ok (.invokestatic 57, 3) := by decide +kernel
theorem dX8_nextToken_63 : decode cX8_nextToken 63 = .ok (.ifCond .eq 56, 3) := by decide +kernel
theorem dX8_nextToken_66 : decode cX8_nextToken 66 = .ok (.aload_n 0, 1) := by decide +kernel
theorem dX8_nextToken_67 : decode cX8_nextToken 67 = .ok (.aload_n 0, 1) := by decide +kernel
theorem dX8_nextToken_68 : decode cX8_nextToken 68 = .ok (.getfield 94, 3) := by decide +kernel
theorem dX8_nextToken_71 : decode cX8_nextToken 71 = .ok (.bipush 99, 2) := by decide +kernel
theorem dX8_nextToken_73 : decode cX8_nextToken 73 = .ok (.if_icmp .le 10, 3) := by decide +kernel
theorem dX8_nextToken_76 : decode cX8_nextToken 76 = .ok (.aload_n 0, 1) := by decide +kernel
theorem dX8_nextToken_77 : decode cX8_nextToken 77 = .ok (.getfield 94, 3) := by decide +kernel
theorem dX8_nextToken_8 : decode cX8_nextToken 8 = .ok (.aload_n 0, 1) := by decide +kernel
theorem dX8_nextToken_80 : decode cX8_nextToken 80 = .ok (.goto 23, 3) := by decide +kernel
theorem dX8_nextToken_83 : decode cX8_nextToken 83 = .ok (.bipush 10, 2) := by decide +kernel
theorem dX8_nextToken_85 : decode cX8_nextToken 85 = .ok (.aload_n 0, 1) := by decide +kernel
theorem dX8_nextToken_86 : decode cX8_nextToken 86 = .ok (.getfield 94, 3) := by decide +kernel
theorem dX8_nextToken_89 : decode cX8_nextToken 89 = .ok (.imul, 1) := by decide +kernel
theorem dX8_nextToken_9 : decode cX8_nextToken 9 = .ok (.aload_n 0, 1) := by decide +kernel
theorem dX8_nextToken_90 : decode cX8_nextToken 90 = .ok (.aload_n 0, 1) := by decide +kernel
theorem dX8_nextToken_91 : decode cX8_nextToken 91 = .ok (.getfield 25, 3) := by decide +kernel
theorem dX8_nextToken_94 : decode cX8_nextToken 94 = .ok (.aload_n 0, 1) := by decide +kernel
theorem dX8_nextToken_95 : decode cX8_nextToken 95 = .ok (.getfield 85, 3) := by decide +kernel
theorem dX8_nextToken_98 : decode cX8_nextToken 98 = .ok (.iaload, 1) := by decide +kernel
theorem dX8_nextToken_99 : decode cX8_nextToken 99 = .ok (.iadd, 1) := by decide +kernel
theorem dX8_readLevel_0 : decode cX8_readLevel 0 = .ok (.aload_n 0, 1) := by decide +kernel
theorem dX8_readLevel_1 : decode cX8_readLevel 1 = .ok (.iconst 0, 1) := by decide +kernel
theorem dX8_readLevel_10 : decode cX8_readLevel 10 = .ok (.if_icmp .ge 16, 3) := by decide +kernel
theorem dX8_readLevel_100 : decode cX8_readLevel 100 = .ok (.iconst 1, 1) := by decide +kernel
theorem dX8_readLevel_101 : decode cX8_readLevel 101 = .ok (.istore_n 1, 1) := by decide +kernel
theorem dX8_readLevel_102 : decode cX8_readLevel 102 = .ok (.iload_n 1, 1) := by decide +kernel
theorem dX8_readLevel_103 : decode cX8_readLevel 103 = .ok (.ifCond .eq 28, 3) := by decide +kernel
theorem dX8_readLevel_106 : decode cX8_readLevel 106 = .ok (.aload_n 0, 1) := by decide +kernel
theorem dX8_readLevel_107 : decode cX8_readLevel 107 = .ok (.getfield 91, 3) := by decide +kernel
theorem dX8_readLevel_110 : decode cX8_readLevel 110 = .ok (.iconst 1, 1) := by decide +kernel
theorem dX8_readLevel_111 : decode cX8_readLevel 111 = .ok (.if_icmp .ne 20, 3) := by decide +kernel
theorem dX8_readLevel_114 : decode cX8_readLevel 114 = .ok (.aload_n 0, 1) := by decide +kernel
theorem dX8_readLevel_115 : decode cX8_readLevel 115 = .ok (.getfield 94, 3) := by decide +kernel
theorem dX8_readLevel_118 : decode cX8_readLevel 118 = .ok (.bipush 119, 2) := by decide +kernel
theorem dX8_readLevel_120 : decode cX8_readLevel 120 = .ok (.if_icmp .ne 11, 3) := by decide +kernel
theorem dX8_readLevel_123 : decode cX8_readLevel 123 = .ok (.aload_n 0, 1) := by decide +kernel
theorem dX8_readLevel_124 : decode cX8_readLevel 124 = .ok (.invokevirtual 124, 3) := by decide +kernel
theorem dX8_readLevel_127 : decode cX8_readLevel 127 = .ok (.istore_n 1, 1) := by decide +kernel
theorem dX8_readLevel_128 : decode cX8_readLevel 128 = .ok (.goto (-26), 3) := by decide +kernel
theorem dX8_readLevel_13 : decode cX8_readLevel 13 = .ok (.aload_n 0, 1) := by decide +kernel
theorem dX8_readLevel_131 : decode cX8_readLevel 131 = .ok (.iload_n 1, 1) := by decide +kernel
theorem dX8_readLevel_132 : decode cX8_readLevel 132 = .ok (.ifCond .eq 28, 3) := by decide +kernel
theorem dX8_readLevel_135 : decode cX8_readLevel 135 = .ok (.aload_n 0, 1) := by decide +kernel
theorem dX8_readLevel_136 : decode cX8_readLevel 136 = .ok (.getfield 91, 3) := by decide +kernel
theorem dX8_readLevel_139 : decode cX8_readLevel 139 = .ok (.iconst 3, 1) := by decide +kernel
theorem dX8_readLevel_14 : decode cX8_readLevel 14 = .ok (.getfield 28, 3) := by decide +kernel
theorem dX8_readLevel_140 : decode cX8_readLevel 140 = .ok (.if_icmp .ne 12, 3) := by decide +kernel
theorem dX8_readLevel_143 : decode cX8_readLevel 143 = .ok (.aload_n 0, 1) := by decide +kernel
theorem dX8_readLevel_144 : decode cX8_readLevel 144 = .ok (.getfield 28, 3) := by decide +kernel
theorem dX8_readLevel_147 : decode cX8_readLevel 147 = .ok (.iconst 4, 1) := by decide +kernel
theorem dX8_readLevel_148 : decode cX8_readLevel 148 = .ok (.iaload, 1) := by decide +kernel
theorem dX8_readLevel_149 : decode cX8_readLevel 149 = .ok (.ifCond .ne 11, 3) := by decide +kernel
theorem dX8_readLevel_152 : decode cX8_readLevel 152 = .ok (.aload_n 0, 1) := by decide +kernel
theorem dX8_readLevel_153 : decode cX8_readLevel 153 = .ok (.invokevirtual 128, 3) := by decide +kernel
theorem dX8_readLevel_156 : decode cX8_readLevel 156 = .ok (.istore_n 1, 1) := by decide +kernel
theorem dX8_readLevel_157 : decode cX8_readLevel 157 = .ok (.goto (-26), 3) := by decide +kernel
theorem dX8_readLevel_160 : decode cX8_readLevel 160 = .ok (.iload_n 1, 1) := by decide +kernel
theorem dX8_readLevel_161 : decode cX8_readLevel 161 = .ok (.ireturn, 1) := by decide +kernel
theorem dX8_readLevel_17 : decode cX8_readLevel 17 = .ok (.iload_n 1, 1) := by decide +kernel
theorem dX8_readLevel_18 : decode cX8_readLevel 18 = .ok (.iconst 0, 1) := by decide +kernel
theorem dX8_readLevel_19 : decode cX8_readLevel 19 = .ok (.iastore, 1) := by decide +kernel
theorem dX8_readLevel_2 : decode cX8_readLevel 2 = .ok (.putfield 85, 3) := by decide +kernel
theorem dX8_readLevel_20 : decode cX8_readLevel 20 = .ok (.iinc 1 1, 3) := by decide +kernel
theorem dX8_readLevel_23 : decode cX8_readLevel 23 = .ok (.goto (-16), 3) := by decide +kernel
theorem dX8_readLevel_26 : decode cX8_readLevel 26 = .ok (.aload_n 0, 1) := by decide +kernel
theorem dX8_readLevel_27 : decode cX8_readLevel 27 = .ok (.getfield 28, 3) := by decide +kernel
theorem dX8_readLevel_30 : decode cX8_readLevel 30 = .ok (.bipush 6, 2) := by decide +kernel
theorem dX8_readLevel_32 : decode cX8_readLevel 32 = .ok (.iconst 1, 1) := by decide +kernel
theorem dX8_readLevel_33 : decode cX8_readLevel 33 = .ok (.iastore, 1) := by decide +kernel
theorem dX8_readLevel_34 : decode cX8_readLevel 34 = .ok (.aload_n 0, 1) := by decide +kernel
theorem dX8_readLevel_35 : decode cX8_readLevel 35 = .ok (.invokevirtual 111, 3) := by decide +kernel
theorem dX8_readLevel_38 : decode cX8_readLevel 38 = .ok (.aload_n 0, 1) := by decide +kernel
theorem dX8_readLevel_39 : decode cX8_readLevel 39 = .ok (.bipush 109, 2) := by decide +kernel
theorem dX8_readLevel_41 : decode cX8_readLevel 41 = .ok (.invokevirtual 114, 3) := by decide +kernel
theorem dX8_readLevel_44 : decode cX8_readLevel 44 = .ok (.ifCond .eq 54, 3) := by decide +kernel
theorem dX8_readLevel_47 : decode cX8_readLevel 47 = .ok (.aload_n 0, 1) := by decide +kernel
theorem dX8_readLevel_48 : decode cX8_readLevel 48 = .ok (.iconst 5, 1) := by decide +kernel
theorem dX8_readLevel_49 : decode cX8_readLevel 49 = .ok (.bipush 15, 2) := by decide +kernel
theorem dX8_readLevel_5 : decode cX8_readLevel 5 = .ok (.iconst 0, 1) := by decide +kernel
theorem dX8_readLevel_51 : decode cX8_readLevel 51 = .ok (.iconst 0, 1) := by decide +kernel
theorem dX8_readLevel_52 : decode cX8_readLevel 52 = .ok (.bipush 44, 2) := by decide +kernel
theorem dX8_readLevel_54 : decode cX8_readLevel 54 = .ok (.invokevirtual 117, 3) := by decide +kernel
theorem dX8_readLevel_57 : decode cX8_readLevel 57 = .ok (.ifCond .eq 41, 3) := by decide +kernel
theorem dX8_readLevel_6 : decode cX8_readLevel 6 = .ok (.istore_n 1, 1) := by decide +kernel
theorem dX8_readLevel_60 : decode cX8_readLevel 60 = .ok (.aload_n 0, 1) := by decide +kernel
theorem dX8_readLevel_61 : decode cX8_readLevel 61 = .ok (.iconst 0, 1) := by decide +kernel
theorem dX8_readLevel_62 : decode cX8_readLevel 62 = .ok (.aload_n 0, 1) := by decide +kernel
theorem dX8_readLevel_63 : decode cX8_readLevel 63 = .ok (.getfield 28, 3) := by decide +kernel
theorem dX8_readLevel_66 : decode cX8_readLevel 66 = .ok (.iconst 0, 1) := by decide +kernel
theorem dX8_readLevel_67 : decode cX8_readLevel 67 = .ok (.iaload, 1) := by decide +kernel
theorem dX8_readLevel_68 : decode cX8_readLevel 68 = .ok (.iconst 1, 1) := by decide +kernel
theorem dX8_readLevel_69 : decode cX8_readLevel 69 = .ok (.isub, 1) := by decide +kernel
theorem dX8_readLevel_7 : decode cX8_readLevel 7 = .ok (.iload_n 1, 1) := by decide +kernel
theorem dX8_readLevel_70 : decode cX8_readLevel 70 = .ok (.iconst 1, 1) := by decide +kernel
theorem dX8_readLevel_71 : decode cX8_readLevel 71 = .ok (.bipush 44, 2) := by decide +kernel
theorem dX8_readLevel_73 : decode cX8_readLevel 73 = .ok (.invokevirtual 117, 3) := by decide +kernel
theorem dX8_readLevel_76 : decode cX8_readLevel 76 = .ok (.ifCond .eq 22, 3) := by decide +kernel
theorem dX8_readLevel_79 : decode cX8_readLevel 79 = .ok (.aload_n 0, 1) := by decide +kernel
theorem dX8_readLevel_8 : decode cX8_readLevel 8 = .ok (.bipush 38, 2) := by decide +kernel
theorem dX8_readLevel_80 : decode cX8_readLevel 80 = .ok (.iconst 0, 1) := by decide +kernel
theorem dX8_readLevel_81 : decode cX8_readLevel 81 = .ok (.iconst 4, 1) := by decide +kernel
theorem dX8_readLevel_82 : decode cX8_readLevel 82 = .ok (.iconst 2, 1) := by decide +kernel
theorem dX8_readLevel_83 : decode cX8_readLevel 83 = .ok (.bipush 59, 2) := by decide +kernel
theorem dX8_readLevel_85 : decode cX8_readLevel 85 = .ok (.invokevirtual 117, 3) := by decide +kernel
theorem dX8_readLevel_88 : decode cX8_readLevel 88 = .ok (.ifCond .eq 10, 3) := by decide +kernel
theorem dX8_readLevel_91 : decode cX8_readLevel 91 = .ok (.aload_n 0, 1) := by decide +kernel
theorem dX8_readLevel_92 : decode cX8_readLevel 92 = .ok (.invokevirtual 124, 3) := by decide +kernel
theorem dX8_readLevel_95 : decode cX8_readLevel 95 = .ok (.ifCond .ne 5, 3) := by decide +kernel
theorem dX8_readLevel_98 : decode cX8_readLevel 98 = .ok (.iconst 0, 1) := by decide +kernel
theorem dX8_readLevel_99 : decode cX8_readLevel 99 = .ok (.ireturn, 1) := by decide +kernel
theorem dX8_readSound_0 : decode cX8_readSound 0 = .ok (.aload_n 0, 1) := by decide +kernel
theorem dX8_readSound_1 : decode cX8_readSound 1 = .ok (.getfield 28, 3) := by decide +kernel
theorem dX8_readSound_101 : decode cX8_readSound 101 = .ok (.bipush 32, 2) := by decide +kernel
theorem dX8_readSound_103 : decode cX8_readSound 103 = .ok (.iload_n 1, 1) := by decide +kernel
theorem dX8_readSound_104 : decode cX8_readSound 104 = .ok (.iadd, 1) := by decide +kernel
theorem dX8_readSound_105 : decode cX8_readSound 105 = .ok (.bipush 59, 2) := by decide +kernel
theorem dX8_readSound_107 : decode cX8_readSound 107 = .ok (.invokevirtual 117, 3) := by decide +kernel
theorem dX8_readSound_11 : decode cX8_readSound 11 = .ok (.iconst 1, 1) := by decide +kernel
theorem dX8_readSound_110 : decode cX8_readSound 110 = .ok (.ifCond .eq 7, 3) := by decide +kernel
theorem dX8_readSound_113 : decode cX8_readSound 113 = .ok (.iconst 1, 1) := by decide +kernel
theorem dX8_readSound_114 : decode cX8_readSound 114 = .ok (.goto 4, 3) := by decide +kernel
theorem dX8_readSound_117 : decode cX8_readSound 117 = .ok (.iconst 0, 1) := by decide +kernel
theorem dX8_readSound_118 : decode cX8_readSound 118 = .ok (.ireturn, 1) := by decide +kernel
theorem dX8_readSound_12 : decode cX8_readSound 12 = .ok (.if_icmp .ne 13, 3) := by decide +kernel
theorem dX8_readSound_15 : decode cX8_readSound 15 = .ok (.aload_n 0, 1) := by decide +kernel
theorem dX8_readSound_16 : decode cX8_readSound 16 = .ok (.getfield 94, 3) := by decide +kernel
theorem dX8_readSound_19 : decode cX8_readSound 19 = .ok (.invokestatic 121, 3) := by decide +kernel
theorem dX8_readSound_22 : decode cX8_readSound 22 = .ok (.goto 4, 3) := by decide +kernel
theorem dX8_readSound_25 : decode cX8_readSound 25 = .ok (.iconst 0, 1) := by decide +kernel
theorem dX8_readSound_26 : decode cX8_readSound 26 = .ok (.istore_n 2, 1) := by decide +kernel
theorem dX8_readSound_27 : decode cX8_readSound 27 = .ok (.iload_n 2, 1) := by decide +kernel
theorem dX8_readSound_28 : decode cX8_readSound 28 = .ok (.ifCond .eq 9, 3) := by decide +kernel
theorem dX8_readSound_31 : decode cX8_readSound 31 = .ok (.iload_n 1, 1) := by decide +kernel
theorem dX8_readSound_32 : decode cX8_readSound 32 = .ok (.bipush 6, 2) := by decide +kernel
theorem dX8_readSound_34 : decode cX8_readSound 34 = .ok (.if_icmp .ne 17, 3) := by decide +kernel
theorem dX8_readSound_37 : decode cX8_readSound 37 = .ok (.aload_n 0, 1) := by decide +kernel
theorem dX8_readSound_38 : decode cX8_readSound 38 = .ok (.iload_n 2, 1) := by decide +kernel
theorem dX8_readSound_39 : decode cX8_readSound 39 = .ok (.ifCond .ne 7, 3) := by decide +kernel
theorem dX8_readSound_4 : decode cX8_readSound 4 = .ok (.iconst 4, 1) := by decide +kernel
theorem dX8_readSound_42 : decode cX8_readSound 42 = .ok (.iconst 1, 1) := by decide +kernel
theorem dX8_readSound_43 : decode cX8_readSound 43 = .ok (.goto 4, 3) := by decide +kernel
theorem dX8_readSound_46 : decode cX8_readSound 46 = .ok (.iconst 3, 1) := by decide +kernel
theorem dX8_readSound_47 : decode cX8_readSound 47 = .ok (.invokevirtual 108, 3) := by decide +kernel
theorem dX8_readSound_5 : decode cX8_readSound 5 = .ok (.iaload, 1) := by decide +kernel
theorem dX8_readSound_50 : decode cX8_readSound 50 = .ok (.ireturn, 1) := by decide +kernel
theorem dX8_readSound_51 : decode cX8_readSound 51 = .ok (.aload_n 0, 1) := by decide +kernel
theorem dX8_readSound_52 : decode cX8_readSound 52 = .ok (.invokevirtual 111, 3) := by decide +kernel
theorem dX8_readSound_55 : decode cX8_readSound 55 = .ok (.aload_n 0, 1) := by decide +kernel
theorem dX8_readSound_56 : decode cX8_readSound 56 = .ok (.getfield 28, 3) := by decide +kernel
theorem dX8_readSound_59 : decode cX8_readSound 59 = .ok (.bipush 14, 2) := by decide +kernel
theorem dX8_readSound_6 : decode cX8_readSound 6 = .ok (.istore_n 1, 1) := by decide +kernel
theorem dX8_readSound_61 : decode cX8_readSound 61 = .ok (.iload_n 1, 1) := by decide +kernel
theorem dX8_readSound_62 : decode cX8_readSound 62 = .ok (.iadd, 1) := by decide +kernel
theorem dX8_readSound_63 : decode cX8_readSound 63 = .ok (.iload_n 2, 1) := by decide +kernel
theorem dX8_readSound_64 : decode cX8_readSound 64 = .ok (.iastore, 1) := by decide +kernel
theorem dX8_readSound_65 : decode cX8_readSound 65 = .ok (.aload_n 0, 1) := by decide +kernel
theorem dX8_readSound_66 : decode cX8_readSound 66 = .ok (.getfield 28, 3) := by decide +kernel
theorem dX8_readSound_69 : decode cX8_readSound 69 = .ok (.iconst 4, 1) := by decide +kernel
theorem dX8_readSound_7 : decode cX8_readSound 7 = .ok (.aload_n 0, 1) := by decide +kernel
theorem dX8_readSound_70 : decode cX8_readSound 70 = .ok (.dup2, 1) := by decide +kernel
theorem dX8_readSound_71 : decode cX8_readSound 71 = .ok (.iaload, 1) := by decide +kernel
theorem dX8_readSound_72 : decode cX8_readSound 72 = .ok (.iconst 1, 1) := by decide +kernel
theorem dX8_readSound_73 : decode cX8_readSound 73 = .ok (.iadd, 1) := by decide +kernel
theorem dX8_readSound_74 : decode cX8_readSound 74 = .ok (.iastore, 1) := by decide +kernel
theorem dX8_readSound_75 : decode cX8_readSound 75 = .ok (.aload_n 0, 1) := by decide +kernel
theorem dX8_readSound_76 : decode cX8_readSound 76 = .ok (.iconst 0, 1) := by decide +kernel
theorem dX8_readSound_77 : decode cX8_readSound 77 = .ok (.aload_n 0, 1) := by decide +kernel
theorem dX8_readSound_78 : decode cX8_readSound 78 = .ok (.getfield 28, 3) := by decide +kernel
theorem dX8_readSound_8 : decode cX8_readSound 8 = .ok (.getfield 91, 3) := by decide +kernel
theorem dX8_readSound_81 : decode cX8_readSound 81 = .ok (.iconst 0, 1) := by decide +kernel
theorem dX8_readSound_82 : decode cX8_readSound 82 = .ok (.iaload, 1) := by decide +kernel
theorem dX8_readSound_83 : decode cX8_readSound 83 = .ok (.iconst 1, 1) := by decide +kernel
theorem dX8_readSound_84 : decode cX8_readSound 84 = .ok (.isub, 1) := by decide +kernel
theorem dX8_readSound_85 : decode cX8_readSound 85 = .ok (.bipush 20, 2) := by decide +kernel
theorem dX8_readSound_87 : decode cX8_readSound 87 = .ok (.iload_n 1, 1) := by decide +kernel
theorem dX8_readSound_88 : decode cX8_readSound 88 = .ok (.iadd, 1) := by decide +kernel
theorem dX8_readSound_89 : decode cX8_readSound 89 = .ok (.bipush 44, 2) := by decide +kernel
theorem dX8_readSound_91 : decode cX8_readSound 91 = .ok (.invokevirtual 117, 3) := by decide +kernel
theorem dX8_readSound_94 : decode cX8_readSound 94 = .ok (.ifCond .eq 23, 3) := by decide +kernel
theorem dX8_readSound_97 : decode cX8_readSound 97 = .ok (.aload_n 0, 1) := by decide +kernel
theorem dX8_readSound_98 : decode cX8_readSound 98 = .ok (.iconst 1, 1) := by decide +kernel
theorem dX8_readSound_99 : decode cX8_readSound 99 = .ok (.bipush 20, 2) := by decide +kernel
theorem dX8_readWind_0 : decode cX8_readWind 0 = .ok (.aload_n 0, 1) := by decide +kernel
theorem dX8_readWind_1 : decode cX8_readWind 1 = .ok (.getfield 28, 3) := by decide +kernel
theorem dX8_readWind_11 : decode cX8_readWind 11 = .ok (.iconst 1, 1) := by decide +kernel
theorem dX8_readWind_12 : decode cX8_readWind 12 = .ok (.if_icmp .ne 18, 3) := by decide +kernel
theorem dX8_readWind_15 : decode cX8_readWind 15 = .ok (.aload_n 0, 1) := by decide +kernel
theorem dX8_readWind_16 : decode cX8_readWind 16 = .ok (.getfield 94, 3) := by decide +kernel
theorem dX8_readWind_19 : decode cX8_readWind 19 = .ok (.bipush 119, 2) := by decide +kernel
theorem dX8_readWind_21 : decode cX8_readWind 21 = .ok (.if_icmp .ne 9, 3) := by decide +kernel
theorem dX8_readWind_24 : decode cX8_readWind 24 = .ok (.iload_n 1, 1) := by decide +kernel
theorem dX8_readWind_25 : decode cX8_readWind 25 = .ok (.bipush 6, 2) := by decide +kernel
theorem dX8_readWind_27 : decode cX8_readWind 27 = .ok (.if_icmp .ne 30, 3) := by decide +kernel
theorem dX8_readWind_30 : decode cX8_readWind 30 = .ok (.aload_n 0, 1) := by decide +kernel
theorem dX8_readWind_31 : decode cX8_readWind 31 = .ok (.aload_n 0, 1) := by decide +kernel
theorem dX8_readWind_32 : decode cX8_readWind 32 = .ok (.getfield 91, 3) := by decide +kernel
theorem dX8_readWind_35 : decode cX8_readWind 35 = .ok (.iconst 1, 1) := by decide +kernel
theorem dX8_readWind_36 : decode cX8_readWind 36 = .ok (.if_icmp .ne 16, 3) := by decide +kernel
theorem dX8_readWind_39 : decode cX8_readWind 39 = .ok (.aload_n 0, 1) := by decide +kernel
theorem dX8_readWind_4 : decode cX8_readWind 4 = .ok (.iconst 3, 1) := by decide +kernel
theorem dX8_readWind_40 : decode cX8_readWind 40 = .ok (.getfield 94, 3) := by decide +kernel
theorem dX8_readWind_43 : decode cX8_readWind 43 = .ok (.bipush 119, 2) := by decide +kernel
theorem dX8_readWind_45 : decode cX8_readWind 45 = .ok (.if_icmp .ne 7, 3) := by decide +kernel
theorem dX8_readWind_48 : decode cX8_readWind 48 = .ok (.iconst 3, 1) := by decide +kernel
theorem dX8_readWind_49 : decode cX8_readWind 49 = .ok (.goto 4, 3) := by decide +kernel
theorem dX8_readWind_5 : decode cX8_readWind 5 = .ok (.iaload, 1) := by decide +kernel
theorem dX8_readWind_52 : decode cX8_readWind 52 = .ok (.iconst 1, 1) := by decide +kernel
theorem dX8_readWind_53 : decode cX8_readWind 53 = .ok (.invokevirtual 108, 3) := by decide +kernel
theorem dX8_readWind_56 : decode cX8_readWind 56 = .ok (.ireturn, 1) := by decide +kernel
theorem dX8_readWind_57 : decode cX8_readWind 57 = .ok (.aload_n 0, 1) := by decide +kernel
theorem dX8_readWind_58 : decode cX8_readWind 58 = .ok (.invokevirtual 111, 3) := by decide +kernel
theorem dX8_readWind_6 : decode cX8_readWind 6 = .ok (.istore_n 1, 1) := by decide +kernel
theorem dX8_readWind_61 : decode cX8_readWind 61 = .ok (.aload_n 0, 1) := by decide +kernel
theorem dX8_readWind_62 : decode cX8_readWind 62 = .ok (.getfield 28, 3) := by decide +kernel
theorem dX8_readWind_65 : decode cX8_readWind 65 = .ok (.iconst 3, 1) := by decide +kernel
theorem dX8_readWind_66 : decode cX8_readWind 66 = .ok (.dup2, 1) := by decide +kernel
theorem dX8_readWind_67 : decode cX8_readWind 67 = .ok (.iaload, 1) := by decide +kernel
theorem dX8_readWind_68 : decode cX8_readWind 68 = .ok (.iconst 1, 1) := by decide +kernel
theorem dX8_readWind_69 : decode cX8_readWind 69 = .ok (.iadd, 1) := by decide +kernel
theorem dX8_readWind_7 : decode cX8_readWind 7 = .ok (.aload_n 0, 1) := by decide +kernel
theorem dX8_readWind_70 : decode cX8_readWind 70 = .ok (.iastore, 1) := by decide +kernel
theorem dX8_readWind_71 : decode cX8_readWind 71 = .ok (.aload_n 0, 1) := by decide +kernel
theorem dX8_readWind_72 : decode cX8_readWind 72 = .ok (.iconst 0, 1) := by decide +kernel
theorem dX8_readWind_73 : decode cX8_readWind 73 = .ok (.iconst 4, 1) := by decide +kernel
theorem dX8_readWind_74 : decode cX8_readWind 74 = .ok (.bipush 8, 2) := by decide +kernel
theorem dX8_readWind_76 : decode cX8_readWind 76 = .ok (.iload_n 1, 1) := by decide +kernel
theorem dX8_readWind_77 : decode cX8_readWind 77 = .ok (.iadd, 1) := by decide +kernel
theorem dX8_readWind_78 : decode cX8_readWind 78 = .ok (.bipush 59, 2) := by decide +kernel
theorem dX8_readWind_8 : decode cX8_readWind 8 = .ok (.getfield 91, 3) := by decide +kernel
theorem dX8_readWind_80 : decode cX8_readWind 80 = .ok (.invokevirtual 117, 3) := by decide +kernel
theorem dX8_readWind_83 : decode cX8_readWind 83 = .ok (.ireturn, 1) := by decide +kernel
theorem dX8_takesNumber_0 : decode cX8_takesNumber 0 = .ok (.aload_n 0, 1) := by decide +kernel
theorem dX8_takesNumber_1 : decode cX8_takesNumber 1 = .ok (.getfield 91, 3) := by decide +kernel
theorem dX8_takesNumber_12 : decode cX8_takesNumber 12 = .ok (.i2l, 1) := by decide +kernel
theorem dX8_takesNumber_13 : decode cX8_takesNumber 13 = .ok (.iload_n 1, 1) := by decide +kernel
theorem dX8_takesNumber_14 : decode cX8_takesNumber 14 = .ok (.i2l, 1) := by decide +kernel
theorem dX8_takesNumber_15 : decode cX8_takesNumber 15 = .ok (.iload_n 2, 1) := by decide +kernel
theorem dX8_takesNumber_16 : decode cX8_takesNumber 16 = .ok (.i2l, 1) := by decide +kernel
theorem dX8_takesNumber_17 : decode cX8_takesNumber 17 = .ok (.invokestatic 57, 3) := by decide +kernel
theorem dX8_takesNumber_20 : decode cX8_takesNumber 20 = .ok (.ifCond .ne 21, 3) := by decide +kernel
theorem dX8_takesNumber_23 : decode cX8_takesNumber 23 = .ok (.aload_n 0, 1) := by decide +kernel
theorem dX8_takesNumber_24 : decode cX8_takesNumber 24 = .ok (.aload_n 0, 1) := by decide +kernel
theorem dX8_takesNumber_25 : decode cX8_takesNumber 25 = .ok (.getfield 91, 3) := by decide +kernel
theorem dX8_takesNumber_28 : decode cX8_takesNumber 28 = .ok (.iconst 2, 1) := by decide +kernel
theorem dX8_takesNumber_29 : decode cX8_takesNumber 29 = .ok (.if_icmp .ne 7, 3) := by decide +kernel
theorem dX8_takesNumber_32 : decode cX8_takesNumber 32 = .ok (.iconst 2, 1) := by decide +kernel
theorem dX8_takesNumber_33 : decode cX8_takesNumber 33 = .ok (.goto 4, 3) := by decide +kernel
theorem dX8_takesNumber_36 : decode cX8_takesNumber 36 = .ok (.iconst 1, 1) := by decide +kernel
theorem dX8_takesNumber_37 : decode cX8_takesNumber 37 = .ok (.invokevirtual 108, 3) := by decide +kernel
theorem dX8_takesNumber_4 : decode cX8_takesNumber 4 = .ok (.iconst 2, 1) := by decide +kernel
theorem dX8_takesNumber_40 : decode cX8_takesNumber 40 = .ok (.ireturn, 1) := by decide +kernel
theorem dX8_takesNumber_41 : decode cX8_takesNumber 41 = .ok (.aload_n 0, 1) := by decide +kernel
theorem dX8_takesNumber_42 : decode cX8_takesNumber 42 = .ok (.getfield 28, 3) := by decide +kernel
theorem dX8_takesNumber_45 : decode cX8_takesNumber 45 = .ok (.iload_n 3, 1) := by decide +kernel
theorem dX8_takesNumber_46 : decode cX8_takesNumber 46 = .ok (.aload_n 0, 1) := by decide +kernel
theorem dX8_takesNumber_47 : decode cX8_takesNumber 47 = .ok (.getfield 94, 3) := by decide +kernel
theorem dX8_takesNumber_5 : decode cX8_takesNumber 5 = .ok (.if_icmp .ne 18, 3) := by decide +kernel
theorem dX8_takesNumber_50 : decode cX8_takesNumber 50 = .ok (.iastore, 1) := by decide +kernel
theorem dX8_takesNumber_51 : decode cX8_takesNumber 51 = .ok (.aload_n 0, 1) := by decide +kernel
theorem dX8_takesNumber_52 : decode cX8_takesNumber 52 = .ok (.invokevirtual 111, 3) := by decide +kernel
theorem dX8_takesNumber_55 : decode cX8_takesNumber 55 = .ok (.aload_n 0, 1) := by decide +kernel
theorem dX8_takesNumber_56 : decode cX8_takesNumber 56 = .ok (.iload 4, 2) := by decide +kernel
theorem dX8_takesNumber_58 : decode cX8_takesNumber 58 = .ok (.invokevirtual 114, 3) := by decide +kernel
theorem dX8_takesNumber_61 : decode cX8_takesNumber 61 = .ok (.ireturn, 1) := by decide +kernel
theorem dX8_takesNumber_8 : decode cX8_takesNumber 8 = .ok (.aload_n 0, 1) := by decide +kernel
theorem dX8_takesNumber_9 : decode cX8_takesNumber 9 = .ok (.getfield 94, 3) := by decide +kernel
theorem dX8_takes_0 : decode cX8_takes 0 = .ok (.aload_n 0, 1) := by decide +kernel
theorem dX8_takes_1 : decode cX8_takes 1 = .ok (.getfield 91, 3) := by decide +kernel
theorem dX8_takes_12 : decode cX8_takes 12 = .ok (.iload_n 1, 1) := by decide +kernel
theorem dX8_takes_13 : decode cX8_takes 13 = .ok (.if_icmp .eq 9, 3) := by decide +kernel
theorem dX8_takes_16 : decode cX8_takes 16 = .ok (.aload_n 0, 1) := by decide +kernel
theorem dX8_takes_17 : decode cX8_takes 17 = .ok (.iconst 1, 1) := by decide +kernel
theorem dX8_takes_18 : decode cX8_takes 18 = .ok (.invokevirtual 108, 3) := by decide +kernel
theorem dX8_takes_21 : decode cX8_takes 21 = .ok (.ireturn, 1) := by decide +kernel
theorem dX8_takes_22 : decode cX8_takes 22 = .ok (.aload_n 0, 1) := by decide +kernel
theorem dX8_takes_23 : decode cX8_takes 23 = .ok (.invokevirtual 111, 3) := by decide +kernel
theorem dX8_takes_26 : decode cX8_takes 26 = .ok (.iconst 1, 1) := by decide +kernel
theorem dX8_takes_27 : decode cX8_takes 27 = .ok (.ireturn, 1) := by decide +kernel
theorem dX8_takes_4 : decode cX8_takes 4 = .ok (.iconst 1, 1) := by decide +kernel
theorem dX8_takes_5 : decode cX8_takes 5 = .ok (.if_icmp .ne 11, 3) := by decide +kernel
theorem dX8_takes_8 : decode cX8_takes 8 = .ok (.aload_n 0, 1) := by decide +kernel
theorem dX8_takes_9 : decode cX8_takes 9 = .ok (.getfield 94, 3) := by decide +kernel
set_option maxRecDepth 20000 in
theorem ggX8_level_X8_readLevel : GoodIn wsX8_level wsX8_readLevel := goodIn_r _ [14, 15, 7, 16, 17, 18, 19, 20, 13, 21, 5, 1, 22, 23, 24, 25, 26, 27, 28, 29, 30, 31, 32, 33, 34, 35, 36, 37, 2, 38, 39, 40, 41, 42, 43, 44, 45, 46, 47, 48, 49, 50, 51, 52, 53, 54, 55, 56, 57, 58, 59, 60, 61, 62, 63, 64, 65, 66, 67, 68, 69, 70, 71, 72, 73, 74, 75, 76] (by decide +kernel) (by decide +kernel)
set_option maxRecDepth 20000 in
theorem gX8_level_X8_readLevel : GoodIn wsX8_level (wsV RX8 131 RX8 yX8_readLevel wsX8_readLevel) := goodIn_app (goodIn_of _ (by decide +kernel)) ggX8_level_X8_readLevel
set_option maxRecDepth 20000 in
theorem ggX8_nextToken_X8_in : GoodIn wsX8_nextToken wsX8_in := goodIn_r _ [14] (by decide +kernel) (by decide +kernel)
set_option maxRecDepth 20000 in
theorem gX8_nextToken_X8_in : GoodIn wsX8_nextToken (va_wsS RX8 57 yX8_in wsX8_in) := goodIn_app (goodIn_of _ (by decide +kernel)) ggX8_nextToken_X8_in
set_option maxRecDepth 20000 in
theorem ggX8_readLevel_X8_nextToken : GoodIn wsX8_readLevel wsX8_nextToken := goodIn_r _ [9, 1, 10, 11, 3, 4, 12, 13, 14, 15, 16, 17, 18, 8, 19, 44, 45, 46, 47, 48, 49, 50, 51, 52, 53, 54, 55, 56, 57, 58, 59, 60, 61, 62, 63, 64, 65, 66, 67] (by decide +kernel) (by decide +kernel)
set_option maxRecDepth 20000 in
theorem gX8_readLevel_X8_nextToken : GoodIn wsX8_readLevel (wsV RX8 111 RX8 yX8_nextToken wsX8_nextToken) := goodIn_app (goodIn_of _ (by decide +kernel)) ggX8_readLevel_X8_nextToken
set_option maxRecDepth 20000 in
theorem ggX8_readLevel_X8_readSound : GoodIn wsX8_readLevel wsX8_readSound := goodIn_r _ [40, 2, 3, 4, 41, 42, 8, 43, 24, 25, 26, 27, 28, 5, 6, 7, 9, 1, 10, 11, 12, 13, 14, 15, 16, 17, 18, 19, 29, 30, 31, 32, 20, 21, 22, 23, 44, 45, 46, 47, 48, 49, 50, 51, 52, 53, 54, 55, 56, 57, 58, 59, 60, 61, 62, 63, 64, 65, 66, 67] (by decide +kernel) (by decide +kernel)
set_option maxRecDepth 20000 in
theorem gX8_readLevel_X8_readSound : GoodIn wsX8_readLevel (wsV RX8 128 RX8 yX8_readSound wsX8_readSound) := goodIn_app (goodIn_of _ (by decide +kernel)) ggX8_readLevel_X8_readSound
set_option maxRecDepth 20000 in
theorem ggX8_readLevel_X8_readWind : GoodIn wsX8_readLevel wsX8_readWind := goodIn_r _ [36, 2, 3, 4, 24, 25, 26, 8, 27, 28, 5, 6, 7, 9, 1, 10, 11, 12, 13, 14, 15, 16, 17, 18, 19, 29, 30, 31, 32, 20, 21, 22, 23, 44, 45, 46, 47, 48, 49, 50, 51, 52, 53, 54, 55, 56, 57, 58, 59, 60, 61, 62, 63, 64, 65, 66, 67] (by decide +kernel) (by decide +kernel)
set_option maxRecDepth 20000 in
theorem gX8_readLevel_X8_readWind : GoodIn wsX8_readLevel (wsV RX8 124 RX8 yX8_readWind wsX8_readWind) := goodIn_app (goodIn_of _ (by decide +kernel)) ggX8_readLevel_X8_readWind
set_option maxRecDepth 20000 in
theorem ggX8_readLevel_X8_takes : GoodIn wsX8_readLevel wsX8_takes := goodIn_r _ [23, 3, 4, 24, 25, 26, 8, 27, 28, 5, 6, 7, 9, 1, 10, 11, 12, 13, 14, 15, 16, 17, 18, 19, 44, 45, 46, 47, 48, 49, 50, 51, 52, 53, 54, 55, 56, 57, 58, 59, 60, 61, 62, 63, 64, 65, 66, 67] (by decide +kernel) (by decide +kernel)
set_option maxRecDepth 20000 in
theorem gX8_readLevel_X8_takes : GoodIn wsX8_readLevel (wsV RX8 114 RX8 yX8_takes wsX8_takes) := goodIn_app (goodIn_of _ (by decide +kernel)) ggX8_readLevel_X8_takes
set_option maxRecDepth 20000 in
theorem ggX8_readLevel_X8_takesNumber : GoodIn wsX8_readLevel wsX8_takesNumber := goodIn_r _ [32, 3, 4, 2, 17, 18, 8, 19, 24, 25, 26, 27, 28, 5, 6, 7, 9, 1, 10, 11, 12, 13, 14, 15, 16, 20, 21, 22, 23, 44, 45, 46, 47, 48, 49, 50, 51, 52, 53, 54, 55, 56, 57, 58, 59, 60, 61, 62, 63, 64, 65, 66, 67] (by decide +kernel) (by decide +kernel)
set_option maxRecDepth 20000 in
theorem gX8_readLevel_X8_takesNumber : GoodIn wsX8_readLevel (wsV RX8 117 RX8 yX8_takesNumber wsX8_takesNumber) := goodIn_app (goodIn_of _ (by decide +kernel)) ggX8_readLevel_X8_takesNumber
set_option maxRecDepth 20000 in
theorem ggX8_readSound_X8_faults : GoodIn wsX8_readSound wsX8_faults := goodIn_r _ [11, 12, 36, 37, 38, 39, 40, 41, 42, 43, 44, 45, 46, 47, 48, 49, 50, 51, 52, 53, 54, 55, 56, 57, 58, 59] (by decide +kernel) (by decide +kernel)
set_option maxRecDepth 20000 in
theorem gX8_readSound_X8_faults : GoodIn wsX8_readSound (wsV RX8 108 RX8 yX8_faults wsX8_faults) := goodIn_app (goodIn_of _ (by decide +kernel)) ggX8_readSound_X8_faults
set_option maxRecDepth 20000 in
theorem ggX8_readSound_X8_kindBy : GoodIn wsX8_readSound wsX8_kindBy := goodIn_r _ [7] (by decide +kernel) (by decide +kernel)
set_option maxRecDepth 20000 in
theorem gX8_readSound_X8_kindBy : GoodIn wsX8_readSound (va_wsS RX8 121 yX8_kindBy wsX8_kindBy) := goodIn_app (goodIn_of _ (by decide +kernel)) ggX8_readSound_X8_kindBy
set_option maxRecDepth 20000 in
theorem ggX8_readSound_X8_nextToken : GoodIn wsX8_readSound wsX8_nextToken := goodIn_r _ [16, 17, 18, 19, 2, 3, 20, 21, 22, 23, 24, 25, 26, 6, 27, 36, 37, 38, 39, 40, 41, 42, 43, 44, 45, 46, 47, 48, 49, 50, 51, 52, 53, 54, 55, 56, 57, 58, 59] (by decide +kernel) (by decide +kernel)
set_option maxRecDepth 20000 in
theorem gX8_readSound_X8_nextToken : GoodIn wsX8_readSound (wsV RX8 111 RX8 yX8_nextToken wsX8_nextToken) := goodIn_app (goodIn_of _ (by decide +kernel)) ggX8_readSound_X8_nextToken
set_option maxRecDepth 20000 in
theorem ggX8_readSound_X8_takesNumber : GoodIn wsX8_readSound wsX8_takesNumber := goodIn_r _ [31, 2, 3, 1, 25, 26, 6, 27, 8, 9, 10, 11, 12, 13, 14, 15, 16, 17, 18, 19, 20, 21, 22, 23, 24, 32, 33, 34, 35, 36, 37, 38, 39, 40, 41, 42, 43, 44, 45, 46, 47, 48, 49, 50, 51, 52, 53, 54, 55, 56, 57, 58, 59] (by decide +kernel) (by decide +kernel)
set_option maxRecDepth 20000 in
theorem gX8_readSound_X8_takesNumber : GoodIn wsX8_readSound (wsV RX8 117 RX8 yX8_takesNumber wsX8_takesNumber) := goodIn_app (goodIn_of _ (by decide +kernel)) ggX8_readSound_X8_takesNumber
set_option maxRecDepth 20000 in
theorem ggX8_readWind_X8_faults : GoodIn wsX8_readWind wsX8_faults := goodIn_r _ [8, 9, 33, 34, 35, 36, 37, 38, 39, 40, 41, 42, 43, 44, 45, 46, 47, 48, 49, 50, 51, 52, 53, 54, 55, 56] (by decide +kernel) (by decide +kernel)
set_option maxRecDepth 20000 in
theorem gX8_readWind_X8_faults : GoodIn wsX8_readWind (wsV RX8 108 RX8 yX8_faults wsX8_faults) := goodIn_app (goodIn_of _ (by decide +kernel)) ggX8_readWind_X8_faults
set_option maxRecDepth 20000 in
theorem ggX8_readWind_X8_nextToken : GoodIn wsX8_readWind wsX8_nextToken := goodIn_r _ [13, 14, 15, 16, 2, 3, 17, 18, 19, 20, 21, 22, 23, 7, 24, 33, 34, 35, 36, 37, 38, 39, 40, 41, 42, 43, 44, 45, 46, 47, 48, 49, 50, 51, 52, 53, 54, 55, 56] (by decide +kernel) (by decide +kernel)
set_option maxRecDepth 20000 in
theorem gX8_readWind_X8_nextToken : GoodIn wsX8_readWind (wsV RX8 111 RX8 yX8_nextToken wsX8_nextToken) := goodIn_app (goodIn_of _ (by decide +kernel)) ggX8_readWind_X8_nextToken
set_option maxRecDepth 20000 in
theorem ggX8_readWind_X8_takesNumber : GoodIn wsX8_readWind wsX8_takesNumber := goodIn_r _ [28, 2, 3, 1, 22, 23, 7, 24, 4, 5, 6, 8, 9, 10, 11, 12, 13, 14, 15, 16, 17, 18, 19, 20, 21, 29, 30, 31, 32, 33, 34, 35, 36, 37, 38, 39, 40, 41, 42, 43, 44, 45, 46, 47, 48, 49, 50, 51, 52, 53, 54, 55, 56] (by decide +kernel) (by decide +kernel)
set_option maxRecDepth 20000 in
theorem gX8_readWind_X8_takesNumber : GoodIn wsX8_readWind (wsV RX8 117 RX8 yX8_takesNumber wsX8_takesNumber) := goodIn_app (goodIn_of _ (by decide +kernel)) ggX8_readWind_X8_takesNumber
set_option maxRecDepth 20000 in
theorem ggX8_takesNumber_X8_faults : GoodIn wsX8_takesNumber wsX8_faults := goodIn_r _ [11, 12, 29, 30, 31, 32, 33, 34, 35, 36, 37, 38, 39, 40, 41, 42, 43, 44, 45, 46, 47, 48, 49, 50, 51, 52] (by decide +kernel) (by decide +kernel)
set_option maxRecDepth 20000 in
theorem gX8_takesNumber_X8_faults : GoodIn wsX8_takesNumber (wsV RX8 108 RX8 yX8_faults wsX8_faults) := goodIn_app (goodIn_of _ (by decide +kernel)) ggX8_takesNumber_X8_faults
set_option maxRecDepth 20000 in
theorem ggX8_takesNumber_X8_in : GoodIn wsX8_takesNumber wsX8_in := goodIn_r _ [7] (by decide +kernel) (by decide +kernel)
set_option maxRecDepth 20000 in
theorem gX8_takesNumber_X8_in : GoodIn wsX8_takesNumber (va_wsS RX8 57 yX8_in wsX8_in) := goodIn_app (goodIn_of _ (by decide +kernel)) ggX8_takesNumber_X8_in
set_option maxRecDepth 20000 in
theorem ggX8_takesNumber_X8_nextToken : GoodIn wsX8_takesNumber wsX8_nextToken := goodIn_r _ [16, 17, 18, 19, 1, 2, 20, 21, 22, 23, 24, 4, 5, 6, 7, 29, 30, 31, 32, 33, 34, 35, 36, 37, 38, 39, 40, 41, 42, 43, 44, 45, 46, 47, 48, 49, 50, 51, 52] (by decide +kernel) (by decide +kernel)
set_option maxRecDepth 20000 in
theorem gX8_takesNumber_X8_nextToken : GoodIn wsX8_takesNumber (wsV RX8 111 RX8 yX8_nextToken wsX8_nextToken) := goodIn_app (goodIn_of _ (by decide +kernel)) ggX8_takesNumber_X8_nextToken
set_option maxRecDepth 20000 in
theorem ggX8_takesNumber_X8_takes : GoodIn wsX8_takesNumber wsX8_takes := goodIn_r _ [28, 1, 2, 8, 9, 10, 6, 11, 12, 13, 14, 15, 16, 17, 18, 19, 20, 21, 22, 23, 24, 4, 5, 7, 29, 30, 31, 32, 33, 34, 35, 36, 37, 38, 39, 40, 41, 42, 43, 44, 45, 46, 47, 48, 49, 50, 51, 52] (by decide +kernel) (by decide +kernel)
set_option maxRecDepth 20000 in
theorem gX8_takesNumber_X8_takes : GoodIn wsX8_takesNumber (wsV RX8 114 RX8 yX8_takes wsX8_takes) := goodIn_app (goodIn_of _ (by decide +kernel)) ggX8_takesNumber_X8_takes
set_option maxRecDepth 20000 in
theorem ggX8_takes_X8_faults : GoodIn wsX8_takes wsX8_faults := goodIn_r _ [7, 8, 24, 25, 26, 27, 28, 29, 30, 31, 32, 33, 34, 35, 36, 37, 38, 39, 40, 41, 42, 43, 44, 45, 46, 47] (by decide +kernel) (by decide +kernel)
set_option maxRecDepth 20000 in
theorem gX8_takes_X8_faults : GoodIn wsX8_takes (wsV RX8 108 RX8 yX8_faults wsX8_faults) := goodIn_app (goodIn_of _ (by decide +kernel)) ggX8_takes_X8_faults
set_option maxRecDepth 20000 in
theorem ggX8_takes_X8_nextToken : GoodIn wsX8_takes wsX8_nextToken := goodIn_r _ [12, 13, 14, 15, 1, 2, 16, 17, 18, 19, 20, 21, 22, 6, 23, 24, 25, 26, 27, 28, 29, 30, 31, 32, 33, 34, 35, 36, 37, 38, 39, 40, 41, 42, 43, 44, 45, 46, 47] (by decide +kernel) (by decide +kernel)
set_option maxRecDepth 20000 in
theorem gX8_takes_X8_nextToken : GoodIn wsX8_takes (wsV RX8 111 RX8 yX8_nextToken wsX8_nextToken) := goodIn_app (goodIn_of _ (by decide +kernel)) ggX8_takes_X8_nextToken
set_option maxRecDepth 20000 in
theorem i_X8_faults_X8 : ∀ w ∈ u_ws RX8 TX8 24, w ∈ wsX8_faults := by decide +kernel
set_option maxRecDepth 20000 in
theorem i_X8_level_X8 : ∀ w ∈ u_ws RX8 TX8 24, w ∈ wsX8_level := by decide +kernel
set_option maxRecDepth 20000 in
theorem i_X8_nextToken_X8 : ∀ w ∈ u_ws RX8 TX8 24, w ∈ wsX8_nextToken := by decide +kernel
set_option maxRecDepth 20000 in
theorem i_X8_readLevel_X8 : ∀ w ∈ u_ws RX8 TX8 24, w ∈ wsX8_readLevel := by decide +kernel
set_option maxRecDepth 20000 in
theorem i_X8_readSound_X8 : ∀ w ∈ u_ws RX8 TX8 24, w ∈ wsX8_readSound := by decide +kernel
set_option maxRecDepth 20000 in
theorem i_X8_readWind_X8 : ∀ w ∈ u_ws RX8 TX8 24, w ∈ wsX8_readWind := by decide +kernel
set_option maxRecDepth 20000 in
theorem i_X8_takes_X8 : ∀ w ∈ u_ws RX8 TX8 24, w ∈ wsX8_takes := by decide +kernel
set_option maxRecDepth 20000 in
theorem i_X8_takesNumber_X8 : ∀ w ∈ u_ws RX8 TX8 24, w ∈ wsX8_takesNumber := by decide +kernel
