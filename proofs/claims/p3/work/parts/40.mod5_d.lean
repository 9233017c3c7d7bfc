theorem p10_nz {w : Nat} (h : w ≤ 6) : ¬ lN (10 ^ w) = 0 := by
  rcases (show w = 0 ∨ w = 1 ∨ w = 2 ∨ w = 3 ∨ w = 4 ∨ w = 5 ∨ w = 6 by omega) with rfl | rfl | rfl | rfl | rfl | rfl | rfl <;> decide
def okKP (fk fq : Nat → Int32) : Prop := ∀ r : Nat, r < 2 → ¬ fk r = 0 → okK (fun j => fq (38 * r + j))
theorem kp_set {fk gk fq gq src : Nat → Int32} {n : Nat} {v : Int32} (h : okKP fk fq) (hn : n ≤ 1) (hs : okK src) (hk : upd fk (nI n).toNatClampNeg v = gk) (e1 : ∀ j : Nat, j < 38 → gq (38 * n + j) = src j) (e2 : ∀ j : Nat, j < 38 * n ∨ 38 * n + 38 ≤ j → gq j = fq j) : okKP gk gq := by
  intro r hr hz
  rw [nI_clamp (by omega)] at hk
  by_cases q : r = n
  · subst q
    exact okK_eq hs e1
  · rw [← hk] at hz
    unfold upd at hz
    rw [if_neg q] at hz
    exact okK_eq (h r hr hz) (fun j hj => e2 _ (by omega))
theorem sz_up {f g : Nat → Int32} {j n : Nat} (h : ∀ j : Nat, j < 8 → f j = -1 ∨ ∃ q : Nat, q ≤ 40 ∧ f j = nI q) (hj : j < 2 ^ 31) (hn : n ≤ 40) (e : upd f (nI j).toNatClampNeg (nI n) = g) : ∀ j : Nat, j < 8 → g j = -1 ∨ ∃ q : Nat, q ≤ 40 ∧ g j = nI q := by
  intro i hi
  rw [← e]
  unfold upd
  split
  · exact Or.inr ⟨n, hn, rfl⟩
  · exact h i hi
theorem sz_dn {f g : Nat → Int32} {j : Int32} (h : ∀ j : Nat, j < 8 → f j = -1 ∨ ∃ q : Nat, q ≤ 40 ∧ f j = nI q) (e : upd f j.toNatClampNeg (-1) = g) : ∀ j : Nat, j < 8 → g j = -1 ∨ ∃ q : Nat, q ≤ 40 ∧ g j = nI q := by
  intro i hi
  rw [← e]
  unfold upd
  split
  · exact Or.inl rfl
  · exact h i hi
theorem ar_1 {a b n : Int32} (h : a < 0 ∨ 8 ≤ a) : -1000001 = an_row a b n := by
  unfold an_row
  rw [if_pos (Or.inl h)]
theorem ar_2 {a b n : Int32} (h : b.toInt64 < 0 ∨ 2 < b.toInt64) : -1000001 = an_row a b n := by
  unfold an_row
  rw [if_pos (Or.inr (Or.inl (lane64.mp h)))]
theorem ar_3 {a b n : Int32} (h : ¬ n ≤ 40) : -1000001 = an_row a b n := by
  unfold an_row
  rw [if_pos (Or.inr (Or.inr h))]
theorem ar_no {a b n : Int32} (h1 : vp_in a 8) (h2 : ¬ (b.toInt64 < 0 ∨ 2 < b.toInt64)) (h3 : n ≤ 40) : ¬ ((a < 0 ∨ 8 ≤ a) ∨ (b < 0 ∨ 2 < b) ∨ ¬ n ≤ 40) := by
  obtain ⟨j, hj, rfl⟩ := vp_in_of h1 (by decide)
  rintro ((q | q) | q | q)
  · exact nI_pos (by omega) q
  · exact nI_ge (b := 8) hj (by decide) q
  · exact h2 (lane64.mpr q)
  · exact q h3
theorem ar_4 {a b n : Int32} (h1 : vp_in a 8) (h2 : ¬ (b.toInt64 < 0 ∨ 2 < b.toInt64)) (h3 : n ≤ 40) (h4 : ¬ 0 ≤ n) : (-1000010 - 4 : Int32) = an_row a b n := by
  unfold an_row
  rw [if_neg (ar_no h1 h2 h3), if_neg h4]
  decide
theorem ar_5 {a b n : Int32} (h1 : vp_in a 8) (h2 : ¬ (b.toInt64 < 0 ∨ 2 < b.toInt64)) (h3 : n ≤ 40) (h4 : 0 ≤ n) : n = an_row a b n := by
  unfold an_row
  rw [if_neg (ar_no h1 h2 h3), if_pos h4]
theorem dX8_calm_0 : decode cX8_calm 0 = .ok (.aload_n 0, 1) := by decide +kernel
theorem dX8_calm_1 : decode cX8_calm 1 = .ok (.iload_n 1, 1) := by decide +kernel
theorem dX8_calm_10 : decode cX8_calm 10 = .ok (.lconst 0, 1) := by decide +kernel
theorem dX8_calm_101 : decode cX8_calm 101 = .ok (.iconst 0, 1) := by decide +kernel
theorem dX8_calm_102 : decode cX8_calm 102 = .ok (.istore 12, 2) := by decide +kernel
theorem dX8_calm_104 : decode cX8_calm 104 = .ok (.iload 12, 2) := by decide +kernel
theorem dX8_calm_106 : decode cX8_calm 106 = .ok (.aload_n 0, 1) := by decide +kernel
theorem dX8_calm_107 : decode cX8_calm 107 = .ok (.getfield 19, 3) := by decide +kernel
theorem dX8_calm_11 : decode cX8_calm 11 = .ok (.ldc2_w 188, 3) := by decide +kernel
theorem dX8_calm_110 : decode cX8_calm 110 = .ok (.iconst 3, 1) := by decide +kernel
theorem dX8_calm_111 : decode cX8_calm 111 = .ok (.iaload, 1) := by decide +kernel
theorem dX8_calm_112 : decode cX8_calm 112 = .ok (.if_icmp .ge 68, 3) := by decide +kernel
theorem dX8_calm_115 : decode cX8_calm 115 = .ok (.lload 10, 2) := by decide +kernel
theorem dX8_calm_117 : decode cX8_calm 117 = .ok (.iload 9, 2) := by decide +kernel
theorem dX8_calm_119 : decode cX8_calm 119 = .ok (.iload 12, 2) := by decide +kernel
theorem dX8_calm_121 : decode cX8_calm 121 = .ok (.invokestatic 213, 3) := by decide +kernel
theorem dX8_calm_124 : decode cX8_calm 124 = .ok (.ifCond .eq 8, 3) := by decide +kernel
theorem dX8_calm_127 : decode cX8_calm 127 = .ok (.iload_n 3, 1) := by decide +kernel
theorem dX8_calm_128 : decode cX8_calm 128 = .ok (.i2l, 1) := by decide +kernel
theorem dX8_calm_129 : decode cX8_calm 129 = .ok (.goto 8, 3) := by decide +kernel
theorem dX8_calm_132 : decode cX8_calm 132 = .ok (.bipush 10, 2) := by decide +kernel
theorem dX8_calm_134 : decode cX8_calm 134 = .ok (.iload_n 3, 1) := by decide +kernel
theorem dX8_calm_135 : decode cX8_calm 135 = .ok (.isub, 1) := by decide +kernel
theorem dX8_calm_136 : decode cX8_calm 136 = .ok (.i2l, 1) := by decide +kernel
theorem dX8_calm_137 : decode cX8_calm 137 = .ok (.lmul, 1) := by decide +kernel
theorem dX8_calm_138 : decode cX8_calm 138 = .ok (.lstore 10, 2) := by decide +kernel
theorem dX8_calm_14 : decode cX8_calm 14 = .ok (.invokestatic 57, 3) := by decide +kernel
theorem dX8_calm_140 : decode cX8_calm 140 = .ok (.aload_n 0, 1) := by decide +kernel
theorem dX8_calm_141 : decode cX8_calm 141 = .ok (.getfield 19, 3) := by decide +kernel
theorem dX8_calm_144 : decode cX8_calm 144 = .ok (.bipush 8, 2) := by decide +kernel
theorem dX8_calm_146 : decode cX8_calm 146 = .ok (.iload 12, 2) := by decide +kernel
theorem dX8_calm_148 : decode cX8_calm 148 = .ok (.iadd, 1) := by decide +kernel
theorem dX8_calm_149 : decode cX8_calm 149 = .ok (.iload 9, 2) := by decide +kernel
theorem dX8_calm_151 : decode cX8_calm 151 = .ok (.iload 12, 2) := by decide +kernel
theorem dX8_calm_153 : decode cX8_calm 153 = .ok (.invokestatic 213, 3) := by decide +kernel
theorem dX8_calm_156 : decode cX8_calm 156 = .ok (.ifCond .eq 7, 3) := by decide +kernel
theorem dX8_calm_159 : decode cX8_calm 159 = .ok (.iconst 2, 1) := by decide +kernel
theorem dX8_calm_160 : decode cX8_calm 160 = .ok (.goto 13, 3) := by decide +kernel
theorem dX8_calm_163 : decode cX8_calm 163 = .ok (.aload_n 0, 1) := by decide +kernel
theorem dX8_calm_164 : decode cX8_calm 164 = .ok (.getfield 19, 3) := by decide +kernel
theorem dX8_calm_167 : decode cX8_calm 167 = .ok (.bipush 8, 2) := by decide +kernel
theorem dX8_calm_169 : decode cX8_calm 169 = .ok (.iload 12, 2) := by decide +kernel
theorem dX8_calm_17 : decode cX8_calm 17 = .ok (.ifCond .eq 23, 3) := by decide +kernel
theorem dX8_calm_171 : decode cX8_calm 171 = .ok (.iadd, 1) := by decide +kernel
theorem dX8_calm_172 : decode cX8_calm 172 = .ok (.iaload, 1) := by decide +kernel
theorem dX8_calm_173 : decode cX8_calm 173 = .ok (.iastore, 1) := by decide +kernel
theorem dX8_calm_174 : decode cX8_calm 174 = .ok (.iinc 12 1, 3) := by decide +kernel
theorem dX8_calm_177 : decode cX8_calm 177 = .ok (.goto (-73), 3) := by decide +kernel
theorem dX8_calm_180 : decode cX8_calm 180 = .ok (.aload_n 0, 1) := by decide +kernel
theorem dX8_calm_181 : decode cX8_calm 181 = .ok (.iload_n 2, 1) := by decide +kernel
theorem dX8_calm_182 : decode cX8_calm 182 = .ok (.invokevirtual 190, 3) := by decide +kernel
theorem dX8_calm_185 : decode cX8_calm 185 = .ok (.lload 5, 2) := by decide +kernel
theorem dX8_calm_187 : decode cX8_calm 187 = .ok (.aload_n 0, 1) := by decide +kernel
theorem dX8_calm_188 : decode cX8_calm 188 = .ok (.getfield 19, 3) := by decide +kernel
theorem dX8_calm_191 : decode cX8_calm 191 = .ok (.bipush 26, 2) := by decide +kernel
theorem dX8_calm_193 : decode cX8_calm 193 = .ok (.iload_n 1, 1) := by decide +kernel
theorem dX8_calm_194 : decode cX8_calm 194 = .ok (.iadd, 1) := by decide +kernel
theorem dX8_calm_195 : decode cX8_calm 195 = .ok (.iaload, 1) := by decide +kernel
theorem dX8_calm_196 : decode cX8_calm 196 = .ok (.iconst 1, 1) := by decide +kernel
theorem dX8_calm_197 : decode cX8_calm 197 = .ok (.if_icmp .ne 8, 3) := by decide +kernel
theorem dX8_calm_2 : decode cX8_calm 2 = .ok (.invokevirtual 173, 3) := by decide +kernel
theorem dX8_calm_20 : decode cX8_calm 20 = .ok (.iload_n 3, 1) := by decide +kernel
theorem dX8_calm_200 : decode cX8_calm 200 = .ok (.lload 10, 2) := by decide +kernel
theorem dX8_calm_202 : decode cX8_calm 202 = .ok (.goto 4, 3) := by decide +kernel
theorem dX8_calm_205 : decode cX8_calm 205 = .ok (.lconst 0, 1) := by decide +kernel
theorem dX8_calm_206 : decode cX8_calm 206 = .ok (.ladd, 1) := by decide +kernel
theorem dX8_calm_207 : decode cX8_calm 207 = .ok (.lstore 5, 2) := by decide +kernel
theorem dX8_calm_209 : decode cX8_calm 209 = .ok (.aload_n 0, 1) := by decide +kernel
theorem dX8_calm_21 : decode cX8_calm 21 = .ok (.i2l, 1) := by decide +kernel
theorem dX8_calm_210 : decode cX8_calm 210 = .ok (.invokevirtual 194, 3) := by decide +kernel
theorem dX8_calm_213 : decode cX8_calm 213 = .ok (.iinc 9 1, 3) := by decide +kernel
theorem dX8_calm_216 : decode cX8_calm 216 = .ok (.goto (-131), 3) := by decide +kernel
theorem dX8_calm_219 : decode cX8_calm 219 = .ok (.lload 5, 2) := by decide +kernel
theorem dX8_calm_22 : decode cX8_calm 22 = .ok (.lconst 0, 1) := by decide +kernel
theorem dX8_calm_221 : decode cX8_calm 221 = .ok (.lstore 9, 2) := by decide +kernel
theorem dX8_calm_223 : decode cX8_calm 223 = .ok (.lload 7, 2) := by decide +kernel
theorem dX8_calm_225 : decode cX8_calm 225 = .ok (.lstore 11, 2) := by decide +kernel
theorem dX8_calm_227 : decode cX8_calm 227 = .ok (.lload 11, 2) := by decide +kernel
theorem dX8_calm_229 : decode cX8_calm 229 = .ok (.lconst 0, 1) := by decide +kernel
theorem dX8_calm_23 : decode cX8_calm 23 = .ok (.ldc2_w 238, 3) := by decide +kernel
theorem dX8_calm_230 : decode cX8_calm 230 = .ok (.lcmp, 1) := by decide +kernel
theorem dX8_calm_231 : decode cX8_calm 231 = .ok (.ifCond .eq 21, 3) := by decide +kernel
theorem dX8_calm_234 : decode cX8_calm 234 = .ok (.lload 9, 2) := by decide +kernel
theorem dX8_calm_236 : decode cX8_calm 236 = .ok (.lload 11, 2) := by decide +kernel
theorem dX8_calm_238 : decode cX8_calm 238 = .ok (.lrem, 1) := by decide +kernel
theorem dX8_calm_239 : decode cX8_calm 239 = .ok (.lstore 13, 2) := by decide +kernel
theorem dX8_calm_241 : decode cX8_calm 241 = .ok (.lload 11, 2) := by decide +kernel
theorem dX8_calm_243 : decode cX8_calm 243 = .ok (.lstore 9, 2) := by decide +kernel
theorem dX8_calm_245 : decode cX8_calm 245 = .ok (.lload 13, 2) := by decide +kernel
theorem dX8_calm_247 : decode cX8_calm 247 = .ok (.lstore 11, 2) := by decide +kernel
theorem dX8_calm_249 : decode cX8_calm 249 = .ok (.goto (-22), 3) := by decide +kernel
theorem dX8_calm_252 : decode cX8_calm 252 = .ok (.iload 4, 2) := by decide +kernel
theorem dX8_calm_254 : decode cX8_calm 254 = .ok (.ifCond .ne 11, 3) := by decide +kernel
theorem dX8_calm_257 : decode cX8_calm 257 = .ok (.lload 5, 2) := by decide +kernel
theorem dX8_calm_259 : decode cX8_calm 259 = .ok (.lload 9, 2) := by decide +kernel
theorem dX8_calm_26 : decode cX8_calm 26 = .ok (.invokestatic 57, 3) := by decide +kernel
theorem dX8_calm_261 : decode cX8_calm 261 = .ok (.ldiv, 1) := by decide +kernel
theorem dX8_calm_262 : decode cX8_calm 262 = .ok (.goto 8, 3) := by decide +kernel
theorem dX8_calm_265 : decode cX8_calm 265 = .ok (.lload 7, 2) := by decide +kernel
theorem dX8_calm_267 : decode cX8_calm 267 = .ok (.lload 9, 2) := by decide +kernel
theorem dX8_calm_269 : decode cX8_calm 269 = .ok (.ldiv, 1) := by decide +kernel
theorem dX8_calm_270 : decode cX8_calm 270 = .ok (.lreturn, 1) := by decide +kernel
theorem dX8_calm_29 : decode cX8_calm 29 = .ok (.ifCond .eq 11, 3) := by decide +kernel
theorem dX8_calm_32 : decode cX8_calm 32 = .ok (.iload 4, 2) := by decide +kernel
theorem dX8_calm_34 : decode cX8_calm 34 = .ok (.invokestatic 210, 3) := by decide +kernel
theorem dX8_calm_37 : decode cX8_calm 37 = .ok (.ifCond .ne 7, 3) := by decide +kernel
theorem dX8_calm_40 : decode cX8_calm 40 = .ok (.ldc2_w 240, 3) := by decide +kernel
theorem dX8_calm_43 : decode cX8_calm 43 = .ok (.lreturn, 1) := by decide +kernel
theorem dX8_calm_44 : decode cX8_calm 44 = .ok (.aload_n 0, 1) := by decide +kernel
theorem dX8_calm_45 : decode cX8_calm 45 = .ok (.invokevirtual 197, 3) := by decide +kernel
theorem dX8_calm_48 : decode cX8_calm 48 = .ok (.lconst 0, 1) := by decide +kernel
theorem dX8_calm_49 : decode cX8_calm 49 = .ok (.lstore 5, 2) := by decide +kernel
theorem dX8_calm_5 : decode cX8_calm 5 = .ok (.ifCond .eq 35, 3) := by decide +kernel
theorem dX8_calm_51 : decode cX8_calm 51 = .ok (.lconst 1, 1) := by decide +kernel
theorem dX8_calm_52 : decode cX8_calm 52 = .ok (.lstore 7, 2) := by decide +kernel
theorem dX8_calm_54 : decode cX8_calm 54 = .ok (.iconst 0, 1) := by decide +kernel
theorem dX8_calm_55 : decode cX8_calm 55 = .ok (.istore 9, 2) := by decide +kernel
theorem dX8_calm_57 : decode cX8_calm 57 = .ok (.iload 9, 2) := by decide +kernel
theorem dX8_calm_59 : decode cX8_calm 59 = .ok (.aload_n 0, 1) := by decide +kernel
theorem dX8_calm_60 : decode cX8_calm 60 = .ok (.getfield 19, 3) := by decide +kernel
theorem dX8_calm_63 : decode cX8_calm 63 = .ok (.iconst 3, 1) := by decide +kernel
theorem dX8_calm_64 : decode cX8_calm 64 = .ok (.iaload, 1) := by decide +kernel
theorem dX8_calm_65 : decode cX8_calm 65 = .ok (.if_icmp .ge 17, 3) := by decide +kernel
theorem dX8_calm_68 : decode cX8_calm 68 = .ok (.lload 7, 2) := by decide +kernel
theorem dX8_calm_70 : decode cX8_calm 70 = .ok (.ldc2_w 238, 3) := by decide +kernel
theorem dX8_calm_73 : decode cX8_calm 73 = .ok (.lmul, 1) := by decide +kernel
theorem dX8_calm_74 : decode cX8_calm 74 = .ok (.lstore 7, 2) := by decide +kernel
theorem dX8_calm_76 : decode cX8_calm 76 = .ok (.iinc 9 1, 3) := by decide +kernel
theorem dX8_calm_79 : decode cX8_calm 79 = .ok (.goto (-22), 3) := by decide +kernel
theorem dX8_calm_8 : decode cX8_calm 8 = .ok (.iload_n 2, 1) := by decide +kernel
theorem dX8_calm_82 : decode cX8_calm 82 = .ok (.iconst 0, 1) := by decide +kernel
theorem dX8_calm_83 : decode cX8_calm 83 = .ok (.istore 9, 2) := by decide +kernel
theorem dX8_calm_85 : decode cX8_calm 85 = .ok (.iload 9, 2) := by decide +kernel
theorem dX8_calm_87 : decode cX8_calm 87 = .ok (.iconst 1, 1) := by decide +kernel
theorem dX8_calm_88 : decode cX8_calm 88 = .ok (.aload_n 0, 1) := by decide +kernel
theorem dX8_calm_89 : decode cX8_calm 89 = .ok (.getfield 34, 3) := by decide +kernel
theorem dX8_calm_9 : decode cX8_calm 9 = .ok (.i2l, 1) := by decide +kernel
theorem dX8_calm_92 : decode cX8_calm 92 = .ok (.iconst 3, 1) := by decide +kernel
theorem dX8_calm_93 : decode cX8_calm 93 = .ok (.iaload, 1) := by decide +kernel
theorem dX8_calm_94 : decode cX8_calm 94 = .ok (.ishl, 1) := by decide +kernel
theorem dX8_calm_95 : decode cX8_calm 95 = .ok (.if_icmp .ge 124, 3) := by decide +kernel
theorem dX8_calm_98 : decode cX8_calm 98 = .ok (.lconst 1, 1) := by decide +kernel
theorem dX8_calm_99 : decode cX8_calm 99 = .ok (.lstore 10, 2) := by decide +kernel
theorem dX8_drawn_0 : decode cX8_drawn 0 = .ok (.aload_n 0, 1) := by decide +kernel
theorem dX8_drawn_1 : decode cX8_drawn 1 = .ok (.getfield 138, 3) := by decide +kernel
theorem dX8_drawn_10 : decode cX8_drawn 10 = .ok (.iload_n 1, 1) := by decide +kernel
theorem dX8_drawn_100 : decode cX8_drawn 100 = .ok (.iaload, 1) := by decide +kernel
theorem dX8_drawn_101 : decode cX8_drawn 101 = .ok (.i2l, 1) := by decide +kernel
theorem dX8_drawn_102 : decode cX8_drawn 102 = .ok (.lrem, 1) := by decide +kernel
theorem dX8_drawn_103 : decode cX8_drawn 103 = .ok (.l2i, 1) := by decide +kernel
theorem dX8_drawn_104 : decode cX8_drawn 104 = .ok (.iadd, 1) := by decide +kernel
theorem dX8_drawn_105 : decode cX8_drawn 105 = .ok (.lload 4, 2) := by decide +kernel
theorem dX8_drawn_107 : decode cX8_drawn 107 = .ok (.ldc2_w 250, 3) := by decide +kernel
theorem dX8_drawn_11 : decode cX8_drawn 11 = .ok (.i2l, 1) := by decide +kernel
theorem dX8_drawn_110 : decode cX8_drawn 110 = .ok (.lrem, 1) := by decide +kernel
theorem dX8_drawn_111 : decode cX8_drawn 111 = .ok (.l2i, 1) := by decide +kernel
theorem dX8_drawn_112 : decode cX8_drawn 112 = .ok (.iastore, 1) := by decide +kernel
theorem dX8_drawn_113 : decode cX8_drawn 113 = .ok (.aload_n 0, 1) := by decide +kernel
theorem dX8_drawn_114 : decode cX8_drawn 114 = .ok (.getfield 19, 3) := by decide +kernel
theorem dX8_drawn_117 : decode cX8_drawn 117 = .ok (.bipush 6, 2) := by decide +kernel
theorem dX8_drawn_119 : decode cX8_drawn 119 = .ok (.lload 4, 2) := by decide +kernel
theorem dX8_drawn_12 : decode cX8_drawn 12 = .ok (.lconst 0, 1) := by decide +kernel
theorem dX8_drawn_121 : decode cX8_drawn 121 = .ok (.ldc2_w 65, 3) := by decide +kernel
theorem dX8_drawn_124 : decode cX8_drawn 124 = .ok (.lrem, 1) := by decide +kernel
theorem dX8_drawn_125 : decode cX8_drawn 125 = .ok (.l2i, 1) := by decide +kernel
theorem dX8_drawn_126 : decode cX8_drawn 126 = .ok (.iastore, 1) := by decide +kernel
theorem dX8_drawn_127 : decode cX8_drawn 127 = .ok (.lload 4, 2) := by decide +kernel
theorem dX8_drawn_129 : decode cX8_drawn 129 = .ok (.aload_n 0, 1) := by decide +kernel
theorem dX8_drawn_13 : decode cX8_drawn 13 = .ok (.ldc2_w 188, 3) := by decide +kernel
theorem dX8_drawn_130 : decode cX8_drawn 130 = .ok (.getfield 19, 3) := by decide +kernel
theorem dX8_drawn_133 : decode cX8_drawn 133 = .ok (.iconst 4, 1) := by decide +kernel
theorem dX8_drawn_134 : decode cX8_drawn 134 = .ok (.iaload, 1) := by decide +kernel
theorem dX8_drawn_135 : decode cX8_drawn 135 = .ok (.i2l, 1) := by decide +kernel
theorem dX8_drawn_136 : decode cX8_drawn 136 = .ok (.lrem, 1) := by decide +kernel
theorem dX8_drawn_137 : decode cX8_drawn 137 = .ok (.l2i, 1) := by decide +kernel
theorem dX8_drawn_138 : decode cX8_drawn 138 = .ok (.istore 8, 2) := by decide +kernel
theorem dX8_drawn_140 : decode cX8_drawn 140 = .ok (.aload_n 0, 1) := by decide +kernel
theorem dX8_drawn_141 : decode cX8_drawn 141 = .ok (.getfield 19, 3) := by decide +kernel
theorem dX8_drawn_144 : decode cX8_drawn 144 = .ok (.bipush 26, 2) := by decide +kernel
theorem dX8_drawn_146 : decode cX8_drawn 146 = .ok (.iload 8, 2) := by decide +kernel
theorem dX8_drawn_148 : decode cX8_drawn 148 = .ok (.iadd, 1) := by decide +kernel
theorem dX8_drawn_149 : decode cX8_drawn 149 = .ok (.iaload, 1) := by decide +kernel
theorem dX8_drawn_150 : decode cX8_drawn 150 = .ok (.ifCond .eq 29, 3) := by decide +kernel
theorem dX8_drawn_153 : decode cX8_drawn 153 = .ok (.aload_n 0, 1) := by decide +kernel
theorem dX8_drawn_154 : decode cX8_drawn 154 = .ok (.iload 8, 2) := by decide +kernel
theorem dX8_drawn_156 : decode cX8_drawn 156 = .ok (.lload 4, 2) := by decide +kernel
theorem dX8_drawn_158 : decode cX8_drawn 158 = .ok (.aload_n 0, 1) := by decide +kernel
theorem dX8_drawn_159 : decode cX8_drawn 159 = .ok (.getfield 19, 3) := by decide +kernel
theorem dX8_drawn_16 : decode cX8_drawn 16 = .ok (.invokestatic 57, 3) := by decide +kernel
theorem dX8_drawn_162 : decode cX8_drawn 162 = .ok (.iconst 0, 1) := by decide +kernel
theorem dX8_drawn_163 : decode cX8_drawn 163 = .ok (.iaload, 1) := by decide +kernel
theorem dX8_drawn_164 : decode cX8_drawn 164 = .ok (.i2l, 1) := by decide +kernel
theorem dX8_drawn_165 : decode cX8_drawn 165 = .ok (.lrem, 1) := by decide +kernel
theorem dX8_drawn_166 : decode cX8_drawn 166 = .ok (.l2i, 1) := by decide +kernel
theorem dX8_drawn_167 : decode cX8_drawn 167 = .ok (.lload 4, 2) := by decide +kernel
theorem dX8_drawn_169 : decode cX8_drawn 169 = .ok (.ldc2_w 252, 3) := by decide +kernel
theorem dX8_drawn_172 : decode cX8_drawn 172 = .ok (.lrem, 1) := by decide +kernel
theorem dX8_drawn_173 : decode cX8_drawn 173 = .ok (.l2i, 1) := by decide +kernel
theorem dX8_drawn_174 : decode cX8_drawn 174 = .ok (.iconst 1, 1) := by decide +kernel
theorem dX8_drawn_175 : decode cX8_drawn 175 = .ok (.iadd, 1) := by decide +kernel
theorem dX8_drawn_176 : decode cX8_drawn 176 = .ok (.invokevirtual 178, 3) := by decide +kernel
theorem dX8_drawn_179 : decode cX8_drawn 179 = .ok (.iload 6, 2) := by decide +kernel
theorem dX8_drawn_181 : decode cX8_drawn 181 = .ok (.aload_n 0, 1) := by decide +kernel
theorem dX8_drawn_182 : decode cX8_drawn 182 = .ok (.invokevirtual 167, 3) := by decide +kernel
theorem dX8_drawn_185 : decode cX8_drawn 185 = .ok (.iadd, 1) := by decide +kernel
theorem dX8_drawn_186 : decode cX8_drawn 186 = .ok (.istore 6, 2) := by decide +kernel
theorem dX8_drawn_188 : decode cX8_drawn 188 = .ok (.iinc 7 1, 3) := by decide +kernel
theorem dX8_drawn_19 : decode cX8_drawn 19 = .ok (.ifCond .eq 22, 3) := by decide +kernel
theorem dX8_drawn_191 : decode cX8_drawn 191 = .ok (.goto (-133), 3) := by decide +kernel
theorem dX8_drawn_194 : decode cX8_drawn 194 = .ok (.aload_n 0, 1) := by decide +kernel
theorem dX8_drawn_195 : decode cX8_drawn 195 = .ok (.iconst 2, 1) := by decide +kernel
theorem dX8_drawn_196 : decode cX8_drawn 196 = .ok (.invokevirtual 182, 3) := by decide +kernel
theorem dX8_drawn_199 : decode cX8_drawn 199 = .ok (.invokestatic 254, 3) := by decide +kernel
theorem dX8_drawn_202 : decode cX8_drawn 202 = .ok (.istore 7, 2) := by decide +kernel
theorem dX8_drawn_204 : decode cX8_drawn 204 = .ok (.aload_n 0, 1) := by decide +kernel
theorem dX8_drawn_205 : decode cX8_drawn 205 = .ok (.invokevirtual 194, 3) := by decide +kernel
theorem dX8_drawn_208 : decode cX8_drawn 208 = .ok (.iload_n 3, 1) := by decide +kernel
theorem dX8_drawn_209 : decode cX8_drawn 209 = .ok (.ifCond .ne 8, 3) := by decide +kernel
theorem dX8_drawn_212 : decode cX8_drawn 212 = .ok (.iload 6, 2) := by decide +kernel
theorem dX8_drawn_214 : decode cX8_drawn 214 = .ok (.goto 5, 3) := by decide +kernel
theorem dX8_drawn_217 : decode cX8_drawn 217 = .ok (.iload 7, 2) := by decide +kernel
theorem dX8_drawn_219 : decode cX8_drawn 219 = .ok (.ireturn, 1) := by decide +kernel
theorem dX8_drawn_22 : decode cX8_drawn 22 = .ok (.iload_n 2, 1) := by decide +kernel
theorem dX8_drawn_23 : decode cX8_drawn 23 = .ok (.i2l, 1) := by decide +kernel
theorem dX8_drawn_24 : decode cX8_drawn 24 = .ok (.lconst 1, 1) := by decide +kernel
theorem dX8_drawn_25 : decode cX8_drawn 25 = .ok (.ldc2_w 242, 3) := by decide +kernel
theorem dX8_drawn_28 : decode cX8_drawn 28 = .ok (.invokestatic 57, 3) := by decide +kernel
theorem dX8_drawn_31 : decode cX8_drawn 31 = .ok (.ifCond .eq 10, 3) := by decide +kernel
theorem dX8_drawn_34 : decode cX8_drawn 34 = .ok (.iload_n 3, 1) := by decide +kernel
theorem dX8_drawn_35 : decode cX8_drawn 35 = .ok (.invokestatic 210, 3) := by decide +kernel
theorem dX8_drawn_38 : decode cX8_drawn 38 = .ok (.ifCond .ne 6, 3) := by decide +kernel
theorem dX8_drawn_4 : decode cX8_drawn 4 = .ok (.ifCond .ne 6, 3) := by decide +kernel
theorem dX8_drawn_41 : decode cX8_drawn 41 = .ok (.ldc 67, 2) := by decide +kernel
theorem dX8_drawn_43 : decode cX8_drawn 43 = .ok (.ireturn, 1) := by decide +kernel
theorem dX8_drawn_44 : decode cX8_drawn 44 = .ok (.aload_n 0, 1) := by decide +kernel
theorem dX8_drawn_45 : decode cX8_drawn 45 = .ok (.invokevirtual 197, 3) := by decide +kernel
theorem dX8_drawn_48 : decode cX8_drawn 48 = .ok (.iload_n 2, 1) := by decide +kernel
theorem dX8_drawn_49 : decode cX8_drawn 49 = .ok (.i2l, 1) := by decide +kernel
theorem dX8_drawn_50 : decode cX8_drawn 50 = .ok (.lstore 4, 2) := by decide +kernel
theorem dX8_drawn_52 : decode cX8_drawn 52 = .ok (.iconst 0, 1) := by decide +kernel
theorem dX8_drawn_53 : decode cX8_drawn 53 = .ok (.istore 6, 2) := by decide +kernel
theorem dX8_drawn_55 : decode cX8_drawn 55 = .ok (.iconst 0, 1) := by decide +kernel
theorem dX8_drawn_56 : decode cX8_drawn 56 = .ok (.istore 7, 2) := by decide +kernel
theorem dX8_drawn_58 : decode cX8_drawn 58 = .ok (.iload 7, 2) := by decide +kernel
theorem dX8_drawn_60 : decode cX8_drawn 60 = .ok (.iload_n 1, 1) := by decide +kernel
theorem dX8_drawn_61 : decode cX8_drawn 61 = .ok (.if_icmp .ge 133, 3) := by decide +kernel
theorem dX8_drawn_64 : decode cX8_drawn 64 = .ok (.lload 4, 2) := by decide +kernel
theorem dX8_drawn_66 : decode cX8_drawn 66 = .ok (.ldc2_w 244, 3) := by decide +kernel
theorem dX8_drawn_69 : decode cX8_drawn 69 = .ok (.lmul, 1) := by decide +kernel
theorem dX8_drawn_7 : decode cX8_drawn 7 = .ok (.ldc 161, 2) := by decide +kernel
theorem dX8_drawn_70 : decode cX8_drawn 70 = .ok (.ldc2_w 246, 3) := by decide +kernel
theorem dX8_drawn_73 : decode cX8_drawn 73 = .ok (.lrem, 1) := by decide +kernel
theorem dX8_drawn_74 : decode cX8_drawn 74 = .ok (.lstore 4, 2) := by decide +kernel
theorem dX8_drawn_76 : decode cX8_drawn 76 = .ok (.lload 4, 2) := by decide +kernel
theorem dX8_drawn_78 : decode cX8_drawn 78 = .ok (.ldc2_w 248, 3) := by decide +kernel
theorem dX8_drawn_81 : decode cX8_drawn 81 = .ok (.lrem, 1) := by decide +kernel
theorem dX8_drawn_82 : decode cX8_drawn 82 = .ok (.lconst 0, 1) := by decide +kernel
theorem dX8_drawn_83 : decode cX8_drawn 83 = .ok (.lcmp, 1) := by decide +kernel
theorem dX8_drawn_84 : decode cX8_drawn 84 = .ok (.ifCond .ne 29, 3) := by decide +kernel
theorem dX8_drawn_87 : decode cX8_drawn 87 = .ok (.aload_n 0, 1) := by decide +kernel
theorem dX8_drawn_88 : decode cX8_drawn 88 = .ok (.getfield 19, 3) := by decide +kernel
theorem dX8_drawn_9 : decode cX8_drawn 9 = .ok (.ireturn, 1) := by decide +kernel
theorem dX8_drawn_91 : decode cX8_drawn 91 = .ok (.bipush 8, 2) := by decide +kernel
theorem dX8_drawn_93 : decode cX8_drawn 93 = .ok (.lload 4, 2) := by decide +kernel
theorem dX8_drawn_95 : decode cX8_drawn 95 = .ok (.aload_n 0, 1) := by decide +kernel
theorem dX8_drawn_96 : decode cX8_drawn 96 = .ok (.getfield 19, 3) := by decide +kernel
theorem dX8_drawn_99 : decode cX8_drawn 99 = .ok (.iconst 3, 1) := by decide +kernel
theorem dX8_fits_0 : decode cX8_fits 0 = .ok (.aload_n 0, 1) := by decide +kernel
theorem dX8_fits_1 : decode cX8_fits 1 = .ok (.invokevirtual 197, 3) := by decide +kernel
theorem dX8_fits_10 : decode cX8_fits 10 = .ok (.iload 8, 2) := by decide +kernel
theorem dX8_fits_12 : decode cX8_fits 12 = .ok (.iload_n 3, 1) := by decide +kernel
theorem dX8_fits_13 : decode cX8_fits 13 = .ok (.if_icmp .gt 43, 3) := by decide +kernel
theorem dX8_fits_16 : decode cX8_fits 16 = .ok (.aload_n 0, 1) := by decide +kernel
theorem dX8_fits_17 : decode cX8_fits 17 = .ok (.getfield 19, 3) := by decide +kernel
theorem dX8_fits_20 : decode cX8_fits 20 = .ok (.iload_n 1, 1) := by decide +kernel
theorem dX8_fits_21 : decode cX8_fits 21 = .ok (.iload 8, 2) := by decide +kernel
theorem dX8_fits_23 : decode cX8_fits 23 = .ok (.iastore, 1) := by decide +kernel
theorem dX8_fits_24 : decode cX8_fits 24 = .ok (.iload 7, 2) := by decide +kernel
theorem dX8_fits_26 : decode cX8_fits 26 = .ok (.aload_n 0, 1) := by decide +kernel
theorem dX8_fits_27 : decode cX8_fits 27 = .ok (.iload 4, 2) := by decide +kernel
theorem dX8_fits_29 : decode cX8_fits 29 = .ok (.iload 5, 2) := by decide +kernel
theorem dX8_fits_31 : decode cX8_fits 31 = .ok (.iload 6, 2) := by decide +kernel
theorem dX8_fits_33 : decode cX8_fits 33 = .ok (.invokevirtual 222, 3) := by decide +kernel
theorem dX8_fits_36 : decode cX8_fits 36 = .ok (.ifCond .eq 10, 3) := by decide +kernel
theorem dX8_fits_39 : decode cX8_fits 39 = .ok (.iconst 1, 1) := by decide +kernel
theorem dX8_fits_4 : decode cX8_fits 4 = .ok (.iconst 0, 1) := by decide +kernel
theorem dX8_fits_40 : decode cX8_fits 40 = .ok (.iload 8, 2) := by decide +kernel
theorem dX8_fits_42 : decode cX8_fits 42 = .ok (.ishl, 1) := by decide +kernel
theorem dX8_fits_43 : decode cX8_fits 43 = .ok (.goto 4, 3) := by decide +kernel
theorem dX8_fits_46 : decode cX8_fits 46 = .ok (.iconst 0, 1) := by decide +kernel
theorem dX8_fits_47 : decode cX8_fits 47 = .ok (.ior, 1) := by decide +kernel
theorem dX8_fits_48 : decode cX8_fits 48 = .ok (.istore 7, 2) := by decide +kernel
theorem dX8_fits_5 : decode cX8_fits 5 = .ok (.istore 7, 2) := by decide +kernel
theorem dX8_fits_50 : decode cX8_fits 50 = .ok (.iinc 8 1, 3) := by decide +kernel
theorem dX8_fits_53 : decode cX8_fits 53 = .ok (.goto (-43), 3) := by decide +kernel
theorem dX8_fits_56 : decode cX8_fits 56 = .ok (.aload_n 0, 1) := by decide +kernel
theorem dX8_fits_57 : decode cX8_fits 57 = .ok (.iload 7, 2) := by decide +kernel
theorem dX8_fits_59 : decode cX8_fits 59 = .ok (.invokevirtual 72, 3) := by decide +kernel
theorem dX8_fits_62 : decode cX8_fits 62 = .ok (.ireturn, 1) := by decide +kernel
theorem dX8_fits_7 : decode cX8_fits 7 = .ok (.iload_n 2, 1) := by decide +kernel
theorem dX8_fits_8 : decode cX8_fits 8 = .ok (.istore 8, 2) := by decide +kernel
theorem dX8_gusts_0 : decode cX8_gusts 0 = .ok (.iload_n 1, 1) := by decide +kernel
theorem dX8_gusts_1 : decode cX8_gusts 1 = .ok (.i2l, 1) := by decide +kernel
theorem dX8_gusts_10 : decode cX8_gusts 10 = .ok (.iaload, 1) := by decide +kernel
theorem dX8_gusts_100 : decode cX8_gusts 100 = .ok (.iconst 0, 1) := by decide +kernel
theorem dX8_gusts_101 : decode cX8_gusts 101 = .ok (.iconst 4, 1) := by decide +kernel
theorem dX8_gusts_102 : decode cX8_gusts 102 = .ok (.iload_n 2, 1) := by decide +kernel
theorem dX8_gusts_103 : decode cX8_gusts 103 = .ok (.bipush 40, 2) := by decide +kernel
theorem dX8_gusts_105 : decode cX8_gusts 105 = .ok (.iload_n 3, 1) := by decide +kernel
theorem dX8_gusts_106 : decode cX8_gusts 106 = .ok (.imul, 1) := by decide +kernel
theorem dX8_gusts_107 : decode cX8_gusts 107 = .ok (.iload 4, 2) := by decide +kernel
theorem dX8_gusts_109 : decode cX8_gusts 109 = .ok (.iadd, 1) := by decide +kernel
theorem dX8_gusts_11 : decode cX8_gusts 11 = .ok (.iconst 1, 1) := by decide +kernel
theorem dX8_gusts_110 : decode cX8_gusts 110 = .ok (.iload 5, 2) := by decide +kernel
theorem dX8_gusts_112 : decode cX8_gusts 112 = .ok (.invokevirtual 232, 3) := by decide +kernel
theorem dX8_gusts_115 : decode cX8_gusts 115 = .ok (.ireturn, 1) := by decide +kernel
theorem dX8_gusts_12 : decode cX8_gusts 12 = .ok (.isub, 1) := by decide +kernel
theorem dX8_gusts_13 : decode cX8_gusts 13 = .ok (.i2l, 1) := by decide +kernel
theorem dX8_gusts_14 : decode cX8_gusts 14 = .ok (.invokestatic 57, 3) := by decide +kernel
theorem dX8_gusts_17 : decode cX8_gusts 17 = .ok (.ifCond .eq 31, 3) := by decide +kernel
theorem dX8_gusts_2 : decode cX8_gusts 2 = .ok (.ldc2_w 236, 3) := by decide +kernel
theorem dX8_gusts_20 : decode cX8_gusts 20 = .ok (.aload_n 0, 1) := by decide +kernel
theorem dX8_gusts_21 : decode cX8_gusts 21 = .ok (.iload_n 2, 1) := by decide +kernel
theorem dX8_gusts_22 : decode cX8_gusts 22 = .ok (.invokevirtual 173, 3) := by decide +kernel
theorem dX8_gusts_25 : decode cX8_gusts 25 = .ok (.ifCond .eq 23, 3) := by decide +kernel
theorem dX8_gusts_28 : decode cX8_gusts 28 = .ok (.iload_n 3, 1) := by decide +kernel
theorem dX8_gusts_29 : decode cX8_gusts 29 = .ok (.invokestatic 61, 3) := by decide +kernel
theorem dX8_gusts_32 : decode cX8_gusts 32 = .ok (.ifCond .eq 16, 3) := by decide +kernel
theorem dX8_gusts_35 : decode cX8_gusts 35 = .ok (.iload 5, 2) := by decide +kernel
theorem dX8_gusts_37 : decode cX8_gusts 37 = .ok (.i2l, 1) := by decide +kernel
theorem dX8_gusts_38 : decode cX8_gusts 38 = .ok (.lconst 1, 1) := by decide +kernel
theorem dX8_gusts_39 : decode cX8_gusts 39 = .ok (.ldc2_w 226, 3) := by decide +kernel
theorem dX8_gusts_42 : decode cX8_gusts 42 = .ok (.invokestatic 57, 3) := by decide +kernel
theorem dX8_gusts_45 : decode cX8_gusts 45 = .ok (.ifCond .ne 6, 3) := by decide +kernel
theorem dX8_gusts_48 : decode cX8_gusts 48 = .ok (.ldc 67, 2) := by decide +kernel
theorem dX8_gusts_5 : decode cX8_gusts 5 = .ok (.aload_n 0, 1) := by decide +kernel
theorem dX8_gusts_50 : decode cX8_gusts 50 = .ok (.ireturn, 1) := by decide +kernel
theorem dX8_gusts_51 : decode cX8_gusts 51 = .ok (.aload_n 0, 1) := by decide +kernel
theorem dX8_gusts_52 : decode cX8_gusts 52 = .ok (.getfield 19, 3) := by decide +kernel
theorem dX8_gusts_55 : decode cX8_gusts 55 = .ok (.bipush 26, 2) := by decide +kernel
theorem dX8_gusts_57 : decode cX8_gusts 57 = .ok (.iload_n 2, 1) := by decide +kernel
theorem dX8_gusts_58 : decode cX8_gusts 58 = .ok (.iadd, 1) := by decide +kernel
theorem dX8_gusts_59 : decode cX8_gusts 59 = .ok (.iaload, 1) := by decide +kernel
theorem dX8_gusts_6 : decode cX8_gusts 6 = .ok (.getfield 19, 3) := by decide +kernel
theorem dX8_gusts_60 : decode cX8_gusts 60 = .ok (.ifCond .eq 6, 3) := by decide +kernel
theorem dX8_gusts_63 : decode cX8_gusts 63 = .ok (.ldc 161, 2) := by decide +kernel
theorem dX8_gusts_65 : decode cX8_gusts 65 = .ok (.ireturn, 1) := by decide +kernel
theorem dX8_gusts_66 : decode cX8_gusts 66 = .ok (.aload_n 0, 1) := by decide +kernel
theorem dX8_gusts_67 : decode cX8_gusts 67 = .ok (.iload_n 3, 1) := by decide +kernel
theorem dX8_gusts_68 : decode cX8_gusts 68 = .ok (.iload 4, 2) := by decide +kernel
theorem dX8_gusts_70 : decode cX8_gusts 70 = .ok (.iload 5, 2) := by decide +kernel
theorem dX8_gusts_72 : decode cX8_gusts 72 = .ok (.invokevirtual 228, 3) := by decide +kernel
theorem dX8_gusts_75 : decode cX8_gusts 75 = .ok (.istore 6, 2) := by decide +kernel
theorem dX8_gusts_77 : decode cX8_gusts 77 = .ok (.iload 6, 2) := by decide +kernel
theorem dX8_gusts_79 : decode cX8_gusts 79 = .ok (.ifCond .ge 8, 3) := by decide +kernel
theorem dX8_gusts_82 : decode cX8_gusts 82 = .ok (.iload 6, 2) := by decide +kernel
theorem dX8_gusts_84 : decode cX8_gusts 84 = .ok (.goto 31, 3) := by decide +kernel
theorem dX8_gusts_87 : decode cX8_gusts 87 = .ok (.aload_n 0, 1) := by decide +kernel
theorem dX8_gusts_88 : decode cX8_gusts 88 = .ok (.iload_n 1, 1) := by decide +kernel
theorem dX8_gusts_89 : decode cX8_gusts 89 = .ok (.ifCond .ge 7, 3) := by decide +kernel
theorem dX8_gusts_9 : decode cX8_gusts 9 = .ok (.iconst 3, 1) := by decide +kernel
theorem dX8_gusts_92 : decode cX8_gusts 92 = .ok (.iconst 2, 1) := by decide +kernel
theorem dX8_gusts_93 : decode cX8_gusts 93 = .ok (.goto 7, 3) := by decide +kernel
theorem dX8_gusts_96 : decode cX8_gusts 96 = .ok (.bipush 8, 2) := by decide +kernel
theorem dX8_gusts_98 : decode cX8_gusts 98 = .ok (.iload_n 1, 1) := by decide +kernel
theorem dX8_gusts_99 : decode cX8_gusts 99 = .ok (.iadd, 1) := by decide +kernel
theorem dX8_isSo_0 : decode cX8_isSo 0 = .ok (.iconst 1, 1) := by decide +kernel
theorem dX8_isSo_1 : decode cX8_isSo 1 = .ok (.istore 4, 2) := by decide +kernel
theorem dX8_isSo_12 : decode cX8_isSo 12 = .ok (.aload_n 0, 1) := by decide +kernel
theorem dX8_isSo_13 : decode cX8_isSo 13 = .ok (.invokevirtual 167, 3) := by decide +kernel
theorem dX8_isSo_16 : decode cX8_isSo 16 = .ok (.pop, 1) := by decide +kernel
theorem dX8_isSo_17 : decode cX8_isSo 17 = .ok (.aload_n 0, 1) := by decide +kernel
theorem dX8_isSo_18 : decode cX8_isSo 18 = .ok (.getfield 19, 3) := by decide +kernel
theorem dX8_isSo_21 : decode cX8_isSo 21 = .ok (.bipush 26, 2) := by decide +kernel
theorem dX8_isSo_23 : decode cX8_isSo 23 = .ok (.iload_n 1, 1) := by decide +kernel
theorem dX8_isSo_24 : decode cX8_isSo 24 = .ok (.iadd, 1) := by decide +kernel
theorem dX8_isSo_25 : decode cX8_isSo 25 = .ok (.iaload, 1) := by decide +kernel
theorem dX8_isSo_26 : decode cX8_isSo 26 = .ok (.ifCond .ne 15, 3) := by decide +kernel
theorem dX8_isSo_29 : decode cX8_isSo 29 = .ok (.aload_n 0, 1) := by decide +kernel
theorem dX8_isSo_3 : decode cX8_isSo 3 = .ok (.iconst 0, 1) := by decide +kernel
theorem dX8_isSo_30 : decode cX8_isSo 30 = .ok (.getfield 19, 3) := by decide +kernel
theorem dX8_isSo_33 : decode cX8_isSo 33 = .ok (.bipush 20, 2) := by decide +kernel
theorem dX8_isSo_35 : decode cX8_isSo 35 = .ok (.iload_n 1, 1) := by decide +kernel
theorem dX8_isSo_36 : decode cX8_isSo 36 = .ok (.iadd, 1) := by decide +kernel
theorem dX8_isSo_37 : decode cX8_isSo 37 = .ok (.iaload, 1) := by decide +kernel
theorem dX8_isSo_38 : decode cX8_isSo 38 = .ok (.goto 5, 3) := by decide +kernel
theorem dX8_isSo_4 : decode cX8_isSo 4 = .ok (.istore 5, 2) := by decide +kernel
theorem dX8_isSo_41 : decode cX8_isSo 41 = .ok (.bipush 99, 2) := by decide +kernel
theorem dX8_isSo_43 : decode cX8_isSo 43 = .ok (.istore 6, 2) := by decide +kernel
theorem dX8_isSo_45 : decode cX8_isSo 45 = .ok (.iload 4, 2) := by decide +kernel
theorem dX8_isSo_47 : decode cX8_isSo 47 = .ok (.ifCond .eq 21, 3) := by decide +kernel
theorem dX8_isSo_50 : decode cX8_isSo 50 = .ok (.aload_n 0, 1) := by decide +kernel
theorem dX8_isSo_51 : decode cX8_isSo 51 = .ok (.getfield 16, 3) := by decide +kernel
theorem dX8_isSo_54 : decode cX8_isSo 54 = .ok (.iload_n 2, 1) := by decide +kernel
theorem dX8_isSo_55 : decode cX8_isSo 55 = .ok (.iload 5, 2) := by decide +kernel
theorem dX8_isSo_57 : decode cX8_isSo 57 = .ok (.iadd, 1) := by decide +kernel
theorem dX8_isSo_58 : decode cX8_isSo 58 = .ok (.iaload, 1) := by decide +kernel
theorem dX8_isSo_59 : decode cX8_isSo 59 = .ok (.iload 6, 2) := by decide +kernel
theorem dX8_isSo_6 : decode cX8_isSo 6 = .ok (.iload 5, 2) := by decide +kernel
theorem dX8_isSo_61 : decode cX8_isSo 61 = .ok (.if_icmp .ne 7, 3) := by decide +kernel
theorem dX8_isSo_64 : decode cX8_isSo 64 = .ok (.iconst 1, 1) := by decide +kernel
theorem dX8_isSo_65 : decode cX8_isSo 65 = .ok (.goto 4, 3) := by decide +kernel
theorem dX8_isSo_68 : decode cX8_isSo 68 = .ok (.iconst 0, 1) := by decide +kernel
theorem dX8_isSo_69 : decode cX8_isSo 69 = .ok (.istore 4, 2) := by decide +kernel
theorem dX8_isSo_71 : decode cX8_isSo 71 = .ok (.iinc 5 1, 3) := by decide +kernel
theorem dX8_isSo_74 : decode cX8_isSo 74 = .ok (.goto (-68), 3) := by decide +kernel
theorem dX8_isSo_77 : decode cX8_isSo 77 = .ok (.aload_n 0, 1) := by decide +kernel
theorem dX8_isSo_78 : decode cX8_isSo 78 = .ok (.invokevirtual 194, 3) := by decide +kernel
theorem dX8_isSo_8 : decode cX8_isSo 8 = .ok (.iload_n 3, 1) := by decide +kernel
theorem dX8_isSo_81 : decode cX8_isSo 81 = .ok (.iload 4, 2) := by decide +kernel
theorem dX8_isSo_83 : decode cX8_isSo 83 = .ok (.ireturn, 1) := by decide +kernel
theorem dX8_isSo_9 : decode cX8_isSo 9 = .ok (.if_icmp .ge 68, 3) := by decide +kernel
theorem dX8_lacks_0 : decode cX8_lacks 0 = .ok (.aload_n 0, 1) := by decide +kernel
theorem dX8_lacks_1 : decode cX8_lacks 1 = .ok (.getfield 13, 3) := by decide +kernel
theorem dX8_lacks_10 : decode cX8_lacks 10 = .ok (.iconst 1, 1) := by decide +kernel
theorem dX8_lacks_11 : decode cX8_lacks 11 = .ok (.invokevirtual 68, 3) := by decide +kernel
theorem dX8_lacks_14 : decode cX8_lacks 14 = .ok (.ireturn, 1) := by decide +kernel
theorem dX8_lacks_15 : decode cX8_lacks 15 = .ok (.iload_n 2, 1) := by decide +kernel
theorem dX8_lacks_16 : decode cX8_lacks 16 = .ok (.i2l, 1) := by decide +kernel
theorem dX8_lacks_17 : decode cX8_lacks 17 = .ok (.lconst 0, 1) := by decide +kernel
theorem dX8_lacks_18 : decode cX8_lacks 18 = .ok (.aload_n 0, 1) := by decide +kernel
theorem dX8_lacks_19 : decode cX8_lacks 19 = .ok (.getfield 13, 3) := by decide +kernel
theorem dX8_lacks_22 : decode cX8_lacks 22 = .ok (.iload_n 1, 1) := by decide +kernel
theorem dX8_lacks_23 : decode cX8_lacks 23 = .ok (.iaload, 1) := by decide +kernel
theorem dX8_lacks_24 : decode cX8_lacks 24 = .ok (.iload_n 3, 1) := by decide +kernel
theorem dX8_lacks_25 : decode cX8_lacks 25 = .ok (.isub, 1) := by decide +kernel
theorem dX8_lacks_26 : decode cX8_lacks 26 = .ok (.i2l, 1) := by decide +kernel
theorem dX8_lacks_27 : decode cX8_lacks 27 = .ok (.invokestatic 57, 3) := by decide +kernel
theorem dX8_lacks_30 : decode cX8_lacks 30 = .ok (.ifCond .eq 7, 3) := by decide +kernel
theorem dX8_lacks_33 : decode cX8_lacks 33 = .ok (.iconst 0, 1) := by decide +kernel
theorem dX8_lacks_34 : decode cX8_lacks 34 = .ok (.goto 8, 3) := by decide +kernel
theorem dX8_lacks_37 : decode cX8_lacks 37 = .ok (.aload_n 0, 1) := by decide +kernel
theorem dX8_lacks_38 : decode cX8_lacks 38 = .ok (.iconst 2, 1) := by decide +kernel
theorem dX8_lacks_39 : decode cX8_lacks 39 = .ok (.invokevirtual 68, 3) := by decide +kernel
theorem dX8_lacks_4 : decode cX8_lacks 4 = .ok (.iload_n 1, 1) := by decide +kernel
theorem dX8_lacks_42 : decode cX8_lacks 42 = .ok (.ireturn, 1) := by decide +kernel
theorem dX8_lacks_5 : decode cX8_lacks 5 = .ok (.iaload, 1) := by decide +kernel
theorem dX8_lacks_6 : decode cX8_lacks 6 = .ok (.ifCond .ge 9, 3) := by decide +kernel
theorem dX8_lacks_9 : decode cX8_lacks 9 = .ok (.aload_n 0, 1) := by decide +kernel
theorem dX8_ones_0 : decode cX8_ones 0 = .ok (.iconst 0, 1) := by decide +kernel
theorem dX8_ones_1 : decode cX8_ones 1 = .ok (.istore_n 1, 1) := by decide +kernel
theorem dX8_ones_11 : decode cX8_ones 11 = .ok (.iload_n 2, 1) := by decide +kernel
theorem dX8_ones_12 : decode cX8_ones 12 = .ok (.iload_n 2, 1) := by decide +kernel
theorem dX8_ones_13 : decode cX8_ones 13 = .ok (.iconst 1, 1) := by decide +kernel
theorem dX8_ones_14 : decode cX8_ones 14 = .ok (.isub, 1) := by decide +kernel
theorem dX8_ones_15 : decode cX8_ones 15 = .ok (.iand, 1) := by decide +kernel
theorem dX8_ones_16 : decode cX8_ones 16 = .ok (.istore_n 2, 1) := by decide +kernel
theorem dX8_ones_17 : decode cX8_ones 17 = .ok (.goto (-13), 3) := by decide +kernel
theorem dX8_ones_2 : decode cX8_ones 2 = .ok (.iload_n 0, 1) := by decide +kernel
theorem dX8_ones_20 : decode cX8_ones 20 = .ok (.iload_n 1, 1) := by decide +kernel
theorem dX8_ones_21 : decode cX8_ones 21 = .ok (.ireturn, 1) := by decide +kernel
theorem dX8_ones_3 : decode cX8_ones 3 = .ok (.istore_n 2, 1) := by decide +kernel
theorem dX8_ones_4 : decode cX8_ones 4 = .ok (.iload_n 2, 1) := by decide +kernel
theorem dX8_ones_5 : decode cX8_ones 5 = .ok (.ifCond .eq 15, 3) := by decide +kernel
theorem dX8_ones_8 : decode cX8_ones 8 = .ok (.iinc 1 1, 3) := by decide +kernel
theorem dX8_who_0 : decode cX8_who 0 = .ok (.aload_n 0, 1) := by decide +kernel
theorem dX8_who_1 : decode cX8_who 1 = .ok (.iload_n 1, 1) := by decide +kernel
theorem dX8_who_102 : decode cX8_who 102 = .ok (.goto 25, 3) := by decide +kernel
theorem dX8_who_105 : decode cX8_who 105 = .ok (.aload_n 0, 1) := by decide +kernel
theorem dX8_who_106 : decode cX8_who 106 = .ok (.bipush 20, 2) := by decide +kernel
theorem dX8_who_108 : decode cX8_who 108 = .ok (.iload_n 1, 1) := by decide +kernel
theorem dX8_who_109 : decode cX8_who 109 = .ok (.iadd, 1) := by decide +kernel
theorem dX8_who_110 : decode cX8_who 110 = .ok (.iconst 0, 1) := by decide +kernel
theorem dX8_who_111 : decode cX8_who 111 = .ok (.aload_n 0, 1) := by decide +kernel
theorem dX8_who_112 : decode cX8_who 112 = .ok (.getfield 19, 3) := by decide +kernel
theorem dX8_who_115 : decode cX8_who 115 = .ok (.iconst 0, 1) := by decide +kernel
theorem dX8_who_116 : decode cX8_who 116 = .ok (.iaload, 1) := by decide +kernel
theorem dX8_who_117 : decode cX8_who 117 = .ok (.iconst 1, 1) := by decide +kernel
theorem dX8_who_118 : decode cX8_who 118 = .ok (.isub, 1) := by decide +kernel
theorem dX8_who_119 : decode cX8_who 119 = .ok (.iload_n 1, 1) := by decide +kernel
theorem dX8_who_12 : decode cX8_who 12 = .ok (.ifCond .eq 23, 3) := by decide +kernel
theorem dX8_who_120 : decode cX8_who 120 = .ok (.iload 7, 2) := by decide +kernel
theorem dX8_who_122 : decode cX8_who 122 = .ok (.iload 5, 2) := by decide +kernel
theorem dX8_who_124 : decode cX8_who 124 = .ok (.invokevirtual 232, 3) := by decide +kernel
theorem dX8_who_127 : decode cX8_who 127 = .ok (.ireturn, 1) := by decide +kernel
theorem dX8_who_15 : decode cX8_who 15 = .ok (.iload_n 3, 1) := by decide +kernel
theorem dX8_who_16 : decode cX8_who 16 = .ok (.invokestatic 61, 3) := by decide +kernel
theorem dX8_who_19 : decode cX8_who 19 = .ok (.ifCond .eq 16, 3) := by decide +kernel
theorem dX8_who_2 : decode cX8_who 2 = .ok (.invokevirtual 173, 3) := by decide +kernel
theorem dX8_who_22 : decode cX8_who 22 = .ok (.iload 5, 2) := by decide +kernel
theorem dX8_who_24 : decode cX8_who 24 = .ok (.i2l, 1) := by decide +kernel
theorem dX8_who_25 : decode cX8_who 25 = .ok (.lconst 1, 1) := by decide +kernel
theorem dX8_who_26 : decode cX8_who 26 = .ok (.ldc2_w 226, 3) := by decide +kernel
theorem dX8_who_29 : decode cX8_who 29 = .ok (.invokestatic 57, 3) := by decide +kernel
theorem dX8_who_32 : decode cX8_who 32 = .ok (.ifCond .ne 6, 3) := by decide +kernel
theorem dX8_who_35 : decode cX8_who 35 = .ok (.ldc 67, 2) := by decide +kernel
theorem dX8_who_37 : decode cX8_who 37 = .ok (.ireturn, 1) := by decide +kernel
theorem dX8_who_38 : decode cX8_who 38 = .ok (.aload_n 0, 1) := by decide +kernel
theorem dX8_who_39 : decode cX8_who 39 = .ok (.getfield 19, 3) := by decide +kernel
theorem dX8_who_42 : decode cX8_who 42 = .ok (.bipush 26, 2) := by decide +kernel
theorem dX8_who_44 : decode cX8_who 44 = .ok (.iload_n 1, 1) := by decide +kernel
theorem dX8_who_45 : decode cX8_who 45 = .ok (.iadd, 1) := by decide +kernel
theorem dX8_who_46 : decode cX8_who 46 = .ok (.iaload, 1) := by decide +kernel
theorem dX8_who_47 : decode cX8_who 47 = .ok (.ifCond .eq 6, 3) := by decide +kernel
theorem dX8_who_5 : decode cX8_who 5 = .ok (.ifCond .eq 30, 3) := by decide +kernel
theorem dX8_who_50 : decode cX8_who 50 = .ok (.ldc 161, 2) := by decide +kernel
theorem dX8_who_52 : decode cX8_who 52 = .ok (.ireturn, 1) := by decide +kernel
theorem dX8_who_53 : decode cX8_who 53 = .ok (.aload_n 0, 1) := by decide +kernel
theorem dX8_who_54 : decode cX8_who 54 = .ok (.iload_n 3, 1) := by decide +kernel
theorem dX8_who_55 : decode cX8_who 55 = .ok (.iload 4, 2) := by decide +kernel
theorem dX8_who_57 : decode cX8_who 57 = .ok (.iload 5, 2) := by decide +kernel
theorem dX8_who_59 : decode cX8_who 59 = .ok (.invokevirtual 228, 3) := by decide +kernel
theorem dX8_who_62 : decode cX8_who 62 = .ok (.istore 6, 2) := by decide +kernel
theorem dX8_who_64 : decode cX8_who 64 = .ok (.bipush 40, 2) := by decide +kernel
theorem dX8_who_66 : decode cX8_who 66 = .ok (.iload_n 3, 1) := by decide +kernel
theorem dX8_who_67 : decode cX8_who 67 = .ok (.imul, 1) := by decide +kernel
theorem dX8_who_68 : decode cX8_who 68 = .ok (.iload 4, 2) := by decide +kernel
theorem dX8_who_70 : decode cX8_who 70 = .ok (.iadd, 1) := by decide +kernel
theorem dX8_who_71 : decode cX8_who 71 = .ok (.istore 7, 2) := by decide +kernel
theorem dX8_who_73 : decode cX8_who 73 = .ok (.iload 6, 2) := by decide +kernel
theorem dX8_who_75 : decode cX8_who 75 = .ok (.ifCond .ge 8, 3) := by decide +kernel
theorem dX8_who_78 : decode cX8_who 78 = .ok (.iload 6, 2) := by decide +kernel
theorem dX8_who_8 : decode cX8_who 8 = .ok (.iload_n 2, 1) := by decide +kernel
theorem dX8_who_80 : decode cX8_who 80 = .ok (.goto 47, 3) := by decide +kernel
theorem dX8_who_83 : decode cX8_who 83 = .ok (.iload_n 2, 1) := by decide +kernel
theorem dX8_who_84 : decode cX8_who 84 = .ok (.ifCond .ne 21, 3) := by decide +kernel
theorem dX8_who_87 : decode cX8_who 87 = .ok (.aload_n 0, 1) := by decide +kernel
theorem dX8_who_88 : decode cX8_who 88 = .ok (.bipush 14, 2) := by decide +kernel
theorem dX8_who_9 : decode cX8_who 9 = .ok (.invokestatic 210, 3) := by decide +kernel
theorem dX8_who_90 : decode cX8_who 90 = .ok (.iload_n 1, 1) := by decide +kernel
theorem dX8_who_91 : decode cX8_who 91 = .ok (.iadd, 1) := by decide +kernel
theorem dX8_who_92 : decode cX8_who 92 = .ok (.iconst 1, 1) := by decide +kernel
theorem dX8_who_93 : decode cX8_who 93 = .ok (.iconst 5, 1) := by decide +kernel
theorem dX8_who_94 : decode cX8_who 94 = .ok (.iload_n 1, 1) := by decide +kernel
theorem dX8_who_95 : decode cX8_who 95 = .ok (.iload 7, 2) := by decide +kernel
theorem dX8_who_97 : decode cX8_who 97 = .ok (.iload 5, 2) := by decide +kernel
theorem dX8_who_99 : decode cX8_who 99 = .ok (.invokevirtual 232, 3) := by decide +kernel
set_option maxRecDepth 20000 in
theorem ggX8_calm_X8_goOn : GoodIn wsX8_calm wsX8_goOn := goodIn_r _ [27, 28, 29, 30, 9, 31, 4, 32, 33, 34, 35, 36, 37, 38, 39, 40, 41, 42, 43, 44, 45, 46, 11, 12, 13, 47, 48, 49, 50, 55, 56, 57, 58, 59, 60, 61, 62, 63, 64, 65, 66, 67, 68, 69, 70, 71, 72, 73, 74, 75, 76, 77, 78] (by decide +kernel) (by decide +kernel)
set_option maxRecDepth 20000 in
theorem gX8_calm_X8_goOn : GoodIn wsX8_calm (wsV RX8 190 RX8 yX8_goOn wsX8_goOn) := goodIn_app (goodIn_of _ (by decide +kernel)) ggX8_calm_X8_goOn
set_option maxRecDepth 20000 in
theorem ggX8_calm_X8_has : GoodIn wsX8_calm wsX8_has := goodIn_r _ [23] (by decide +kernel) (by decide +kernel)
set_option maxRecDepth 20000 in
theorem gX8_calm_X8_has : GoodIn wsX8_calm (va_wsS RX8 213 yX8_has wsX8_has) := goodIn_app (goodIn_of _ (by decide +kernel)) ggX8_calm_X8_has
set_option maxRecDepth 20000 in
theorem ggX8_calm_X8_in : GoodIn wsX8_calm wsX8_in := goodIn_r _ [13] (by decide +kernel) (by decide +kernel)
set_option maxRecDepth 20000 in
theorem gX8_calm_X8_in : GoodIn wsX8_calm (va_wsS RX8 57 yX8_in wsX8_in) := goodIn_app (goodIn_of _ (by decide +kernel)) ggX8_calm_X8_in
set_option maxRecDepth 20000 in
theorem ggX8_calm_X8_isSound : GoodIn wsX8_calm wsX8_isSound := goodIn_r _ [10, 4, 11, 12, 9, 13, 55, 56, 57, 58, 59, 60, 61, 62, 63, 64, 65, 66, 67, 68, 69, 70, 71, 72, 73, 74, 75, 76, 77, 78] (by decide +kernel) (by decide +kernel)
set_option maxRecDepth 20000 in
theorem gX8_calm_X8_isSound : GoodIn wsX8_calm (wsV RX8 173 RX8 yX8_isSound wsX8_isSound) := goodIn_app (goodIn_of _ (by decide +kernel)) ggX8_calm_X8_isSound
set_option maxRecDepth 20000 in
theorem ggX8_calm_X8_isWhat : GoodIn wsX8_calm wsX8_isWhat := goodIn_r _ [16, 11, 12, 9, 13] (by decide +kernel) (by decide +kernel)
set_option maxRecDepth 20000 in
theorem gX8_calm_X8_isWhat : GoodIn wsX8_calm (va_wsS RX8 210 yX8_isWhat wsX8_isWhat) := goodIn_app (goodIn_of _ (by decide +kernel)) ggX8_calm_X8_isWhat
set_option maxRecDepth 20000 in
theorem ggX8_calm_X8_putAside : GoodIn wsX8_calm wsX8_putAside := goodIn_r _ [20, 5, 4, 55, 56, 57, 58, 59, 60, 61, 62, 63, 64, 65, 66, 67, 68, 69, 70, 71, 72, 73, 74, 75, 76, 77, 78] (by decide +kernel) (by decide +kernel)
set_option maxRecDepth 20000 in
theorem gX8_calm_X8_putAside : GoodIn wsX8_calm (wsV RX8 197 RX8 yX8_putAside wsX8_putAside) := goodIn_app (goodIn_of _ (by decide +kernel)) ggX8_calm_X8_putAside
set_option maxRecDepth 20000 in
theorem ggX8_calm_X8_takeBack : GoodIn wsX8_calm wsX8_takeBack := goodIn_r _ [54, 4, 5, 55, 56, 57, 58, 59, 60, 61, 62, 63, 64, 65, 66, 67, 68, 69, 70, 71, 72, 73, 74, 75, 76, 77, 78] (by decide +kernel) (by decide +kernel)
set_option maxRecDepth 20000 in
theorem gX8_calm_X8_takeBack : GoodIn wsX8_calm (wsV RX8 194 RX8 yX8_takeBack wsX8_takeBack) := goodIn_app (goodIn_of _ (by decide +kernel)) ggX8_calm_X8_takeBack
set_option maxRecDepth 20000 in
theorem ggX8_drawn_X8_in : GoodIn wsX8_drawn wsX8_in := goodIn_r _ [16] (by decide +kernel) (by decide +kernel)
set_option maxRecDepth 20000 in
theorem gX8_drawn_X8_in : GoodIn wsX8_drawn (va_wsS RX8 57 yX8_in wsX8_in) := goodIn_app (goodIn_of _ (by decide +kernel)) ggX8_drawn_X8_in
set_option maxRecDepth 20000 in
theorem ggX8_drawn_X8_isWhat : GoodIn wsX8_drawn wsX8_isWhat := goodIn_r _ [19, 13, 14, 15, 16] (by decide +kernel) (by decide +kernel)
set_option maxRecDepth 20000 in
theorem gX8_drawn_X8_isWhat : GoodIn wsX8_drawn (va_wsS RX8 210 yX8_isWhat wsX8_isWhat) := goodIn_app (goodIn_of _ (by decide +kernel)) ggX8_drawn_X8_isWhat
set_option maxRecDepth 20000 in
theorem ggX8_drawn_X8_letLoose : GoodIn wsX8_drawn wsX8_letLoose := goodIn_r _ [28, 9, 63, 64, 65, 66, 67, 68, 69, 70, 71, 72, 73, 74, 75, 76, 77, 78, 79, 80, 81, 82, 83, 84, 85, 86] (by decide +kernel) (by decide +kernel)
set_option maxRecDepth 20000 in
theorem gX8_drawn_X8_letLoose : GoodIn wsX8_drawn (wsV RX8 178 RX8 yX8_letLoose wsX8_letLoose) := goodIn_app (goodIn_of _ (by decide +kernel)) ggX8_drawn_X8_letLoose
set_option maxRecDepth 20000 in
theorem ggX8_drawn_X8_oneHour : GoodIn wsX8_drawn wsX8_oneHour := goodIn_r _ [32, 9, 33, 34, 35, 15, 36, 37, 38, 39, 40, 41, 42, 43, 44, 45, 46, 47, 13, 14, 16, 48, 49, 50, 51, 63, 64, 65, 66, 67, 68, 69, 70, 71, 72, 73, 74, 75, 76, 77, 78, 79, 80, 81, 82, 83, 84, 85, 86] (by decide +kernel) (by decide +kernel)
set_option maxRecDepth 20000 in
theorem gX8_drawn_X8_oneHour : GoodIn wsX8_drawn (wsV RX8 167 RX8 yX8_oneHour wsX8_oneHour) := goodIn_app (goodIn_of _ (by decide +kernel)) ggX8_drawn_X8_oneHour
set_option maxRecDepth 20000 in
theorem ggX8_drawn_X8_ones : GoodIn wsX8_drawn wsX8_ones := goodIn_r _ [58] (by decide +kernel) (by decide +kernel)
set_option maxRecDepth 20000 in
theorem gX8_drawn_X8_ones : GoodIn wsX8_drawn (va_wsS RX8 254 yX8_ones wsX8_ones) := goodIn_app (goodIn_of _ (by decide +kernel)) ggX8_drawn_X8_ones
set_option maxRecDepth 20000 in
theorem ggX8_drawn_X8_putAside : GoodIn wsX8_drawn wsX8_putAside := goodIn_r _ [23, 24, 9, 63, 64, 65, 66, 67, 68, 69, 70, 71, 72, 73, 74, 75, 76, 77, 78, 79, 80, 81, 82, 83, 84, 85, 86] (by decide +kernel) (by decide +kernel)
set_option maxRecDepth 20000 in
theorem gX8_drawn_X8_putAside : GoodIn wsX8_drawn (wsV RX8 197 RX8 yX8_putAside wsX8_putAside) := goodIn_app (goodIn_of _ (by decide +kernel)) ggX8_drawn_X8_putAside
set_option maxRecDepth 20000 in
theorem ggX8_drawn_X8_takeBack : GoodIn wsX8_drawn wsX8_takeBack := goodIn_r _ [62, 9, 24, 63, 64, 65, 66, 67, 68, 69, 70, 71, 72, 73, 74, 75, 76, 77, 78, 79, 80, 81, 82, 83, 84, 85, 86] (by decide +kernel) (by decide +kernel)
set_option maxRecDepth 20000 in
theorem gX8_drawn_X8_takeBack : GoodIn wsX8_drawn (wsV RX8 194 RX8 yX8_takeBack wsX8_takeBack) := goodIn_app (goodIn_of _ (by decide +kernel)) ggX8_drawn_X8_takeBack
set_option maxRecDepth 20000 in
theorem ggX8_drawn_X8_those : GoodIn wsX8_drawn wsX8_those := goodIn_r _ [55, 9, 63, 64, 65, 66, 67, 68, 69, 70, 71, 72, 73, 74, 75, 76, 77, 78, 79, 80, 81, 82, 83, 84, 85, 86] (by decide +kernel) (by decide +kernel)
set_option maxRecDepth 20000 in
theorem gX8_drawn_X8_those : GoodIn wsX8_drawn (wsV RX8 182 RX8 yX8_those wsX8_those) := goodIn_app (goodIn_of _ (by decide +kernel)) ggX8_drawn_X8_those
set_option maxRecDepth 20000 in
theorem ggX8_fits_X8_isSo : GoodIn wsX8_fits wsX8_isSo := goodIn_r _ [11, 1, 12, 13, 14, 15, 5, 16, 17, 18, 19, 20, 21, 22, 23, 24, 25, 26, 27, 28, 29, 30, 31, 32, 33, 34, 35, 36, 37, 38, 39, 40, 41, 42, 7, 48, 49, 50, 51, 52, 53, 54, 55, 56, 57, 58, 59, 60, 61, 62, 63, 64, 65, 66, 67, 68, 69, 70, 71] (by decide +kernel) (by decide +kernel)
set_option maxRecDepth 20000 in
theorem gX8_fits_X8_isSo : GoodIn wsX8_fits (wsV RX8 222 RX8 yX8_isSo wsX8_isSo) := goodIn_app (goodIn_of _ (by decide +kernel)) ggX8_fits_X8_isSo
set_option maxRecDepth 20000 in
theorem ggX8_fits_X8_putAside : GoodIn wsX8_fits wsX8_putAside := goodIn_r _ [6, 7, 1, 48, 49, 50, 51, 52, 53, 54, 55, 56, 57, 58, 59, 60, 61, 62, 63, 64, 65, 66, 67, 68, 69, 70, 71] (by decide +kernel) (by decide +kernel)
set_option maxRecDepth 20000 in
theorem gX8_fits_X8_putAside : GoodIn wsX8_fits (wsV RX8 197 RX8 yX8_putAside wsX8_putAside) := goodIn_app (goodIn_of _ (by decide +kernel)) ggX8_fits_X8_putAside
set_option maxRecDepth 20000 in
theorem ggX8_fits_X8_well : GoodIn wsX8_fits wsX8_well := goodIn_r _ [46, 47, 48, 49, 50, 51, 52, 53, 54, 55, 56, 57, 58, 59, 60, 61, 62, 63, 64, 65, 66, 67, 68, 69, 70, 71] (by decide +kernel) (by decide +kernel)
set_option maxRecDepth 20000 in
theorem gX8_fits_X8_well : GoodIn wsX8_fits (wsV RX8 72 RX8 yX8_well wsX8_well) := goodIn_app (goodIn_of _ (by decide +kernel)) ggX8_fits_X8_well
set_option maxRecDepth 20000 in
theorem ggX8_gusts_X8_fits : GoodIn wsX8_gusts wsX8_fits := goodIn_r _ [32, 2, 33, 34, 35, 8, 36, 37, 38, 39, 40, 41, 42, 43, 44, 45, 46, 47, 48, 49, 50, 51, 52, 53, 54, 55, 56, 57, 58, 59, 60, 61, 6, 7, 9, 62, 63, 64, 65, 66, 67, 68, 69, 70, 71, 72, 73, 27, 74, 75, 76, 77, 78, 79, 80, 81, 82, 83, 84, 85, 86, 87, 88, 89, 90, 91, 92, 93, 94, 95, 96, 97] (by decide +kernel) (by decide +kernel)
set_option maxRecDepth 20000 in
theorem gX8_gusts_X8_fits : GoodIn wsX8_gusts (wsV RX8 232 RX8 yX8_fits wsX8_fits) := goodIn_app (goodIn_of _ (by decide +kernel)) ggX8_gusts_X8_fits
set_option maxRecDepth 20000 in
theorem ggX8_gusts_X8_in : GoodIn wsX8_gusts wsX8_in := goodIn_r _ [9] (by decide +kernel) (by decide +kernel)
set_option maxRecDepth 20000 in
theorem gX8_gusts_X8_in : GoodIn wsX8_gusts (va_wsS RX8 57 yX8_in wsX8_in) := goodIn_app (goodIn_of _ (by decide +kernel)) ggX8_gusts_X8_in
set_option maxRecDepth 20000 in
theorem ggX8_gusts_X8_isRow : GoodIn wsX8_gusts wsX8_isRow := goodIn_r _ [16, 17, 6, 7, 8, 9] (by decide +kernel) (by decide +kernel)
set_option maxRecDepth 20000 in
theorem gX8_gusts_X8_isRow : GoodIn wsX8_gusts (va_wsS RX8 61 yX8_isRow wsX8_isRow) := goodIn_app (goodIn_of _ (by decide +kernel)) ggX8_gusts_X8_isRow
set_option maxRecDepth 20000 in
theorem ggX8_gusts_X8_isSound : GoodIn wsX8_gusts wsX8_isSound := goodIn_r _ [13, 2, 6, 7, 8, 9, 74, 75, 76, 77, 78, 79, 80, 81, 82, 83, 84, 85, 86, 87, 88, 89, 90, 91, 92, 93, 94, 95, 96, 97] (by decide +kernel) (by decide +kernel)
set_option maxRecDepth 20000 in
theorem gX8_gusts_X8_isSound : GoodIn wsX8_gusts (wsV RX8 173 RX8 yX8_isSound wsX8_isSound) := goodIn_app (goodIn_of _ (by decide +kernel)) ggX8_gusts_X8_isSound
set_option maxRecDepth 20000 in
theorem ggX8_gusts_X8_lacks : GoodIn wsX8_gusts wsX8_lacks := goodIn_r _ [21, 22, 23, 24, 25, 8, 26, 27, 28, 6, 7, 9, 74, 75, 76, 77, 78, 79, 80, 81, 82, 83, 84, 85, 86, 87, 88, 89, 90, 91, 92, 93, 94, 95, 96, 97] (by decide +kernel) (by decide +kernel)
set_option maxRecDepth 20000 in
theorem gX8_gusts_X8_lacks : GoodIn wsX8_gusts (wsV RX8 228 RX8 yX8_lacks wsX8_lacks) := goodIn_app (goodIn_of _ (by decide +kernel)) ggX8_gusts_X8_lacks
set_option maxRecDepth 20000 in
theorem ggX8_isSo_X8_oneHour : GoodIn wsX8_isSo wsX8_oneHour := goodIn_r _ [7, 1, 8, 9, 10, 6, 11, 12, 13, 14, 15, 16, 17, 18, 19, 20, 21, 22, 23, 24, 25, 26, 27, 28, 29, 35, 36, 37, 38, 39, 40, 41, 42, 43, 44, 45, 46, 47, 48, 49, 50, 51, 52, 53, 54, 55, 56, 57, 58] (by decide +kernel) (by decide +kernel)
set_option maxRecDepth 20000 in
theorem gX8_isSo_X8_oneHour : GoodIn wsX8_isSo (wsV RX8 167 RX8 yX8_oneHour wsX8_oneHour) := goodIn_app (goodIn_of _ (by decide +kernel)) ggX8_isSo_X8_oneHour
set_option maxRecDepth 20000 in
theorem ggX8_isSo_X8_takeBack : GoodIn wsX8_isSo wsX8_takeBack := goodIn_r _ [33, 1, 34, 35, 36, 37, 38, 39, 40, 41, 42, 43, 44, 45, 46, 47, 48, 49, 50, 51, 52, 53, 54, 55, 56, 57, 58] (by decide +kernel) (by decide +kernel)
set_option maxRecDepth 20000 in
theorem gX8_isSo_X8_takeBack : GoodIn wsX8_isSo (wsV RX8 194 RX8 yX8_takeBack wsX8_takeBack) := goodIn_app (goodIn_of _ (by decide +kernel)) ggX8_isSo_X8_takeBack
set_option maxRecDepth 20000 in
theorem ggX8_lacks_X8_find : GoodIn wsX8_lacks wsX8_find := goodIn_r _ [6, 7, 8, 12, 13, 14, 15, 16, 17, 18, 19, 20, 21, 22, 23, 24, 25, 26, 27, 28, 29, 30, 31, 32, 33, 34, 35] (by decide +kernel) (by decide +kernel)
set_option maxRecDepth 20000 in
theorem gX8_lacks_X8_find : GoodIn wsX8_lacks (wsV RX8 68 RX8 yX8_find wsX8_find) := goodIn_app (goodIn_of _ (by decide +kernel)) ggX8_lacks_X8_find
set_option maxRecDepth 20000 in
theorem ggX8_lacks_X8_in : GoodIn wsX8_lacks wsX8_in := goodIn_r _ [11] (by decide +kernel) (by decide +kernel)
set_option maxRecDepth 20000 in
theorem gX8_lacks_X8_in : GoodIn wsX8_lacks (va_wsS RX8 57 yX8_in wsX8_in) := goodIn_app (goodIn_of _ (by decide +kernel)) ggX8_lacks_X8_in
set_option maxRecDepth 20000 in
theorem ggX8_who_X8_fits : GoodIn wsX8_who wsX8_fits := goodIn_r _ [34, 3, 35, 36, 37, 8, 38, 39, 40, 41, 42, 43, 44, 45, 46, 47, 48, 49, 50, 51, 52, 53, 54, 55, 56, 57, 58, 59, 60, 61, 62, 63, 10, 11, 12, 64, 65, 66, 67, 68, 69, 70, 71, 72, 73, 74, 75, 29, 76, 77, 78, 79, 80, 81, 82, 83, 84, 85, 86, 87, 88, 89, 90, 91, 92, 93, 94, 95, 96, 97, 98, 99] (by decide +kernel) (by decide +kernel)
set_option maxRecDepth 20000 in
theorem gX8_who_X8_fits : GoodIn wsX8_who (wsV RX8 232 RX8 yX8_fits wsX8_fits) := goodIn_app (goodIn_of _ (by decide +kernel)) ggX8_who_X8_fits
set_option maxRecDepth 20000 in
theorem ggX8_who_X8_in : GoodIn wsX8_who wsX8_in := goodIn_r _ [12] (by decide +kernel) (by decide +kernel)
set_option maxRecDepth 20000 in
theorem gX8_who_X8_in : GoodIn wsX8_who (va_wsS RX8 57 yX8_in wsX8_in) := goodIn_app (goodIn_of _ (by decide +kernel)) ggX8_who_X8_in
set_option maxRecDepth 20000 in
theorem ggX8_who_X8_isRow : GoodIn wsX8_who wsX8_isRow := goodIn_r _ [18, 19, 10, 11, 8, 12] (by decide +kernel) (by decide +kernel)
set_option maxRecDepth 20000 in
theorem gX8_who_X8_isRow : GoodIn wsX8_who (va_wsS RX8 61 yX8_isRow wsX8_isRow) := goodIn_app (goodIn_of _ (by decide +kernel)) ggX8_who_X8_isRow
set_option maxRecDepth 20000 in
theorem ggX8_who_X8_isSound : GoodIn wsX8_who wsX8_isSound := goodIn_r _ [9, 3, 10, 11, 8, 12, 76, 77, 78, 79, 80, 81, 82, 83, 84, 85, 86, 87, 88, 89, 90, 91, 92, 93, 94, 95, 96, 97, 98, 99] (by decide +kernel) (by decide +kernel)
set_option maxRecDepth 20000 in
theorem gX8_who_X8_isSound : GoodIn wsX8_who (wsV RX8 173 RX8 yX8_isSound wsX8_isSound) := goodIn_app (goodIn_of _ (by decide +kernel)) ggX8_who_X8_isSound
set_option maxRecDepth 20000 in
theorem ggX8_who_X8_isWhat : GoodIn wsX8_who wsX8_isWhat := goodIn_r _ [15, 10, 11, 8, 12] (by decide +kernel) (by decide +kernel)
set_option maxRecDepth 20000 in
theorem gX8_who_X8_isWhat : GoodIn wsX8_who (va_wsS RX8 210 yX8_isWhat wsX8_isWhat) := goodIn_app (goodIn_of _ (by decide +kernel)) ggX8_who_X8_isWhat
set_option maxRecDepth 20000 in
theorem ggX8_who_X8_lacks : GoodIn wsX8_who wsX8_lacks := goodIn_r _ [23, 24, 25, 26, 27, 8, 28, 29, 30, 10, 11, 12, 76, 77, 78, 79, 80, 81, 82, 83, 84, 85, 86, 87, 88, 89, 90, 91, 92, 93, 94, 95, 96, 97, 98, 99] (by decide +kernel) (by decide +kernel)
set_option maxRecDepth 20000 in
theorem gX8_who_X8_lacks : GoodIn wsX8_who (wsV RX8 228 RX8 yX8_lacks wsX8_lacks) := goodIn_app (goodIn_of _ (by decide +kernel)) ggX8_who_X8_lacks
set_option maxRecDepth 20000 in
theorem i_X8_calm_X8 : ∀ w ∈ u_ws RX8 TX8 24, w ∈ wsX8_calm := by decide +kernel
set_option maxRecDepth 20000 in
theorem i_X8_drawn_X8 : ∀ w ∈ u_ws RX8 TX8 24, w ∈ wsX8_drawn := by decide +kernel
set_option maxRecDepth 20000 in
theorem i_X8_fits_X8 : ∀ w ∈ u_ws RX8 TX8 24, w ∈ wsX8_fits := by decide +kernel
set_option maxRecDepth 20000 in
theorem i_X8_gusts_X8 : ∀ w ∈ u_ws RX8 TX8 24, w ∈ wsX8_gusts := by decide +kernel
set_option maxRecDepth 20000 in
theorem i_X8_isSo_X8 : ∀ w ∈ u_ws RX8 TX8 24, w ∈ wsX8_isSo := by decide +kernel
set_option maxRecDepth 20000 in
theorem i_X8_lacks_X8 : ∀ w ∈ u_ws RX8 TX8 24, w ∈ wsX8_lacks := by decide +kernel
set_option maxRecDepth 20000 in
theorem i_X8_who_X8 : ∀ w ∈ u_ws RX8 TX8 24, w ∈ wsX8_who := by decide +kernel
