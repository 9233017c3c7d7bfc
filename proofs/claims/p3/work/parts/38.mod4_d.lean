theorem dX8_byTurns_0 : decode cX8_byTurns 0 = .ok (.aload_n 0, 1) := by decide +kernel
theorem dX8_byTurns_1 : decode cX8_byTurns 1 = .ok (.getfield 138, 3) := by decide +kernel
theorem dX8_byTurns_10 : decode cX8_byTurns 10 = .ok (.iload_n 1, 1) := by decide +kernel
theorem dX8_byTurns_102 : decode cX8_byTurns 102 = .ok (.iload 5, 2) := by decide +kernel
theorem dX8_byTurns_104 : decode cX8_byTurns 104 = .ok (.iconst 2, 1) := by decide +kernel
theorem dX8_byTurns_105 : decode cX8_byTurns 105 = .ok (.irem, 1) := by decide +kernel
theorem dX8_byTurns_106 : decode cX8_byTurns 106 = .ok (.ifCond .ne 15, 3) := by decide +kernel
theorem dX8_byTurns_109 : decode cX8_byTurns 109 = .ok (.iconst 1, 1) := by decide +kernel
theorem dX8_byTurns_11 : decode cX8_byTurns 11 = .ok (.i2l, 1) := by decide +kernel
theorem dX8_byTurns_110 : decode cX8_byTurns 110 = .ok (.aload_n 0, 1) := by decide +kernel
theorem dX8_byTurns_111 : decode cX8_byTurns 111 = .ok (.getfield 19, 3) := by decide +kernel
theorem dX8_byTurns_114 : decode cX8_byTurns 114 = .ok (.bipush 6, 2) := by decide +kernel
theorem dX8_byTurns_116 : decode cX8_byTurns 116 = .ok (.iaload, 1) := by decide +kernel
theorem dX8_byTurns_117 : decode cX8_byTurns 117 = .ok (.isub, 1) := by decide +kernel
theorem dX8_byTurns_118 : decode cX8_byTurns 118 = .ok (.goto 10, 3) := by decide +kernel
theorem dX8_byTurns_12 : decode cX8_byTurns 12 = .ok (.lconst 0, 1) := by decide +kernel
theorem dX8_byTurns_121 : decode cX8_byTurns 121 = .ok (.aload_n 0, 1) := by decide +kernel
theorem dX8_byTurns_122 : decode cX8_byTurns 122 = .ok (.getfield 19, 3) := by decide +kernel
theorem dX8_byTurns_125 : decode cX8_byTurns 125 = .ok (.bipush 6, 2) := by decide +kernel
theorem dX8_byTurns_127 : decode cX8_byTurns 127 = .ok (.iaload, 1) := by decide +kernel
theorem dX8_byTurns_128 : decode cX8_byTurns 128 = .ok (.iastore, 1) := by decide +kernel
theorem dX8_byTurns_129 : decode cX8_byTurns 129 = .ok (.aload_n 0, 1) := by decide +kernel
theorem dX8_byTurns_13 : decode cX8_byTurns 13 = .ok (.ldc2_w 171, 3) := by decide +kernel
theorem dX8_byTurns_130 : decode cX8_byTurns 130 = .ok (.getfield 19, 3) := by decide +kernel
theorem dX8_byTurns_133 : decode cX8_byTurns 133 = .ok (.iload_n 3, 1) := by decide +kernel
theorem dX8_byTurns_134 : decode cX8_byTurns 134 = .ok (.iload 6, 2) := by decide +kernel
theorem dX8_byTurns_136 : decode cX8_byTurns 136 = .ok (.ifCond .eq 22, 3) := by decide +kernel
theorem dX8_byTurns_139 : decode cX8_byTurns 139 = .ok (.iload 5, 2) := by decide +kernel
theorem dX8_byTurns_141 : decode cX8_byTurns 141 = .ok (.iconst 2, 1) := by decide +kernel
theorem dX8_byTurns_142 : decode cX8_byTurns 142 = .ok (.irem, 1) := by decide +kernel
theorem dX8_byTurns_143 : decode cX8_byTurns 143 = .ok (.iconst 1, 1) := by decide +kernel
theorem dX8_byTurns_144 : decode cX8_byTurns 144 = .ok (.if_icmp .ne 14, 3) := by decide +kernel
theorem dX8_byTurns_147 : decode cX8_byTurns 147 = .ok (.iconst 4, 1) := by decide +kernel
theorem dX8_byTurns_148 : decode cX8_byTurns 148 = .ok (.aload_n 0, 1) := by decide +kernel
theorem dX8_byTurns_149 : decode cX8_byTurns 149 = .ok (.getfield 19, 3) := by decide +kernel
theorem dX8_byTurns_152 : decode cX8_byTurns 152 = .ok (.iload_n 3, 1) := by decide +kernel
theorem dX8_byTurns_153 : decode cX8_byTurns 153 = .ok (.iaload, 1) := by decide +kernel
theorem dX8_byTurns_154 : decode cX8_byTurns 154 = .ok (.isub, 1) := by decide +kernel
theorem dX8_byTurns_155 : decode cX8_byTurns 155 = .ok (.goto 9, 3) := by decide +kernel
theorem dX8_byTurns_158 : decode cX8_byTurns 158 = .ok (.aload_n 0, 1) := by decide +kernel
theorem dX8_byTurns_159 : decode cX8_byTurns 159 = .ok (.getfield 19, 3) := by decide +kernel
theorem dX8_byTurns_16 : decode cX8_byTurns 16 = .ok (.invokestatic 57, 3) := by decide +kernel
theorem dX8_byTurns_162 : decode cX8_byTurns 162 = .ok (.iload_n 3, 1) := by decide +kernel
theorem dX8_byTurns_163 : decode cX8_byTurns 163 = .ok (.iaload, 1) := by decide +kernel
theorem dX8_byTurns_164 : decode cX8_byTurns 164 = .ok (.iastore, 1) := by decide +kernel
theorem dX8_byTurns_165 : decode cX8_byTurns 165 = .ok (.iinc 5 1, 3) := by decide +kernel
theorem dX8_byTurns_168 : decode cX8_byTurns 168 = .ok (.goto (-96), 3) := by decide +kernel
theorem dX8_byTurns_171 : decode cX8_byTurns 171 = .ok (.aload_n 0, 1) := by decide +kernel
theorem dX8_byTurns_172 : decode cX8_byTurns 172 = .ok (.getfield 37, 3) := by decide +kernel
theorem dX8_byTurns_175 : decode cX8_byTurns 175 = .ok (.iload 4, 2) := by decide +kernel
theorem dX8_byTurns_177 : decode cX8_byTurns 177 = .ok (.aload_n 0, 1) := by decide +kernel
theorem dX8_byTurns_178 : decode cX8_byTurns 178 = .ok (.iload_n 2, 1) := by decide +kernel
theorem dX8_byTurns_179 : decode cX8_byTurns 179 = .ok (.invokevirtual 200, 3) := by decide +kernel
theorem dX8_byTurns_182 : decode cX8_byTurns 182 = .ok (.iastore, 1) := by decide +kernel
theorem dX8_byTurns_183 : decode cX8_byTurns 183 = .ok (.iinc 4 1, 3) := by decide +kernel
theorem dX8_byTurns_186 : decode cX8_byTurns 186 = .ok (.goto (-125), 3) := by decide +kernel
theorem dX8_byTurns_189 : decode cX8_byTurns 189 = .ok (.iload_n 1, 1) := by decide +kernel
theorem dX8_byTurns_19 : decode cX8_byTurns 19 = .ok (.ifCond .eq 15, 3) := by decide +kernel
theorem dX8_byTurns_190 : decode cX8_byTurns 190 = .ok (.iconst 1, 1) := by decide +kernel
theorem dX8_byTurns_191 : decode cX8_byTurns 191 = .ok (.isub, 1) := by decide +kernel
theorem dX8_byTurns_192 : decode cX8_byTurns 192 = .ok (.istore 4, 2) := by decide +kernel
theorem dX8_byTurns_194 : decode cX8_byTurns 194 = .ok (.iload 4, 2) := by decide +kernel
theorem dX8_byTurns_196 : decode cX8_byTurns 196 = .ok (.ifCond .lt 92, 3) := by decide +kernel
theorem dX8_byTurns_199 : decode cX8_byTurns 199 = .ok (.iconst 0, 1) := by decide +kernel
theorem dX8_byTurns_200 : decode cX8_byTurns 200 = .ok (.istore 5, 2) := by decide +kernel
theorem dX8_byTurns_202 : decode cX8_byTurns 202 = .ok (.iload 5, 2) := by decide +kernel
theorem dX8_byTurns_204 : decode cX8_byTurns 204 = .ok (.iconst 1, 1) := by decide +kernel
theorem dX8_byTurns_205 : decode cX8_byTurns 205 = .ok (.iload 4, 2) := by decide +kernel
theorem dX8_byTurns_207 : decode cX8_byTurns 207 = .ok (.ishl, 1) := by decide +kernel
theorem dX8_byTurns_208 : decode cX8_byTurns 208 = .ok (.if_icmp .ge 74, 3) := by decide +kernel
theorem dX8_byTurns_211 : decode cX8_byTurns 211 = .ok (.aload_n 0, 1) := by decide +kernel
theorem dX8_byTurns_212 : decode cX8_byTurns 212 = .ok (.getfield 37, 3) := by decide +kernel
theorem dX8_byTurns_215 : decode cX8_byTurns 215 = .ok (.iconst 2, 1) := by decide +kernel
theorem dX8_byTurns_216 : decode cX8_byTurns 216 = .ok (.iload 5, 2) := by decide +kernel
theorem dX8_byTurns_218 : decode cX8_byTurns 218 = .ok (.imul, 1) := by decide +kernel
theorem dX8_byTurns_219 : decode cX8_byTurns 219 = .ok (.iaload, 1) := by decide +kernel
theorem dX8_byTurns_22 : decode cX8_byTurns 22 = .ok (.iload_n 2, 1) := by decide +kernel
theorem dX8_byTurns_220 : decode cX8_byTurns 220 = .ok (.istore 6, 2) := by decide +kernel
theorem dX8_byTurns_222 : decode cX8_byTurns 222 = .ok (.aload_n 0, 1) := by decide +kernel
theorem dX8_byTurns_223 : decode cX8_byTurns 223 = .ok (.getfield 37, 3) := by decide +kernel
theorem dX8_byTurns_226 : decode cX8_byTurns 226 = .ok (.iconst 2, 1) := by decide +kernel
theorem dX8_byTurns_227 : decode cX8_byTurns 227 = .ok (.iload 5, 2) := by decide +kernel
theorem dX8_byTurns_229 : decode cX8_byTurns 229 = .ok (.imul, 1) := by decide +kernel
theorem dX8_byTurns_23 : decode cX8_byTurns 23 = .ok (.i2l, 1) := by decide +kernel
theorem dX8_byTurns_230 : decode cX8_byTurns 230 = .ok (.iconst 1, 1) := by decide +kernel
theorem dX8_byTurns_231 : decode cX8_byTurns 231 = .ok (.iadd, 1) := by decide +kernel
theorem dX8_byTurns_232 : decode cX8_byTurns 232 = .ok (.iaload, 1) := by decide +kernel
theorem dX8_byTurns_233 : decode cX8_byTurns 233 = .ok (.istore 7, 2) := by decide +kernel
theorem dX8_byTurns_235 : decode cX8_byTurns 235 = .ok (.aload_n 0, 1) := by decide +kernel
theorem dX8_byTurns_236 : decode cX8_byTurns 236 = .ok (.getfield 37, 3) := by decide +kernel
theorem dX8_byTurns_239 : decode cX8_byTurns 239 = .ok (.iload 5, 2) := by decide +kernel
theorem dX8_byTurns_24 : decode cX8_byTurns 24 = .ok (.lconst 1, 1) := by decide +kernel
theorem dX8_byTurns_241 : decode cX8_byTurns 241 = .ok (.iload 6, 2) := by decide +kernel
theorem dX8_byTurns_243 : decode cX8_byTurns 243 = .ok (.iload 7, 2) := by decide +kernel
theorem dX8_byTurns_245 : decode cX8_byTurns 245 = .ok (.if_icmp .le 7, 3) := by decide +kernel
theorem dX8_byTurns_248 : decode cX8_byTurns 248 = .ok (.iconst 1, 1) := by decide +kernel
theorem dX8_byTurns_249 : decode cX8_byTurns 249 = .ok (.goto 4, 3) := by decide +kernel
theorem dX8_byTurns_25 : decode cX8_byTurns 25 = .ok (.ldc2_w 176, 3) := by decide +kernel
theorem dX8_byTurns_252 : decode cX8_byTurns 252 = .ok (.iconst 0, 1) := by decide +kernel
theorem dX8_byTurns_253 : decode cX8_byTurns 253 = .ok (.iload 4, 2) := by decide +kernel
theorem dX8_byTurns_255 : decode cX8_byTurns 255 = .ok (.iconst 2, 1) := by decide +kernel
theorem dX8_byTurns_256 : decode cX8_byTurns 256 = .ok (.irem, 1) := by decide +kernel
theorem dX8_byTurns_257 : decode cX8_byTurns 257 = .ok (.ifCond .ne 7, 3) := by decide +kernel
theorem dX8_byTurns_260 : decode cX8_byTurns 260 = .ok (.iconst 1, 1) := by decide +kernel
theorem dX8_byTurns_261 : decode cX8_byTurns 261 = .ok (.goto 4, 3) := by decide +kernel
theorem dX8_byTurns_264 : decode cX8_byTurns 264 = .ok (.iconst 0, 1) := by decide +kernel
theorem dX8_byTurns_265 : decode cX8_byTurns 265 = .ok (.if_icmp .ne 8, 3) := by decide +kernel
theorem dX8_byTurns_268 : decode cX8_byTurns 268 = .ok (.iload 6, 2) := by decide +kernel
theorem dX8_byTurns_270 : decode cX8_byTurns 270 = .ok (.goto 5, 3) := by decide +kernel
theorem dX8_byTurns_273 : decode cX8_byTurns 273 = .ok (.iload 7, 2) := by decide +kernel
theorem dX8_byTurns_275 : decode cX8_byTurns 275 = .ok (.iastore, 1) := by decide +kernel
theorem dX8_byTurns_276 : decode cX8_byTurns 276 = .ok (.iinc 5 1, 3) := by decide +kernel
theorem dX8_byTurns_279 : decode cX8_byTurns 279 = .ok (.goto (-77), 3) := by decide +kernel
theorem dX8_byTurns_28 : decode cX8_byTurns 28 = .ok (.invokestatic 57, 3) := by decide +kernel
theorem dX8_byTurns_282 : decode cX8_byTurns 282 = .ok (.iinc 4 (-1), 3) := by decide +kernel
theorem dX8_byTurns_285 : decode cX8_byTurns 285 = .ok (.goto (-91), 3) := by decide +kernel
theorem dX8_byTurns_288 : decode cX8_byTurns 288 = .ok (.aload_n 0, 1) := by decide +kernel
theorem dX8_byTurns_289 : decode cX8_byTurns 289 = .ok (.getfield 37, 3) := by decide +kernel
theorem dX8_byTurns_292 : decode cX8_byTurns 292 = .ok (.iconst 0, 1) := by decide +kernel
theorem dX8_byTurns_293 : decode cX8_byTurns 293 = .ok (.iaload, 1) := by decide +kernel
theorem dX8_byTurns_294 : decode cX8_byTurns 294 = .ok (.ireturn, 1) := by decide +kernel
theorem dX8_byTurns_31 : decode cX8_byTurns 31 = .ok (.ifCond .ne 6, 3) := by decide +kernel
theorem dX8_byTurns_34 : decode cX8_byTurns 34 = .ok (.ldc 67, 2) := by decide +kernel
theorem dX8_byTurns_36 : decode cX8_byTurns 36 = .ok (.ireturn, 1) := by decide +kernel
theorem dX8_byTurns_37 : decode cX8_byTurns 37 = .ok (.aload_n 0, 1) := by decide +kernel
theorem dX8_byTurns_38 : decode cX8_byTurns 38 = .ok (.invokevirtual 197, 3) := by decide +kernel
theorem dX8_byTurns_4 : decode cX8_byTurns 4 = .ok (.ifCond .ne 6, 3) := by decide +kernel
theorem dX8_byTurns_41 : decode cX8_byTurns 41 = .ok (.bipush 8, 2) := by decide +kernel
theorem dX8_byTurns_43 : decode cX8_byTurns 43 = .ok (.aload_n 0, 1) := by decide +kernel
theorem dX8_byTurns_44 : decode cX8_byTurns 44 = .ok (.getfield 19, 3) := by decide +kernel
theorem dX8_byTurns_47 : decode cX8_byTurns 47 = .ok (.iconst 5, 1) := by decide +kernel
theorem dX8_byTurns_48 : decode cX8_byTurns 48 = .ok (.iaload, 1) := by decide +kernel
theorem dX8_byTurns_49 : decode cX8_byTurns 49 = .ok (.aload_n 0, 1) := by decide +kernel
theorem dX8_byTurns_50 : decode cX8_byTurns 50 = .ok (.getfield 19, 3) := by decide +kernel
theorem dX8_byTurns_53 : decode cX8_byTurns 53 = .ok (.iconst 3, 1) := by decide +kernel
theorem dX8_byTurns_54 : decode cX8_byTurns 54 = .ok (.iaload, 1) := by decide +kernel
theorem dX8_byTurns_55 : decode cX8_byTurns 55 = .ok (.irem, 1) := by decide +kernel
theorem dX8_byTurns_56 : decode cX8_byTurns 56 = .ok (.iadd, 1) := by decide +kernel
theorem dX8_byTurns_57 : decode cX8_byTurns 57 = .ok (.istore_n 3, 1) := by decide +kernel
theorem dX8_byTurns_58 : decode cX8_byTurns 58 = .ok (.iconst 0, 1) := by decide +kernel
theorem dX8_byTurns_59 : decode cX8_byTurns 59 = .ok (.istore 4, 2) := by decide +kernel
theorem dX8_byTurns_61 : decode cX8_byTurns 61 = .ok (.iload 4, 2) := by decide +kernel
theorem dX8_byTurns_63 : decode cX8_byTurns 63 = .ok (.iconst 1, 1) := by decide +kernel
theorem dX8_byTurns_64 : decode cX8_byTurns 64 = .ok (.iload_n 1, 1) := by decide +kernel
theorem dX8_byTurns_65 : decode cX8_byTurns 65 = .ok (.ishl, 1) := by decide +kernel
theorem dX8_byTurns_66 : decode cX8_byTurns 66 = .ok (.if_icmp .ge 123, 3) := by decide +kernel
theorem dX8_byTurns_69 : decode cX8_byTurns 69 = .ok (.iconst 0, 1) := by decide +kernel
theorem dX8_byTurns_7 : decode cX8_byTurns 7 = .ok (.ldc 161, 2) := by decide +kernel
theorem dX8_byTurns_70 : decode cX8_byTurns 70 = .ok (.istore 5, 2) := by decide +kernel
theorem dX8_byTurns_72 : decode cX8_byTurns 72 = .ok (.iload 5, 2) := by decide +kernel
theorem dX8_byTurns_74 : decode cX8_byTurns 74 = .ok (.iload_n 1, 1) := by decide +kernel
theorem dX8_byTurns_75 : decode cX8_byTurns 75 = .ok (.if_icmp .ge 96, 3) := by decide +kernel
theorem dX8_byTurns_78 : decode cX8_byTurns 78 = .ok (.iload 4, 2) := by decide +kernel
theorem dX8_byTurns_80 : decode cX8_byTurns 80 = .ok (.iload_n 1, 1) := by decide +kernel
theorem dX8_byTurns_81 : decode cX8_byTurns 81 = .ok (.iconst 1, 1) := by decide +kernel
theorem dX8_byTurns_82 : decode cX8_byTurns 82 = .ok (.isub, 1) := by decide +kernel
theorem dX8_byTurns_83 : decode cX8_byTurns 83 = .ok (.iload 5, 2) := by decide +kernel
theorem dX8_byTurns_85 : decode cX8_byTurns 85 = .ok (.isub, 1) := by decide +kernel
theorem dX8_byTurns_86 : decode cX8_byTurns 86 = .ok (.invokestatic 213, 3) := by decide +kernel
theorem dX8_byTurns_89 : decode cX8_byTurns 89 = .ok (.istore 6, 2) := by decide +kernel
theorem dX8_byTurns_9 : decode cX8_byTurns 9 = .ok (.ireturn, 1) := by decide +kernel
theorem dX8_byTurns_91 : decode cX8_byTurns 91 = .ok (.aload_n 0, 1) := by decide +kernel
theorem dX8_byTurns_92 : decode cX8_byTurns 92 = .ok (.getfield 19, 3) := by decide +kernel
theorem dX8_byTurns_95 : decode cX8_byTurns 95 = .ok (.bipush 6, 2) := by decide +kernel
theorem dX8_byTurns_97 : decode cX8_byTurns 97 = .ok (.iload 6, 2) := by decide +kernel
theorem dX8_byTurns_99 : decode cX8_byTurns 99 = .ok (.ifCond .eq 22, 3) := by decide +kernel
theorem dX8_share_0 : decode cX8_share 0 = .ok (.aload_n 0, 1) := by decide +kernel
theorem dX8_share_1 : decode cX8_share 1 = .ok (.iload_n 1, 1) := by decide +kernel
theorem dX8_share_10 : decode cX8_share 10 = .ok (.lconst 0, 1) := by decide +kernel
theorem dX8_share_101 : decode cX8_share 101 = .ok (.iload_n 3, 1) := by decide +kernel
theorem dX8_share_102 : decode cX8_share 102 = .ok (.iload 7, 2) := by decide +kernel
theorem dX8_share_104 : decode cX8_share 104 = .ok (.invokestatic 213, 3) := by decide +kernel
theorem dX8_share_107 : decode cX8_share 107 = .ok (.ifCond .eq 13, 3) := by decide +kernel
theorem dX8_share_11 : decode cX8_share 11 = .ok (.ldc2_w 185, 3) := by decide +kernel
theorem dX8_share_110 : decode cX8_share 110 = .ok (.iload 7, 2) := by decide +kernel
theorem dX8_share_112 : decode cX8_share 112 = .ok (.iload_n 1, 1) := by decide +kernel
theorem dX8_share_113 : decode cX8_share 113 = .ok (.if_icmp .ge 7, 3) := by decide +kernel
theorem dX8_share_116 : decode cX8_share 116 = .ok (.iconst 1, 1) := by decide +kernel
theorem dX8_share_117 : decode cX8_share 117 = .ok (.goto 4, 3) := by decide +kernel
theorem dX8_share_120 : decode cX8_share 120 = .ok (.iconst 0, 1) := by decide +kernel
theorem dX8_share_121 : decode cX8_share 121 = .ok (.iadd, 1) := by decide +kernel
theorem dX8_share_122 : decode cX8_share 122 = .ok (.istore 6, 2) := by decide +kernel
theorem dX8_share_124 : decode cX8_share 124 = .ok (.iinc 7 1, 3) := by decide +kernel
theorem dX8_share_127 : decode cX8_share 127 = .ok (.goto (-72), 3) := by decide +kernel
theorem dX8_share_130 : decode cX8_share 130 = .ok (.iload_n 2, 1) := by decide +kernel
theorem dX8_share_131 : decode cX8_share 131 = .ok (.aload_n 0, 1) := by decide +kernel
theorem dX8_share_132 : decode cX8_share 132 = .ok (.getfield 19, 3) := by decide +kernel
theorem dX8_share_135 : decode cX8_share 135 = .ok (.bipush 32, 2) := by decide +kernel
theorem dX8_share_137 : decode cX8_share 137 = .ok (.iload_n 1, 1) := by decide +kernel
theorem dX8_share_138 : decode cX8_share 138 = .ok (.iadd, 1) := by decide +kernel
theorem dX8_share_139 : decode cX8_share 139 = .ok (.iaload, 1) := by decide +kernel
theorem dX8_share_14 : decode cX8_share 14 = .ok (.invokestatic 57, 3) := by decide +kernel
theorem dX8_share_140 : decode cX8_share 140 = .ok (.imul, 1) := by decide +kernel
theorem dX8_share_141 : decode cX8_share 141 = .ok (.iload 4, 2) := by decide +kernel
theorem dX8_share_143 : decode cX8_share 143 = .ok (.idiv, 1) := by decide +kernel
theorem dX8_share_144 : decode cX8_share 144 = .ok (.iload 5, 2) := by decide +kernel
theorem dX8_share_146 : decode cX8_share 146 = .ok (.iload 6, 2) := by decide +kernel
theorem dX8_share_148 : decode cX8_share 148 = .ok (.if_icmp .le 7, 3) := by decide +kernel
theorem dX8_share_151 : decode cX8_share 151 = .ok (.iconst 1, 1) := by decide +kernel
theorem dX8_share_152 : decode cX8_share 152 = .ok (.goto 4, 3) := by decide +kernel
theorem dX8_share_155 : decode cX8_share 155 = .ok (.iconst 0, 1) := by decide +kernel
theorem dX8_share_156 : decode cX8_share 156 = .ok (.iadd, 1) := by decide +kernel
theorem dX8_share_157 : decode cX8_share 157 = .ok (.ireturn, 1) := by decide +kernel
theorem dX8_share_17 : decode cX8_share 17 = .ok (.ifCond .ne 6, 3) := by decide +kernel
theorem dX8_share_2 : decode cX8_share 2 = .ok (.invokevirtual 173, 3) := by decide +kernel
theorem dX8_share_20 : decode cX8_share 20 = .ok (.ldc 67, 2) := by decide +kernel
theorem dX8_share_22 : decode cX8_share 22 = .ok (.ireturn, 1) := by decide +kernel
theorem dX8_share_23 : decode cX8_share 23 = .ok (.aload_n 0, 1) := by decide +kernel
theorem dX8_share_24 : decode cX8_share 24 = .ok (.iconst 0, 1) := by decide +kernel
theorem dX8_share_25 : decode cX8_share 25 = .ok (.invokevirtual 182, 3) := by decide +kernel
theorem dX8_share_28 : decode cX8_share 28 = .ok (.istore_n 3, 1) := by decide +kernel
theorem dX8_share_29 : decode cX8_share 29 = .ok (.iload_n 3, 1) := by decide +kernel
theorem dX8_share_30 : decode cX8_share 30 = .ok (.iload_n 1, 1) := by decide +kernel
theorem dX8_share_31 : decode cX8_share 31 = .ok (.invokestatic 213, 3) := by decide +kernel
theorem dX8_share_34 : decode cX8_share 34 = .ok (.ifCond .ne 5, 3) := by decide +kernel
theorem dX8_share_37 : decode cX8_share 37 = .ok (.iconst 0, 1) := by decide +kernel
theorem dX8_share_38 : decode cX8_share 38 = .ok (.ireturn, 1) := by decide +kernel
theorem dX8_share_39 : decode cX8_share 39 = .ok (.aload_n 0, 1) := by decide +kernel
theorem dX8_share_40 : decode cX8_share 40 = .ok (.iload_n 3, 1) := by decide +kernel
theorem dX8_share_41 : decode cX8_share 41 = .ok (.invokevirtual 219, 3) := by decide +kernel
theorem dX8_share_44 : decode cX8_share 44 = .ok (.istore 4, 2) := by decide +kernel
theorem dX8_share_46 : decode cX8_share 46 = .ok (.iload_n 2, 1) := by decide +kernel
theorem dX8_share_47 : decode cX8_share 47 = .ok (.istore 5, 2) := by decide +kernel
theorem dX8_share_49 : decode cX8_share 49 = .ok (.iconst 0, 1) := by decide +kernel
theorem dX8_share_5 : decode cX8_share 5 = .ok (.ifCond .eq 15, 3) := by decide +kernel
theorem dX8_share_50 : decode cX8_share 50 = .ok (.istore 6, 2) := by decide +kernel
theorem dX8_share_52 : decode cX8_share 52 = .ok (.iconst 0, 1) := by decide +kernel
theorem dX8_share_53 : decode cX8_share 53 = .ok (.istore 7, 2) := by decide +kernel
theorem dX8_share_55 : decode cX8_share 55 = .ok (.iload 7, 2) := by decide +kernel
theorem dX8_share_57 : decode cX8_share 57 = .ok (.aload_n 0, 1) := by decide +kernel
theorem dX8_share_58 : decode cX8_share 58 = .ok (.getfield 19, 3) := by decide +kernel
theorem dX8_share_61 : decode cX8_share 61 = .ok (.iconst 4, 1) := by decide +kernel
theorem dX8_share_62 : decode cX8_share 62 = .ok (.iaload, 1) := by decide +kernel
theorem dX8_share_63 : decode cX8_share 63 = .ok (.if_icmp .ge 67, 3) := by decide +kernel
theorem dX8_share_66 : decode cX8_share 66 = .ok (.iload 5, 2) := by decide +kernel
theorem dX8_share_68 : decode cX8_share 68 = .ok (.iload_n 3, 1) := by decide +kernel
theorem dX8_share_69 : decode cX8_share 69 = .ok (.iload 7, 2) := by decide +kernel
theorem dX8_share_71 : decode cX8_share 71 = .ok (.invokestatic 213, 3) := by decide +kernel
theorem dX8_share_74 : decode cX8_share 74 = .ok (.ifCond .eq 21, 3) := by decide +kernel
theorem dX8_share_77 : decode cX8_share 77 = .ok (.iload_n 2, 1) := by decide +kernel
theorem dX8_share_78 : decode cX8_share 78 = .ok (.aload_n 0, 1) := by decide +kernel
theorem dX8_share_79 : decode cX8_share 79 = .ok (.getfield 19, 3) := by decide +kernel
theorem dX8_share_8 : decode cX8_share 8 = .ok (.iload_n 2, 1) := by decide +kernel
theorem dX8_share_82 : decode cX8_share 82 = .ok (.bipush 32, 2) := by decide +kernel
theorem dX8_share_84 : decode cX8_share 84 = .ok (.iload 7, 2) := by decide +kernel
theorem dX8_share_86 : decode cX8_share 86 = .ok (.iadd, 1) := by decide +kernel
theorem dX8_share_87 : decode cX8_share 87 = .ok (.iaload, 1) := by decide +kernel
theorem dX8_share_88 : decode cX8_share 88 = .ok (.imul, 1) := by decide +kernel
theorem dX8_share_89 : decode cX8_share 89 = .ok (.iload 4, 2) := by decide +kernel
theorem dX8_share_9 : decode cX8_share 9 = .ok (.i2l, 1) := by decide +kernel
theorem dX8_share_91 : decode cX8_share 91 = .ok (.idiv, 1) := by decide +kernel
theorem dX8_share_92 : decode cX8_share 92 = .ok (.goto 4, 3) := by decide +kernel
theorem dX8_share_95 : decode cX8_share 95 = .ok (.iconst 0, 1) := by decide +kernel
theorem dX8_share_96 : decode cX8_share 96 = .ok (.isub, 1) := by decide +kernel
theorem dX8_share_97 : decode cX8_share 97 = .ok (.istore 5, 2) := by decide +kernel
theorem dX8_share_99 : decode cX8_share 99 = .ok (.iload 6, 2) := by decide +kernel
set_option maxRecDepth 20000 in
theorem ggX8_byTurns_X8_has : GoodIn wsX8_byTurns wsX8_has := goodIn_r _ [19] (by decide +kernel) (by decide +kernel)
set_option maxRecDepth 20000 in
theorem gX8_byTurns_X8_has : GoodIn wsX8_byTurns (va_wsS RX8 213 yX8_has wsX8_has) := goodIn_app (goodIn_of _ (by decide +kernel)) ggX8_byTurns_X8_has
set_option maxRecDepth 20000 in
theorem ggX8_byTurns_X8_in : GoodIn wsX8_byTurns wsX8_in := goodIn_r _ [11] (by decide +kernel) (by decide +kernel)
set_option maxRecDepth 20000 in
theorem gX8_byTurns_X8_in : GoodIn wsX8_byTurns (va_wsS RX8 57 yX8_in wsX8_in) := goodIn_app (goodIn_of _ (by decide +kernel)) ggX8_byTurns_X8_in
set_option maxRecDepth 20000 in
theorem ggX8_byTurns_X8_mealBehind : GoodIn wsX8_byTurns wsX8_mealBehind := goodIn_r _ [23, 6, 24, 25, 26, 10, 27, 28, 29, 30, 31, 32, 33, 34, 35, 36, 37, 38, 39, 40, 41, 42, 43, 44, 45, 46, 8, 9, 11, 47, 48, 49, 50, 51, 52, 53, 54, 16, 55, 56, 57, 58, 59, 60, 61, 62, 63, 64, 65, 66, 67, 68, 69, 70, 71, 72, 73, 74, 75, 76, 77, 78] (by decide +kernel) (by decide +kernel)
set_option maxRecDepth 20000 in
theorem gX8_byTurns_X8_mealBehind : GoodIn wsX8_byTurns (wsV RX8 200 RX8 yX8_mealBehind wsX8_mealBehind) := goodIn_app (goodIn_of _ (by decide +kernel)) ggX8_byTurns_X8_mealBehind
set_option maxRecDepth 20000 in
theorem ggX8_byTurns_X8_putAside : GoodIn wsX8_byTurns wsX8_putAside := goodIn_r _ [15, 16, 6, 55, 56, 57, 58, 59, 60, 61, 62, 63, 64, 65, 66, 67, 68, 69, 70, 71, 72, 73, 74, 75, 76, 77, 78] (by decide +kernel) (by decide +kernel)
set_option maxRecDepth 20000 in
theorem gX8_byTurns_X8_putAside : GoodIn wsX8_byTurns (wsV RX8 197 RX8 yX8_putAside wsX8_putAside) := goodIn_app (goodIn_of _ (by decide +kernel)) ggX8_byTurns_X8_putAside
set_option maxRecDepth 20000 in
theorem ggX8_share_X8_has : GoodIn wsX8_share wsX8_has := goodIn_r _ [18] (by decide +kernel) (by decide +kernel)
set_option maxRecDepth 20000 in
theorem gX8_share_X8_has : GoodIn wsX8_share (va_wsS RX8 213 yX8_has wsX8_has) := goodIn_app (goodIn_of _ (by decide +kernel)) ggX8_share_X8_has
set_option maxRecDepth 20000 in
theorem ggX8_share_X8_in : GoodIn wsX8_share wsX8_in := goodIn_r _ [11] (by decide +kernel) (by decide +kernel)
set_option maxRecDepth 20000 in
theorem gX8_share_X8_in : GoodIn wsX8_share (va_wsS RX8 57 yX8_in wsX8_in) := goodIn_app (goodIn_of _ (by decide +kernel)) ggX8_share_X8_in
set_option maxRecDepth 20000 in
theorem ggX8_share_X8_isSound : GoodIn wsX8_share wsX8_isSound := goodIn_r _ [8, 3, 9, 10, 7, 11, 23, 24, 25, 26, 27, 28, 29, 30, 31, 32, 33, 34, 35, 36, 37, 38, 39, 40, 41, 42, 43, 44, 45, 46] (by decide +kernel) (by decide +kernel)
set_option maxRecDepth 20000 in
theorem gX8_share_X8_isSound : GoodIn wsX8_share (wsV RX8 173 RX8 yX8_isSound wsX8_isSound) := goodIn_app (goodIn_of _ (by decide +kernel)) ggX8_share_X8_isSound
set_option maxRecDepth 20000 in
theorem ggX8_share_X8_loudOf : GoodIn wsX8_share wsX8_loudOf := goodIn_r _ [22, 3, 16, 17, 7, 18, 23, 24, 25, 26, 27, 28, 29, 30, 31, 32, 33, 34, 35, 36, 37, 38, 39, 40, 41, 42, 43, 44, 45, 46] (by decide +kernel) (by decide +kernel)
set_option maxRecDepth 20000 in
theorem gX8_share_X8_loudOf : GoodIn wsX8_share (wsV RX8 219 RX8 yX8_loudOf wsX8_loudOf) := goodIn_app (goodIn_of _ (by decide +kernel)) ggX8_share_X8_loudOf
set_option maxRecDepth 20000 in
theorem ggX8_share_X8_those : GoodIn wsX8_share wsX8_those := goodIn_r _ [15, 3, 23, 24, 25, 26, 27, 28, 29, 30, 31, 32, 33, 34, 35, 36, 37, 38, 39, 40, 41, 42, 43, 44, 45, 46] (by decide +kernel) (by decide +kernel)
set_option maxRecDepth 20000 in
theorem gX8_share_X8_those : GoodIn wsX8_share (wsV RX8 182 RX8 yX8_those wsX8_those) := goodIn_app (goodIn_of _ (by decide +kernel)) ggX8_share_X8_those
set_option maxRecDepth 20000 in
theorem i_X8_byTurns_X8 : ∀ w ∈ u_ws RX8 TX8 24, w ∈ wsX8_byTurns := by decide +kernel
set_option maxRecDepth 20000 in
theorem i_X8_share_X8 : ∀ w ∈ u_ws RX8 TX8 24, w ∈ wsX8_share := by decide +kernel
