theorem u1_at {c : ByteArray} {p : Nat} {b : UInt8} (h : c.data.toList[p]? = some b) : (Jvm.ClassFile.Reader.u1 (ε := Jvm.ClassFile.DecodeError)) c p = .ok (b.toNat, p + 1) := by
  obtain ⟨h1, h2⟩ := List.getElem?_eq_some_iff.mp h
  have h3 : p < c.size := by rw [Array.length_toList] at h1; exact h1
  have h4 : c[p] = b := by rw [← h2]; exact (Array.getElem_toList _).symm
  unfold Jvm.ClassFile.Reader.u1
  simp only [bind, ReaderT.bind, StateT.bind, MonadReader.read, readThe, MonadReaderOf.read, ReaderT.read, MonadState.get, getThe, MonadStateOf.get, StateT.get, liftM, monadLift, MonadLift.monadLift, Except.bind, Pure.pure, Except.pure, StateT.pure, ReaderT.pure, dif_pos h3, MonadStateOf.set, MonadState.set, StateT.set, h4]
theorem dc_i1 {c : ByteArray} {pc : Nat} (h : c.data.toList[pc]? = some 4) : decode c pc = .ok (.iconst 1, 1) := by
  have e : (Jvm.ClassFile.Decoder.instr pc).runAt c pc = .ok (.iconst 1, pc + 1) := by
    show (Jvm.ClassFile.Decoder.instr pc) c pc = _
    unfold Jvm.ClassFile.Decoder.instr
    show (Except.bind (Jvm.ClassFile.Reader.u1 c pc) _) = _
    rw [u1_at h]
    rfl
  unfold decode
  rw [e]
  show Except.ok (_, pc + 1 - pc) = _
  rw [Nat.add_sub_cancel_left]
theorem dc_i2 {c : ByteArray} {pc : Nat} (h : c.data.toList[pc]? = some 5) : decode c pc = .ok (.iconst 2, 1) := by
  have e : (Jvm.ClassFile.Decoder.instr pc).runAt c pc = .ok (.iconst 2, pc + 1) := by
    show (Jvm.ClassFile.Decoder.instr pc) c pc = _
    unfold Jvm.ClassFile.Decoder.instr
    show (Except.bind (Jvm.ClassFile.Reader.u1 c pc) _) = _
    rw [u1_at h]
    rfl
  unfold decode
  rw [e]
  show Except.ok (_, pc + 1 - pc) = _
  rw [Nat.add_sub_cancel_left]
theorem dc_i3 {c : ByteArray} {pc : Nat} (h : c.data.toList[pc]? = some 6) : decode c pc = .ok (.iconst 3, 1) := by
  have e : (Jvm.ClassFile.Decoder.instr pc).runAt c pc = .ok (.iconst 3, pc + 1) := by
    show (Jvm.ClassFile.Decoder.instr pc) c pc = _
    unfold Jvm.ClassFile.Decoder.instr
    show (Except.bind (Jvm.ClassFile.Reader.u1 c pc) _) = _
    rw [u1_at h]
    rfl
  unfold decode
  rw [e]
  show Except.ok (_, pc + 1 - pc) = _
  rw [Nat.add_sub_cancel_left]
theorem dc_i4 {c : ByteArray} {pc : Nat} (h : c.data.toList[pc]? = some 7) : decode c pc = .ok (.iconst 4, 1) := by
  have e : (Jvm.ClassFile.Decoder.instr pc).runAt c pc = .ok (.iconst 4, pc + 1) := by
    show (Jvm.ClassFile.Decoder.instr pc) c pc = _
    unfold Jvm.ClassFile.Decoder.instr
    show (Except.bind (Jvm.ClassFile.Reader.u1 c pc) _) = _
    rw [u1_at h]
    rfl
  unfold decode
  rw [e]
  show Except.ok (_, pc + 1 - pc) = _
  rw [Nat.add_sub_cancel_left]
theorem dc_i5 {c : ByteArray} {pc : Nat} (h : c.data.toList[pc]? = some 8) : decode c pc = .ok (.iconst 5, 1) := by
  have e : (Jvm.ClassFile.Decoder.instr pc).runAt c pc = .ok (.iconst 5, pc + 1) := by
    show (Jvm.ClassFile.Decoder.instr pc) c pc = _
    unfold Jvm.ClassFile.Decoder.instr
    show (Except.bind (Jvm.ClassFile.Reader.u1 c pc) _) = _
    rw [u1_at h]
    rfl
  unfold decode
  rw [e]
  show Except.ok (_, pc + 1 - pc) = _
  rw [Nat.add_sub_cancel_left]
theorem dc_il3 {c : ByteArray} {pc : Nat} (h : c.data.toList[pc]? = some 29) : decode c pc = .ok (.iload_n 3, 1) := by
  have e : (Jvm.ClassFile.Decoder.instr pc).runAt c pc = .ok (.iload_n 3, pc + 1) := by
    show (Jvm.ClassFile.Decoder.instr pc) c pc = _
    unfold Jvm.ClassFile.Decoder.instr
    show (Except.bind (Jvm.ClassFile.Reader.u1 c pc) _) = _
    rw [u1_at h]
    rfl
  unfold decode
  rw [e]
  show Except.ok (_, pc + 1 - pc) = _
  rw [Nat.add_sub_cancel_left]
theorem dc_al0 {c : ByteArray} {pc : Nat} (h : c.data.toList[pc]? = some 42) : decode c pc = .ok (.aload_n 0, 1) := by
  have e : (Jvm.ClassFile.Decoder.instr pc).runAt c pc = .ok (.aload_n 0, pc + 1) := by
    show (Jvm.ClassFile.Decoder.instr pc) c pc = _
    unfold Jvm.ClassFile.Decoder.instr
    show (Except.bind (Jvm.ClassFile.Reader.u1 c pc) _) = _
    rw [u1_at h]
    rfl
  unfold decode
  rw [e]
  show Except.ok (_, pc + 1 - pc) = _
  rw [Nat.add_sub_cancel_left]
theorem dc_al1 {c : ByteArray} {pc : Nat} (h : c.data.toList[pc]? = some 43) : decode c pc = .ok (.aload_n 1, 1) := by
  have e : (Jvm.ClassFile.Decoder.instr pc).runAt c pc = .ok (.aload_n 1, pc + 1) := by
    show (Jvm.ClassFile.Decoder.instr pc) c pc = _
    unfold Jvm.ClassFile.Decoder.instr
    show (Except.bind (Jvm.ClassFile.Reader.u1 c pc) _) = _
    rw [u1_at h]
    rfl
  unfold decode
  rw [e]
  show Except.ok (_, pc + 1 - pc) = _
  rw [Nat.add_sub_cancel_left]
theorem dc_al2 {c : ByteArray} {pc : Nat} (h : c.data.toList[pc]? = some 44) : decode c pc = .ok (.aload_n 2, 1) := by
  have e : (Jvm.ClassFile.Decoder.instr pc).runAt c pc = .ok (.aload_n 2, pc + 1) := by
    show (Jvm.ClassFile.Decoder.instr pc) c pc = _
    unfold Jvm.ClassFile.Decoder.instr
    show (Except.bind (Jvm.ClassFile.Reader.u1 c pc) _) = _
    rw [u1_at h]
    rfl
  unfold decode
  rw [e]
  show Except.ok (_, pc + 1 - pc) = _
  rw [Nat.add_sub_cancel_left]
theorem dc_ial {c : ByteArray} {pc : Nat} (h : c.data.toList[pc]? = some 46) : decode c pc = .ok (.iaload, 1) := by
  have e : (Jvm.ClassFile.Decoder.instr pc).runAt c pc = .ok (.iaload, pc + 1) := by
    show (Jvm.ClassFile.Decoder.instr pc) c pc = _
    unfold Jvm.ClassFile.Decoder.instr
    show (Except.bind (Jvm.ClassFile.Reader.u1 c pc) _) = _
    rw [u1_at h]
    rfl
  unfold decode
  rw [e]
  show Except.ok (_, pc + 1 - pc) = _
  rw [Nat.add_sub_cancel_left]
theorem dc_iad {c : ByteArray} {pc : Nat} (h : c.data.toList[pc]? = some 96) : decode c pc = .ok (.iadd, 1) := by
  have e : (Jvm.ClassFile.Decoder.instr pc).runAt c pc = .ok (.iadd, pc + 1) := by
    show (Jvm.ClassFile.Decoder.instr pc) c pc = _
    unfold Jvm.ClassFile.Decoder.instr
    show (Except.bind (Jvm.ClassFile.Reader.u1 c pc) _) = _
    rw [u1_at h]
    rfl
  unfold decode
  rw [e]
  show Except.ok (_, pc + 1 - pc) = _
  rw [Nat.add_sub_cancel_left]
theorem dc_pop {c : ByteArray} {pc : Nat} (h : c.data.toList[pc]? = some 87) : decode c pc = .ok (.pop, 1) := by
  have e : (Jvm.ClassFile.Decoder.instr pc).runAt c pc = .ok (.pop, pc + 1) := by
    show (Jvm.ClassFile.Decoder.instr pc) c pc = _
    unfold Jvm.ClassFile.Decoder.instr
    show (Except.bind (Jvm.ClassFile.Reader.u1 c pc) _) = _
    rw [u1_at h]
    rfl
  unfold decode
  rw [e]
  show Except.ok (_, pc + 1 - pc) = _
  rw [Nat.add_sub_cancel_left]
theorem dc_b6 {c : ByteArray} {pc : Nat} {b1 b2 : UInt8} {n : Nat} (h : c.data.toList[pc]? = some 182) (h1 : c.data.toList[pc + 1]? = some b1) (h2 : c.data.toList[pc + 1 + 1]? = some b2) (hn : b1.toNat * 256 + b2.toNat = n) : decode c pc = .ok (.invokevirtual n, 3) := by
  subst hn
  have e : (Jvm.ClassFile.Decoder.instr pc).runAt c pc = .ok (.invokevirtual (b1.toNat * 256 + b2.toNat), pc + 3) := by
    show (Jvm.ClassFile.Decoder.instr pc) c pc = _
    unfold Jvm.ClassFile.Decoder.instr
    show (Except.bind (Jvm.ClassFile.Reader.u1 c pc) _) = _
    rw [u1_at h]
    show (Except.bind (Except.bind (Jvm.ClassFile.Reader.u1 c (pc + 1)) _) _) = _
    rw [u1_at h1]
    show (Except.bind (Except.bind (Jvm.ClassFile.Reader.u1 c (pc + 1 + 1)) _) _) = _
    rw [u1_at h2]
    rfl
  unfold decode
  rw [e]
  show Except.ok (_, pc + 3 - pc) = _
  rw [Nat.add_sub_cancel_left]
theorem dc_a7 {c : ByteArray} {pc : Nat} {b1 b2 : UInt8} {n : Int} (h : c.data.toList[pc]? = some 167) (h1 : c.data.toList[pc + 1]? = some b1) (h2 : c.data.toList[pc + 1 + 1]? = some b2) (hn : Jvm.ClassFile.Reader.signed 16 (b1.toNat * 256 + b2.toNat) = n) : decode c pc = .ok (.goto n, 3) := by
  subst hn
  have e : (Jvm.ClassFile.Decoder.instr pc).runAt c pc = .ok (.goto (Jvm.ClassFile.Reader.signed 16 (b1.toNat * 256 + b2.toNat)), pc + 3) := by
    show (Jvm.ClassFile.Decoder.instr pc) c pc = _
    unfold Jvm.ClassFile.Decoder.instr
    show (Except.bind (Jvm.ClassFile.Reader.u1 c pc) _) = _
    rw [u1_at h]
    show (Except.bind (Except.map _ (Except.bind (Jvm.ClassFile.Reader.u1 c (pc + 1)) _)) _) = _
    rw [u1_at h1]
    show (Except.bind (Except.map _ (Except.bind (Jvm.ClassFile.Reader.u1 c (pc + 1 + 1)) _)) _) = _
    rw [u1_at h2]
    rfl
  unfold decode
  rw [e]
  show Except.ok (_, pc + 3 - pc) = _
  rw [Nat.add_sub_cancel_left]
theorem dL_law_0 : decode cL_law 0 = .ok (.new 7, 3) := by decide +kernel
theorem dL_law_3 : decode cL_law 3 = .ok (.dup, 1) := by decide +kernel
theorem dL_law_4 : decode cL_law 4 = .ok (.invokespecial 9, 3) := by decide +kernel
theorem dL_law_7 : decode cL_law 7 = .ok (.astore_n 1, 1) := by decide +kernel
theorem dL_law_8 : decode cL_law 8 = .ok (.new 10, 3) := by decide +kernel
theorem dL_law_11 : decode cL_law 11 = .ok (.dup, 1) := by decide +kernel
theorem dL_law_12 : decode cL_law 12 = .ok (.invokespecial 12, 3) := by decide +kernel
theorem dL_law_15 : decode cL_law 15 = .ok (.astore_n 2, 1) := by decide +kernel
theorem dL_law_16 : decode cL_law 16 = .ok (.iconst 0, 1) := by decide +kernel
theorem dL_law_17 : decode cL_law 17 = .ok (.istore_n 3, 1) := by decide +kernel
theorem dL_law_18 : decode cL_law 18 = .ok (.iload_n 3, 1) := dc_il3 (by decide +kernel)
theorem dL_law_19 : decode cL_law 19 = .ok (.aload_n 0, 1) := dc_al0 (by decide +kernel)
theorem dL_law_20 : decode cL_law 20 = .ok (.arraylength, 1) := by decide +kernel
theorem dL_law_21 : decode cL_law 21 = .ok (.bipush 6, 2) := by decide +kernel
theorem dL_law_23 : decode cL_law 23 = .ok (.isub, 1) := by decide +kernel
theorem dL_law_24 : decode cL_law 24 = .ok (.if_icmp .gt 1339, 3) := by decide +kernel
theorem dL_law_27 : decode cL_law 27 = .ok (.aload_n 0, 1) := dc_al0 (by decide +kernel)
theorem dL_law_28 : decode cL_law 28 = .ok (.iload_n 3, 1) := dc_il3 (by decide +kernel)
theorem dL_law_29 : decode cL_law 29 = .ok (.iaload, 1) := dc_ial (by decide +kernel)
theorem dL_law_30 : decode cL_law 30 = .ok (.bipush 63, 2) := by decide +kernel
theorem dL_law_32 : decode cL_law 32 = .ok (.iand, 1) := by decide +kernel
theorem dL_law_33 : decode cL_law 33 = .ok (.tableswitch 1324 0 36 #[163, 206, 249, 312, 335, 358, 371, 384, 397, 420, 433, 466, 509, 532, 565, 588, 611, 654, 677, 710, 743, 776, 809, 842, 875, 908, 971, 1034, 1087, 1130, 1153, 1176, 1199, 1232, 1265, 1288, 1311], 163) := by decide +kernel
theorem dL_law_196 : decode cL_law 196 = .ok (.aload_n 1, 1) := dc_al1 (by decide +kernel)
theorem dL_law_197 : decode cL_law 197 = .ok (.aload_n 0, 1) := dc_al0 (by decide +kernel)
theorem dL_law_198 : decode cL_law 198 = .ok (.iload_n 3, 1) := dc_il3 (by decide +kernel)
theorem dL_law_199 : decode cL_law 199 = .ok (.iconst 1, 1) := dc_i1 (by decide +kernel)
theorem dL_law_200 : decode cL_law 200 = .ok (.iadd, 1) := dc_iad (by decide +kernel)
theorem dL_law_201 : decode cL_law 201 = .ok (.iaload, 1) := dc_ial (by decide +kernel)
theorem dL_law_202 : decode cL_law 202 = .ok (.aload_n 0, 1) := dc_al0 (by decide +kernel)
theorem dL_law_203 : decode cL_law 203 = .ok (.iload_n 3, 1) := dc_il3 (by decide +kernel)
theorem dL_law_204 : decode cL_law 204 = .ok (.iconst 2, 1) := dc_i2 (by decide +kernel)
theorem dL_law_205 : decode cL_law 205 = .ok (.iadd, 1) := dc_iad (by decide +kernel)
theorem dL_law_206 : decode cL_law 206 = .ok (.iaload, 1) := dc_ial (by decide +kernel)
theorem dL_law_207 : decode cL_law 207 = .ok (.aload_n 0, 1) := dc_al0 (by decide +kernel)
theorem dL_law_208 : decode cL_law 208 = .ok (.iload_n 3, 1) := dc_il3 (by decide +kernel)
theorem dL_law_209 : decode cL_law 209 = .ok (.iconst 3, 1) := dc_i3 (by decide +kernel)
theorem dL_law_210 : decode cL_law 210 = .ok (.iadd, 1) := dc_iad (by decide +kernel)
theorem dL_law_211 : decode cL_law 211 = .ok (.iaload, 1) := dc_ial (by decide +kernel)
theorem dL_law_212 : decode cL_law 212 = .ok (.invokevirtual 13, 3) := dc_b6 (b1 := 0) (b2 := 13) (by decide +kernel) (by decide +kernel) (by decide +kernel) (by decide)
theorem dL_law_215 : decode cL_law 215 = .ok (.pop, 1) := dc_pop (by decide +kernel)
theorem dL_law_216 : decode cL_law 216 = .ok (.aload_n 2, 1) := dc_al2 (by decide +kernel)
theorem dL_law_217 : decode cL_law 217 = .ok (.aload_n 0, 1) := dc_al0 (by decide +kernel)
theorem dL_law_218 : decode cL_law 218 = .ok (.iload_n 3, 1) := dc_il3 (by decide +kernel)
theorem dL_law_219 : decode cL_law 219 = .ok (.iconst 1, 1) := dc_i1 (by decide +kernel)
theorem dL_law_220 : decode cL_law 220 = .ok (.iadd, 1) := dc_iad (by decide +kernel)
theorem dL_law_221 : decode cL_law 221 = .ok (.iaload, 1) := dc_ial (by decide +kernel)
theorem dL_law_222 : decode cL_law 222 = .ok (.aload_n 0, 1) := dc_al0 (by decide +kernel)
theorem dL_law_223 : decode cL_law 223 = .ok (.iload_n 3, 1) := dc_il3 (by decide +kernel)
theorem dL_law_224 : decode cL_law 224 = .ok (.iconst 2, 1) := dc_i2 (by decide +kernel)
theorem dL_law_225 : decode cL_law 225 = .ok (.iadd, 1) := dc_iad (by decide +kernel)
theorem dL_law_226 : decode cL_law 226 = .ok (.iaload, 1) := dc_ial (by decide +kernel)
theorem dL_law_227 : decode cL_law 227 = .ok (.aload_n 0, 1) := dc_al0 (by decide +kernel)
theorem dL_law_228 : decode cL_law 228 = .ok (.iload_n 3, 1) := dc_il3 (by decide +kernel)
theorem dL_law_229 : decode cL_law 229 = .ok (.iconst 3, 1) := dc_i3 (by decide +kernel)
theorem dL_law_230 : decode cL_law 230 = .ok (.iadd, 1) := dc_iad (by decide +kernel)
theorem dL_law_231 : decode cL_law 231 = .ok (.iaload, 1) := dc_ial (by decide +kernel)
theorem dL_law_232 : decode cL_law 232 = .ok (.invokevirtual 17, 3) := dc_b6 (b1 := 0) (b2 := 17) (by decide +kernel) (by decide +kernel) (by decide +kernel) (by decide)
theorem dL_law_235 : decode cL_law 235 = .ok (.pop, 1) := dc_pop (by decide +kernel)
theorem dL_law_236 : decode cL_law 236 = .ok (.goto 1121, 3) := dc_a7 (b1 := 4) (b2 := 97) (by decide +kernel) (by decide +kernel) (by decide +kernel) (by decide)
theorem dL_law_239 : decode cL_law 239 = .ok (.aload_n 1, 1) := dc_al1 (by decide +kernel)
theorem dL_law_240 : decode cL_law 240 = .ok (.aload_n 0, 1) := dc_al0 (by decide +kernel)
theorem dL_law_241 : decode cL_law 241 = .ok (.iload_n 3, 1) := dc_il3 (by decide +kernel)
theorem dL_law_242 : decode cL_law 242 = .ok (.iconst 1, 1) := dc_i1 (by decide +kernel)
theorem dL_law_243 : decode cL_law 243 = .ok (.iadd, 1) := dc_iad (by decide +kernel)
theorem dL_law_244 : decode cL_law 244 = .ok (.iaload, 1) := dc_ial (by decide +kernel)
theorem dL_law_245 : decode cL_law 245 = .ok (.aload_n 0, 1) := dc_al0 (by decide +kernel)
theorem dL_law_246 : decode cL_law 246 = .ok (.iload_n 3, 1) := dc_il3 (by decide +kernel)
theorem dL_law_247 : decode cL_law 247 = .ok (.iconst 2, 1) := dc_i2 (by decide +kernel)
theorem dL_law_248 : decode cL_law 248 = .ok (.iadd, 1) := dc_iad (by decide +kernel)
theorem dL_law_249 : decode cL_law 249 = .ok (.iaload, 1) := dc_ial (by decide +kernel)
theorem dL_law_250 : decode cL_law 250 = .ok (.aload_n 0, 1) := dc_al0 (by decide +kernel)
theorem dL_law_251 : decode cL_law 251 = .ok (.iload_n 3, 1) := dc_il3 (by decide +kernel)
theorem dL_law_252 : decode cL_law 252 = .ok (.iconst 3, 1) := dc_i3 (by decide +kernel)
theorem dL_law_253 : decode cL_law 253 = .ok (.iadd, 1) := dc_iad (by decide +kernel)
theorem dL_law_254 : decode cL_law 254 = .ok (.iaload, 1) := dc_ial (by decide +kernel)
theorem dL_law_255 : decode cL_law 255 = .ok (.invokevirtual 18, 3) := dc_b6 (b1 := 0) (b2 := 18) (by decide +kernel) (by decide +kernel) (by decide +kernel) (by decide)
theorem dL_law_258 : decode cL_law 258 = .ok (.aload_n 2, 1) := dc_al2 (by decide +kernel)
theorem dL_law_259 : decode cL_law 259 = .ok (.aload_n 0, 1) := dc_al0 (by decide +kernel)
theorem dL_law_260 : decode cL_law 260 = .ok (.iload_n 3, 1) := dc_il3 (by decide +kernel)
theorem dL_law_261 : decode cL_law 261 = .ok (.iconst 1, 1) := dc_i1 (by decide +kernel)
theorem dL_law_262 : decode cL_law 262 = .ok (.iadd, 1) := dc_iad (by decide +kernel)
theorem dL_law_263 : decode cL_law 263 = .ok (.iaload, 1) := dc_ial (by decide +kernel)
theorem dL_law_264 : decode cL_law 264 = .ok (.aload_n 0, 1) := dc_al0 (by decide +kernel)
theorem dL_law_265 : decode cL_law 265 = .ok (.iload_n 3, 1) := dc_il3 (by decide +kernel)
theorem dL_law_266 : decode cL_law 266 = .ok (.iconst 2, 1) := dc_i2 (by decide +kernel)
theorem dL_law_267 : decode cL_law 267 = .ok (.iadd, 1) := dc_iad (by decide +kernel)
theorem dL_law_268 : decode cL_law 268 = .ok (.iaload, 1) := dc_ial (by decide +kernel)
theorem dL_law_269 : decode cL_law 269 = .ok (.aload_n 0, 1) := dc_al0 (by decide +kernel)
theorem dL_law_270 : decode cL_law 270 = .ok (.iload_n 3, 1) := dc_il3 (by decide +kernel)
theorem dL_law_271 : decode cL_law 271 = .ok (.iconst 3, 1) := dc_i3 (by decide +kernel)
theorem dL_law_272 : decode cL_law 272 = .ok (.iadd, 1) := dc_iad (by decide +kernel)
theorem dL_law_273 : decode cL_law 273 = .ok (.iaload, 1) := dc_ial (by decide +kernel)
theorem dL_law_274 : decode cL_law 274 = .ok (.invokevirtual 21, 3) := dc_b6 (b1 := 0) (b2 := 21) (by decide +kernel) (by decide +kernel) (by decide +kernel) (by decide)
theorem dL_law_277 : decode cL_law 277 = .ok (.if_icmp .eq 1080, 3) := by decide +kernel
theorem dL_law_280 : decode cL_law 280 = .ok (.iconst 0, 1) := by decide +kernel
theorem dL_law_281 : decode cL_law 281 = .ok (.ireturn, 1) := by decide +kernel
theorem dL_law_282 : decode cL_law 282 = .ok (.aload_n 1, 1) := dc_al1 (by decide +kernel)
theorem dL_law_283 : decode cL_law 283 = .ok (.aload_n 0, 1) := dc_al0 (by decide +kernel)
theorem dL_law_284 : decode cL_law 284 = .ok (.iload_n 3, 1) := dc_il3 (by decide +kernel)
theorem dL_law_285 : decode cL_law 285 = .ok (.iconst 1, 1) := dc_i1 (by decide +kernel)
theorem dL_law_286 : decode cL_law 286 = .ok (.iadd, 1) := dc_iad (by decide +kernel)
theorem dL_law_287 : decode cL_law 287 = .ok (.iaload, 1) := dc_ial (by decide +kernel)
theorem dL_law_288 : decode cL_law 288 = .ok (.aload_n 0, 1) := dc_al0 (by decide +kernel)
theorem dL_law_289 : decode cL_law 289 = .ok (.iload_n 3, 1) := dc_il3 (by decide +kernel)
theorem dL_law_290 : decode cL_law 290 = .ok (.iconst 2, 1) := dc_i2 (by decide +kernel)
theorem dL_law_291 : decode cL_law 291 = .ok (.iadd, 1) := dc_iad (by decide +kernel)
theorem dL_law_292 : decode cL_law 292 = .ok (.iaload, 1) := dc_ial (by decide +kernel)
theorem dL_law_293 : decode cL_law 293 = .ok (.aload_n 0, 1) := dc_al0 (by decide +kernel)
theorem dL_law_294 : decode cL_law 294 = .ok (.iload_n 3, 1) := dc_il3 (by decide +kernel)
theorem dL_law_295 : decode cL_law 295 = .ok (.iconst 3, 1) := dc_i3 (by decide +kernel)
theorem dL_law_296 : decode cL_law 296 = .ok (.iadd, 1) := dc_iad (by decide +kernel)
theorem dL_law_297 : decode cL_law 297 = .ok (.iaload, 1) := dc_ial (by decide +kernel)
theorem dL_law_298 : decode cL_law 298 = .ok (.aload_n 0, 1) := dc_al0 (by decide +kernel)
theorem dL_law_299 : decode cL_law 299 = .ok (.iload_n 3, 1) := dc_il3 (by decide +kernel)
theorem dL_law_300 : decode cL_law 300 = .ok (.iconst 4, 1) := dc_i4 (by decide +kernel)
theorem dL_law_301 : decode cL_law 301 = .ok (.iadd, 1) := dc_iad (by decide +kernel)
theorem dL_law_302 : decode cL_law 302 = .ok (.iaload, 1) := dc_ial (by decide +kernel)
theorem dL_law_303 : decode cL_law 303 = .ok (.aload_n 0, 1) := dc_al0 (by decide +kernel)
theorem dL_law_304 : decode cL_law 304 = .ok (.iload_n 3, 1) := dc_il3 (by decide +kernel)
theorem dL_law_305 : decode cL_law 305 = .ok (.iconst 5, 1) := dc_i5 (by decide +kernel)
theorem dL_law_306 : decode cL_law 306 = .ok (.iadd, 1) := dc_iad (by decide +kernel)
theorem dL_law_307 : decode cL_law 307 = .ok (.iaload, 1) := dc_ial (by decide +kernel)
theorem dL_law_308 : decode cL_law 308 = .ok (.invokevirtual 22, 3) := dc_b6 (b1 := 0) (b2 := 22) (by decide +kernel) (by decide +kernel) (by decide +kernel) (by decide)
theorem dL_law_311 : decode cL_law 311 = .ok (.pop, 1) := dc_pop (by decide +kernel)
theorem dL_law_312 : decode cL_law 312 = .ok (.aload_n 2, 1) := dc_al2 (by decide +kernel)
theorem dL_law_313 : decode cL_law 313 = .ok (.aload_n 0, 1) := dc_al0 (by decide +kernel)
theorem dL_law_314 : decode cL_law 314 = .ok (.iload_n 3, 1) := dc_il3 (by decide +kernel)
theorem dL_law_315 : decode cL_law 315 = .ok (.iconst 1, 1) := dc_i1 (by decide +kernel)
theorem dL_law_316 : decode cL_law 316 = .ok (.iadd, 1) := dc_iad (by decide +kernel)
theorem dL_law_317 : decode cL_law 317 = .ok (.iaload, 1) := dc_ial (by decide +kernel)
theorem dL_law_318 : decode cL_law 318 = .ok (.aload_n 0, 1) := dc_al0 (by decide +kernel)
theorem dL_law_319 : decode cL_law 319 = .ok (.iload_n 3, 1) := dc_il3 (by decide +kernel)
theorem dL_law_320 : decode cL_law 320 = .ok (.iconst 2, 1) := dc_i2 (by decide +kernel)
theorem dL_law_321 : decode cL_law 321 = .ok (.iadd, 1) := dc_iad (by decide +kernel)
theorem dL_law_322 : decode cL_law 322 = .ok (.iaload, 1) := dc_ial (by decide +kernel)
theorem dL_law_323 : decode cL_law 323 = .ok (.aload_n 0, 1) := dc_al0 (by decide +kernel)
theorem dL_law_324 : decode cL_law 324 = .ok (.iload_n 3, 1) := dc_il3 (by decide +kernel)
theorem dL_law_325 : decode cL_law 325 = .ok (.iconst 3, 1) := dc_i3 (by decide +kernel)
theorem dL_law_326 : decode cL_law 326 = .ok (.iadd, 1) := dc_iad (by decide +kernel)
theorem dL_law_327 : decode cL_law 327 = .ok (.iaload, 1) := dc_ial (by decide +kernel)
theorem dL_law_328 : decode cL_law 328 = .ok (.aload_n 0, 1) := dc_al0 (by decide +kernel)
theorem dL_law_329 : decode cL_law 329 = .ok (.iload_n 3, 1) := dc_il3 (by decide +kernel)
theorem dL_law_330 : decode cL_law 330 = .ok (.iconst 4, 1) := dc_i4 (by decide +kernel)
theorem dL_law_331 : decode cL_law 331 = .ok (.iadd, 1) := dc_iad (by decide +kernel)
theorem dL_law_332 : decode cL_law 332 = .ok (.iaload, 1) := dc_ial (by decide +kernel)
theorem dL_law_333 : decode cL_law 333 = .ok (.aload_n 0, 1) := dc_al0 (by decide +kernel)
theorem dL_law_334 : decode cL_law 334 = .ok (.iload_n 3, 1) := dc_il3 (by decide +kernel)
theorem dL_law_335 : decode cL_law 335 = .ok (.iconst 5, 1) := dc_i5 (by decide +kernel)
theorem dL_law_336 : decode cL_law 336 = .ok (.iadd, 1) := dc_iad (by decide +kernel)
theorem dL_law_337 : decode cL_law 337 = .ok (.iaload, 1) := dc_ial (by decide +kernel)
theorem dL_law_338 : decode cL_law 338 = .ok (.invokevirtual 26, 3) := dc_b6 (b1 := 0) (b2 := 26) (by decide +kernel) (by decide +kernel) (by decide +kernel) (by decide)
theorem dL_law_341 : decode cL_law 341 = .ok (.pop, 1) := dc_pop (by decide +kernel)
theorem dL_law_342 : decode cL_law 342 = .ok (.goto 1015, 3) := dc_a7 (b1 := 3) (b2 := 247) (by decide +kernel) (by decide +kernel) (by decide +kernel) (by decide)
theorem dL_law_345 : decode cL_law 345 = .ok (.aload_n 1, 1) := dc_al1 (by decide +kernel)
theorem dL_law_346 : decode cL_law 346 = .ok (.aload_n 0, 1) := dc_al0 (by decide +kernel)
theorem dL_law_347 : decode cL_law 347 = .ok (.iload_n 3, 1) := dc_il3 (by decide +kernel)
theorem dL_law_348 : decode cL_law 348 = .ok (.iconst 1, 1) := dc_i1 (by decide +kernel)
theorem dL_law_349 : decode cL_law 349 = .ok (.iadd, 1) := dc_iad (by decide +kernel)
theorem dL_law_350 : decode cL_law 350 = .ok (.iaload, 1) := dc_ial (by decide +kernel)
theorem dL_law_351 : decode cL_law 351 = .ok (.invokevirtual 27, 3) := dc_b6 (b1 := 0) (b2 := 27) (by decide +kernel) (by decide +kernel) (by decide +kernel) (by decide)
theorem dL_law_354 : decode cL_law 354 = .ok (.pop, 1) := dc_pop (by decide +kernel)
theorem dL_law_355 : decode cL_law 355 = .ok (.aload_n 2, 1) := dc_al2 (by decide +kernel)
theorem dL_law_356 : decode cL_law 356 = .ok (.aload_n 0, 1) := dc_al0 (by decide +kernel)
theorem dL_law_357 : decode cL_law 357 = .ok (.iload_n 3, 1) := dc_il3 (by decide +kernel)
theorem dL_law_358 : decode cL_law 358 = .ok (.iconst 1, 1) := dc_i1 (by decide +kernel)
theorem dL_law_359 : decode cL_law 359 = .ok (.iadd, 1) := dc_iad (by decide +kernel)
theorem dL_law_360 : decode cL_law 360 = .ok (.iaload, 1) := dc_ial (by decide +kernel)
theorem dL_law_361 : decode cL_law 361 = .ok (.invokevirtual 31, 3) := dc_b6 (b1 := 0) (b2 := 31) (by decide +kernel) (by decide +kernel) (by decide +kernel) (by decide)
theorem dL_law_364 : decode cL_law 364 = .ok (.pop, 1) := dc_pop (by decide +kernel)
theorem dL_law_365 : decode cL_law 365 = .ok (.goto 992, 3) := dc_a7 (b1 := 3) (b2 := 224) (by decide +kernel) (by decide +kernel) (by decide +kernel) (by decide)
theorem dL_law_368 : decode cL_law 368 = .ok (.aload_n 1, 1) := dc_al1 (by decide +kernel)
theorem dL_law_369 : decode cL_law 369 = .ok (.aload_n 0, 1) := dc_al0 (by decide +kernel)
theorem dL_law_370 : decode cL_law 370 = .ok (.iload_n 3, 1) := dc_il3 (by decide +kernel)
theorem dL_law_371 : decode cL_law 371 = .ok (.iconst 1, 1) := dc_i1 (by decide +kernel)
theorem dL_law_372 : decode cL_law 372 = .ok (.iadd, 1) := dc_iad (by decide +kernel)
theorem dL_law_373 : decode cL_law 373 = .ok (.iaload, 1) := dc_ial (by decide +kernel)
theorem dL_law_374 : decode cL_law 374 = .ok (.invokevirtual 32, 3) := dc_b6 (b1 := 0) (b2 := 32) (by decide +kernel) (by decide +kernel) (by decide +kernel) (by decide)
theorem dL_law_377 : decode cL_law 377 = .ok (.pop, 1) := dc_pop (by decide +kernel)
theorem dL_law_378 : decode cL_law 378 = .ok (.aload_n 2, 1) := dc_al2 (by decide +kernel)
theorem dL_law_379 : decode cL_law 379 = .ok (.aload_n 0, 1) := dc_al0 (by decide +kernel)
theorem dL_law_380 : decode cL_law 380 = .ok (.iload_n 3, 1) := dc_il3 (by decide +kernel)
theorem dL_law_381 : decode cL_law 381 = .ok (.iconst 1, 1) := dc_i1 (by decide +kernel)
theorem dL_law_382 : decode cL_law 382 = .ok (.iadd, 1) := dc_iad (by decide +kernel)
theorem dL_law_383 : decode cL_law 383 = .ok (.iaload, 1) := dc_ial (by decide +kernel)
theorem dL_law_384 : decode cL_law 384 = .ok (.invokevirtual 35, 3) := dc_b6 (b1 := 0) (b2 := 35) (by decide +kernel) (by decide +kernel) (by decide +kernel) (by decide)
theorem dL_law_387 : decode cL_law 387 = .ok (.pop, 1) := dc_pop (by decide +kernel)
theorem dL_law_388 : decode cL_law 388 = .ok (.goto 969, 3) := dc_a7 (b1 := 3) (b2 := 201) (by decide +kernel) (by decide +kernel) (by decide +kernel) (by decide)
theorem dL_law_391 : decode cL_law 391 = .ok (.aload_n 1, 1) := dc_al1 (by decide +kernel)
theorem dL_law_392 : decode cL_law 392 = .ok (.invokevirtual 36, 3) := dc_b6 (b1 := 0) (b2 := 36) (by decide +kernel) (by decide +kernel) (by decide +kernel) (by decide)
theorem dL_law_395 : decode cL_law 395 = .ok (.pop, 1) := dc_pop (by decide +kernel)
theorem dL_law_396 : decode cL_law 396 = .ok (.aload_n 2, 1) := dc_al2 (by decide +kernel)
theorem dL_law_397 : decode cL_law 397 = .ok (.invokevirtual 40, 3) := dc_b6 (b1 := 0) (b2 := 40) (by decide +kernel) (by decide +kernel) (by decide +kernel) (by decide)
theorem dL_law_400 : decode cL_law 400 = .ok (.pop, 1) := dc_pop (by decide +kernel)
theorem dL_law_401 : decode cL_law 401 = .ok (.goto 956, 3) := dc_a7 (b1 := 3) (b2 := 188) (by decide +kernel) (by decide +kernel) (by decide +kernel) (by decide)
theorem dL_law_404 : decode cL_law 404 = .ok (.aload_n 1, 1) := dc_al1 (by decide +kernel)
theorem dL_law_405 : decode cL_law 405 = .ok (.invokevirtual 41, 3) := dc_b6 (b1 := 0) (b2 := 41) (by decide +kernel) (by decide +kernel) (by decide +kernel) (by decide)
theorem dL_law_408 : decode cL_law 408 = .ok (.pop, 1) := dc_pop (by decide +kernel)
theorem dL_law_409 : decode cL_law 409 = .ok (.aload_n 2, 1) := dc_al2 (by decide +kernel)
theorem dL_law_410 : decode cL_law 410 = .ok (.invokevirtual 44, 3) := dc_b6 (b1 := 0) (b2 := 44) (by decide +kernel) (by decide +kernel) (by decide +kernel) (by decide)
theorem dL_law_413 : decode cL_law 413 = .ok (.pop, 1) := dc_pop (by decide +kernel)
theorem dL_law_414 : decode cL_law 414 = .ok (.goto 943, 3) := dc_a7 (b1 := 3) (b2 := 175) (by decide +kernel) (by decide +kernel) (by decide +kernel) (by decide)
theorem dL_law_417 : decode cL_law 417 = .ok (.aload_n 1, 1) := dc_al1 (by decide +kernel)
theorem dL_law_418 : decode cL_law 418 = .ok (.invokevirtual 45, 3) := dc_b6 (b1 := 0) (b2 := 45) (by decide +kernel) (by decide +kernel) (by decide +kernel) (by decide)
theorem dL_law_421 : decode cL_law 421 = .ok (.pop, 1) := dc_pop (by decide +kernel)
theorem dL_law_422 : decode cL_law 422 = .ok (.aload_n 2, 1) := dc_al2 (by decide +kernel)
theorem dL_law_423 : decode cL_law 423 = .ok (.invokevirtual 48, 3) := dc_b6 (b1 := 0) (b2 := 48) (by decide +kernel) (by decide +kernel) (by decide +kernel) (by decide)
theorem dL_law_426 : decode cL_law 426 = .ok (.pop, 1) := dc_pop (by decide +kernel)
theorem dL_law_427 : decode cL_law 427 = .ok (.goto 930, 3) := dc_a7 (b1 := 3) (b2 := 162) (by decide +kernel) (by decide +kernel) (by decide +kernel) (by decide)
theorem dL_law_430 : decode cL_law 430 = .ok (.aload_n 1, 1) := dc_al1 (by decide +kernel)
theorem dL_law_431 : decode cL_law 431 = .ok (.aload_n 0, 1) := dc_al0 (by decide +kernel)
theorem dL_law_432 : decode cL_law 432 = .ok (.iload_n 3, 1) := dc_il3 (by decide +kernel)
theorem dL_law_433 : decode cL_law 433 = .ok (.iconst 1, 1) := dc_i1 (by decide +kernel)
theorem dL_law_434 : decode cL_law 434 = .ok (.iadd, 1) := dc_iad (by decide +kernel)
theorem dL_law_435 : decode cL_law 435 = .ok (.iaload, 1) := dc_ial (by decide +kernel)
theorem dL_law_436 : decode cL_law 436 = .ok (.invokevirtual 49, 3) := dc_b6 (b1 := 0) (b2 := 49) (by decide +kernel) (by decide +kernel) (by decide +kernel) (by decide)
theorem dL_law_439 : decode cL_law 439 = .ok (.pop, 1) := dc_pop (by decide +kernel)
theorem dL_law_440 : decode cL_law 440 = .ok (.aload_n 2, 1) := dc_al2 (by decide +kernel)
theorem dL_law_441 : decode cL_law 441 = .ok (.aload_n 0, 1) := dc_al0 (by decide +kernel)
theorem dL_law_442 : decode cL_law 442 = .ok (.iload_n 3, 1) := dc_il3 (by decide +kernel)
theorem dL_law_443 : decode cL_law 443 = .ok (.iconst 1, 1) := dc_i1 (by decide +kernel)
theorem dL_law_444 : decode cL_law 444 = .ok (.iadd, 1) := dc_iad (by decide +kernel)
theorem dL_law_445 : decode cL_law 445 = .ok (.iaload, 1) := dc_ial (by decide +kernel)
theorem dL_law_446 : decode cL_law 446 = .ok (.invokevirtual 52, 3) := dc_b6 (b1 := 0) (b2 := 52) (by decide +kernel) (by decide +kernel) (by decide +kernel) (by decide)
theorem dL_law_449 : decode cL_law 449 = .ok (.pop, 1) := dc_pop (by decide +kernel)
theorem dL_law_450 : decode cL_law 450 = .ok (.goto 907, 3) := dc_a7 (b1 := 3) (b2 := 139) (by decide +kernel) (by decide +kernel) (by decide +kernel) (by decide)
theorem dL_law_453 : decode cL_law 453 = .ok (.aload_n 1, 1) := dc_al1 (by decide +kernel)
theorem dL_law_454 : decode cL_law 454 = .ok (.invokevirtual 53, 3) := dc_b6 (b1 := 0) (b2 := 53) (by decide +kernel) (by decide +kernel) (by decide +kernel) (by decide)
theorem dL_law_457 : decode cL_law 457 = .ok (.pop, 1) := dc_pop (by decide +kernel)
theorem dL_law_458 : decode cL_law 458 = .ok (.aload_n 2, 1) := dc_al2 (by decide +kernel)
theorem dL_law_459 : decode cL_law 459 = .ok (.invokevirtual 56, 3) := dc_b6 (b1 := 0) (b2 := 56) (by decide +kernel) (by decide +kernel) (by decide +kernel) (by decide)
theorem dL_law_462 : decode cL_law 462 = .ok (.pop, 1) := dc_pop (by decide +kernel)
theorem dL_law_463 : decode cL_law 463 = .ok (.goto 894, 3) := dc_a7 (b1 := 3) (b2 := 126) (by decide +kernel) (by decide +kernel) (by decide +kernel) (by decide)
theorem dL_law_466 : decode cL_law 466 = .ok (.aload_n 1, 1) := dc_al1 (by decide +kernel)
theorem dL_law_467 : decode cL_law 467 = .ok (.aload_n 0, 1) := dc_al0 (by decide +kernel)
theorem dL_law_468 : decode cL_law 468 = .ok (.iload_n 3, 1) := dc_il3 (by decide +kernel)
theorem dL_law_469 : decode cL_law 469 = .ok (.iconst 1, 1) := dc_i1 (by decide +kernel)
theorem dL_law_470 : decode cL_law 470 = .ok (.iadd, 1) := dc_iad (by decide +kernel)
theorem dL_law_471 : decode cL_law 471 = .ok (.iaload, 1) := dc_ial (by decide +kernel)
theorem dL_law_472 : decode cL_law 472 = .ok (.aload_n 0, 1) := dc_al0 (by decide +kernel)
theorem dL_law_473 : decode cL_law 473 = .ok (.iload_n 3, 1) := dc_il3 (by decide +kernel)
theorem dL_law_474 : decode cL_law 474 = .ok (.iconst 2, 1) := dc_i2 (by decide +kernel)
theorem dL_law_475 : decode cL_law 475 = .ok (.iadd, 1) := dc_iad (by decide +kernel)
theorem dL_law_476 : decode cL_law 476 = .ok (.iaload, 1) := dc_ial (by decide +kernel)
theorem dL_law_477 : decode cL_law 477 = .ok (.invokevirtual 57, 3) := dc_b6 (b1 := 0) (b2 := 57) (by decide +kernel) (by decide +kernel) (by decide +kernel) (by decide)
theorem dL_law_480 : decode cL_law 480 = .ok (.pop, 1) := dc_pop (by decide +kernel)
theorem dL_law_481 : decode cL_law 481 = .ok (.aload_n 2, 1) := dc_al2 (by decide +kernel)
theorem dL_law_482 : decode cL_law 482 = .ok (.aload_n 0, 1) := dc_al0 (by decide +kernel)
theorem dL_law_483 : decode cL_law 483 = .ok (.iload_n 3, 1) := dc_il3 (by decide +kernel)
theorem dL_law_484 : decode cL_law 484 = .ok (.iconst 1, 1) := dc_i1 (by decide +kernel)
theorem dL_law_485 : decode cL_law 485 = .ok (.iadd, 1) := dc_iad (by decide +kernel)
theorem dL_law_486 : decode cL_law 486 = .ok (.iaload, 1) := dc_ial (by decide +kernel)
theorem dL_law_487 : decode cL_law 487 = .ok (.aload_n 0, 1) := dc_al0 (by decide +kernel)
theorem dL_law_488 : decode cL_law 488 = .ok (.iload_n 3, 1) := dc_il3 (by decide +kernel)
theorem dL_law_489 : decode cL_law 489 = .ok (.iconst 2, 1) := dc_i2 (by decide +kernel)
theorem dL_law_490 : decode cL_law 490 = .ok (.iadd, 1) := dc_iad (by decide +kernel)
theorem dL_law_491 : decode cL_law 491 = .ok (.iaload, 1) := dc_ial (by decide +kernel)
theorem dL_law_492 : decode cL_law 492 = .ok (.invokevirtual 61, 3) := dc_b6 (b1 := 0) (b2 := 61) (by decide +kernel) (by decide +kernel) (by decide +kernel) (by decide)
theorem dL_law_495 : decode cL_law 495 = .ok (.pop, 1) := dc_pop (by decide +kernel)
theorem dL_law_496 : decode cL_law 496 = .ok (.goto 861, 3) := dc_a7 (b1 := 3) (b2 := 93) (by decide +kernel) (by decide +kernel) (by decide +kernel) (by decide)
theorem dL_law_499 : decode cL_law 499 = .ok (.aload_n 1, 1) := dc_al1 (by decide +kernel)
theorem dL_law_500 : decode cL_law 500 = .ok (.aload_n 0, 1) := dc_al0 (by decide +kernel)
theorem dL_law_501 : decode cL_law 501 = .ok (.iload_n 3, 1) := dc_il3 (by decide +kernel)
theorem dL_law_502 : decode cL_law 502 = .ok (.iconst 1, 1) := dc_i1 (by decide +kernel)
theorem dL_law_503 : decode cL_law 503 = .ok (.iadd, 1) := dc_iad (by decide +kernel)
theorem dL_law_504 : decode cL_law 504 = .ok (.iaload, 1) := dc_ial (by decide +kernel)
theorem dL_law_505 : decode cL_law 505 = .ok (.aload_n 0, 1) := dc_al0 (by decide +kernel)
theorem dL_law_506 : decode cL_law 506 = .ok (.iload_n 3, 1) := dc_il3 (by decide +kernel)
theorem dL_law_507 : decode cL_law 507 = .ok (.iconst 2, 1) := dc_i2 (by decide +kernel)
theorem dL_law_508 : decode cL_law 508 = .ok (.iadd, 1) := dc_iad (by decide +kernel)
theorem dL_law_509 : decode cL_law 509 = .ok (.iaload, 1) := dc_ial (by decide +kernel)
theorem dL_law_510 : decode cL_law 510 = .ok (.aload_n 0, 1) := dc_al0 (by decide +kernel)
theorem dL_law_511 : decode cL_law 511 = .ok (.iload_n 3, 1) := dc_il3 (by decide +kernel)
theorem dL_law_512 : decode cL_law 512 = .ok (.iconst 3, 1) := dc_i3 (by decide +kernel)
theorem dL_law_513 : decode cL_law 513 = .ok (.iadd, 1) := dc_iad (by decide +kernel)
theorem dL_law_514 : decode cL_law 514 = .ok (.iaload, 1) := dc_ial (by decide +kernel)
theorem dL_law_515 : decode cL_law 515 = .ok (.invokevirtual 62, 3) := dc_b6 (b1 := 0) (b2 := 62) (by decide +kernel) (by decide +kernel) (by decide +kernel) (by decide)
theorem dL_law_518 : decode cL_law 518 = .ok (.pop, 1) := dc_pop (by decide +kernel)
theorem dL_law_519 : decode cL_law 519 = .ok (.aload_n 2, 1) := dc_al2 (by decide +kernel)
theorem dL_law_520 : decode cL_law 520 = .ok (.aload_n 0, 1) := dc_al0 (by decide +kernel)
theorem dL_law_521 : decode cL_law 521 = .ok (.iload_n 3, 1) := dc_il3 (by decide +kernel)
theorem dL_law_522 : decode cL_law 522 = .ok (.iconst 1, 1) := dc_i1 (by decide +kernel)
theorem dL_law_523 : decode cL_law 523 = .ok (.iadd, 1) := dc_iad (by decide +kernel)
theorem dL_law_524 : decode cL_law 524 = .ok (.iaload, 1) := dc_ial (by decide +kernel)
theorem dL_law_525 : decode cL_law 525 = .ok (.aload_n 0, 1) := dc_al0 (by decide +kernel)
theorem dL_law_526 : decode cL_law 526 = .ok (.iload_n 3, 1) := dc_il3 (by decide +kernel)
theorem dL_law_527 : decode cL_law 527 = .ok (.iconst 2, 1) := dc_i2 (by decide +kernel)
theorem dL_law_528 : decode cL_law 528 = .ok (.iadd, 1) := dc_iad (by decide +kernel)
theorem dL_law_529 : decode cL_law 529 = .ok (.iaload, 1) := dc_ial (by decide +kernel)
theorem dL_law_530 : decode cL_law 530 = .ok (.aload_n 0, 1) := dc_al0 (by decide +kernel)
theorem dL_law_531 : decode cL_law 531 = .ok (.iload_n 3, 1) := dc_il3 (by decide +kernel)
theorem dL_law_532 : decode cL_law 532 = .ok (.iconst 3, 1) := dc_i3 (by decide +kernel)
theorem dL_law_533 : decode cL_law 533 = .ok (.iadd, 1) := dc_iad (by decide +kernel)
theorem dL_law_534 : decode cL_law 534 = .ok (.iaload, 1) := dc_ial (by decide +kernel)
theorem dL_law_535 : decode cL_law 535 = .ok (.invokevirtual 65, 3) := dc_b6 (b1 := 0) (b2 := 65) (by decide +kernel) (by decide +kernel) (by decide +kernel) (by decide)
theorem dL_law_538 : decode cL_law 538 = .ok (.pop, 1) := dc_pop (by decide +kernel)
theorem dL_law_539 : decode cL_law 539 = .ok (.goto 818, 3) := dc_a7 (b1 := 3) (b2 := 50) (by decide +kernel) (by decide +kernel) (by decide +kernel) (by decide)
theorem dL_law_542 : decode cL_law 542 = .ok (.aload_n 1, 1) := dc_al1 (by decide +kernel)
theorem dL_law_543 : decode cL_law 543 = .ok (.aload_n 0, 1) := dc_al0 (by decide +kernel)
theorem dL_law_544 : decode cL_law 544 = .ok (.iload_n 3, 1) := dc_il3 (by decide +kernel)
theorem dL_law_545 : decode cL_law 545 = .ok (.iconst 1, 1) := dc_i1 (by decide +kernel)
theorem dL_law_546 : decode cL_law 546 = .ok (.iadd, 1) := dc_iad (by decide +kernel)
theorem dL_law_547 : decode cL_law 547 = .ok (.iaload, 1) := dc_ial (by decide +kernel)
theorem dL_law_548 : decode cL_law 548 = .ok (.invokevirtual 66, 3) := dc_b6 (b1 := 0) (b2 := 66) (by decide +kernel) (by decide +kernel) (by decide +kernel) (by decide)
theorem dL_law_551 : decode cL_law 551 = .ok (.pop, 1) := dc_pop (by decide +kernel)
theorem dL_law_552 : decode cL_law 552 = .ok (.aload_n 2, 1) := dc_al2 (by decide +kernel)
theorem dL_law_553 : decode cL_law 553 = .ok (.aload_n 0, 1) := dc_al0 (by decide +kernel)
theorem dL_law_554 : decode cL_law 554 = .ok (.iload_n 3, 1) := dc_il3 (by decide +kernel)
theorem dL_law_555 : decode cL_law 555 = .ok (.iconst 1, 1) := dc_i1 (by decide +kernel)
theorem dL_law_556 : decode cL_law 556 = .ok (.iadd, 1) := dc_iad (by decide +kernel)
theorem dL_law_557 : decode cL_law 557 = .ok (.iaload, 1) := dc_ial (by decide +kernel)
theorem dL_law_558 : decode cL_law 558 = .ok (.invokevirtual 69, 3) := dc_b6 (b1 := 0) (b2 := 69) (by decide +kernel) (by decide +kernel) (by decide +kernel) (by decide)
theorem dL_law_561 : decode cL_law 561 = .ok (.pop, 1) := dc_pop (by decide +kernel)
theorem dL_law_562 : decode cL_law 562 = .ok (.goto 795, 3) := dc_a7 (b1 := 3) (b2 := 27) (by decide +kernel) (by decide +kernel) (by decide +kernel) (by decide)
theorem dL_law_565 : decode cL_law 565 = .ok (.aload_n 1, 1) := dc_al1 (by decide +kernel)
theorem dL_law_566 : decode cL_law 566 = .ok (.aload_n 0, 1) := dc_al0 (by decide +kernel)
theorem dL_law_567 : decode cL_law 567 = .ok (.iload_n 3, 1) := dc_il3 (by decide +kernel)
theorem dL_law_568 : decode cL_law 568 = .ok (.iconst 1, 1) := dc_i1 (by decide +kernel)
theorem dL_law_569 : decode cL_law 569 = .ok (.iadd, 1) := dc_iad (by decide +kernel)
theorem dL_law_570 : decode cL_law 570 = .ok (.iaload, 1) := dc_ial (by decide +kernel)
theorem dL_law_571 : decode cL_law 571 = .ok (.aload_n 0, 1) := dc_al0 (by decide +kernel)
theorem dL_law_572 : decode cL_law 572 = .ok (.iload_n 3, 1) := dc_il3 (by decide +kernel)
theorem dL_law_573 : decode cL_law 573 = .ok (.iconst 2, 1) := dc_i2 (by decide +kernel)
theorem dL_law_574 : decode cL_law 574 = .ok (.iadd, 1) := dc_iad (by decide +kernel)
theorem dL_law_575 : decode cL_law 575 = .ok (.iaload, 1) := dc_ial (by decide +kernel)
theorem dL_law_576 : decode cL_law 576 = .ok (.invokevirtual 70, 3) := dc_b6 (b1 := 0) (b2 := 70) (by decide +kernel) (by decide +kernel) (by decide +kernel) (by decide)
theorem dL_law_579 : decode cL_law 579 = .ok (.pop, 1) := dc_pop (by decide +kernel)
theorem dL_law_580 : decode cL_law 580 = .ok (.aload_n 2, 1) := dc_al2 (by decide +kernel)
theorem dL_law_581 : decode cL_law 581 = .ok (.aload_n 0, 1) := dc_al0 (by decide +kernel)
theorem dL_law_582 : decode cL_law 582 = .ok (.iload_n 3, 1) := dc_il3 (by decide +kernel)
theorem dL_law_583 : decode cL_law 583 = .ok (.iconst 1, 1) := dc_i1 (by decide +kernel)
theorem dL_law_584 : decode cL_law 584 = .ok (.iadd, 1) := dc_iad (by decide +kernel)
theorem dL_law_585 : decode cL_law 585 = .ok (.iaload, 1) := dc_ial (by decide +kernel)
theorem dL_law_586 : decode cL_law 586 = .ok (.aload_n 0, 1) := dc_al0 (by decide +kernel)
theorem dL_law_587 : decode cL_law 587 = .ok (.iload_n 3, 1) := dc_il3 (by decide +kernel)
theorem dL_law_588 : decode cL_law 588 = .ok (.iconst 2, 1) := dc_i2 (by decide +kernel)
theorem dL_law_589 : decode cL_law 589 = .ok (.iadd, 1) := dc_iad (by decide +kernel)
theorem dL_law_590 : decode cL_law 590 = .ok (.iaload, 1) := dc_ial (by decide +kernel)
theorem dL_law_591 : decode cL_law 591 = .ok (.invokevirtual 73, 3) := dc_b6 (b1 := 0) (b2 := 73) (by decide +kernel) (by decide +kernel) (by decide +kernel) (by decide)
theorem dL_law_594 : decode cL_law 594 = .ok (.pop, 1) := dc_pop (by decide +kernel)
theorem dL_law_595 : decode cL_law 595 = .ok (.goto 762, 3) := dc_a7 (b1 := 2) (b2 := 250) (by decide +kernel) (by decide +kernel) (by decide +kernel) (by decide)
theorem dL_law_598 : decode cL_law 598 = .ok (.aload_n 1, 1) := dc_al1 (by decide +kernel)
theorem dL_law_599 : decode cL_law 599 = .ok (.aload_n 0, 1) := dc_al0 (by decide +kernel)
theorem dL_law_600 : decode cL_law 600 = .ok (.iload_n 3, 1) := dc_il3 (by decide +kernel)
theorem dL_law_601 : decode cL_law 601 = .ok (.iconst 1, 1) := dc_i1 (by decide +kernel)
theorem dL_law_602 : decode cL_law 602 = .ok (.iadd, 1) := dc_iad (by decide +kernel)
theorem dL_law_603 : decode cL_law 603 = .ok (.iaload, 1) := dc_ial (by decide +kernel)
theorem dL_law_604 : decode cL_law 604 = .ok (.invokevirtual 74, 3) := dc_b6 (b1 := 0) (b2 := 74) (by decide +kernel) (by decide +kernel) (by decide +kernel) (by decide)
theorem dL_law_607 : decode cL_law 607 = .ok (.pop, 1) := dc_pop (by decide +kernel)
theorem dL_law_608 : decode cL_law 608 = .ok (.aload_n 2, 1) := dc_al2 (by decide +kernel)
theorem dL_law_609 : decode cL_law 609 = .ok (.aload_n 0, 1) := dc_al0 (by decide +kernel)
theorem dL_law_610 : decode cL_law 610 = .ok (.iload_n 3, 1) := dc_il3 (by decide +kernel)
theorem dL_law_611 : decode cL_law 611 = .ok (.iconst 1, 1) := dc_i1 (by decide +kernel)
theorem dL_law_612 : decode cL_law 612 = .ok (.iadd, 1) := dc_iad (by decide +kernel)
theorem dL_law_613 : decode cL_law 613 = .ok (.iaload, 1) := dc_ial (by decide +kernel)
theorem dL_law_614 : decode cL_law 614 = .ok (.invokevirtual 77, 3) := dc_b6 (b1 := 0) (b2 := 77) (by decide +kernel) (by decide +kernel) (by decide +kernel) (by decide)
theorem dL_law_617 : decode cL_law 617 = .ok (.pop, 1) := dc_pop (by decide +kernel)
theorem dL_law_618 : decode cL_law 618 = .ok (.goto 739, 3) := dc_a7 (b1 := 2) (b2 := 227) (by decide +kernel) (by decide +kernel) (by decide +kernel) (by decide)
theorem dL_law_621 : decode cL_law 621 = .ok (.aload_n 1, 1) := dc_al1 (by decide +kernel)
theorem dL_law_622 : decode cL_law 622 = .ok (.aload_n 0, 1) := dc_al0 (by decide +kernel)
theorem dL_law_623 : decode cL_law 623 = .ok (.iload_n 3, 1) := dc_il3 (by decide +kernel)
theorem dL_law_624 : decode cL_law 624 = .ok (.iconst 1, 1) := dc_i1 (by decide +kernel)
theorem dL_law_625 : decode cL_law 625 = .ok (.iadd, 1) := dc_iad (by decide +kernel)
theorem dL_law_626 : decode cL_law 626 = .ok (.iaload, 1) := dc_ial (by decide +kernel)
theorem dL_law_627 : decode cL_law 627 = .ok (.invokevirtual 78, 3) := dc_b6 (b1 := 0) (b2 := 78) (by decide +kernel) (by decide +kernel) (by decide +kernel) (by decide)
theorem dL_law_630 : decode cL_law 630 = .ok (.pop, 1) := dc_pop (by decide +kernel)
theorem dL_law_631 : decode cL_law 631 = .ok (.aload_n 2, 1) := dc_al2 (by decide +kernel)
theorem dL_law_632 : decode cL_law 632 = .ok (.aload_n 0, 1) := dc_al0 (by decide +kernel)
theorem dL_law_633 : decode cL_law 633 = .ok (.iload_n 3, 1) := dc_il3 (by decide +kernel)
theorem dL_law_634 : decode cL_law 634 = .ok (.iconst 1, 1) := dc_i1 (by decide +kernel)
theorem dL_law_635 : decode cL_law 635 = .ok (.iadd, 1) := dc_iad (by decide +kernel)
theorem dL_law_636 : decode cL_law 636 = .ok (.iaload, 1) := dc_ial (by decide +kernel)
theorem dL_law_637 : decode cL_law 637 = .ok (.invokevirtual 81, 3) := dc_b6 (b1 := 0) (b2 := 81) (by decide +kernel) (by decide +kernel) (by decide +kernel) (by decide)
theorem dL_law_640 : decode cL_law 640 = .ok (.pop, 1) := dc_pop (by decide +kernel)
theorem dL_law_641 : decode cL_law 641 = .ok (.goto 716, 3) := dc_a7 (b1 := 2) (b2 := 204) (by decide +kernel) (by decide +kernel) (by decide +kernel) (by decide)
theorem dL_law_644 : decode cL_law 644 = .ok (.aload_n 1, 1) := dc_al1 (by decide +kernel)
theorem dL_law_645 : decode cL_law 645 = .ok (.aload_n 0, 1) := dc_al0 (by decide +kernel)
theorem dL_law_646 : decode cL_law 646 = .ok (.iload_n 3, 1) := dc_il3 (by decide +kernel)
theorem dL_law_647 : decode cL_law 647 = .ok (.iconst 1, 1) := dc_i1 (by decide +kernel)
theorem dL_law_648 : decode cL_law 648 = .ok (.iadd, 1) := dc_iad (by decide +kernel)
theorem dL_law_649 : decode cL_law 649 = .ok (.iaload, 1) := dc_ial (by decide +kernel)
theorem dL_law_650 : decode cL_law 650 = .ok (.aload_n 0, 1) := dc_al0 (by decide +kernel)
theorem dL_law_651 : decode cL_law 651 = .ok (.iload_n 3, 1) := dc_il3 (by decide +kernel)
theorem dL_law_652 : decode cL_law 652 = .ok (.iconst 2, 1) := dc_i2 (by decide +kernel)
theorem dL_law_653 : decode cL_law 653 = .ok (.iadd, 1) := dc_iad (by decide +kernel)
theorem dL_law_654 : decode cL_law 654 = .ok (.iaload, 1) := dc_ial (by decide +kernel)
theorem dL_law_655 : decode cL_law 655 = .ok (.aload_n 0, 1) := dc_al0 (by decide +kernel)
theorem dL_law_656 : decode cL_law 656 = .ok (.iload_n 3, 1) := dc_il3 (by decide +kernel)
theorem dL_law_657 : decode cL_law 657 = .ok (.iconst 3, 1) := dc_i3 (by decide +kernel)
theorem dL_law_658 : decode cL_law 658 = .ok (.iadd, 1) := dc_iad (by decide +kernel)
theorem dL_law_659 : decode cL_law 659 = .ok (.iaload, 1) := dc_ial (by decide +kernel)
theorem dL_law_660 : decode cL_law 660 = .ok (.invokevirtual 82, 3) := dc_b6 (b1 := 0) (b2 := 82) (by decide +kernel) (by decide +kernel) (by decide +kernel) (by decide)
theorem dL_law_663 : decode cL_law 663 = .ok (.pop, 1) := dc_pop (by decide +kernel)
theorem dL_law_664 : decode cL_law 664 = .ok (.aload_n 2, 1) := dc_al2 (by decide +kernel)
theorem dL_law_665 : decode cL_law 665 = .ok (.aload_n 0, 1) := dc_al0 (by decide +kernel)
theorem dL_law_666 : decode cL_law 666 = .ok (.iload_n 3, 1) := dc_il3 (by decide +kernel)
theorem dL_law_667 : decode cL_law 667 = .ok (.iconst 1, 1) := dc_i1 (by decide +kernel)
theorem dL_law_668 : decode cL_law 668 = .ok (.iadd, 1) := dc_iad (by decide +kernel)
theorem dL_law_669 : decode cL_law 669 = .ok (.iaload, 1) := dc_ial (by decide +kernel)
theorem dL_law_670 : decode cL_law 670 = .ok (.aload_n 0, 1) := dc_al0 (by decide +kernel)
theorem dL_law_671 : decode cL_law 671 = .ok (.iload_n 3, 1) := dc_il3 (by decide +kernel)
theorem dL_law_672 : decode cL_law 672 = .ok (.iconst 2, 1) := dc_i2 (by decide +kernel)
theorem dL_law_673 : decode cL_law 673 = .ok (.iadd, 1) := dc_iad (by decide +kernel)
theorem dL_law_674 : decode cL_law 674 = .ok (.iaload, 1) := dc_ial (by decide +kernel)
theorem dL_law_675 : decode cL_law 675 = .ok (.aload_n 0, 1) := dc_al0 (by decide +kernel)
theorem dL_law_676 : decode cL_law 676 = .ok (.iload_n 3, 1) := dc_il3 (by decide +kernel)
theorem dL_law_677 : decode cL_law 677 = .ok (.iconst 3, 1) := dc_i3 (by decide +kernel)
theorem dL_law_678 : decode cL_law 678 = .ok (.iadd, 1) := dc_iad (by decide +kernel)
theorem dL_law_679 : decode cL_law 679 = .ok (.iaload, 1) := dc_ial (by decide +kernel)
theorem dL_law_680 : decode cL_law 680 = .ok (.invokevirtual 85, 3) := dc_b6 (b1 := 0) (b2 := 85) (by decide +kernel) (by decide +kernel) (by decide +kernel) (by decide)
theorem dL_law_683 : decode cL_law 683 = .ok (.pop, 1) := dc_pop (by decide +kernel)
theorem dL_law_684 : decode cL_law 684 = .ok (.goto 673, 3) := dc_a7 (b1 := 2) (b2 := 161) (by decide +kernel) (by decide +kernel) (by decide +kernel) (by decide)
theorem dL_law_687 : decode cL_law 687 = .ok (.aload_n 1, 1) := dc_al1 (by decide +kernel)
theorem dL_law_688 : decode cL_law 688 = .ok (.aload_n 0, 1) := dc_al0 (by decide +kernel)
theorem dL_law_689 : decode cL_law 689 = .ok (.iload_n 3, 1) := dc_il3 (by decide +kernel)
theorem dL_law_690 : decode cL_law 690 = .ok (.iconst 1, 1) := dc_i1 (by decide +kernel)
theorem dL_law_691 : decode cL_law 691 = .ok (.iadd, 1) := dc_iad (by decide +kernel)
theorem dL_law_692 : decode cL_law 692 = .ok (.iaload, 1) := dc_ial (by decide +kernel)
theorem dL_law_693 : decode cL_law 693 = .ok (.invokevirtual 86, 3) := dc_b6 (b1 := 0) (b2 := 86) (by decide +kernel) (by decide +kernel) (by decide +kernel) (by decide)
theorem dL_law_696 : decode cL_law 696 = .ok (.pop, 1) := dc_pop (by decide +kernel)
theorem dL_law_697 : decode cL_law 697 = .ok (.aload_n 2, 1) := dc_al2 (by decide +kernel)
theorem dL_law_698 : decode cL_law 698 = .ok (.aload_n 0, 1) := dc_al0 (by decide +kernel)
theorem dL_law_699 : decode cL_law 699 = .ok (.iload_n 3, 1) := dc_il3 (by decide +kernel)
theorem dL_law_700 : decode cL_law 700 = .ok (.iconst 1, 1) := dc_i1 (by decide +kernel)
theorem dL_law_701 : decode cL_law 701 = .ok (.iadd, 1) := dc_iad (by decide +kernel)
theorem dL_law_702 : decode cL_law 702 = .ok (.iaload, 1) := dc_ial (by decide +kernel)
theorem dL_law_703 : decode cL_law 703 = .ok (.invokevirtual 89, 3) := dc_b6 (b1 := 0) (b2 := 89) (by decide +kernel) (by decide +kernel) (by decide +kernel) (by decide)
theorem dL_law_706 : decode cL_law 706 = .ok (.pop, 1) := dc_pop (by decide +kernel)
theorem dL_law_707 : decode cL_law 707 = .ok (.goto 650, 3) := dc_a7 (b1 := 2) (b2 := 138) (by decide +kernel) (by decide +kernel) (by decide +kernel) (by decide)
theorem dL_law_710 : decode cL_law 710 = .ok (.aload_n 1, 1) := dc_al1 (by decide +kernel)
theorem dL_law_711 : decode cL_law 711 = .ok (.aload_n 0, 1) := dc_al0 (by decide +kernel)
theorem dL_law_712 : decode cL_law 712 = .ok (.iload_n 3, 1) := dc_il3 (by decide +kernel)
theorem dL_law_713 : decode cL_law 713 = .ok (.iconst 1, 1) := dc_i1 (by decide +kernel)
theorem dL_law_714 : decode cL_law 714 = .ok (.iadd, 1) := dc_iad (by decide +kernel)
theorem dL_law_715 : decode cL_law 715 = .ok (.iaload, 1) := dc_ial (by decide +kernel)
theorem dL_law_716 : decode cL_law 716 = .ok (.aload_n 0, 1) := dc_al0 (by decide +kernel)
theorem dL_law_717 : decode cL_law 717 = .ok (.iload_n 3, 1) := dc_il3 (by decide +kernel)
theorem dL_law_718 : decode cL_law 718 = .ok (.iconst 2, 1) := dc_i2 (by decide +kernel)
theorem dL_law_719 : decode cL_law 719 = .ok (.iadd, 1) := dc_iad (by decide +kernel)
theorem dL_law_720 : decode cL_law 720 = .ok (.iaload, 1) := dc_ial (by decide +kernel)
theorem dL_law_721 : decode cL_law 721 = .ok (.invokevirtual 90, 3) := dc_b6 (b1 := 0) (b2 := 90) (by decide +kernel) (by decide +kernel) (by decide +kernel) (by decide)
theorem dL_law_724 : decode cL_law 724 = .ok (.pop, 1) := dc_pop (by decide +kernel)
theorem dL_law_725 : decode cL_law 725 = .ok (.aload_n 2, 1) := dc_al2 (by decide +kernel)
theorem dL_law_726 : decode cL_law 726 = .ok (.aload_n 0, 1) := dc_al0 (by decide +kernel)
theorem dL_law_727 : decode cL_law 727 = .ok (.iload_n 3, 1) := dc_il3 (by decide +kernel)
theorem dL_law_728 : decode cL_law 728 = .ok (.iconst 1, 1) := dc_i1 (by decide +kernel)
theorem dL_law_729 : decode cL_law 729 = .ok (.iadd, 1) := dc_iad (by decide +kernel)
theorem dL_law_730 : decode cL_law 730 = .ok (.iaload, 1) := dc_ial (by decide +kernel)
theorem dL_law_731 : decode cL_law 731 = .ok (.aload_n 0, 1) := dc_al0 (by decide +kernel)
theorem dL_law_732 : decode cL_law 732 = .ok (.iload_n 3, 1) := dc_il3 (by decide +kernel)
theorem dL_law_733 : decode cL_law 733 = .ok (.iconst 2, 1) := dc_i2 (by decide +kernel)
theorem dL_law_734 : decode cL_law 734 = .ok (.iadd, 1) := dc_iad (by decide +kernel)
theorem dL_law_735 : decode cL_law 735 = .ok (.iaload, 1) := dc_ial (by decide +kernel)
theorem dL_law_736 : decode cL_law 736 = .ok (.invokevirtual 93, 3) := dc_b6 (b1 := 0) (b2 := 93) (by decide +kernel) (by decide +kernel) (by decide +kernel) (by decide)
theorem dL_law_739 : decode cL_law 739 = .ok (.pop, 1) := dc_pop (by decide +kernel)
theorem dL_law_740 : decode cL_law 740 = .ok (.goto 617, 3) := dc_a7 (b1 := 2) (b2 := 105) (by decide +kernel) (by decide +kernel) (by decide +kernel) (by decide)
theorem dL_law_743 : decode cL_law 743 = .ok (.aload_n 1, 1) := dc_al1 (by decide +kernel)
theorem dL_law_744 : decode cL_law 744 = .ok (.aload_n 0, 1) := dc_al0 (by decide +kernel)
theorem dL_law_745 : decode cL_law 745 = .ok (.iload_n 3, 1) := dc_il3 (by decide +kernel)
theorem dL_law_746 : decode cL_law 746 = .ok (.iconst 1, 1) := dc_i1 (by decide +kernel)
theorem dL_law_747 : decode cL_law 747 = .ok (.iadd, 1) := dc_iad (by decide +kernel)
theorem dL_law_748 : decode cL_law 748 = .ok (.iaload, 1) := dc_ial (by decide +kernel)
theorem dL_law_749 : decode cL_law 749 = .ok (.aload_n 0, 1) := dc_al0 (by decide +kernel)
theorem dL_law_750 : decode cL_law 750 = .ok (.iload_n 3, 1) := dc_il3 (by decide +kernel)
theorem dL_law_751 : decode cL_law 751 = .ok (.iconst 2, 1) := dc_i2 (by decide +kernel)
theorem dL_law_752 : decode cL_law 752 = .ok (.iadd, 1) := dc_iad (by decide +kernel)
theorem dL_law_753 : decode cL_law 753 = .ok (.iaload, 1) := dc_ial (by decide +kernel)
theorem dL_law_754 : decode cL_law 754 = .ok (.invokevirtual 94, 3) := dc_b6 (b1 := 0) (b2 := 94) (by decide +kernel) (by decide +kernel) (by decide +kernel) (by decide)
theorem dL_law_757 : decode cL_law 757 = .ok (.pop, 1) := dc_pop (by decide +kernel)
theorem dL_law_758 : decode cL_law 758 = .ok (.aload_n 2, 1) := dc_al2 (by decide +kernel)
theorem dL_law_759 : decode cL_law 759 = .ok (.aload_n 0, 1) := dc_al0 (by decide +kernel)
theorem dL_law_760 : decode cL_law 760 = .ok (.iload_n 3, 1) := dc_il3 (by decide +kernel)
theorem dL_law_761 : decode cL_law 761 = .ok (.iconst 1, 1) := dc_i1 (by decide +kernel)
theorem dL_law_762 : decode cL_law 762 = .ok (.iadd, 1) := dc_iad (by decide +kernel)
theorem dL_law_763 : decode cL_law 763 = .ok (.iaload, 1) := dc_ial (by decide +kernel)
theorem dL_law_764 : decode cL_law 764 = .ok (.aload_n 0, 1) := dc_al0 (by decide +kernel)
theorem dL_law_765 : decode cL_law 765 = .ok (.iload_n 3, 1) := dc_il3 (by decide +kernel)
theorem dL_law_766 : decode cL_law 766 = .ok (.iconst 2, 1) := dc_i2 (by decide +kernel)
theorem dL_law_767 : decode cL_law 767 = .ok (.iadd, 1) := dc_iad (by decide +kernel)
theorem dL_law_768 : decode cL_law 768 = .ok (.iaload, 1) := dc_ial (by decide +kernel)
theorem dL_law_769 : decode cL_law 769 = .ok (.invokevirtual 97, 3) := dc_b6 (b1 := 0) (b2 := 97) (by decide +kernel) (by decide +kernel) (by decide +kernel) (by decide)
theorem dL_law_772 : decode cL_law 772 = .ok (.pop, 1) := dc_pop (by decide +kernel)
theorem dL_law_773 : decode cL_law 773 = .ok (.goto 584, 3) := dc_a7 (b1 := 2) (b2 := 72) (by decide +kernel) (by decide +kernel) (by decide +kernel) (by decide)
theorem dL_law_776 : decode cL_law 776 = .ok (.aload_n 1, 1) := dc_al1 (by decide +kernel)
theorem dL_law_777 : decode cL_law 777 = .ok (.aload_n 0, 1) := dc_al0 (by decide +kernel)
theorem dL_law_778 : decode cL_law 778 = .ok (.iload_n 3, 1) := dc_il3 (by decide +kernel)
theorem dL_law_779 : decode cL_law 779 = .ok (.iconst 1, 1) := dc_i1 (by decide +kernel)
theorem dL_law_780 : decode cL_law 780 = .ok (.iadd, 1) := dc_iad (by decide +kernel)
theorem dL_law_781 : decode cL_law 781 = .ok (.iaload, 1) := dc_ial (by decide +kernel)
theorem dL_law_782 : decode cL_law 782 = .ok (.aload_n 0, 1) := dc_al0 (by decide +kernel)
theorem dL_law_783 : decode cL_law 783 = .ok (.iload_n 3, 1) := dc_il3 (by decide +kernel)
theorem dL_law_784 : decode cL_law 784 = .ok (.iconst 2, 1) := dc_i2 (by decide +kernel)
theorem dL_law_785 : decode cL_law 785 = .ok (.iadd, 1) := dc_iad (by decide +kernel)
theorem dL_law_786 : decode cL_law 786 = .ok (.iaload, 1) := dc_ial (by decide +kernel)
theorem dL_law_787 : decode cL_law 787 = .ok (.invokevirtual 98, 3) := dc_b6 (b1 := 0) (b2 := 98) (by decide +kernel) (by decide +kernel) (by decide +kernel) (by decide)
theorem dL_law_790 : decode cL_law 790 = .ok (.pop, 1) := dc_pop (by decide +kernel)
theorem dL_law_791 : decode cL_law 791 = .ok (.aload_n 2, 1) := dc_al2 (by decide +kernel)
theorem dL_law_792 : decode cL_law 792 = .ok (.aload_n 0, 1) := dc_al0 (by decide +kernel)
theorem dL_law_793 : decode cL_law 793 = .ok (.iload_n 3, 1) := dc_il3 (by decide +kernel)
theorem dL_law_794 : decode cL_law 794 = .ok (.iconst 1, 1) := dc_i1 (by decide +kernel)
theorem dL_law_795 : decode cL_law 795 = .ok (.iadd, 1) := dc_iad (by decide +kernel)
theorem dL_law_796 : decode cL_law 796 = .ok (.iaload, 1) := dc_ial (by decide +kernel)
theorem dL_law_797 : decode cL_law 797 = .ok (.aload_n 0, 1) := dc_al0 (by decide +kernel)
theorem dL_law_798 : decode cL_law 798 = .ok (.iload_n 3, 1) := dc_il3 (by decide +kernel)
theorem dL_law_799 : decode cL_law 799 = .ok (.iconst 2, 1) := dc_i2 (by decide +kernel)
theorem dL_law_800 : decode cL_law 800 = .ok (.iadd, 1) := dc_iad (by decide +kernel)
theorem dL_law_801 : decode cL_law 801 = .ok (.iaload, 1) := dc_ial (by decide +kernel)
theorem dL_law_802 : decode cL_law 802 = .ok (.invokevirtual 101, 3) := dc_b6 (b1 := 0) (b2 := 101) (by decide +kernel) (by decide +kernel) (by decide +kernel) (by decide)
theorem dL_law_805 : decode cL_law 805 = .ok (.pop, 1) := dc_pop (by decide +kernel)
theorem dL_law_806 : decode cL_law 806 = .ok (.goto 551, 3) := dc_a7 (b1 := 2) (b2 := 39) (by decide +kernel) (by decide +kernel) (by decide +kernel) (by decide)
theorem dL_law_809 : decode cL_law 809 = .ok (.aload_n 1, 1) := dc_al1 (by decide +kernel)
theorem dL_law_810 : decode cL_law 810 = .ok (.aload_n 0, 1) := dc_al0 (by decide +kernel)
theorem dL_law_811 : decode cL_law 811 = .ok (.iload_n 3, 1) := dc_il3 (by decide +kernel)
theorem dL_law_812 : decode cL_law 812 = .ok (.iconst 1, 1) := dc_i1 (by decide +kernel)
theorem dL_law_813 : decode cL_law 813 = .ok (.iadd, 1) := dc_iad (by decide +kernel)
theorem dL_law_814 : decode cL_law 814 = .ok (.iaload, 1) := dc_ial (by decide +kernel)
theorem dL_law_815 : decode cL_law 815 = .ok (.aload_n 0, 1) := dc_al0 (by decide +kernel)
theorem dL_law_816 : decode cL_law 816 = .ok (.iload_n 3, 1) := dc_il3 (by decide +kernel)
theorem dL_law_817 : decode cL_law 817 = .ok (.iconst 2, 1) := dc_i2 (by decide +kernel)
theorem dL_law_818 : decode cL_law 818 = .ok (.iadd, 1) := dc_iad (by decide +kernel)
theorem dL_law_819 : decode cL_law 819 = .ok (.iaload, 1) := dc_ial (by decide +kernel)
theorem dL_law_820 : decode cL_law 820 = .ok (.invokevirtual 102, 3) := dc_b6 (b1 := 0) (b2 := 102) (by decide +kernel) (by decide +kernel) (by decide +kernel) (by decide)
theorem dL_law_823 : decode cL_law 823 = .ok (.pop, 1) := dc_pop (by decide +kernel)
theorem dL_law_824 : decode cL_law 824 = .ok (.aload_n 2, 1) := dc_al2 (by decide +kernel)
theorem dL_law_825 : decode cL_law 825 = .ok (.aload_n 0, 1) := dc_al0 (by decide +kernel)
theorem dL_law_826 : decode cL_law 826 = .ok (.iload_n 3, 1) := dc_il3 (by decide +kernel)
theorem dL_law_827 : decode cL_law 827 = .ok (.iconst 1, 1) := dc_i1 (by decide +kernel)
theorem dL_law_828 : decode cL_law 828 = .ok (.iadd, 1) := dc_iad (by decide +kernel)
theorem dL_law_829 : decode cL_law 829 = .ok (.iaload, 1) := dc_ial (by decide +kernel)
theorem dL_law_830 : decode cL_law 830 = .ok (.aload_n 0, 1) := dc_al0 (by decide +kernel)
theorem dL_law_831 : decode cL_law 831 = .ok (.iload_n 3, 1) := dc_il3 (by decide +kernel)
theorem dL_law_832 : decode cL_law 832 = .ok (.iconst 2, 1) := dc_i2 (by decide +kernel)
theorem dL_law_833 : decode cL_law 833 = .ok (.iadd, 1) := dc_iad (by decide +kernel)
theorem dL_law_834 : decode cL_law 834 = .ok (.iaload, 1) := dc_ial (by decide +kernel)
theorem dL_law_835 : decode cL_law 835 = .ok (.invokevirtual 105, 3) := dc_b6 (b1 := 0) (b2 := 105) (by decide +kernel) (by decide +kernel) (by decide +kernel) (by decide)
theorem dL_law_838 : decode cL_law 838 = .ok (.pop, 1) := dc_pop (by decide +kernel)
theorem dL_law_839 : decode cL_law 839 = .ok (.goto 518, 3) := dc_a7 (b1 := 2) (b2 := 6) (by decide +kernel) (by decide +kernel) (by decide +kernel) (by decide)
theorem dL_law_842 : decode cL_law 842 = .ok (.aload_n 1, 1) := dc_al1 (by decide +kernel)
theorem dL_law_843 : decode cL_law 843 = .ok (.aload_n 0, 1) := dc_al0 (by decide +kernel)
theorem dL_law_844 : decode cL_law 844 = .ok (.iload_n 3, 1) := dc_il3 (by decide +kernel)
theorem dL_law_845 : decode cL_law 845 = .ok (.iconst 1, 1) := dc_i1 (by decide +kernel)
theorem dL_law_846 : decode cL_law 846 = .ok (.iadd, 1) := dc_iad (by decide +kernel)
theorem dL_law_847 : decode cL_law 847 = .ok (.iaload, 1) := dc_ial (by decide +kernel)
theorem dL_law_848 : decode cL_law 848 = .ok (.aload_n 0, 1) := dc_al0 (by decide +kernel)
theorem dL_law_849 : decode cL_law 849 = .ok (.iload_n 3, 1) := dc_il3 (by decide +kernel)
theorem dL_law_850 : decode cL_law 850 = .ok (.iconst 2, 1) := dc_i2 (by decide +kernel)
theorem dL_law_851 : decode cL_law 851 = .ok (.iadd, 1) := dc_iad (by decide +kernel)
theorem dL_law_852 : decode cL_law 852 = .ok (.iaload, 1) := dc_ial (by decide +kernel)
theorem dL_law_853 : decode cL_law 853 = .ok (.invokevirtual 106, 3) := dc_b6 (b1 := 0) (b2 := 106) (by decide +kernel) (by decide +kernel) (by decide +kernel) (by decide)
theorem dL_law_856 : decode cL_law 856 = .ok (.pop, 1) := dc_pop (by decide +kernel)
theorem dL_law_857 : decode cL_law 857 = .ok (.aload_n 2, 1) := dc_al2 (by decide +kernel)
theorem dL_law_858 : decode cL_law 858 = .ok (.aload_n 0, 1) := dc_al0 (by decide +kernel)
theorem dL_law_859 : decode cL_law 859 = .ok (.iload_n 3, 1) := dc_il3 (by decide +kernel)
theorem dL_law_860 : decode cL_law 860 = .ok (.iconst 1, 1) := dc_i1 (by decide +kernel)
theorem dL_law_861 : decode cL_law 861 = .ok (.iadd, 1) := dc_iad (by decide +kernel)
theorem dL_law_862 : decode cL_law 862 = .ok (.iaload, 1) := dc_ial (by decide +kernel)
theorem dL_law_863 : decode cL_law 863 = .ok (.aload_n 0, 1) := dc_al0 (by decide +kernel)
theorem dL_law_864 : decode cL_law 864 = .ok (.iload_n 3, 1) := dc_il3 (by decide +kernel)
theorem dL_law_865 : decode cL_law 865 = .ok (.iconst 2, 1) := dc_i2 (by decide +kernel)
theorem dL_law_866 : decode cL_law 866 = .ok (.iadd, 1) := dc_iad (by decide +kernel)
theorem dL_law_867 : decode cL_law 867 = .ok (.iaload, 1) := dc_ial (by decide +kernel)
theorem dL_law_868 : decode cL_law 868 = .ok (.invokevirtual 109, 3) := dc_b6 (b1 := 0) (b2 := 109) (by decide +kernel) (by decide +kernel) (by decide +kernel) (by decide)
theorem dL_law_871 : decode cL_law 871 = .ok (.pop, 1) := dc_pop (by decide +kernel)
theorem dL_law_872 : decode cL_law 872 = .ok (.goto 485, 3) := dc_a7 (b1 := 1) (b2 := 229) (by decide +kernel) (by decide +kernel) (by decide +kernel) (by decide)
theorem dL_law_875 : decode cL_law 875 = .ok (.aload_n 1, 1) := dc_al1 (by decide +kernel)
theorem dL_law_876 : decode cL_law 876 = .ok (.aload_n 0, 1) := dc_al0 (by decide +kernel)
theorem dL_law_877 : decode cL_law 877 = .ok (.iload_n 3, 1) := dc_il3 (by decide +kernel)
theorem dL_law_878 : decode cL_law 878 = .ok (.iconst 1, 1) := dc_i1 (by decide +kernel)
theorem dL_law_879 : decode cL_law 879 = .ok (.iadd, 1) := dc_iad (by decide +kernel)
theorem dL_law_880 : decode cL_law 880 = .ok (.iaload, 1) := dc_ial (by decide +kernel)
theorem dL_law_881 : decode cL_law 881 = .ok (.aload_n 0, 1) := dc_al0 (by decide +kernel)
theorem dL_law_882 : decode cL_law 882 = .ok (.iload_n 3, 1) := dc_il3 (by decide +kernel)
theorem dL_law_883 : decode cL_law 883 = .ok (.iconst 2, 1) := dc_i2 (by decide +kernel)
theorem dL_law_884 : decode cL_law 884 = .ok (.iadd, 1) := dc_iad (by decide +kernel)
theorem dL_law_885 : decode cL_law 885 = .ok (.iaload, 1) := dc_ial (by decide +kernel)
theorem dL_law_886 : decode cL_law 886 = .ok (.invokevirtual 110, 3) := dc_b6 (b1 := 0) (b2 := 110) (by decide +kernel) (by decide +kernel) (by decide +kernel) (by decide)
theorem dL_law_889 : decode cL_law 889 = .ok (.pop, 1) := dc_pop (by decide +kernel)
theorem dL_law_890 : decode cL_law 890 = .ok (.aload_n 2, 1) := dc_al2 (by decide +kernel)
theorem dL_law_891 : decode cL_law 891 = .ok (.aload_n 0, 1) := dc_al0 (by decide +kernel)
theorem dL_law_892 : decode cL_law 892 = .ok (.iload_n 3, 1) := dc_il3 (by decide +kernel)
theorem dL_law_893 : decode cL_law 893 = .ok (.iconst 1, 1) := dc_i1 (by decide +kernel)
theorem dL_law_894 : decode cL_law 894 = .ok (.iadd, 1) := dc_iad (by decide +kernel)
theorem dL_law_895 : decode cL_law 895 = .ok (.iaload, 1) := dc_ial (by decide +kernel)
theorem dL_law_896 : decode cL_law 896 = .ok (.aload_n 0, 1) := dc_al0 (by decide +kernel)
theorem dL_law_897 : decode cL_law 897 = .ok (.iload_n 3, 1) := dc_il3 (by decide +kernel)
theorem dL_law_898 : decode cL_law 898 = .ok (.iconst 2, 1) := dc_i2 (by decide +kernel)
theorem dL_law_899 : decode cL_law 899 = .ok (.iadd, 1) := dc_iad (by decide +kernel)
theorem dL_law_900 : decode cL_law 900 = .ok (.iaload, 1) := dc_ial (by decide +kernel)
theorem dL_law_901 : decode cL_law 901 = .ok (.invokevirtual 113, 3) := dc_b6 (b1 := 0) (b2 := 113) (by decide +kernel) (by decide +kernel) (by decide +kernel) (by decide)
theorem dL_law_904 : decode cL_law 904 = .ok (.pop, 1) := dc_pop (by decide +kernel)
theorem dL_law_905 : decode cL_law 905 = .ok (.goto 452, 3) := dc_a7 (b1 := 1) (b2 := 196) (by decide +kernel) (by decide +kernel) (by decide +kernel) (by decide)
theorem dL_law_908 : decode cL_law 908 = .ok (.aload_n 1, 1) := dc_al1 (by decide +kernel)
theorem dL_law_909 : decode cL_law 909 = .ok (.aload_n 0, 1) := dc_al0 (by decide +kernel)
theorem dL_law_910 : decode cL_law 910 = .ok (.iload_n 3, 1) := dc_il3 (by decide +kernel)
theorem dL_law_911 : decode cL_law 911 = .ok (.iconst 1, 1) := dc_i1 (by decide +kernel)
theorem dL_law_912 : decode cL_law 912 = .ok (.iadd, 1) := dc_iad (by decide +kernel)
theorem dL_law_913 : decode cL_law 913 = .ok (.iaload, 1) := dc_ial (by decide +kernel)
theorem dL_law_914 : decode cL_law 914 = .ok (.aload_n 0, 1) := dc_al0 (by decide +kernel)
theorem dL_law_915 : decode cL_law 915 = .ok (.iload_n 3, 1) := dc_il3 (by decide +kernel)
theorem dL_law_916 : decode cL_law 916 = .ok (.iconst 2, 1) := dc_i2 (by decide +kernel)
theorem dL_law_917 : decode cL_law 917 = .ok (.iadd, 1) := dc_iad (by decide +kernel)
theorem dL_law_918 : decode cL_law 918 = .ok (.iaload, 1) := dc_ial (by decide +kernel)
theorem dL_law_919 : decode cL_law 919 = .ok (.invokevirtual 114, 3) := dc_b6 (b1 := 0) (b2 := 114) (by decide +kernel) (by decide +kernel) (by decide +kernel) (by decide)
theorem dL_law_922 : decode cL_law 922 = .ok (.pop, 1) := dc_pop (by decide +kernel)
theorem dL_law_923 : decode cL_law 923 = .ok (.aload_n 2, 1) := dc_al2 (by decide +kernel)
theorem dL_law_924 : decode cL_law 924 = .ok (.aload_n 0, 1) := dc_al0 (by decide +kernel)
theorem dL_law_925 : decode cL_law 925 = .ok (.iload_n 3, 1) := dc_il3 (by decide +kernel)
theorem dL_law_926 : decode cL_law 926 = .ok (.iconst 1, 1) := dc_i1 (by decide +kernel)
theorem dL_law_927 : decode cL_law 927 = .ok (.iadd, 1) := dc_iad (by decide +kernel)
theorem dL_law_928 : decode cL_law 928 = .ok (.iaload, 1) := dc_ial (by decide +kernel)
theorem dL_law_929 : decode cL_law 929 = .ok (.aload_n 0, 1) := dc_al0 (by decide +kernel)
theorem dL_law_930 : decode cL_law 930 = .ok (.iload_n 3, 1) := dc_il3 (by decide +kernel)
theorem dL_law_931 : decode cL_law 931 = .ok (.iconst 2, 1) := dc_i2 (by decide +kernel)
theorem dL_law_932 : decode cL_law 932 = .ok (.iadd, 1) := dc_iad (by decide +kernel)
theorem dL_law_933 : decode cL_law 933 = .ok (.iaload, 1) := dc_ial (by decide +kernel)
theorem dL_law_934 : decode cL_law 934 = .ok (.invokevirtual 117, 3) := dc_b6 (b1 := 0) (b2 := 117) (by decide +kernel) (by decide +kernel) (by decide +kernel) (by decide)
theorem dL_law_937 : decode cL_law 937 = .ok (.pop, 1) := dc_pop (by decide +kernel)
theorem dL_law_938 : decode cL_law 938 = .ok (.goto 419, 3) := dc_a7 (b1 := 1) (b2 := 163) (by decide +kernel) (by decide +kernel) (by decide +kernel) (by decide)
theorem dL_law_941 : decode cL_law 941 = .ok (.aload_n 1, 1) := dc_al1 (by decide +kernel)
theorem dL_law_942 : decode cL_law 942 = .ok (.aload_n 0, 1) := dc_al0 (by decide +kernel)
theorem dL_law_943 : decode cL_law 943 = .ok (.iload_n 3, 1) := dc_il3 (by decide +kernel)
theorem dL_law_944 : decode cL_law 944 = .ok (.iconst 1, 1) := dc_i1 (by decide +kernel)
theorem dL_law_945 : decode cL_law 945 = .ok (.iadd, 1) := dc_iad (by decide +kernel)
theorem dL_law_946 : decode cL_law 946 = .ok (.iaload, 1) := dc_ial (by decide +kernel)
theorem dL_law_947 : decode cL_law 947 = .ok (.aload_n 0, 1) := dc_al0 (by decide +kernel)
theorem dL_law_948 : decode cL_law 948 = .ok (.iload_n 3, 1) := dc_il3 (by decide +kernel)
theorem dL_law_949 : decode cL_law 949 = .ok (.iconst 2, 1) := dc_i2 (by decide +kernel)
theorem dL_law_950 : decode cL_law 950 = .ok (.iadd, 1) := dc_iad (by decide +kernel)
theorem dL_law_951 : decode cL_law 951 = .ok (.iaload, 1) := dc_ial (by decide +kernel)
theorem dL_law_952 : decode cL_law 952 = .ok (.aload_n 0, 1) := dc_al0 (by decide +kernel)
theorem dL_law_953 : decode cL_law 953 = .ok (.iload_n 3, 1) := dc_il3 (by decide +kernel)
theorem dL_law_954 : decode cL_law 954 = .ok (.iconst 3, 1) := dc_i3 (by decide +kernel)
theorem dL_law_955 : decode cL_law 955 = .ok (.iadd, 1) := dc_iad (by decide +kernel)
theorem dL_law_956 : decode cL_law 956 = .ok (.iaload, 1) := dc_ial (by decide +kernel)
theorem dL_law_957 : decode cL_law 957 = .ok (.aload_n 0, 1) := dc_al0 (by decide +kernel)
theorem dL_law_958 : decode cL_law 958 = .ok (.iload_n 3, 1) := dc_il3 (by decide +kernel)
theorem dL_law_959 : decode cL_law 959 = .ok (.iconst 4, 1) := dc_i4 (by decide +kernel)
theorem dL_law_960 : decode cL_law 960 = .ok (.iadd, 1) := dc_iad (by decide +kernel)
theorem dL_law_961 : decode cL_law 961 = .ok (.iaload, 1) := dc_ial (by decide +kernel)
theorem dL_law_962 : decode cL_law 962 = .ok (.aload_n 0, 1) := dc_al0 (by decide +kernel)
theorem dL_law_963 : decode cL_law 963 = .ok (.iload_n 3, 1) := dc_il3 (by decide +kernel)
theorem dL_law_964 : decode cL_law 964 = .ok (.iconst 5, 1) := dc_i5 (by decide +kernel)
theorem dL_law_965 : decode cL_law 965 = .ok (.iadd, 1) := dc_iad (by decide +kernel)
theorem dL_law_966 : decode cL_law 966 = .ok (.iaload, 1) := dc_ial (by decide +kernel)
theorem dL_law_967 : decode cL_law 967 = .ok (.invokevirtual 118, 3) := dc_b6 (b1 := 0) (b2 := 118) (by decide +kernel) (by decide +kernel) (by decide +kernel) (by decide)
theorem dL_law_970 : decode cL_law 970 = .ok (.pop, 1) := dc_pop (by decide +kernel)
theorem dL_law_971 : decode cL_law 971 = .ok (.aload_n 2, 1) := dc_al2 (by decide +kernel)
theorem dL_law_972 : decode cL_law 972 = .ok (.aload_n 0, 1) := dc_al0 (by decide +kernel)
theorem dL_law_973 : decode cL_law 973 = .ok (.iload_n 3, 1) := dc_il3 (by decide +kernel)
theorem dL_law_974 : decode cL_law 974 = .ok (.iconst 1, 1) := dc_i1 (by decide +kernel)
theorem dL_law_975 : decode cL_law 975 = .ok (.iadd, 1) := dc_iad (by decide +kernel)
theorem dL_law_976 : decode cL_law 976 = .ok (.iaload, 1) := dc_ial (by decide +kernel)
theorem dL_law_977 : decode cL_law 977 = .ok (.aload_n 0, 1) := dc_al0 (by decide +kernel)
theorem dL_law_978 : decode cL_law 978 = .ok (.iload_n 3, 1) := dc_il3 (by decide +kernel)
theorem dL_law_979 : decode cL_law 979 = .ok (.iconst 2, 1) := dc_i2 (by decide +kernel)
theorem dL_law_980 : decode cL_law 980 = .ok (.iadd, 1) := dc_iad (by decide +kernel)
theorem dL_law_981 : decode cL_law 981 = .ok (.iaload, 1) := dc_ial (by decide +kernel)
theorem dL_law_982 : decode cL_law 982 = .ok (.aload_n 0, 1) := dc_al0 (by decide +kernel)
theorem dL_law_983 : decode cL_law 983 = .ok (.iload_n 3, 1) := dc_il3 (by decide +kernel)
theorem dL_law_984 : decode cL_law 984 = .ok (.iconst 3, 1) := dc_i3 (by decide +kernel)
theorem dL_law_985 : decode cL_law 985 = .ok (.iadd, 1) := dc_iad (by decide +kernel)
theorem dL_law_986 : decode cL_law 986 = .ok (.iaload, 1) := dc_ial (by decide +kernel)
theorem dL_law_987 : decode cL_law 987 = .ok (.aload_n 0, 1) := dc_al0 (by decide +kernel)
theorem dL_law_988 : decode cL_law 988 = .ok (.iload_n 3, 1) := dc_il3 (by decide +kernel)
theorem dL_law_989 : decode cL_law 989 = .ok (.iconst 4, 1) := dc_i4 (by decide +kernel)
theorem dL_law_990 : decode cL_law 990 = .ok (.iadd, 1) := dc_iad (by decide +kernel)
theorem dL_law_991 : decode cL_law 991 = .ok (.iaload, 1) := dc_ial (by decide +kernel)
theorem dL_law_992 : decode cL_law 992 = .ok (.aload_n 0, 1) := dc_al0 (by decide +kernel)
theorem dL_law_993 : decode cL_law 993 = .ok (.iload_n 3, 1) := dc_il3 (by decide +kernel)
theorem dL_law_994 : decode cL_law 994 = .ok (.iconst 5, 1) := dc_i5 (by decide +kernel)
theorem dL_law_995 : decode cL_law 995 = .ok (.iadd, 1) := dc_iad (by decide +kernel)
theorem dL_law_996 : decode cL_law 996 = .ok (.iaload, 1) := dc_ial (by decide +kernel)
theorem dL_law_997 : decode cL_law 997 = .ok (.invokevirtual 121, 3) := dc_b6 (b1 := 0) (b2 := 121) (by decide +kernel) (by decide +kernel) (by decide +kernel) (by decide)
theorem dL_law_1000 : decode cL_law 1000 = .ok (.pop, 1) := dc_pop (by decide +kernel)
theorem dL_law_1001 : decode cL_law 1001 = .ok (.goto 356, 3) := dc_a7 (b1 := 1) (b2 := 100) (by decide +kernel) (by decide +kernel) (by decide +kernel) (by decide)
theorem dL_law_1004 : decode cL_law 1004 = .ok (.aload_n 1, 1) := dc_al1 (by decide +kernel)
theorem dL_law_1005 : decode cL_law 1005 = .ok (.aload_n 0, 1) := dc_al0 (by decide +kernel)
theorem dL_law_1006 : decode cL_law 1006 = .ok (.iload_n 3, 1) := dc_il3 (by decide +kernel)
theorem dL_law_1007 : decode cL_law 1007 = .ok (.iconst 1, 1) := dc_i1 (by decide +kernel)
theorem dL_law_1008 : decode cL_law 1008 = .ok (.iadd, 1) := dc_iad (by decide +kernel)
theorem dL_law_1009 : decode cL_law 1009 = .ok (.iaload, 1) := dc_ial (by decide +kernel)
theorem dL_law_1010 : decode cL_law 1010 = .ok (.aload_n 0, 1) := dc_al0 (by decide +kernel)
theorem dL_law_1011 : decode cL_law 1011 = .ok (.iload_n 3, 1) := dc_il3 (by decide +kernel)
theorem dL_law_1012 : decode cL_law 1012 = .ok (.iconst 2, 1) := dc_i2 (by decide +kernel)
theorem dL_law_1013 : decode cL_law 1013 = .ok (.iadd, 1) := dc_iad (by decide +kernel)
theorem dL_law_1014 : decode cL_law 1014 = .ok (.iaload, 1) := dc_ial (by decide +kernel)
theorem dL_law_1015 : decode cL_law 1015 = .ok (.aload_n 0, 1) := dc_al0 (by decide +kernel)
theorem dL_law_1016 : decode cL_law 1016 = .ok (.iload_n 3, 1) := dc_il3 (by decide +kernel)
theorem dL_law_1017 : decode cL_law 1017 = .ok (.iconst 3, 1) := dc_i3 (by decide +kernel)
theorem dL_law_1018 : decode cL_law 1018 = .ok (.iadd, 1) := dc_iad (by decide +kernel)
theorem dL_law_1019 : decode cL_law 1019 = .ok (.iaload, 1) := dc_ial (by decide +kernel)
theorem dL_law_1020 : decode cL_law 1020 = .ok (.aload_n 0, 1) := dc_al0 (by decide +kernel)
theorem dL_law_1021 : decode cL_law 1021 = .ok (.iload_n 3, 1) := dc_il3 (by decide +kernel)
theorem dL_law_1022 : decode cL_law 1022 = .ok (.iconst 4, 1) := dc_i4 (by decide +kernel)
theorem dL_law_1023 : decode cL_law 1023 = .ok (.iadd, 1) := dc_iad (by decide +kernel)
theorem dL_law_1024 : decode cL_law 1024 = .ok (.iaload, 1) := dc_ial (by decide +kernel)
theorem dL_law_1025 : decode cL_law 1025 = .ok (.aload_n 0, 1) := dc_al0 (by decide +kernel)
theorem dL_law_1026 : decode cL_law 1026 = .ok (.iload_n 3, 1) := dc_il3 (by decide +kernel)
theorem dL_law_1027 : decode cL_law 1027 = .ok (.iconst 5, 1) := dc_i5 (by decide +kernel)
theorem dL_law_1028 : decode cL_law 1028 = .ok (.iadd, 1) := dc_iad (by decide +kernel)
theorem dL_law_1029 : decode cL_law 1029 = .ok (.iaload, 1) := dc_ial (by decide +kernel)
theorem dL_law_1030 : decode cL_law 1030 = .ok (.invokevirtual 122, 3) := dc_b6 (b1 := 0) (b2 := 122) (by decide +kernel) (by decide +kernel) (by decide +kernel) (by decide)
theorem dL_law_1033 : decode cL_law 1033 = .ok (.pop, 1) := dc_pop (by decide +kernel)
theorem dL_law_1034 : decode cL_law 1034 = .ok (.aload_n 2, 1) := dc_al2 (by decide +kernel)
theorem dL_law_1035 : decode cL_law 1035 = .ok (.aload_n 0, 1) := dc_al0 (by decide +kernel)
theorem dL_law_1036 : decode cL_law 1036 = .ok (.iload_n 3, 1) := dc_il3 (by decide +kernel)
theorem dL_law_1037 : decode cL_law 1037 = .ok (.iconst 1, 1) := dc_i1 (by decide +kernel)
theorem dL_law_1038 : decode cL_law 1038 = .ok (.iadd, 1) := dc_iad (by decide +kernel)
theorem dL_law_1039 : decode cL_law 1039 = .ok (.iaload, 1) := dc_ial (by decide +kernel)
theorem dL_law_1040 : decode cL_law 1040 = .ok (.aload_n 0, 1) := dc_al0 (by decide +kernel)
theorem dL_law_1041 : decode cL_law 1041 = .ok (.iload_n 3, 1) := dc_il3 (by decide +kernel)
theorem dL_law_1042 : decode cL_law 1042 = .ok (.iconst 2, 1) := dc_i2 (by decide +kernel)
theorem dL_law_1043 : decode cL_law 1043 = .ok (.iadd, 1) := dc_iad (by decide +kernel)
theorem dL_law_1044 : decode cL_law 1044 = .ok (.iaload, 1) := dc_ial (by decide +kernel)
theorem dL_law_1045 : decode cL_law 1045 = .ok (.aload_n 0, 1) := dc_al0 (by decide +kernel)
theorem dL_law_1046 : decode cL_law 1046 = .ok (.iload_n 3, 1) := dc_il3 (by decide +kernel)
theorem dL_law_1047 : decode cL_law 1047 = .ok (.iconst 3, 1) := dc_i3 (by decide +kernel)
theorem dL_law_1048 : decode cL_law 1048 = .ok (.iadd, 1) := dc_iad (by decide +kernel)
theorem dL_law_1049 : decode cL_law 1049 = .ok (.iaload, 1) := dc_ial (by decide +kernel)
theorem dL_law_1050 : decode cL_law 1050 = .ok (.aload_n 0, 1) := dc_al0 (by decide +kernel)
theorem dL_law_1051 : decode cL_law 1051 = .ok (.iload_n 3, 1) := dc_il3 (by decide +kernel)
theorem dL_law_1052 : decode cL_law 1052 = .ok (.iconst 4, 1) := dc_i4 (by decide +kernel)
theorem dL_law_1053 : decode cL_law 1053 = .ok (.iadd, 1) := dc_iad (by decide +kernel)
theorem dL_law_1054 : decode cL_law 1054 = .ok (.iaload, 1) := dc_ial (by decide +kernel)
theorem dL_law_1055 : decode cL_law 1055 = .ok (.aload_n 0, 1) := dc_al0 (by decide +kernel)
theorem dL_law_1056 : decode cL_law 1056 = .ok (.iload_n 3, 1) := dc_il3 (by decide +kernel)
theorem dL_law_1057 : decode cL_law 1057 = .ok (.iconst 5, 1) := dc_i5 (by decide +kernel)
theorem dL_law_1058 : decode cL_law 1058 = .ok (.iadd, 1) := dc_iad (by decide +kernel)
theorem dL_law_1059 : decode cL_law 1059 = .ok (.iaload, 1) := dc_ial (by decide +kernel)
theorem dL_law_1060 : decode cL_law 1060 = .ok (.invokevirtual 125, 3) := dc_b6 (b1 := 0) (b2 := 125) (by decide +kernel) (by decide +kernel) (by decide +kernel) (by decide)
theorem dL_law_1063 : decode cL_law 1063 = .ok (.pop, 1) := dc_pop (by decide +kernel)
theorem dL_law_1064 : decode cL_law 1064 = .ok (.goto 293, 3) := dc_a7 (b1 := 1) (b2 := 37) (by decide +kernel) (by decide +kernel) (by decide +kernel) (by decide)
theorem dL_law_1067 : decode cL_law 1067 = .ok (.aload_n 1, 1) := dc_al1 (by decide +kernel)
theorem dL_law_1068 : decode cL_law 1068 = .ok (.aload_n 0, 1) := dc_al0 (by decide +kernel)
theorem dL_law_1069 : decode cL_law 1069 = .ok (.iload_n 3, 1) := dc_il3 (by decide +kernel)
theorem dL_law_1070 : decode cL_law 1070 = .ok (.iconst 1, 1) := dc_i1 (by decide +kernel)
theorem dL_law_1071 : decode cL_law 1071 = .ok (.iadd, 1) := dc_iad (by decide +kernel)
theorem dL_law_1072 : decode cL_law 1072 = .ok (.iaload, 1) := dc_ial (by decide +kernel)
theorem dL_law_1073 : decode cL_law 1073 = .ok (.aload_n 0, 1) := dc_al0 (by decide +kernel)
theorem dL_law_1074 : decode cL_law 1074 = .ok (.iload_n 3, 1) := dc_il3 (by decide +kernel)
theorem dL_law_1075 : decode cL_law 1075 = .ok (.iconst 2, 1) := dc_i2 (by decide +kernel)
theorem dL_law_1076 : decode cL_law 1076 = .ok (.iadd, 1) := dc_iad (by decide +kernel)
theorem dL_law_1077 : decode cL_law 1077 = .ok (.iaload, 1) := dc_ial (by decide +kernel)
theorem dL_law_1078 : decode cL_law 1078 = .ok (.aload_n 0, 1) := dc_al0 (by decide +kernel)
theorem dL_law_1079 : decode cL_law 1079 = .ok (.iload_n 3, 1) := dc_il3 (by decide +kernel)
theorem dL_law_1080 : decode cL_law 1080 = .ok (.iconst 3, 1) := dc_i3 (by decide +kernel)
theorem dL_law_1081 : decode cL_law 1081 = .ok (.iadd, 1) := dc_iad (by decide +kernel)
theorem dL_law_1082 : decode cL_law 1082 = .ok (.iaload, 1) := dc_ial (by decide +kernel)
theorem dL_law_1083 : decode cL_law 1083 = .ok (.aload_n 0, 1) := dc_al0 (by decide +kernel)
theorem dL_law_1084 : decode cL_law 1084 = .ok (.iload_n 3, 1) := dc_il3 (by decide +kernel)
theorem dL_law_1085 : decode cL_law 1085 = .ok (.iconst 4, 1) := dc_i4 (by decide +kernel)
theorem dL_law_1086 : decode cL_law 1086 = .ok (.iadd, 1) := dc_iad (by decide +kernel)
theorem dL_law_1087 : decode cL_law 1087 = .ok (.iaload, 1) := dc_ial (by decide +kernel)
theorem dL_law_1088 : decode cL_law 1088 = .ok (.invokevirtual 126, 3) := dc_b6 (b1 := 0) (b2 := 126) (by decide +kernel) (by decide +kernel) (by decide +kernel) (by decide)
theorem dL_law_1091 : decode cL_law 1091 = .ok (.pop2, 1) := by decide +kernel
theorem dL_law_1092 : decode cL_law 1092 = .ok (.aload_n 2, 1) := dc_al2 (by decide +kernel)
theorem dL_law_1093 : decode cL_law 1093 = .ok (.aload_n 0, 1) := dc_al0 (by decide +kernel)
theorem dL_law_1094 : decode cL_law 1094 = .ok (.iload_n 3, 1) := dc_il3 (by decide +kernel)
theorem dL_law_1095 : decode cL_law 1095 = .ok (.iconst 1, 1) := dc_i1 (by decide +kernel)
theorem dL_law_1096 : decode cL_law 1096 = .ok (.iadd, 1) := dc_iad (by decide +kernel)
theorem dL_law_1097 : decode cL_law 1097 = .ok (.iaload, 1) := dc_ial (by decide +kernel)
theorem dL_law_1098 : decode cL_law 1098 = .ok (.aload_n 0, 1) := dc_al0 (by decide +kernel)
theorem dL_law_1099 : decode cL_law 1099 = .ok (.iload_n 3, 1) := dc_il3 (by decide +kernel)
theorem dL_law_1100 : decode cL_law 1100 = .ok (.iconst 2, 1) := dc_i2 (by decide +kernel)
theorem dL_law_1101 : decode cL_law 1101 = .ok (.iadd, 1) := dc_iad (by decide +kernel)
theorem dL_law_1102 : decode cL_law 1102 = .ok (.iaload, 1) := dc_ial (by decide +kernel)
theorem dL_law_1103 : decode cL_law 1103 = .ok (.aload_n 0, 1) := dc_al0 (by decide +kernel)
theorem dL_law_1104 : decode cL_law 1104 = .ok (.iload_n 3, 1) := dc_il3 (by decide +kernel)
theorem dL_law_1105 : decode cL_law 1105 = .ok (.iconst 3, 1) := dc_i3 (by decide +kernel)
theorem dL_law_1106 : decode cL_law 1106 = .ok (.iadd, 1) := dc_iad (by decide +kernel)
theorem dL_law_1107 : decode cL_law 1107 = .ok (.iaload, 1) := dc_ial (by decide +kernel)
theorem dL_law_1108 : decode cL_law 1108 = .ok (.aload_n 0, 1) := dc_al0 (by decide +kernel)
theorem dL_law_1109 : decode cL_law 1109 = .ok (.iload_n 3, 1) := dc_il3 (by decide +kernel)
theorem dL_law_1110 : decode cL_law 1110 = .ok (.iconst 4, 1) := dc_i4 (by decide +kernel)
theorem dL_law_1111 : decode cL_law 1111 = .ok (.iadd, 1) := dc_iad (by decide +kernel)
theorem dL_law_1112 : decode cL_law 1112 = .ok (.iaload, 1) := dc_ial (by decide +kernel)
theorem dL_law_1113 : decode cL_law 1113 = .ok (.invokevirtual 130, 3) := dc_b6 (b1 := 0) (b2 := 130) (by decide +kernel) (by decide +kernel) (by decide +kernel) (by decide)
theorem dL_law_1116 : decode cL_law 1116 = .ok (.pop2, 1) := by decide +kernel
theorem dL_law_1117 : decode cL_law 1117 = .ok (.goto 240, 3) := dc_a7 (b1 := 0) (b2 := 240) (by decide +kernel) (by decide +kernel) (by decide +kernel) (by decide)
theorem dL_law_1120 : decode cL_law 1120 = .ok (.aload_n 1, 1) := dc_al1 (by decide +kernel)
theorem dL_law_1121 : decode cL_law 1121 = .ok (.aload_n 0, 1) := dc_al0 (by decide +kernel)
theorem dL_law_1122 : decode cL_law 1122 = .ok (.iload_n 3, 1) := dc_il3 (by decide +kernel)
theorem dL_law_1123 : decode cL_law 1123 = .ok (.iconst 1, 1) := dc_i1 (by decide +kernel)
theorem dL_law_1124 : decode cL_law 1124 = .ok (.iadd, 1) := dc_iad (by decide +kernel)
theorem dL_law_1125 : decode cL_law 1125 = .ok (.iaload, 1) := dc_ial (by decide +kernel)
theorem dL_law_1126 : decode cL_law 1126 = .ok (.aload_n 0, 1) := dc_al0 (by decide +kernel)
theorem dL_law_1127 : decode cL_law 1127 = .ok (.iload_n 3, 1) := dc_il3 (by decide +kernel)
theorem dL_law_1128 : decode cL_law 1128 = .ok (.iconst 2, 1) := dc_i2 (by decide +kernel)
theorem dL_law_1129 : decode cL_law 1129 = .ok (.iadd, 1) := dc_iad (by decide +kernel)
theorem dL_law_1130 : decode cL_law 1130 = .ok (.iaload, 1) := dc_ial (by decide +kernel)
theorem dL_law_1131 : decode cL_law 1131 = .ok (.aload_n 0, 1) := dc_al0 (by decide +kernel)
theorem dL_law_1132 : decode cL_law 1132 = .ok (.iload_n 3, 1) := dc_il3 (by decide +kernel)
theorem dL_law_1133 : decode cL_law 1133 = .ok (.iconst 3, 1) := dc_i3 (by decide +kernel)
theorem dL_law_1134 : decode cL_law 1134 = .ok (.iadd, 1) := dc_iad (by decide +kernel)
theorem dL_law_1135 : decode cL_law 1135 = .ok (.iaload, 1) := dc_ial (by decide +kernel)
theorem dL_law_1136 : decode cL_law 1136 = .ok (.invokevirtual 131, 3) := dc_b6 (b1 := 0) (b2 := 131) (by decide +kernel) (by decide +kernel) (by decide +kernel) (by decide)
theorem dL_law_1139 : decode cL_law 1139 = .ok (.pop, 1) := dc_pop (by decide +kernel)
theorem dL_law_1140 : decode cL_law 1140 = .ok (.aload_n 2, 1) := dc_al2 (by decide +kernel)
theorem dL_law_1141 : decode cL_law 1141 = .ok (.aload_n 0, 1) := dc_al0 (by decide +kernel)
theorem dL_law_1142 : decode cL_law 1142 = .ok (.iload_n 3, 1) := dc_il3 (by decide +kernel)
theorem dL_law_1143 : decode cL_law 1143 = .ok (.iconst 1, 1) := dc_i1 (by decide +kernel)
theorem dL_law_1144 : decode cL_law 1144 = .ok (.iadd, 1) := dc_iad (by decide +kernel)
theorem dL_law_1145 : decode cL_law 1145 = .ok (.iaload, 1) := dc_ial (by decide +kernel)
theorem dL_law_1146 : decode cL_law 1146 = .ok (.aload_n 0, 1) := dc_al0 (by decide +kernel)
theorem dL_law_1147 : decode cL_law 1147 = .ok (.iload_n 3, 1) := dc_il3 (by decide +kernel)
theorem dL_law_1148 : decode cL_law 1148 = .ok (.iconst 2, 1) := dc_i2 (by decide +kernel)
theorem dL_law_1149 : decode cL_law 1149 = .ok (.iadd, 1) := dc_iad (by decide +kernel)
theorem dL_law_1150 : decode cL_law 1150 = .ok (.iaload, 1) := dc_ial (by decide +kernel)
theorem dL_law_1151 : decode cL_law 1151 = .ok (.aload_n 0, 1) := dc_al0 (by decide +kernel)
theorem dL_law_1152 : decode cL_law 1152 = .ok (.iload_n 3, 1) := dc_il3 (by decide +kernel)
theorem dL_law_1153 : decode cL_law 1153 = .ok (.iconst 3, 1) := dc_i3 (by decide +kernel)
theorem dL_law_1154 : decode cL_law 1154 = .ok (.iadd, 1) := dc_iad (by decide +kernel)
theorem dL_law_1155 : decode cL_law 1155 = .ok (.iaload, 1) := dc_ial (by decide +kernel)
theorem dL_law_1156 : decode cL_law 1156 = .ok (.invokevirtual 134, 3) := dc_b6 (b1 := 0) (b2 := 134) (by decide +kernel) (by decide +kernel) (by decide +kernel) (by decide)
theorem dL_law_1159 : decode cL_law 1159 = .ok (.pop, 1) := dc_pop (by decide +kernel)
theorem dL_law_1160 : decode cL_law 1160 = .ok (.goto 197, 3) := dc_a7 (b1 := 0) (b2 := 197) (by decide +kernel) (by decide +kernel) (by decide +kernel) (by decide)
theorem dL_law_1163 : decode cL_law 1163 = .ok (.aload_n 1, 1) := dc_al1 (by decide +kernel)
theorem dL_law_1164 : decode cL_law 1164 = .ok (.aload_n 0, 1) := dc_al0 (by decide +kernel)
theorem dL_law_1165 : decode cL_law 1165 = .ok (.iload_n 3, 1) := dc_il3 (by decide +kernel)
theorem dL_law_1166 : decode cL_law 1166 = .ok (.iconst 1, 1) := dc_i1 (by decide +kernel)
theorem dL_law_1167 : decode cL_law 1167 = .ok (.iadd, 1) := dc_iad (by decide +kernel)
theorem dL_law_1168 : decode cL_law 1168 = .ok (.iaload, 1) := dc_ial (by decide +kernel)
theorem dL_law_1169 : decode cL_law 1169 = .ok (.invokevirtual 135, 3) := dc_b6 (b1 := 0) (b2 := 135) (by decide +kernel) (by decide +kernel) (by decide +kernel) (by decide)
theorem dL_law_1172 : decode cL_law 1172 = .ok (.pop, 1) := dc_pop (by decide +kernel)
theorem dL_law_1173 : decode cL_law 1173 = .ok (.aload_n 2, 1) := dc_al2 (by decide +kernel)
theorem dL_law_1174 : decode cL_law 1174 = .ok (.aload_n 0, 1) := dc_al0 (by decide +kernel)
theorem dL_law_1175 : decode cL_law 1175 = .ok (.iload_n 3, 1) := dc_il3 (by decide +kernel)
theorem dL_law_1176 : decode cL_law 1176 = .ok (.iconst 1, 1) := dc_i1 (by decide +kernel)
theorem dL_law_1177 : decode cL_law 1177 = .ok (.iadd, 1) := dc_iad (by decide +kernel)
theorem dL_law_1178 : decode cL_law 1178 = .ok (.iaload, 1) := dc_ial (by decide +kernel)
theorem dL_law_1179 : decode cL_law 1179 = .ok (.invokevirtual 138, 3) := dc_b6 (b1 := 0) (b2 := 138) (by decide +kernel) (by decide +kernel) (by decide +kernel) (by decide)
theorem dL_law_1182 : decode cL_law 1182 = .ok (.pop, 1) := dc_pop (by decide +kernel)
theorem dL_law_1183 : decode cL_law 1183 = .ok (.goto 174, 3) := dc_a7 (b1 := 0) (b2 := 174) (by decide +kernel) (by decide +kernel) (by decide +kernel) (by decide)
theorem dL_law_1186 : decode cL_law 1186 = .ok (.aload_n 1, 1) := dc_al1 (by decide +kernel)
theorem dL_law_1187 : decode cL_law 1187 = .ok (.aload_n 0, 1) := dc_al0 (by decide +kernel)
theorem dL_law_1188 : decode cL_law 1188 = .ok (.iload_n 3, 1) := dc_il3 (by decide +kernel)
theorem dL_law_1189 : decode cL_law 1189 = .ok (.iconst 1, 1) := dc_i1 (by decide +kernel)
theorem dL_law_1190 : decode cL_law 1190 = .ok (.iadd, 1) := dc_iad (by decide +kernel)
theorem dL_law_1191 : decode cL_law 1191 = .ok (.iaload, 1) := dc_ial (by decide +kernel)
theorem dL_law_1192 : decode cL_law 1192 = .ok (.invokevirtual 139, 3) := dc_b6 (b1 := 0) (b2 := 139) (by decide +kernel) (by decide +kernel) (by decide +kernel) (by decide)
theorem dL_law_1195 : decode cL_law 1195 = .ok (.pop, 1) := dc_pop (by decide +kernel)
theorem dL_law_1196 : decode cL_law 1196 = .ok (.aload_n 2, 1) := dc_al2 (by decide +kernel)
theorem dL_law_1197 : decode cL_law 1197 = .ok (.aload_n 0, 1) := dc_al0 (by decide +kernel)
theorem dL_law_1198 : decode cL_law 1198 = .ok (.iload_n 3, 1) := dc_il3 (by decide +kernel)
theorem dL_law_1199 : decode cL_law 1199 = .ok (.iconst 1, 1) := dc_i1 (by decide +kernel)
theorem dL_law_1200 : decode cL_law 1200 = .ok (.iadd, 1) := dc_iad (by decide +kernel)
theorem dL_law_1201 : decode cL_law 1201 = .ok (.iaload, 1) := dc_ial (by decide +kernel)
theorem dL_law_1202 : decode cL_law 1202 = .ok (.invokevirtual 142, 3) := dc_b6 (b1 := 0) (b2 := 142) (by decide +kernel) (by decide +kernel) (by decide +kernel) (by decide)
theorem dL_law_1205 : decode cL_law 1205 = .ok (.pop, 1) := dc_pop (by decide +kernel)
theorem dL_law_1206 : decode cL_law 1206 = .ok (.goto 151, 3) := dc_a7 (b1 := 0) (b2 := 151) (by decide +kernel) (by decide +kernel) (by decide +kernel) (by decide)
theorem dL_law_1209 : decode cL_law 1209 = .ok (.aload_n 1, 1) := dc_al1 (by decide +kernel)
theorem dL_law_1210 : decode cL_law 1210 = .ok (.aload_n 0, 1) := dc_al0 (by decide +kernel)
theorem dL_law_1211 : decode cL_law 1211 = .ok (.iload_n 3, 1) := dc_il3 (by decide +kernel)
theorem dL_law_1212 : decode cL_law 1212 = .ok (.iconst 1, 1) := dc_i1 (by decide +kernel)
theorem dL_law_1213 : decode cL_law 1213 = .ok (.iadd, 1) := dc_iad (by decide +kernel)
theorem dL_law_1214 : decode cL_law 1214 = .ok (.iaload, 1) := dc_ial (by decide +kernel)
theorem dL_law_1215 : decode cL_law 1215 = .ok (.invokevirtual 143, 3) := dc_b6 (b1 := 0) (b2 := 143) (by decide +kernel) (by decide +kernel) (by decide +kernel) (by decide)
theorem dL_law_1218 : decode cL_law 1218 = .ok (.pop, 1) := dc_pop (by decide +kernel)
theorem dL_law_1219 : decode cL_law 1219 = .ok (.aload_n 2, 1) := dc_al2 (by decide +kernel)
theorem dL_law_1220 : decode cL_law 1220 = .ok (.aload_n 0, 1) := dc_al0 (by decide +kernel)
theorem dL_law_1221 : decode cL_law 1221 = .ok (.iload_n 3, 1) := dc_il3 (by decide +kernel)
theorem dL_law_1222 : decode cL_law 1222 = .ok (.iconst 1, 1) := dc_i1 (by decide +kernel)
theorem dL_law_1223 : decode cL_law 1223 = .ok (.iadd, 1) := dc_iad (by decide +kernel)
theorem dL_law_1224 : decode cL_law 1224 = .ok (.iaload, 1) := dc_ial (by decide +kernel)
theorem dL_law_1225 : decode cL_law 1225 = .ok (.invokevirtual 146, 3) := dc_b6 (b1 := 0) (b2 := 146) (by decide +kernel) (by decide +kernel) (by decide +kernel) (by decide)
theorem dL_law_1228 : decode cL_law 1228 = .ok (.pop, 1) := dc_pop (by decide +kernel)
theorem dL_law_1229 : decode cL_law 1229 = .ok (.goto 128, 3) := dc_a7 (b1 := 0) (b2 := 128) (by decide +kernel) (by decide +kernel) (by decide +kernel) (by decide)
theorem dL_law_1232 : decode cL_law 1232 = .ok (.aload_n 1, 1) := dc_al1 (by decide +kernel)
theorem dL_law_1233 : decode cL_law 1233 = .ok (.aload_n 0, 1) := dc_al0 (by decide +kernel)
theorem dL_law_1234 : decode cL_law 1234 = .ok (.iload_n 3, 1) := dc_il3 (by decide +kernel)
theorem dL_law_1235 : decode cL_law 1235 = .ok (.iconst 1, 1) := dc_i1 (by decide +kernel)
theorem dL_law_1236 : decode cL_law 1236 = .ok (.iadd, 1) := dc_iad (by decide +kernel)
theorem dL_law_1237 : decode cL_law 1237 = .ok (.iaload, 1) := dc_ial (by decide +kernel)
theorem dL_law_1238 : decode cL_law 1238 = .ok (.aload_n 0, 1) := dc_al0 (by decide +kernel)
theorem dL_law_1239 : decode cL_law 1239 = .ok (.iload_n 3, 1) := dc_il3 (by decide +kernel)
theorem dL_law_1240 : decode cL_law 1240 = .ok (.iconst 2, 1) := dc_i2 (by decide +kernel)
theorem dL_law_1241 : decode cL_law 1241 = .ok (.iadd, 1) := dc_iad (by decide +kernel)
theorem dL_law_1242 : decode cL_law 1242 = .ok (.iaload, 1) := dc_ial (by decide +kernel)
theorem dL_law_1243 : decode cL_law 1243 = .ok (.invokevirtual 147, 3) := dc_b6 (b1 := 0) (b2 := 147) (by decide +kernel) (by decide +kernel) (by decide +kernel) (by decide)
theorem dL_law_1246 : decode cL_law 1246 = .ok (.pop, 1) := dc_pop (by decide +kernel)
theorem dL_law_1247 : decode cL_law 1247 = .ok (.aload_n 2, 1) := dc_al2 (by decide +kernel)
theorem dL_law_1248 : decode cL_law 1248 = .ok (.aload_n 0, 1) := dc_al0 (by decide +kernel)
theorem dL_law_1249 : decode cL_law 1249 = .ok (.iload_n 3, 1) := dc_il3 (by decide +kernel)
theorem dL_law_1250 : decode cL_law 1250 = .ok (.iconst 1, 1) := dc_i1 (by decide +kernel)
theorem dL_law_1251 : decode cL_law 1251 = .ok (.iadd, 1) := dc_iad (by decide +kernel)
theorem dL_law_1252 : decode cL_law 1252 = .ok (.iaload, 1) := dc_ial (by decide +kernel)
theorem dL_law_1253 : decode cL_law 1253 = .ok (.aload_n 0, 1) := dc_al0 (by decide +kernel)
theorem dL_law_1254 : decode cL_law 1254 = .ok (.iload_n 3, 1) := dc_il3 (by decide +kernel)
theorem dL_law_1255 : decode cL_law 1255 = .ok (.iconst 2, 1) := dc_i2 (by decide +kernel)
theorem dL_law_1256 : decode cL_law 1256 = .ok (.iadd, 1) := dc_iad (by decide +kernel)
theorem dL_law_1257 : decode cL_law 1257 = .ok (.iaload, 1) := dc_ial (by decide +kernel)
theorem dL_law_1258 : decode cL_law 1258 = .ok (.invokevirtual 150, 3) := dc_b6 (b1 := 0) (b2 := 150) (by decide +kernel) (by decide +kernel) (by decide +kernel) (by decide)
theorem dL_law_1261 : decode cL_law 1261 = .ok (.pop, 1) := dc_pop (by decide +kernel)
theorem dL_law_1262 : decode cL_law 1262 = .ok (.goto 95, 3) := dc_a7 (b1 := 0) (b2 := 95) (by decide +kernel) (by decide +kernel) (by decide +kernel) (by decide)
theorem dL_law_1265 : decode cL_law 1265 = .ok (.aload_n 1, 1) := dc_al1 (by decide +kernel)
theorem dL_law_1266 : decode cL_law 1266 = .ok (.aload_n 0, 1) := dc_al0 (by decide +kernel)
theorem dL_law_1267 : decode cL_law 1267 = .ok (.iload_n 3, 1) := dc_il3 (by decide +kernel)
theorem dL_law_1268 : decode cL_law 1268 = .ok (.iconst 1, 1) := dc_i1 (by decide +kernel)
theorem dL_law_1269 : decode cL_law 1269 = .ok (.iadd, 1) := dc_iad (by decide +kernel)
theorem dL_law_1270 : decode cL_law 1270 = .ok (.iaload, 1) := dc_ial (by decide +kernel)
theorem dL_law_1271 : decode cL_law 1271 = .ok (.aload_n 0, 1) := dc_al0 (by decide +kernel)
theorem dL_law_1272 : decode cL_law 1272 = .ok (.iload_n 3, 1) := dc_il3 (by decide +kernel)
theorem dL_law_1273 : decode cL_law 1273 = .ok (.iconst 2, 1) := dc_i2 (by decide +kernel)
theorem dL_law_1274 : decode cL_law 1274 = .ok (.iadd, 1) := dc_iad (by decide +kernel)
theorem dL_law_1275 : decode cL_law 1275 = .ok (.iaload, 1) := dc_ial (by decide +kernel)
theorem dL_law_1276 : decode cL_law 1276 = .ok (.invokevirtual 151, 3) := dc_b6 (b1 := 0) (b2 := 151) (by decide +kernel) (by decide +kernel) (by decide +kernel) (by decide)
theorem dL_law_1279 : decode cL_law 1279 = .ok (.pop, 1) := dc_pop (by decide +kernel)
theorem dL_law_1280 : decode cL_law 1280 = .ok (.aload_n 2, 1) := dc_al2 (by decide +kernel)
theorem dL_law_1281 : decode cL_law 1281 = .ok (.aload_n 0, 1) := dc_al0 (by decide +kernel)
theorem dL_law_1282 : decode cL_law 1282 = .ok (.iload_n 3, 1) := dc_il3 (by decide +kernel)
theorem dL_law_1283 : decode cL_law 1283 = .ok (.iconst 1, 1) := dc_i1 (by decide +kernel)
theorem dL_law_1284 : decode cL_law 1284 = .ok (.iadd, 1) := dc_iad (by decide +kernel)
theorem dL_law_1285 : decode cL_law 1285 = .ok (.iaload, 1) := dc_ial (by decide +kernel)
theorem dL_law_1286 : decode cL_law 1286 = .ok (.aload_n 0, 1) := dc_al0 (by decide +kernel)
theorem dL_law_1287 : decode cL_law 1287 = .ok (.iload_n 3, 1) := dc_il3 (by decide +kernel)
theorem dL_law_1288 : decode cL_law 1288 = .ok (.iconst 2, 1) := dc_i2 (by decide +kernel)
theorem dL_law_1289 : decode cL_law 1289 = .ok (.iadd, 1) := dc_iad (by decide +kernel)
theorem dL_law_1290 : decode cL_law 1290 = .ok (.iaload, 1) := dc_ial (by decide +kernel)
theorem dL_law_1291 : decode cL_law 1291 = .ok (.invokevirtual 154, 3) := dc_b6 (b1 := 0) (b2 := 154) (by decide +kernel) (by decide +kernel) (by decide +kernel) (by decide)
theorem dL_law_1294 : decode cL_law 1294 = .ok (.pop, 1) := dc_pop (by decide +kernel)
theorem dL_law_1295 : decode cL_law 1295 = .ok (.goto 62, 3) := dc_a7 (b1 := 0) (b2 := 62) (by decide +kernel) (by decide +kernel) (by decide +kernel) (by decide)
theorem dL_law_1298 : decode cL_law 1298 = .ok (.aload_n 1, 1) := dc_al1 (by decide +kernel)
theorem dL_law_1299 : decode cL_law 1299 = .ok (.aload_n 0, 1) := dc_al0 (by decide +kernel)
theorem dL_law_1300 : decode cL_law 1300 = .ok (.iload_n 3, 1) := dc_il3 (by decide +kernel)
theorem dL_law_1301 : decode cL_law 1301 = .ok (.iconst 1, 1) := dc_i1 (by decide +kernel)
theorem dL_law_1302 : decode cL_law 1302 = .ok (.iadd, 1) := dc_iad (by decide +kernel)
theorem dL_law_1303 : decode cL_law 1303 = .ok (.iaload, 1) := dc_ial (by decide +kernel)
theorem dL_law_1304 : decode cL_law 1304 = .ok (.invokevirtual 155, 3) := dc_b6 (b1 := 0) (b2 := 155) (by decide +kernel) (by decide +kernel) (by decide +kernel) (by decide)
theorem dL_law_1307 : decode cL_law 1307 = .ok (.pop, 1) := dc_pop (by decide +kernel)
theorem dL_law_1308 : decode cL_law 1308 = .ok (.aload_n 2, 1) := dc_al2 (by decide +kernel)
theorem dL_law_1309 : decode cL_law 1309 = .ok (.aload_n 0, 1) := dc_al0 (by decide +kernel)
theorem dL_law_1310 : decode cL_law 1310 = .ok (.iload_n 3, 1) := dc_il3 (by decide +kernel)
theorem dL_law_1311 : decode cL_law 1311 = .ok (.iconst 1, 1) := dc_i1 (by decide +kernel)
theorem dL_law_1312 : decode cL_law 1312 = .ok (.iadd, 1) := dc_iad (by decide +kernel)
theorem dL_law_1313 : decode cL_law 1313 = .ok (.iaload, 1) := dc_ial (by decide +kernel)
theorem dL_law_1314 : decode cL_law 1314 = .ok (.invokevirtual 158, 3) := dc_b6 (b1 := 0) (b2 := 158) (by decide +kernel) (by decide +kernel) (by decide +kernel) (by decide)
theorem dL_law_1317 : decode cL_law 1317 = .ok (.pop, 1) := dc_pop (by decide +kernel)
theorem dL_law_1318 : decode cL_law 1318 = .ok (.goto 39, 3) := dc_a7 (b1 := 0) (b2 := 39) (by decide +kernel) (by decide +kernel) (by decide +kernel) (by decide)
theorem dL_law_1321 : decode cL_law 1321 = .ok (.aload_n 1, 1) := dc_al1 (by decide +kernel)
theorem dL_law_1322 : decode cL_law 1322 = .ok (.aload_n 0, 1) := dc_al0 (by decide +kernel)
theorem dL_law_1323 : decode cL_law 1323 = .ok (.iload_n 3, 1) := dc_il3 (by decide +kernel)
theorem dL_law_1324 : decode cL_law 1324 = .ok (.iconst 1, 1) := dc_i1 (by decide +kernel)
theorem dL_law_1325 : decode cL_law 1325 = .ok (.iadd, 1) := dc_iad (by decide +kernel)
theorem dL_law_1326 : decode cL_law 1326 = .ok (.iaload, 1) := dc_ial (by decide +kernel)
theorem dL_law_1327 : decode cL_law 1327 = .ok (.invokevirtual 159, 3) := dc_b6 (b1 := 0) (b2 := 159) (by decide +kernel) (by decide +kernel) (by decide +kernel) (by decide)
theorem dL_law_1330 : decode cL_law 1330 = .ok (.pop, 1) := dc_pop (by decide +kernel)
theorem dL_law_1331 : decode cL_law 1331 = .ok (.aload_n 2, 1) := dc_al2 (by decide +kernel)
theorem dL_law_1332 : decode cL_law 1332 = .ok (.aload_n 0, 1) := dc_al0 (by decide +kernel)
theorem dL_law_1333 : decode cL_law 1333 = .ok (.iload_n 3, 1) := dc_il3 (by decide +kernel)
theorem dL_law_1334 : decode cL_law 1334 = .ok (.iconst 1, 1) := dc_i1 (by decide +kernel)
theorem dL_law_1335 : decode cL_law 1335 = .ok (.iadd, 1) := dc_iad (by decide +kernel)
theorem dL_law_1336 : decode cL_law 1336 = .ok (.iaload, 1) := dc_ial (by decide +kernel)
theorem dL_law_1337 : decode cL_law 1337 = .ok (.invokevirtual 162, 3) := dc_b6 (b1 := 0) (b2 := 162) (by decide +kernel) (by decide +kernel) (by decide +kernel) (by decide)
theorem dL_law_1340 : decode cL_law 1340 = .ok (.pop, 1) := dc_pop (by decide +kernel)
theorem dL_law_1341 : decode cL_law 1341 = .ok (.goto 16, 3) := dc_a7 (b1 := 0) (b2 := 16) (by decide +kernel) (by decide +kernel) (by decide +kernel) (by decide)
theorem dL_law_1344 : decode cL_law 1344 = .ok (.aload_n 1, 1) := dc_al1 (by decide +kernel)
theorem dL_law_1345 : decode cL_law 1345 = .ok (.invokevirtual 163, 3) := dc_b6 (b1 := 0) (b2 := 163) (by decide +kernel) (by decide +kernel) (by decide +kernel) (by decide)
theorem dL_law_1348 : decode cL_law 1348 = .ok (.pop, 1) := dc_pop (by decide +kernel)
theorem dL_law_1349 : decode cL_law 1349 = .ok (.aload_n 2, 1) := dc_al2 (by decide +kernel)
theorem dL_law_1350 : decode cL_law 1350 = .ok (.invokevirtual 166, 3) := dc_b6 (b1 := 0) (b2 := 166) (by decide +kernel) (by decide +kernel) (by decide +kernel) (by decide)
theorem dL_law_1353 : decode cL_law 1353 = .ok (.pop, 1) := dc_pop (by decide +kernel)
theorem dL_law_1354 : decode cL_law 1354 = .ok (.goto 3, 3) := dc_a7 (b1 := 0) (b2 := 3) (by decide +kernel) (by decide +kernel) (by decide +kernel) (by decide)
theorem dL_law_1357 : decode cL_law 1357 = .ok (.iinc 3 6, 3) := by decide +kernel
theorem dL_law_1360 : decode cL_law 1360 = .ok (.goto (-1342), 3) := dc_a7 (b1 := 250) (b2 := 194) (by decide +kernel) (by decide +kernel) (by decide +kernel) (by decide)
theorem dL_law_1363 : decode cL_law 1363 = .ok (.iconst 1, 1) := dc_i1 (by decide +kernel)
theorem dL_law_1364 : decode cL_law 1364 = .ok (.ireturn, 1) := by decide +kernel
set_option maxRecDepth 20000 in
theorem ggL_law_X7_row : GoodIn wsL_law wsX7_row := goodIn_r _ [112, 113, 15, 114, 115, 14, 116, 117, 118, 119, 120, 121, 122, 2, 123, 124, 125, 126, 127, 128, 129, 49, 50, 48, 51, 52, 53, 54, 130, 131, 132, 133, 1044, 1045, 1046, 1047, 1048, 1049, 1050, 1051, 1052, 1053, 1054, 1079, 1080, 1081] (by decide +kernel) (by decide +kernel)
set_option maxRecDepth 20000 in
theorem gL_law_X7_row : GoodIn wsL_law (wsV RL 13 RX7 yX7_row wsX7_row) := goodIn_app (goodIn_of _ (by decide +kernel)) ggL_law_X7_row
set_option maxRecDepth 20000 in
theorem ggL_law_X7_set : GoodIn wsL_law wsX7_set := goodIn_r _ [160, 113, 15, 114, 115, 14, 116, 161, 162, 163, 164, 165, 166, 167, 168, 49, 169, 170, 171, 172, 50, 120, 121, 122, 2, 123, 124, 125, 173, 174, 175, 176, 48, 130, 131, 132, 133, 1044, 1045, 1046, 1047, 1048, 1049, 1050, 1051, 1052, 1053, 1054, 1079, 1080, 1081] (by decide +kernel) (by decide +kernel)
set_option maxRecDepth 20000 in
theorem gL_law_X7_set : GoodIn wsL_law (wsV RL 18 RX7 yX7_set wsX7_set) := goodIn_app (goodIn_of _ (by decide +kernel)) ggL_law_X7_set
set_option maxRecDepth 20000 in
theorem ggL_law_X7_copy : GoodIn wsL_law wsX7_copy := goodIn_r _ [187, 113, 15, 114, 115, 14, 116, 188, 189, 190, 191, 49, 165, 166, 167, 168, 169, 170, 171, 172, 50, 120, 121, 122, 2, 123, 124, 125, 192, 193, 194, 195, 48, 196, 197, 198, 199, 130, 131, 132, 133, 1044, 1045, 1046, 1047, 1048, 1049, 1050, 1051, 1052, 1053, 1054, 1079, 1080, 1081] (by decide +kernel) (by decide +kernel)
set_option maxRecDepth 20000 in
theorem gL_law_X7_copy : GoodIn wsL_law (wsV RL 22 RX7 yX7_copy wsX7_copy) := goodIn_app (goodIn_of _ (by decide +kernel)) ggL_law_X7_copy
set_option maxRecDepth 20000 in
theorem ggL_law_X7_drop : GoodIn wsL_law wsX7_drop := goodIn_r _ [207, 113, 15, 114, 115, 14, 116, 208, 166, 167, 168, 49, 120, 121, 122, 2, 123, 124, 125, 209, 210, 211, 212, 50, 130, 131, 132, 133, 1044, 1045, 1046, 1047, 1048, 1049, 1050, 1051, 1052, 1053, 1054, 1079, 1080, 1081] (by decide +kernel) (by decide +kernel)
set_option maxRecDepth 20000 in
theorem gL_law_X7_drop : GoodIn wsL_law (wsV RL 27 RX7 yX7_drop wsX7_drop) := goodIn_app (goodIn_of _ (by decide +kernel)) ggL_law_X7_drop
set_option maxRecDepth 20000 in
theorem ggL_law_X7_feed : GoodIn wsL_law wsX7_feed := goodIn_r _ [220, 113, 19, 221, 222, 223, 224, 18, 225, 226, 227, 228, 229, 230, 58, 231, 1044, 1045, 1046, 1047, 1048, 1049, 1050, 1051, 1052, 1053, 1054, 1082, 1083, 1084, 1085, 1086, 1087] (by decide +kernel) (by decide +kernel)
set_option maxRecDepth 20000 in
theorem gL_law_X7_feed : GoodIn wsL_law (wsV RL 32 RX7 yX7_feed wsX7_feed) := goodIn_app (goodIn_of _ (by decide +kernel)) ggL_law_X7_feed
set_option maxRecDepth 20000 in
theorem ggL_law_X7_level : GoodIn wsL_law wsX7_level := goodIn_r _ [242, 19, 243, 244, 245, 23, 246, 27, 247, 248, 249, 250, 18, 251, 252, 253, 254, 60, 226, 255, 256, 257, 22, 258, 259, 260, 261, 262, 263, 264, 265, 266, 267, 268, 269, 270, 271, 272, 273, 274, 275, 276, 277, 278, 279, 280, 281, 58, 282, 283, 284, 285, 286, 287, 288, 289, 290, 291, 292, 293, 294, 295, 296, 297, 298, 299, 300, 301, 302, 303, 304, 305, 306, 307, 308, 309, 310, 311, 312, 313, 314, 315, 316, 317, 318, 319, 320, 321, 322, 323, 66, 67, 68, 324, 325, 326, 327, 64, 328, 197, 198, 199, 65, 329, 330, 331, 26, 332, 333, 1044, 1045, 1046, 1047, 1048, 1049, 1050, 1051, 1052, 1053, 1054, 1082, 1083, 1084, 1085, 1086, 1087, 1088, 1089, 1090, 1091, 1092, 1093, 1094, 1095, 1096, 1097, 1098, 1099, 1100, 1101, 1102, 1103] (by decide +kernel) (by decide +kernel)
set_option maxRecDepth 20000 in
theorem gL_law_X7_level : GoodIn wsL_law (wsV RL 36 RX7 yX7_level wsX7_level) := goodIn_app (goodIn_of _ (by decide +kernel)) ggL_law_X7_level
set_option maxRecDepth 20000 in
theorem ggL_law_X7_fault : GoodIn wsL_law wsX7_fault := goodIn_r _ [385, 243, 1044, 1045, 1046, 1047, 1048, 1049, 1050, 1051, 1052, 1053, 1054] (by decide +kernel) (by decide +kernel)
set_option maxRecDepth 20000 in
theorem gL_law_X7_fault : GoodIn wsL_law (wsV RL 41 RX7 yX7_fault wsX7_fault) := goodIn_app (goodIn_of _ (by decide +kernel)) ggL_law_X7_fault
set_option maxRecDepth 20000 in
theorem ggL_law_X7_undo : GoodIn wsL_law wsX7_undo := goodIn_r _ [393, 27, 394, 395, 23, 396, 397, 398, 26, 399, 333, 400, 74, 401, 325, 326, 22, 327, 259, 260, 261, 262, 263, 264, 265, 266, 64, 328, 197, 198, 199, 65, 66, 67, 68, 1044, 1045, 1046, 1047, 1048, 1049, 1050, 1051, 1052, 1053, 1054, 1101, 1102, 1103, 1088, 1089, 1090, 1091, 1092, 1093, 1094, 1095, 1096, 1097, 1098, 1099, 1100] (by decide +kernel) (by decide +kernel)
set_option maxRecDepth 20000 in
theorem gL_law_X7_undo : GoodIn wsL_law (wsV RL 45 RX7 yX7_undo wsX7_undo) := goodIn_app (goodIn_of _ (by decide +kernel)) ggL_law_X7_undo
set_option maxRecDepth 20000 in
theorem ggL_law_X7_hours : GoodIn wsL_law wsX7_hours := goodIn_r _ [410, 23, 395, 113, 411, 221, 27, 412, 413, 414, 415, 22, 416, 259, 417, 418, 419, 26, 420, 74, 400, 333, 421, 422, 423, 424, 401, 325, 326, 327, 260, 261, 262, 263, 264, 265, 266, 64, 328, 197, 198, 199, 65, 66, 67, 68, 425, 426, 427, 428, 429, 430, 431, 432, 433, 434, 435, 436, 437, 438, 439, 440, 441, 442, 443, 444, 445, 446, 447, 448, 449, 450, 451, 452, 453, 454, 321, 322, 323, 455, 456, 457, 458, 1044, 1045, 1046, 1047, 1048, 1049, 1050, 1051, 1052, 1053, 1054, 1088, 1089, 1090, 1091, 1092, 1093, 1094, 1095, 1096, 1097, 1098, 1099, 1100, 1101, 1102, 1103] (by decide +kernel) (by decide +kernel)
set_option maxRecDepth 20000 in
theorem gL_law_X7_hours : GoodIn wsL_law (wsV RL 49 RX7 yX7_hours wsX7_hours) := goodIn_app (goodIn_of _ (by decide +kernel)) ggL_law_X7_hours
set_option maxRecDepth 20000 in
theorem ggL_law_X7_cap : GoodIn wsL_law wsX7_cap := goodIn_r _ [494, 23, 395, 27, 495, 413, 414, 415, 22, 416, 259, 417, 418, 419, 26, 420, 74, 400, 333, 421, 422, 423, 424, 401, 325, 326, 327, 260, 261, 262, 263, 264, 265, 266, 64, 328, 197, 198, 199, 65, 66, 67, 68, 496, 497, 498, 499, 1044, 1045, 1046, 1047, 1048, 1049, 1050, 1051, 1052, 1053, 1054, 1088, 1089, 1090, 1091, 1092, 1093, 1094, 1095, 1096, 1097, 1098, 1099, 1100, 1101, 1102, 1103] (by decide +kernel) (by decide +kernel)
set_option maxRecDepth 20000 in
theorem gL_law_X7_cap : GoodIn wsL_law (wsV RL 53 RX7 yX7_cap wsX7_cap) := goodIn_app (goodIn_of _ (by decide +kernel)) ggL_law_X7_cap
set_option maxRecDepth 20000 in
theorem ggL_law_X7_wind : GoodIn wsL_law wsX7_wind := goodIn_r _ [507, 23, 113, 508, 27, 509, 510, 511, 22, 512, 265, 417, 418, 419, 26, 420, 74, 400, 333, 421, 422, 423, 424, 401, 325, 326, 327, 259, 260, 261, 262, 263, 264, 266, 64, 328, 197, 198, 199, 65, 66, 67, 68, 1044, 1045, 1046, 1047, 1048, 1049, 1050, 1051, 1052, 1053, 1054, 1088, 1089, 1090, 1091, 1092, 1093, 1094, 1095, 1096, 1097, 1098, 1099, 1100, 1101, 1102, 1103] (by decide +kernel) (by decide +kernel)
set_option maxRecDepth 20000 in
theorem gL_law_X7_wind : GoodIn wsL_law (wsV RL 57 RX7 yX7_wind wsX7_wind) := goodIn_app (goodIn_of _ (by decide +kernel)) ggL_law_X7_wind
set_option maxRecDepth 20000 in
theorem ggL_law_X7_loose : GoodIn wsL_law wsX7_loose := goodIn_r _ [521, 23, 113, 395, 27, 522, 523, 524, 22, 525, 266, 526, 451, 452, 453, 259, 527, 439, 440, 441, 68, 417, 418, 419, 26, 420, 74, 400, 333, 421, 422, 423, 424, 401, 325, 326, 327, 260, 261, 262, 263, 264, 265, 64, 328, 197, 198, 199, 65, 66, 67, 528, 321, 322, 323, 529, 530, 531, 532, 1044, 1045, 1046, 1047, 1048, 1049, 1050, 1051, 1052, 1053, 1054, 1088, 1089, 1090, 1091, 1092, 1093, 1094, 1095, 1096, 1097, 1098, 1099, 1100, 1101, 1102, 1103] (by decide +kernel) (by decide +kernel)
set_option maxRecDepth 20000 in
theorem gL_law_X7_loose : GoodIn wsL_law (wsV RL 62 RX7 yX7_loose wsX7_loose) := goodIn_app (goodIn_of _ (by decide +kernel)) ggL_law_X7_loose
set_option maxRecDepth 20000 in
theorem ggL_law_X7_sell : GoodIn wsL_law wsX7_sell := goodIn_r _ [553, 23, 395, 113, 412, 27, 413, 414, 415, 22, 416, 259, 417, 418, 419, 26, 420, 74, 400, 333, 421, 422, 423, 424, 401, 325, 326, 327, 260, 261, 262, 263, 264, 265, 266, 64, 328, 197, 198, 199, 65, 66, 67, 68, 1044, 1045, 1046, 1047, 1048, 1049, 1050, 1051, 1052, 1053, 1054, 1088, 1089, 1090, 1091, 1092, 1093, 1094, 1095, 1096, 1097, 1098, 1099, 1100, 1101, 1102, 1103] (by decide +kernel) (by decide +kernel)
set_option maxRecDepth 20000 in
theorem gL_law_X7_sell : GoodIn wsL_law (wsV RL 66 RX7 yX7_sell wsX7_sell) := goodIn_app (goodIn_of _ (by decide +kernel)) ggL_law_X7_sell
set_option maxRecDepth 20000 in
theorem ggL_law_X7_sound : GoodIn wsL_law wsX7_sound := goodIn_r _ [562, 23, 113, 522, 523, 524, 22, 525, 266, 563, 430, 431, 432, 265, 64, 263, 564, 443, 444, 445, 65, 565, 566, 567, 568, 66, 569, 68, 67, 438, 439, 440, 441, 1044, 1045, 1046, 1047, 1048, 1049, 1050, 1051, 1052, 1053, 1054, 1088, 1089, 1090, 1091, 1092, 1093, 1094, 1095, 1096, 1097, 1098, 1099, 1100] (by decide +kernel) (by decide +kernel)
set_option maxRecDepth 20000 in
theorem gL_law_X7_sound : GoodIn wsL_law (wsV RL 70 RX7 yX7_sound wsX7_sound) := goodIn_app (goodIn_of _ (by decide +kernel)) ggL_law_X7_sound
set_option maxRecDepth 20000 in
theorem ggL_law_X7_stand : GoodIn wsL_law wsX7_stand := goodIn_r _ [578, 23, 395, 579, 580, 581, 495, 113, 413, 414, 415, 22, 416, 259, 529, 530, 531, 532, 266, 68, 1044, 1045, 1046, 1047, 1048, 1049, 1050, 1051, 1052, 1053, 1054, 1088, 1089, 1090, 1091, 1092, 1093, 1094, 1095, 1096, 1097, 1098, 1099, 1100] (by decide +kernel) (by decide +kernel)
set_option maxRecDepth 20000 in
theorem gL_law_X7_stand : GoodIn wsL_law (wsV RL 74 RX7 yX7_stand wsX7_stand) := goodIn_app (goodIn_of _ (by decide +kernel)) ggL_law_X7_stand
set_option maxRecDepth 20000 in
theorem ggL_law_X7_gust : GoodIn wsL_law wsX7_gust := goodIn_r _ [589, 23, 395, 113, 413, 414, 415, 22, 416, 259, 590, 591, 2, 592, 563, 430, 431, 432, 265, 64, 263, 1044, 1045, 1046, 1047, 1048, 1049, 1050, 1051, 1052, 1053, 1054, 1088, 1089, 1090, 1091, 1092, 1093, 1094, 1095, 1096, 1097, 1098, 1099, 1100] (by decide +kernel) (by decide +kernel)
set_option maxRecDepth 20000 in
theorem gL_law_X7_gust : GoodIn wsL_law (wsV RL 78 RX7 yX7_gust wsX7_gust) := goodIn_app (goodIn_of _ (by decide +kernel)) ggL_law_X7_gust
set_option maxRecDepth 20000 in
theorem ggL_law_X7_ahead : GoodIn wsL_law wsX7_ahead := goodIn_r _ [601, 23, 113, 29, 522, 523, 524, 22, 525, 266, 590, 591, 2, 592, 324, 325, 326, 327, 259, 260, 261, 262, 263, 264, 265, 64, 328, 197, 198, 199, 65, 66, 67, 68, 602, 603, 604, 605, 429, 430, 431, 432, 433, 434, 435, 436, 437, 422, 423, 424, 438, 439, 440, 441, 442, 443, 444, 445, 446, 447, 448, 449, 450, 451, 452, 453, 454, 321, 322, 323, 455, 456, 457, 458, 565, 566, 567, 568, 569, 1044, 1045, 1046, 1047, 1048, 1049, 1050, 1051, 1052, 1053, 1054, 1088, 1089, 1090, 1091, 1092, 1093, 1094, 1095, 1096, 1097, 1098, 1099, 1100] (by decide +kernel) (by decide +kernel)
set_option maxRecDepth 20000 in
theorem gL_law_X7_ahead : GoodIn wsL_law (wsV RL 82 RX7 yX7_ahead wsX7_ahead) := goodIn_app (goodIn_of _ (by decide +kernel)) ggL_law_X7_ahead
set_option maxRecDepth 20000 in
theorem ggL_law_X7_meal : GoodIn wsL_law wsX7_meal := goodIn_r _ [625, 23, 395, 113, 29, 413, 414, 415, 22, 416, 259, 590, 591, 2, 592, 324, 325, 326, 327, 260, 261, 262, 263, 264, 265, 266, 64, 328, 197, 198, 199, 65, 66, 67, 68, 626, 627, 628, 629, 630, 426, 427, 428, 429, 430, 431, 432, 433, 434, 435, 436, 437, 422, 423, 424, 438, 439, 440, 441, 442, 443, 444, 445, 446, 447, 448, 449, 450, 451, 452, 453, 454, 321, 322, 323, 455, 456, 457, 458, 1044, 1045, 1046, 1047, 1048, 1049, 1050, 1051, 1052, 1053, 1054, 1088, 1089, 1090, 1091, 1092, 1093, 1094, 1095, 1096, 1097, 1098, 1099, 1100] (by decide +kernel) (by decide +kernel)
set_option maxRecDepth 20000 in
theorem gL_law_X7_meal : GoodIn wsL_law (wsV RL 86 RX7 yX7_meal wsX7_meal) := goodIn_app (goodIn_of _ (by decide +kernel)) ggL_law_X7_meal
set_option maxRecDepth 20000 in
theorem ggL_law_X7_when : GoodIn wsL_law wsX7_when := goodIn_r _ [642, 23, 113, 29, 643, 644, 522, 523, 524, 22, 525, 266, 324, 325, 326, 327, 259, 260, 261, 262, 263, 264, 265, 64, 328, 197, 198, 199, 65, 66, 67, 68, 602, 603, 604, 605, 429, 430, 431, 432, 433, 434, 435, 436, 437, 422, 423, 424, 438, 439, 440, 441, 442, 443, 444, 445, 446, 447, 448, 449, 450, 451, 452, 453, 454, 321, 322, 323, 455, 456, 457, 458, 1044, 1045, 1046, 1047, 1048, 1049, 1050, 1051, 1052, 1053, 1054, 1088, 1089, 1090, 1091, 1092, 1093, 1094, 1095, 1096, 1097, 1098, 1099, 1100] (by decide +kernel) (by decide +kernel)
set_option maxRecDepth 20000 in
theorem gL_law_X7_when : GoodIn wsL_law (wsV RL 90 RX7 yX7_when wsX7_when) := goodIn_app (goodIn_of _ (by decide +kernel)) ggL_law_X7_when
set_option maxRecDepth 20000 in
theorem ggL_law_X7_caps : GoodIn wsL_law wsX7_caps := goodIn_r _ [652, 23, 395, 113, 644, 37, 653, 654, 413, 414, 415, 22, 416, 259, 655, 656, 36, 657, 658, 659, 660, 661, 662, 663, 664, 665, 666, 86, 667, 325, 326, 327, 260, 261, 262, 263, 264, 265, 266, 64, 328, 197, 198, 199, 65, 66, 67, 68, 668, 669, 670, 671, 672, 673, 674, 675, 676, 677, 678, 679, 680, 681, 682, 530, 531, 532, 683, 426, 427, 428, 429, 430, 431, 432, 433, 434, 435, 436, 437, 422, 423, 424, 438, 439, 440, 441, 442, 443, 444, 445, 446, 447, 448, 449, 450, 451, 452, 453, 454, 321, 322, 323, 455, 456, 457, 458, 684, 685, 686, 687, 1044, 1045, 1046, 1047, 1048, 1049, 1050, 1051, 1052, 1053, 1054, 1107, 1108, 1109, 1110, 1111, 1112, 1088, 1089, 1090, 1091, 1092, 1093, 1094, 1095, 1096, 1097, 1098, 1099, 1100] (by decide +kernel) (by decide +kernel)
set_option maxRecDepth 20000 in
theorem gL_law_X7_caps : GoodIn wsL_law (wsV RL 94 RX7 yX7_caps wsX7_caps) := goodIn_app (goodIn_of _ (by decide +kernel)) ggL_law_X7_caps
set_option maxRecDepth 20000 in
theorem ggL_law_X7_had : GoodIn wsL_law wsX7_had := goodIn_r _ [700, 23, 395, 247, 113, 37, 653, 644, 654, 413, 414, 415, 22, 416, 259, 655, 656, 36, 657, 658, 659, 660, 661, 662, 663, 664, 665, 666, 86, 667, 325, 326, 327, 260, 261, 262, 263, 264, 265, 266, 64, 328, 197, 198, 199, 65, 66, 67, 68, 668, 669, 670, 671, 672, 673, 674, 675, 676, 677, 678, 679, 680, 681, 682, 530, 531, 532, 683, 426, 427, 428, 429, 430, 431, 432, 433, 434, 435, 436, 437, 422, 423, 424, 438, 439, 440, 441, 442, 443, 444, 445, 446, 447, 448, 449, 450, 451, 452, 453, 454, 321, 322, 323, 455, 456, 457, 458, 1044, 1045, 1046, 1047, 1048, 1049, 1050, 1051, 1052, 1053, 1054, 1088, 1089, 1090, 1091, 1092, 1093, 1094, 1095, 1096, 1097, 1098, 1099, 1100, 1107, 1108, 1109, 1110, 1111, 1112] (by decide +kernel) (by decide +kernel)
set_option maxRecDepth 20000 in
theorem gL_law_X7_had : GoodIn wsL_law (wsV RL 98 RX7 yX7_had wsX7_had) := goodIn_app (goodIn_of _ (by decide +kernel)) ggL_law_X7_had
set_option maxRecDepth 20000 in
theorem ggL_law_X7_site : GoodIn wsL_law wsX7_site := goodIn_r _ [708, 23, 395, 113, 579, 29, 580, 413, 414, 415, 22, 416, 259, 324, 325, 326, 327, 260, 261, 262, 263, 264, 265, 266, 64, 328, 197, 198, 199, 65, 66, 67, 68, 626, 627, 628, 629, 630, 426, 427, 428, 429, 430, 431, 432, 433, 434, 435, 436, 437, 422, 423, 424, 438, 439, 440, 441, 442, 443, 444, 445, 446, 447, 448, 449, 450, 451, 452, 453, 454, 321, 322, 323, 455, 456, 457, 458, 1044, 1045, 1046, 1047, 1048, 1049, 1050, 1051, 1052, 1053, 1054, 1088, 1089, 1090, 1091, 1092, 1093, 1094, 1095, 1096, 1097, 1098, 1099, 1100] (by decide +kernel) (by decide +kernel)
set_option maxRecDepth 20000 in
theorem gL_law_X7_site : GoodIn wsL_law (wsV RL 102 RX7 yX7_site wsX7_site) := goodIn_app (goodIn_of _ (by decide +kernel)) ggL_law_X7_site
set_option maxRecDepth 20000 in
theorem ggL_law_X7_sack : GoodIn wsL_law wsX7_sack := goodIn_r _ [720, 23, 395, 113, 247, 413, 414, 415, 22, 416, 259, 529, 530, 531, 532, 266, 68, 721, 722, 723, 724, 67, 1044, 1045, 1046, 1047, 1048, 1049, 1050, 1051, 1052, 1053, 1054, 1088, 1089, 1090, 1091, 1092, 1093, 1094, 1095, 1096, 1097, 1098, 1099, 1100] (by decide +kernel) (by decide +kernel)
set_option maxRecDepth 20000 in
theorem gL_law_X7_sack : GoodIn wsL_law (wsV RL 106 RX7 yX7_sack wsX7_sack) := goodIn_app (goodIn_of _ (by decide +kernel)) ggL_law_X7_sack
set_option maxRecDepth 20000 in
theorem ggL_law_X7_share : GoodIn wsL_law wsX7_share := goodIn_r _ [740, 23, 113, 247, 741, 522, 523, 524, 22, 525, 266, 529, 530, 531, 532, 68, 721, 722, 723, 724, 67, 527, 439, 440, 441, 1044, 1045, 1046, 1047, 1048, 1049, 1050, 1051, 1052, 1053, 1054, 1088, 1089, 1090, 1091, 1092, 1093, 1094, 1095, 1096, 1097, 1098, 1099, 1100] (by decide +kernel) (by decide +kernel)
set_option maxRecDepth 20000 in
theorem gL_law_X7_share : GoodIn wsL_law (wsV RL 110 RX7 yX7_share wsX7_share) := goodIn_app (goodIn_of _ (by decide +kernel)) ggL_law_X7_share
set_option maxRecDepth 20000 in
theorem ggL_law_X7_byTurns : GoodIn wsL_law wsX7_byTurns := goodIn_r _ [749, 23, 395, 113, 33, 413, 414, 415, 22, 416, 259, 750, 751, 752, 32, 753, 79, 754, 755, 422, 423, 424, 756, 325, 326, 327, 260, 261, 262, 263, 264, 265, 266, 64, 328, 197, 198, 199, 65, 66, 67, 68, 757, 758, 759, 760, 80, 761, 762, 763, 764, 627, 628, 629, 630, 426, 427, 428, 429, 430, 431, 432, 433, 434, 435, 436, 437, 438, 439, 440, 441, 442, 443, 444, 445, 446, 447, 448, 449, 450, 451, 452, 453, 454, 321, 322, 323, 455, 456, 457, 458, 765, 766, 767, 768, 769, 497, 498, 499, 770, 771, 772, 773, 1044, 1045, 1046, 1047, 1048, 1049, 1050, 1051, 1052, 1053, 1054, 1088, 1089, 1090, 1091, 1092, 1093, 1094, 1095, 1096, 1097, 1098, 1099, 1100, 1104, 1105, 1106] (by decide +kernel) (by decide +kernel)
set_option maxRecDepth 20000 in
theorem gL_law_X7_byTurns : GoodIn wsL_law (wsV RL 114 RX7 yX7_byTurns wsX7_byTurns) := goodIn_app (goodIn_of _ (by decide +kernel)) ggL_law_X7_byTurns
set_option maxRecDepth 20000 in
theorem ggL_law_X7_who : GoodIn wsL_law wsX7_who := goodIn_r _ [781, 23, 113, 522, 523, 524, 22, 525, 266, 782, 783, 2, 784, 114, 115, 14, 116, 785, 786, 787, 788, 395, 15, 527, 439, 440, 441, 68, 161, 162, 163, 164, 165, 166, 167, 168, 49, 169, 170, 171, 172, 50, 120, 121, 122, 123, 124, 125, 789, 790, 791, 792, 29, 793, 324, 325, 326, 327, 259, 260, 261, 262, 263, 264, 265, 64, 328, 197, 198, 199, 65, 66, 67, 794, 795, 796, 797, 798, 602, 603, 604, 605, 429, 430, 431, 432, 433, 434, 435, 436, 437, 422, 423, 424, 438, 442, 443, 444, 445, 446, 447, 448, 449, 450, 451, 452, 453, 454, 321, 322, 323, 455, 456, 457, 458, 799, 800, 801, 802, 48, 803, 804, 805, 806, 579, 130, 131, 132, 133, 1044, 1045, 1046, 1047, 1048, 1049, 1050, 1051, 1052, 1053, 1054, 1088, 1089, 1090, 1091, 1092, 1093, 1094, 1095, 1096, 1097, 1098, 1099, 1100, 1079, 1080, 1081] (by decide +kernel) (by decide +kernel)
set_option maxRecDepth 20000 in
theorem gL_law_X7_who : GoodIn wsL_law (wsV RL 118 RX7 yX7_who wsX7_who) := goodIn_app (goodIn_of _ (by decide +kernel)) ggL_law_X7_who
set_option maxRecDepth 20000 in
theorem ggL_law_X7_gusts : GoodIn wsL_law wsX7_gusts := goodIn_r _ [827, 23, 113, 509, 510, 511, 22, 512, 265, 522, 523, 524, 525, 266, 782, 783, 2, 784, 114, 115, 14, 116, 785, 786, 787, 788, 395, 15, 527, 439, 440, 441, 68, 161, 162, 163, 164, 165, 166, 167, 168, 49, 169, 170, 171, 172, 50, 120, 121, 122, 123, 124, 125, 828, 829, 830, 831, 29, 581, 324, 325, 326, 327, 259, 260, 261, 262, 263, 264, 64, 328, 197, 198, 199, 65, 66, 67, 794, 795, 796, 797, 798, 602, 603, 604, 605, 429, 430, 431, 432, 433, 434, 435, 436, 437, 422, 423, 424, 438, 442, 443, 444, 445, 446, 447, 448, 449, 450, 451, 452, 453, 454, 321, 322, 323, 455, 456, 457, 458, 799, 800, 801, 802, 48, 832, 833, 834, 835, 508, 130, 131, 132, 133, 1044, 1045, 1046, 1047, 1048, 1049, 1050, 1051, 1052, 1053, 1054, 1088, 1089, 1090, 1091, 1092, 1093, 1094, 1095, 1096, 1097, 1098, 1099, 1100, 1079, 1080, 1081] (by decide +kernel) (by decide +kernel)
set_option maxRecDepth 20000 in
theorem gL_law_X7_gusts : GoodIn wsL_law (wsV RL 122 RX7 yX7_gusts wsX7_gusts) := goodIn_app (goodIn_of _ (by decide +kernel)) ggL_law_X7_gusts
set_option maxRecDepth 20000 in
theorem ggL_law_X7_calm : GoodIn wsL_law wsX7_calm := goodIn_r _ [844, 23, 845, 846, 847, 762, 423, 763, 522, 523, 524, 22, 525, 266, 590, 591, 2, 592, 848, 849, 850, 851, 852, 853, 854, 855, 29, 508, 643, 324, 325, 326, 327, 259, 260, 261, 262, 263, 264, 265, 64, 328, 197, 198, 199, 65, 66, 67, 68, 602, 603, 604, 605, 429, 430, 431, 432, 433, 434, 435, 436, 437, 422, 424, 438, 439, 440, 441, 442, 443, 444, 445, 446, 447, 448, 449, 450, 451, 452, 453, 454, 321, 322, 323, 455, 456, 457, 458, 856, 857, 858, 1044, 1045, 1046, 1047, 1048, 1049, 1050, 1051, 1052, 1053, 1054, 1088, 1089, 1090, 1091, 1092, 1093, 1094, 1095, 1096, 1097, 1098, 1099, 1100] (by decide +kernel) (by decide +kernel)
set_option maxRecDepth 20000 in
theorem gL_law_X7_calm : GoodIn wsL_law (wsV RL 126 RX7 yX7_calm wsX7_calm) := goodIn_app (goodIn_of _ (by decide +kernel)) ggL_law_X7_calm
set_option maxRecDepth 20000 in
theorem ggL_law_X7_drawn : GoodIn wsL_law wsX7_drawn := goodIn_r _ [868, 23, 395, 869, 113, 29, 870, 871, 412, 413, 414, 415, 22, 416, 259, 590, 591, 2, 592, 324, 325, 326, 327, 260, 261, 262, 263, 264, 265, 266, 64, 328, 197, 198, 199, 65, 66, 67, 68, 872, 873, 874, 875, 876, 877, 878, 879, 438, 439, 440, 441, 454, 321, 322, 323, 425, 426, 427, 428, 429, 430, 431, 432, 433, 434, 435, 436, 437, 422, 423, 424, 442, 443, 444, 445, 446, 447, 448, 449, 450, 451, 452, 453, 455, 456, 457, 458, 529, 530, 531, 532, 880, 881, 882, 883, 884, 885, 886, 1044, 1045, 1046, 1047, 1048, 1049, 1050, 1051, 1052, 1053, 1054, 1088, 1089, 1090, 1091, 1092, 1093, 1094, 1095, 1096, 1097, 1098, 1099, 1100] (by decide +kernel) (by decide +kernel)
set_option maxRecDepth 20000 in
theorem gL_law_X7_drawn : GoodIn wsL_law (wsV RL 131 RX7 yX7_drawn wsX7_drawn) := goodIn_app (goodIn_of _ (by decide +kernel)) ggL_law_X7_drawn
set_option maxRecDepth 20000 in
theorem ggL_law_X7_image : GoodIn wsL_law wsX7_image := goodIn_r _ [903, 28, 113, 23, 395, 413, 414, 415, 22, 416, 259, 324, 325, 326, 327, 260, 261, 262, 263, 264, 265, 266, 64, 328, 197, 198, 199, 65, 66, 67, 68, 1044, 1045, 1046, 1047, 1048, 1049, 1050, 1051, 1052, 1053, 1054, 1088, 1089, 1090, 1091, 1092, 1093, 1094, 1095, 1096, 1097, 1098, 1099, 1100] (by decide +kernel) (by decide +kernel)
set_option maxRecDepth 20000 in
theorem gL_law_X7_image : GoodIn wsL_law (wsV RL 135 RX7 yX7_image wsX7_image) := goodIn_app (goodIn_of _ (by decide +kernel)) ggL_law_X7_image
set_option maxRecDepth 20000 in
theorem ggL_law_X7_restore : GoodIn wsL_law wsX7_restore := goodIn_r _ [911, 28, 113, 395, 23, 27, 413, 414, 415, 22, 416, 259, 324, 325, 326, 327, 260, 261, 262, 263, 264, 265, 266, 64, 328, 197, 198, 199, 65, 66, 67, 68, 329, 330, 331, 26, 332, 333, 1044, 1045, 1046, 1047, 1048, 1049, 1050, 1051, 1052, 1053, 1054, 1088, 1089, 1090, 1091, 1092, 1093, 1094, 1095, 1096, 1097, 1098, 1099, 1100, 1101, 1102, 1103] (by decide +kernel) (by decide +kernel)
set_option maxRecDepth 20000 in
theorem gL_law_X7_restore : GoodIn wsL_law (wsV RL 139 RX7 yX7_restore wsX7_restore) := goodIn_app (goodIn_of _ (by decide +kernel)) ggL_law_X7_restore
set_option maxRecDepth 20000 in
theorem ggL_law_X7_kind : GoodIn wsL_law wsX7_kind := goodIn_r _ [919, 23, 793, 113, 522, 523, 524, 22, 525, 266, 1044, 1045, 1046, 1047, 1048, 1049, 1050, 1051, 1052, 1053, 1054, 1088, 1089, 1090, 1091, 1092, 1093, 1094, 1095, 1096, 1097, 1098, 1099, 1100] (by decide +kernel) (by decide +kernel)
set_option maxRecDepth 20000 in
theorem gL_law_X7_kind : GoodIn wsL_law (wsV RL 143 RX7 yX7_kind wsX7_kind) := goodIn_app (goodIn_of _ (by decide +kernel)) ggL_law_X7_kind
set_option maxRecDepth 20000 in
theorem ggL_law_X7_as : GoodIn wsL_law wsX7_as := goodIn_r _ [927, 23, 113, 793, 522, 523, 524, 22, 525, 266, 928, 929, 2, 930, 931, 130, 131, 132, 133, 124, 120, 121, 122, 123, 125, 1044, 1045, 1046, 1047, 1048, 1049, 1050, 1051, 1052, 1053, 1054, 1088, 1089, 1090, 1091, 1092, 1093, 1094, 1095, 1096, 1097, 1098, 1099, 1100] (by decide +kernel) (by decide +kernel)
set_option maxRecDepth 20000 in
theorem gL_law_X7_as : GoodIn wsL_law (wsV RL 147 RX7 yX7_as wsX7_as) := goodIn_app (goodIn_of _ (by decide +kernel)) ggL_law_X7_as
set_option maxRecDepth 20000 in
theorem ggL_law_X7_ask : GoodIn wsL_law wsX7_ask := goodIn_r _ [942, 23, 113, 41, 522, 523, 524, 22, 525, 266, 943, 944, 40, 945, 946, 947, 948, 949, 950, 951, 952, 953, 954, 955, 956, 957, 958, 959, 960, 961, 962, 963, 964, 965, 966, 967, 968, 969, 970, 971, 972, 973, 974, 975, 90, 1044, 1045, 1046, 1047, 1048, 1049, 1050, 1051, 1052, 1053, 1054, 1088, 1089, 1090, 1091, 1092, 1093, 1094, 1095, 1096, 1097, 1098, 1099, 1100, 1113, 1114, 1115, 1116, 1117, 1118] (by decide +kernel) (by decide +kernel)
set_option maxRecDepth 20000 in
theorem gL_law_X7_ask : GoodIn wsL_law (wsV RL 151 RX7 yX7_ask wsX7_ask) := goodIn_app (goodIn_of _ (by decide +kernel)) ggL_law_X7_ask
set_option maxRecDepth 20000 in
theorem ggL_law_X7_trace : GoodIn wsL_law wsX7_trace := goodIn_r _ [1016, 41, 1017, 1018, 644, 1044, 1045, 1046, 1047, 1048, 1049, 1050, 1051, 1052, 1053, 1054, 1113, 1114, 1115, 1116, 1117, 1118] (by decide +kernel) (by decide +kernel)
set_option maxRecDepth 20000 in
theorem gL_law_X7_trace : GoodIn wsL_law (wsV RL 155 RX7 yX7_trace wsX7_trace) := goodIn_app (goodIn_of _ (by decide +kernel)) ggL_law_X7_trace
set_option maxRecDepth 20000 in
theorem ggL_law_X7_count : GoodIn wsL_law wsX7_count := goodIn_r _ [1026, 15, 23, 247, 846, 411, 412, 27, 394, 19, 1027, 113, 1028, 1029, 1030, 14, 1031, 165, 166, 167, 168, 49, 529, 530, 531, 22, 532, 266, 68, 880, 881, 882, 883, 884, 885, 886, 1044, 1045, 1046, 1047, 1048, 1049, 1050, 1051, 1052, 1053, 1054, 1088, 1089, 1090, 1091, 1092, 1093, 1094, 1095, 1096, 1097, 1098, 1099, 1100, 1101, 1102, 1103, 1082, 1083, 1084, 1085, 1086, 1087, 1079, 1080, 1081] (by decide +kernel) (by decide +kernel)
set_option maxRecDepth 20000 in
theorem gL_law_X7_count : GoodIn wsL_law (wsV RL 159 RX7 yX7_count wsX7_count) := goodIn_app (goodIn_of _ (by decide +kernel)) ggL_law_X7_count
set_option maxRecDepth 20000 in
theorem ggL_law_X7_status : GoodIn wsL_law wsX7_status := goodIn_r _ [1039, 124, 1044, 1045, 1046, 1047, 1048, 1049, 1050, 1051, 1052, 1053, 1054] (by decide +kernel) (by decide +kernel)
set_option maxRecDepth 20000 in
theorem gL_law_X7_status : GoodIn wsL_law (wsV RL 163 RX7 yX7_status wsX7_status) := goodIn_app (goodIn_of _ (by decide +kernel)) ggL_law_X7_status
set_option maxRecDepth 20000 in
theorem ggL_law_X7_init : GoodIn wsL_law wsX7_init := goodIn_r _ [8, 9, 10, 11, 12, 13, 14, 15, 16, 17, 18, 19, 20, 21, 22, 23, 24, 25, 26, 27, 28, 29, 30, 31, 32, 33, 34, 35, 36, 37, 38, 39, 40, 41, 42, 43, 44, 45, 46, 47, 48, 49, 50, 51, 52, 53, 54, 55, 56, 57, 58, 59, 60, 61, 62, 63, 64, 65, 66, 67, 68, 69, 70, 71, 72, 73, 74, 75, 76, 77, 78, 79, 80, 81, 82, 83, 84, 85, 86, 87, 88, 89, 90, 1079, 1080, 1081, 1044, 1045, 1046, 1047, 1048, 1049, 1050, 1051, 1052, 1053, 1054, 1082, 1083, 1084, 1085, 1086, 1087, 1088, 1089, 1090, 1091, 1092, 1093, 1094, 1095, 1096, 1097, 1098, 1099, 1100, 1101, 1102, 1103, 1104, 1105, 1106, 1107, 1108, 1109, 1110, 1111, 1112, 1113, 1114, 1115, 1116, 1117, 1118] (by decide +kernel) (by decide +kernel)
set_option maxRecDepth 20000 in
theorem gL_law_X7_init : GoodIn wsL_law (wsX7_init) := ggL_law_X7_init
set_option maxRecDepth 20000 in
theorem ggL_law_X8_row : GoodIn wsL_law wsX8_row := goodIn_r _ [137, 138, 139, 95, 96, 97, 140, 141, 5, 142, 143, 144, 145, 146, 147, 148, 149, 150, 151, 152, 153, 154, 155, 156, 1055, 1056, 1057, 1058, 1059, 1060, 1061, 1062, 1063, 1064, 1065, 1066, 1067, 1068, 1069, 1070, 1071, 1072, 1073, 1074, 1075, 1076, 1077, 1078] (by decide +kernel) (by decide +kernel)
set_option maxRecDepth 20000 in
theorem gL_law_X8_row : GoodIn wsL_law (wsV RL 17 RX8 yX8_row wsX8_row) := goodIn_app (goodIn_of _ (by decide +kernel)) ggL_law_X8_row
set_option maxRecDepth 20000 in
theorem ggL_law_X8_set : GoodIn wsL_law wsX8_set := goodIn_r _ [180, 139, 96, 97, 95, 140, 141, 5, 142, 143, 144, 145, 146, 147, 148, 149, 150, 151, 152, 181, 182, 183, 153, 154, 155, 156, 1055, 1056, 1057, 1058, 1059, 1060, 1061, 1062, 1063, 1064, 1065, 1066, 1067, 1068, 1069, 1070, 1071, 1072, 1073, 1074, 1075, 1076, 1077, 1078] (by decide +kernel) (by decide +kernel)
set_option maxRecDepth 20000 in
theorem gL_law_X8_set : GoodIn wsL_law (wsV RL 21 RX8 yX8_set wsX8_set) := goodIn_app (goodIn_of _ (by decide +kernel)) ggL_law_X8_set
set_option maxRecDepth 20000 in
theorem ggL_law_X8_copy : GoodIn wsL_law wsX8_copy := goodIn_r _ [203, 139, 96, 95, 99, 97, 140, 141, 5, 142, 143, 144, 145, 146, 147, 148, 149, 150, 151, 152, 153, 154, 155, 156, 1055, 1056, 1057, 1058, 1059, 1060, 1061, 1062, 1063, 1064, 1065, 1066, 1067, 1068, 1069, 1070, 1071, 1072, 1073, 1074, 1075, 1076, 1077, 1078] (by decide +kernel) (by decide +kernel)
set_option maxRecDepth 20000 in
theorem gL_law_X8_copy : GoodIn wsL_law (wsV RL 26 RX8 yX8_copy wsX8_copy) := goodIn_app (goodIn_of _ (by decide +kernel)) ggL_law_X8_copy
set_option maxRecDepth 20000 in
theorem ggL_law_X8_drop : GoodIn wsL_law wsX8_drop := goodIn_r _ [216, 139, 96, 140, 141, 5, 142, 143, 144, 145, 146, 147, 148, 149, 150, 151, 152, 153, 154, 155, 156, 1055, 1056, 1057, 1058, 1059, 1060, 1061, 1062, 1063, 1064, 1065, 1066, 1067, 1068, 1069, 1070, 1071, 1072, 1073, 1074, 1075, 1076, 1077, 1078] (by decide +kernel) (by decide +kernel)
set_option maxRecDepth 20000 in
theorem gL_law_X8_drop : GoodIn wsL_law (wsV RL 31 RX8 yX8_drop wsX8_drop) := goodIn_app (goodIn_of _ (by decide +kernel)) ggL_law_X8_drop
set_option maxRecDepth 20000 in
theorem ggL_law_X8_feed : GoodIn wsL_law wsX8_feed := goodIn_r _ [235, 236, 139, 237, 238, 100, 144, 145, 5, 146, 1055, 1056, 1057, 1058, 1059, 1060, 1061, 1062, 1063, 1064, 1065, 1066, 1067, 1068, 1069, 1070, 1071, 1072, 1073, 1074, 1075, 1076, 1077, 1078] (by decide +kernel) (by decide +kernel)
set_option maxRecDepth 20000 in
theorem gL_law_X8_feed : GoodIn wsL_law (wsV RL 35 RX8 yX8_feed wsX8_feed) := goodIn_app (goodIn_of _ (by decide +kernel)) ggL_law_X8_feed
set_option maxRecDepth 20000 in
theorem ggL_law_X8_level : GoodIn wsL_law wsX8_level := goodIn_r _ [337, 237, 338, 339, 340, 341, 98, 101, 342, 343, 344, 345, 346, 5, 347, 348, 349, 350, 351, 352, 353, 354, 100, 355, 356, 357, 358, 144, 145, 146, 359, 360, 361, 362, 363, 364, 365, 366, 367, 368, 369, 370, 371, 372, 373, 374, 375, 376, 377, 378, 379, 380, 381, 1055, 1056, 1057, 1058, 1059, 1060, 1061, 1062, 1063, 1064, 1065, 1066, 1067, 1068, 1069, 1070, 1071, 1072, 1073, 1074, 1075, 1076, 1077, 1078] (by decide +kernel) (by decide +kernel)
set_option maxRecDepth 20000 in
theorem gL_law_X8_level : GoodIn wsL_law (wsV RL 40 RX8 yX8_level wsX8_level) := goodIn_app (goodIn_of _ (by decide +kernel)) ggL_law_X8_level
set_option maxRecDepth 20000 in
theorem ggL_law_X8_fault : GoodIn wsL_law wsX8_fault := goodIn_r _ [389, 339, 1055, 1056, 1057, 1058, 1059, 1060, 1061, 1062, 1063, 1064, 1065, 1066, 1067, 1068, 1069, 1070, 1071, 1072, 1073, 1074, 1075, 1076, 1077, 1078] (by decide +kernel) (by decide +kernel)
set_option maxRecDepth 20000 in
theorem gL_law_X8_fault : GoodIn wsL_law (wsV RL 44 RX8 yX8_fault wsX8_fault) := goodIn_app (goodIn_of _ (by decide +kernel)) ggL_law_X8_fault
set_option maxRecDepth 20000 in
theorem ggL_law_X8_undo : GoodIn wsL_law wsX8_undo := goodIn_r _ [405, 343, 406, 98, 102, 1055, 1056, 1057, 1058, 1059, 1060, 1061, 1062, 1063, 1064, 1065, 1066, 1067, 1068, 1069, 1070, 1071, 1072, 1073, 1074, 1075, 1076, 1077, 1078] (by decide +kernel) (by decide +kernel)
set_option maxRecDepth 20000 in
theorem gL_law_X8_undo : GoodIn wsL_law (wsV RL 48 RX8 yX8_undo wsX8_undo) := goodIn_app (goodIn_of _ (by decide +kernel)) ggL_law_X8_undo
set_option maxRecDepth 20000 in
theorem ggL_law_X8_hours : GoodIn wsL_law wsX8_hours := goodIn_r _ [462, 342, 406, 463, 139, 98, 238, 144, 145, 5, 146, 464, 465, 466, 467, 343, 102, 468, 469, 470, 471, 472, 473, 474, 475, 476, 477, 478, 479, 480, 481, 482, 483, 484, 485, 486, 487, 488, 489, 490, 1055, 1056, 1057, 1058, 1059, 1060, 1061, 1062, 1063, 1064, 1065, 1066, 1067, 1068, 1069, 1070, 1071, 1072, 1073, 1074, 1075, 1076, 1077, 1078] (by decide +kernel) (by decide +kernel)
set_option maxRecDepth 20000 in
theorem gL_law_X8_hours : GoodIn wsL_law (wsV RL 52 RX8 yX8_hours wsX8_hours) := goodIn_app (goodIn_of _ (by decide +kernel)) ggL_law_X8_hours
set_option maxRecDepth 20000 in
theorem ggL_law_X8_cap : GoodIn wsL_law wsX8_cap := goodIn_r _ [503, 342, 406, 98, 464, 465, 466, 5, 467, 343, 102, 1055, 1056, 1057, 1058, 1059, 1060, 1061, 1062, 1063, 1064, 1065, 1066, 1067, 1068, 1069, 1070, 1071, 1072, 1073, 1074, 1075, 1076, 1077, 1078] (by decide +kernel) (by decide +kernel)
set_option maxRecDepth 20000 in
theorem gL_law_X8_cap : GoodIn wsL_law (wsV RL 56 RX8 yX8_cap wsX8_cap) := goodIn_app (goodIn_of _ (by decide +kernel)) ggL_law_X8_cap
set_option maxRecDepth 20000 in
theorem ggL_law_X8_wind : GoodIn wsL_law wsX8_wind := goodIn_r _ [516, 98, 517, 139, 144, 145, 5, 146, 464, 465, 466, 467, 343, 102, 1055, 1056, 1057, 1058, 1059, 1060, 1061, 1062, 1063, 1064, 1065, 1066, 1067, 1068, 1069, 1070, 1071, 1072, 1073, 1074, 1075, 1076, 1077, 1078] (by decide +kernel) (by decide +kernel)
set_option maxRecDepth 20000 in
theorem gL_law_X8_wind : GoodIn wsL_law (wsV RL 61 RX8 yX8_wind wsX8_wind) := goodIn_app (goodIn_of _ (by decide +kernel)) ggL_law_X8_wind
set_option maxRecDepth 20000 in
theorem ggL_law_X8_loose : GoodIn wsL_law wsX8_loose := goodIn_r _ [536, 537, 139, 98, 406, 538, 539, 540, 5, 541, 144, 145, 146, 483, 484, 485, 486, 464, 465, 466, 467, 343, 102, 542, 543, 544, 545, 546, 547, 548, 549, 1055, 1056, 1057, 1058, 1059, 1060, 1061, 1062, 1063, 1064, 1065, 1066, 1067, 1068, 1069, 1070, 1071, 1072, 1073, 1074, 1075, 1076, 1077, 1078] (by decide +kernel) (by decide +kernel)
set_option maxRecDepth 20000 in
theorem gL_law_X8_loose : GoodIn wsL_law (wsV RL 65 RX8 yX8_loose wsX8_loose) := goodIn_app (goodIn_of _ (by decide +kernel)) ggL_law_X8_loose
set_option maxRecDepth 20000 in
theorem ggL_law_X8_sell : GoodIn wsL_law wsX8_sell := goodIn_r _ [557, 342, 406, 558, 139, 98, 144, 145, 5, 146, 464, 465, 466, 467, 343, 102, 1055, 1056, 1057, 1058, 1059, 1060, 1061, 1062, 1063, 1064, 1065, 1066, 1067, 1068, 1069, 1070, 1071, 1072, 1073, 1074, 1075, 1076, 1077, 1078] (by decide +kernel) (by decide +kernel)
set_option maxRecDepth 20000 in
theorem gL_law_X8_sell : GoodIn wsL_law (wsV RL 69 RX8 yX8_sell wsX8_sell) := goodIn_app (goodIn_of _ (by decide +kernel)) ggL_law_X8_sell
set_option maxRecDepth 20000 in
theorem ggL_law_X8_sound : GoodIn wsL_law wsX8_sound := goodIn_r _ [573, 139, 98, 574, 538, 539, 540, 5, 541, 144, 145, 146, 472, 473, 474, 475, 480, 481, 482, 1055, 1056, 1057, 1058, 1059, 1060, 1061, 1062, 1063, 1064, 1065, 1066, 1067, 1068, 1069, 1070, 1071, 1072, 1073, 1074, 1075, 1076, 1077, 1078] (by decide +kernel) (by decide +kernel)
set_option maxRecDepth 20000 in
theorem gL_law_X8_sound : GoodIn wsL_law (wsV RL 73 RX8 yX8_sound wsX8_sound) := goodIn_app (goodIn_of _ (by decide +kernel)) ggL_law_X8_sound
set_option maxRecDepth 20000 in
theorem ggL_law_X8_stand : GoodIn wsL_law wsX8_stand := goodIn_r _ [585, 342, 406, 98, 139, 546, 547, 548, 5, 549, 1055, 1056, 1057, 1058, 1059, 1060, 1061, 1062, 1063, 1064, 1065, 1066, 1067, 1068, 1069, 1070, 1071, 1072, 1073, 1074, 1075, 1076, 1077, 1078] (by decide +kernel) (by decide +kernel)
set_option maxRecDepth 20000 in
theorem gL_law_X8_stand : GoodIn wsL_law (wsV RL 77 RX8 yX8_stand wsX8_stand) := goodIn_app (goodIn_of _ (by decide +kernel)) ggL_law_X8_stand
set_option maxRecDepth 20000 in
theorem ggL_law_X8_gust : GoodIn wsL_law wsX8_gust := goodIn_r _ [596, 342, 406, 597, 98, 139, 144, 145, 5, 146, 472, 473, 474, 475, 1055, 1056, 1057, 1058, 1059, 1060, 1061, 1062, 1063, 1064, 1065, 1066, 1067, 1068, 1069, 1070, 1071, 1072, 1073, 1074, 1075, 1076, 1077, 1078] (by decide +kernel) (by decide +kernel)
set_option maxRecDepth 20000 in
theorem gL_law_X8_gust : GoodIn wsL_law (wsV RL 81 RX8 yX8_gust wsX8_gust) := goodIn_app (goodIn_of _ (by decide +kernel)) ggL_law_X8_gust
set_option maxRecDepth 20000 in
theorem ggL_law_X8_ahead : GoodIn wsL_law wsX8_ahead := goodIn_r _ [609, 597, 138, 139, 98, 574, 538, 539, 540, 5, 541, 144, 145, 146, 610, 611, 612, 613, 103, 614, 615, 616, 617, 468, 469, 470, 471, 472, 473, 474, 475, 476, 477, 478, 479, 480, 481, 482, 483, 484, 485, 486, 487, 488, 489, 490, 618, 619, 620, 621, 1055, 1056, 1057, 1058, 1059, 1060, 1061, 1062, 1063, 1064, 1065, 1066, 1067, 1068, 1069, 1070, 1071, 1072, 1073, 1074, 1075, 1076, 1077, 1078] (by decide +kernel) (by decide +kernel)
set_option maxRecDepth 20000 in
theorem gL_law_X8_ahead : GoodIn wsL_law (wsV RL 85 RX8 yX8_ahead wsX8_ahead) := goodIn_app (goodIn_of _ (by decide +kernel)) ggL_law_X8_ahead
set_option maxRecDepth 20000 in
theorem ggL_law_X8_meal : GoodIn wsL_law wsX8_meal := goodIn_r _ [634, 342, 406, 597, 139, 144, 145, 5, 146, 610, 611, 612, 613, 103, 98, 635, 636, 637, 638, 614, 615, 616, 617, 468, 469, 470, 471, 472, 473, 474, 475, 476, 477, 478, 479, 480, 481, 482, 483, 484, 485, 486, 487, 488, 489, 490, 618, 619, 620, 621, 1055, 1056, 1057, 1058, 1059, 1060, 1061, 1062, 1063, 1064, 1065, 1066, 1067, 1068, 1069, 1070, 1071, 1072, 1073, 1074, 1075, 1076, 1077, 1078] (by decide +kernel) (by decide +kernel)
set_option maxRecDepth 20000 in
theorem gL_law_X8_meal : GoodIn wsL_law (wsV RL 89 RX8 yX8_meal wsX8_meal) := goodIn_app (goodIn_of _ (by decide +kernel)) ggL_law_X8_meal
set_option maxRecDepth 20000 in
theorem ggL_law_X8_when : GoodIn wsL_law wsX8_when := goodIn_r _ [648, 138, 139, 98, 574, 538, 539, 540, 5, 541, 144, 145, 146, 610, 611, 612, 613, 103, 468, 469, 470, 471, 472, 473, 474, 475, 476, 477, 478, 479, 480, 481, 482, 483, 484, 485, 486, 487, 488, 489, 490, 618, 619, 620, 621, 1055, 1056, 1057, 1058, 1059, 1060, 1061, 1062, 1063, 1064, 1065, 1066, 1067, 1068, 1069, 1070, 1071, 1072, 1073, 1074, 1075, 1076, 1077, 1078] (by decide +kernel) (by decide +kernel)
set_option maxRecDepth 20000 in
theorem gL_law_X8_when : GoodIn wsL_law (wsV RL 93 RX8 yX8_when wsX8_when) := goodIn_app (goodIn_of _ (by decide +kernel)) ggL_law_X8_when
set_option maxRecDepth 20000 in
theorem ggL_law_X8_caps : GoodIn wsL_law wsX8_caps := goodIn_r _ [691, 342, 406, 692, 139, 98, 574, 144, 145, 5, 146, 610, 611, 612, 613, 103, 693, 694, 695, 696, 468, 469, 470, 471, 472, 473, 474, 475, 476, 477, 478, 479, 480, 481, 482, 483, 484, 485, 486, 487, 488, 489, 490, 618, 619, 620, 621, 1055, 1056, 1057, 1058, 1059, 1060, 1061, 1062, 1063, 1064, 1065, 1066, 1067, 1068, 1069, 1070, 1071, 1072, 1073, 1074, 1075, 1076, 1077, 1078] (by decide +kernel) (by decide +kernel)
set_option maxRecDepth 20000 in
theorem gL_law_X8_caps : GoodIn wsL_law (wsV RL 97 RX8 yX8_caps wsX8_caps) := goodIn_app (goodIn_of _ (by decide +kernel)) ggL_law_X8_caps
set_option maxRecDepth 20000 in
theorem ggL_law_X8_had : GoodIn wsL_law wsX8_had := goodIn_r _ [704, 342, 406, 98, 692, 139, 574, 144, 145, 5, 146, 610, 611, 612, 613, 103, 693, 694, 695, 696, 468, 469, 470, 471, 472, 473, 474, 475, 476, 477, 478, 479, 480, 481, 482, 483, 484, 485, 486, 487, 488, 489, 490, 546, 547, 548, 549, 618, 619, 620, 621, 1055, 1056, 1057, 1058, 1059, 1060, 1061, 1062, 1063, 1064, 1065, 1066, 1067, 1068, 1069, 1070, 1071, 1072, 1073, 1074, 1075, 1076, 1077, 1078] (by decide +kernel) (by decide +kernel)
set_option maxRecDepth 20000 in
theorem gL_law_X8_had : GoodIn wsL_law (wsV RL 101 RX8 yX8_had wsX8_had) := goodIn_app (goodIn_of _ (by decide +kernel)) ggL_law_X8_had
set_option maxRecDepth 20000 in
theorem ggL_law_X8_site : GoodIn wsL_law wsX8_site := goodIn_r _ [712, 342, 406, 713, 139, 103, 98, 144, 145, 5, 146, 714, 715, 716, 610, 611, 612, 613, 635, 636, 637, 638, 614, 615, 616, 617, 468, 469, 470, 471, 472, 473, 474, 475, 476, 477, 478, 479, 480, 481, 482, 483, 484, 485, 486, 487, 488, 489, 490, 618, 619, 620, 621, 1055, 1056, 1057, 1058, 1059, 1060, 1061, 1062, 1063, 1064, 1065, 1066, 1067, 1068, 1069, 1070, 1071, 1072, 1073, 1074, 1075, 1076, 1077, 1078] (by decide +kernel) (by decide +kernel)
set_option maxRecDepth 20000 in
theorem gL_law_X8_site : GoodIn wsL_law (wsV RL 105 RX8 yX8_site wsX8_site) := goodIn_app (goodIn_of _ (by decide +kernel)) ggL_law_X8_site
set_option maxRecDepth 20000 in
theorem ggL_law_X8_sack : GoodIn wsL_law wsX8_sack := goodIn_r _ [728, 342, 406, 729, 138, 139, 144, 145, 5, 146, 546, 547, 548, 549, 98, 730, 731, 732, 733, 734, 735, 736, 1055, 1056, 1057, 1058, 1059, 1060, 1061, 1062, 1063, 1064, 1065, 1066, 1067, 1068, 1069, 1070, 1071, 1072, 1073, 1074, 1075, 1076, 1077, 1078] (by decide +kernel) (by decide +kernel)
set_option maxRecDepth 20000 in
theorem gL_law_X8_sack : GoodIn wsL_law (wsV RL 109 RX8 yX8_sack wsX8_sack) := goodIn_app (goodIn_of _ (by decide +kernel)) ggL_law_X8_sack
set_option maxRecDepth 20000 in
theorem ggL_law_X8_share : GoodIn wsL_law wsX8_share := goodIn_r _ [745, 558, 139, 98, 538, 539, 540, 5, 541, 144, 145, 146, 546, 547, 548, 549, 734, 735, 736, 730, 731, 732, 733, 1055, 1056, 1057, 1058, 1059, 1060, 1061, 1062, 1063, 1064, 1065, 1066, 1067, 1068, 1069, 1070, 1071, 1072, 1073, 1074, 1075, 1076, 1077, 1078] (by decide +kernel) (by decide +kernel)
set_option maxRecDepth 20000 in
theorem gL_law_X8_share : GoodIn wsL_law (wsV RL 113 RX8 yX8_share wsX8_share) := goodIn_app (goodIn_of _ (by decide +kernel)) ggL_law_X8_share
set_option maxRecDepth 20000 in
theorem ggL_law_X8_byTurns : GoodIn wsL_law wsX8_byTurns := goodIn_r _ [777, 342, 406, 517, 537, 139, 98, 104, 144, 145, 5, 146, 610, 611, 612, 613, 103, 734, 735, 736, 635, 636, 637, 638, 614, 615, 616, 617, 468, 469, 470, 471, 472, 473, 474, 475, 476, 477, 478, 479, 480, 481, 482, 483, 484, 485, 486, 487, 488, 489, 490, 618, 619, 620, 621, 1055, 1056, 1057, 1058, 1059, 1060, 1061, 1062, 1063, 1064, 1065, 1066, 1067, 1068, 1069, 1070, 1071, 1072, 1073, 1074, 1075, 1076, 1077, 1078] (by decide +kernel) (by decide +kernel)
set_option maxRecDepth 20000 in
theorem gL_law_X8_byTurns : GoodIn wsL_law (wsV RL 117 RX8 yX8_byTurns wsX8_byTurns) := goodIn_app (goodIn_of _ (by decide +kernel)) ggL_law_X8_byTurns
set_option maxRecDepth 20000 in
theorem ggL_law_X8_who : GoodIn wsL_law wsX8_who := goodIn_r _ [810, 811, 139, 98, 406, 538, 539, 540, 5, 541, 144, 145, 146, 714, 715, 716, 140, 141, 142, 143, 812, 813, 814, 815, 96, 147, 148, 149, 150, 151, 152, 816, 817, 818, 819, 610, 611, 612, 613, 103, 820, 821, 822, 823, 97, 468, 469, 470, 471, 472, 473, 474, 475, 476, 477, 478, 479, 480, 481, 482, 483, 484, 485, 486, 487, 488, 489, 490, 618, 619, 620, 621, 153, 154, 155, 156, 1055, 1056, 1057, 1058, 1059, 1060, 1061, 1062, 1063, 1064, 1065, 1066, 1067, 1068, 1069, 1070, 1071, 1072, 1073, 1074, 1075, 1076, 1077, 1078] (by decide +kernel) (by decide +kernel)
set_option maxRecDepth 20000 in
theorem gL_law_X8_who : GoodIn wsL_law (wsV RL 121 RX8 yX8_who wsX8_who) := goodIn_app (goodIn_of _ (by decide +kernel)) ggL_law_X8_who
set_option maxRecDepth 20000 in
theorem ggL_law_X8_gusts : GoodIn wsL_law wsX8_gusts := goodIn_r _ [839, 840, 98, 811, 139, 406, 144, 145, 5, 146, 538, 539, 540, 541, 140, 141, 142, 143, 812, 813, 814, 815, 96, 147, 148, 149, 150, 151, 152, 816, 817, 818, 819, 610, 611, 612, 613, 103, 820, 821, 822, 823, 97, 468, 469, 470, 471, 472, 473, 474, 475, 476, 477, 478, 479, 480, 481, 482, 483, 484, 485, 486, 487, 488, 489, 490, 618, 619, 620, 621, 153, 154, 155, 156, 1055, 1056, 1057, 1058, 1059, 1060, 1061, 1062, 1063, 1064, 1065, 1066, 1067, 1068, 1069, 1070, 1071, 1072, 1073, 1074, 1075, 1076, 1077, 1078] (by decide +kernel) (by decide +kernel)
set_option maxRecDepth 20000 in
theorem gL_law_X8_gusts : GoodIn wsL_law (wsV RL 125 RX8 yX8_gusts wsX8_gusts) := goodIn_app (goodIn_of _ (by decide +kernel)) ggL_law_X8_gusts
set_option maxRecDepth 20000 in
theorem ggL_law_X8_calm : GoodIn wsL_law wsX8_calm := goodIn_r _ [862, 597, 863, 864, 98, 103, 538, 539, 540, 5, 541, 144, 145, 146, 714, 715, 716, 610, 611, 612, 613, 734, 735, 736, 614, 615, 616, 617, 468, 469, 470, 471, 472, 473, 474, 475, 476, 477, 478, 479, 480, 481, 482, 483, 484, 485, 486, 487, 488, 489, 490, 618, 619, 620, 621, 1055, 1056, 1057, 1058, 1059, 1060, 1061, 1062, 1063, 1064, 1065, 1066, 1067, 1068, 1069, 1070, 1071, 1072, 1073, 1074, 1075, 1076, 1077, 1078] (by decide +kernel) (by decide +kernel)
set_option maxRecDepth 20000 in
theorem gL_law_X8_calm : GoodIn wsL_law (wsV RL 130 RX8 yX8_calm wsX8_calm) := goodIn_app (goodIn_of _ (by decide +kernel)) ggL_law_X8_calm
set_option maxRecDepth 20000 in
theorem ggL_law_X8_drawn : GoodIn wsL_law wsX8_drawn := goodIn_r _ [890, 342, 406, 597, 891, 139, 892, 893, 894, 98, 895, 138, 896, 144, 145, 5, 146, 714, 715, 716, 610, 611, 612, 613, 103, 542, 543, 544, 545, 468, 469, 470, 471, 472, 473, 474, 475, 476, 477, 478, 479, 480, 481, 482, 483, 484, 485, 486, 487, 488, 489, 490, 546, 547, 548, 549, 897, 898, 899, 618, 619, 620, 621, 1055, 1056, 1057, 1058, 1059, 1060, 1061, 1062, 1063, 1064, 1065, 1066, 1067, 1068, 1069, 1070, 1071, 1072, 1073, 1074, 1075, 1076, 1077, 1078] (by decide +kernel) (by decide +kernel)
set_option maxRecDepth 20000 in
theorem gL_law_X8_drawn : GoodIn wsL_law (wsV RL 134 RX8 yX8_drawn wsX8_drawn) := goodIn_app (goodIn_of _ (by decide +kernel)) ggL_law_X8_drawn
set_option maxRecDepth 20000 in
theorem ggL_law_X8_image : GoodIn wsL_law wsX8_image := goodIn_r _ [907, 139, 342, 406, 107, 98, 106, 144, 145, 5, 146, 1055, 1056, 1057, 1058, 1059, 1060, 1061, 1062, 1063, 1064, 1065, 1066, 1067, 1068, 1069, 1070, 1071, 1072, 1073, 1074, 1075, 1076, 1077, 1078] (by decide +kernel) (by decide +kernel)
set_option maxRecDepth 20000 in
theorem gL_law_X8_image : GoodIn wsL_law (wsV RL 138 RX8 yX8_image wsX8_image) := goodIn_app (goodIn_of _ (by decide +kernel)) ggL_law_X8_image
set_option maxRecDepth 20000 in
theorem ggL_law_X8_restore : GoodIn wsL_law wsX8_restore := goodIn_r _ [915, 139, 106, 406, 98, 107, 343, 144, 145, 5, 146, 1055, 1056, 1057, 1058, 1059, 1060, 1061, 1062, 1063, 1064, 1065, 1066, 1067, 1068, 1069, 1070, 1071, 1072, 1073, 1074, 1075, 1076, 1077, 1078] (by decide +kernel) (by decide +kernel)
set_option maxRecDepth 20000 in
theorem gL_law_X8_restore : GoodIn wsL_law (wsV RL 142 RX8 yX8_restore wsX8_restore) := goodIn_app (goodIn_of _ (by decide +kernel)) ggL_law_X8_restore
set_option maxRecDepth 20000 in
theorem ggL_law_X8_kind : GoodIn wsL_law wsX8_kind := goodIn_r _ [923, 98, 139, 538, 539, 540, 5, 541, 144, 145, 146, 1055, 1056, 1057, 1058, 1059, 1060, 1061, 1062, 1063, 1064, 1065, 1066, 1067, 1068, 1069, 1070, 1071, 1072, 1073, 1074, 1075, 1076, 1077, 1078] (by decide +kernel) (by decide +kernel)
set_option maxRecDepth 20000 in
theorem gL_law_X8_kind : GoodIn wsL_law (wsV RL 146 RX8 yX8_kind wsX8_kind) := goodIn_app (goodIn_of _ (by decide +kernel)) ggL_law_X8_kind
set_option maxRecDepth 20000 in
theorem ggL_law_X8_as : GoodIn wsL_law wsX8_as := goodIn_r _ [935, 895, 139, 98, 538, 539, 540, 5, 541, 144, 145, 146, 936, 937, 938, 153, 154, 155, 156, 151, 147, 148, 149, 150, 152, 1055, 1056, 1057, 1058, 1059, 1060, 1061, 1062, 1063, 1064, 1065, 1066, 1067, 1068, 1069, 1070, 1071, 1072, 1073, 1074, 1075, 1076, 1077, 1078] (by decide +kernel) (by decide +kernel)
set_option maxRecDepth 20000 in
theorem gL_law_X8_as : GoodIn wsL_law (wsV RL 150 RX8 yX8_as wsX8_as) := goodIn_app (goodIn_of _ (by decide +kernel)) ggL_law_X8_as
set_option maxRecDepth 20000 in
theorem ggL_law_X8_ask : GoodIn wsL_law wsX8_ask := goodIn_r _ [979, 139, 980, 538, 539, 540, 5, 541, 98, 144, 145, 146, 981, 982, 983, 984, 985, 986, 987, 988, 108, 989, 990, 991, 992, 993, 994, 995, 996, 997, 998, 999, 1000, 1001, 1002, 1003, 1004, 1005, 1006, 1007, 1008, 1009, 1010, 1011, 1012, 1055, 1056, 1057, 1058, 1059, 1060, 1061, 1062, 1063, 1064, 1065, 1066, 1067, 1068, 1069, 1070, 1071, 1072, 1073, 1074, 1075, 1076, 1077, 1078] (by decide +kernel) (by decide +kernel)
set_option maxRecDepth 20000 in
theorem gL_law_X8_ask : GoodIn wsL_law (wsV RL 154 RX8 yX8_ask wsX8_ask) := goodIn_app (goodIn_of _ (by decide +kernel)) ggL_law_X8_ask
set_option maxRecDepth 20000 in
theorem ggL_law_X8_trace : GoodIn wsL_law wsX8_trace := goodIn_r _ [1022, 980, 108, 574, 144, 145, 5, 146, 1055, 1056, 1057, 1058, 1059, 1060, 1061, 1062, 1063, 1064, 1065, 1066, 1067, 1068, 1069, 1070, 1071, 1072, 1073, 1074, 1075, 1076, 1077, 1078] (by decide +kernel) (by decide +kernel)
set_option maxRecDepth 20000 in
theorem gL_law_X8_trace : GoodIn wsL_law (wsV RL 158 RX8 yX8_trace wsX8_trace) := goodIn_app (goodIn_of _ (by decide +kernel)) ggL_law_X8_trace
set_option maxRecDepth 20000 in
theorem ggL_law_X8_count : GoodIn wsL_law wsX8_count := goodIn_r _ [1035, 96, 98, 343, 237, 139, 546, 547, 548, 5, 549, 897, 898, 899, 1055, 1056, 1057, 1058, 1059, 1060, 1061, 1062, 1063, 1064, 1065, 1066, 1067, 1068, 1069, 1070, 1071, 1072, 1073, 1074, 1075, 1076, 1077, 1078] (by decide +kernel) (by decide +kernel)
set_option maxRecDepth 20000 in
theorem gL_law_X8_count : GoodIn wsL_law (wsV RL 162 RX8 yX8_count wsX8_count) := goodIn_app (goodIn_of _ (by decide +kernel)) ggL_law_X8_count
set_option maxRecDepth 20000 in
theorem ggL_law_X8_status : GoodIn wsL_law wsX8_status := goodIn_r _ [1043, 151, 1055, 1056, 1057, 1058, 1059, 1060, 1061, 1062, 1063, 1064, 1065, 1066, 1067, 1068, 1069, 1070, 1071, 1072, 1073, 1074, 1075, 1076, 1077, 1078] (by decide +kernel) (by decide +kernel)
set_option maxRecDepth 20000 in
theorem gL_law_X8_status : GoodIn wsL_law (wsV RL 166 RX8 yX8_status wsX8_status) := goodIn_app (goodIn_of _ (by decide +kernel)) ggL_law_X8_status
set_option maxRecDepth 20000 in
theorem ggL_law_X8_init : GoodIn wsL_law wsX8_init := goodIn_r _ [93, 94, 10, 11, 47, 95, 96, 97, 98, 99, 100, 101, 102, 103, 104, 105, 106, 107, 108, 1055, 1056, 1057, 1058, 1059, 1060, 1061, 1062, 1063, 1064, 1065, 1066, 1067, 1068, 1069, 1070, 1071, 1072, 1073, 1074, 1075, 1076, 1077, 1078] (by decide +kernel) (by decide +kernel)
set_option maxRecDepth 20000 in
theorem gL_law_X8_init : GoodIn wsL_law (wsX8_init) := ggL_law_X8_init

