theorem bd_2 {b : Int32} (h : b < 0 ∨ 2 < b) : b.toInt64 < 0 ∨ 2 < b.toInt64 := lane64.mpr h
theorem bd_n {b : Int32} (h : ¬ (b < 0 ∨ 2 < b)) : ¬ (b.toInt64 < 0 ∨ 2 < b.toInt64) := fun q => h (lane64.mp q)
theorem tl1P {D : va_G} {cl : List vw_C} {a b c : va_W} {H : Heap} (h : va_P D cl (a ++ (b ++ c)) H) : va_P D cl ((a ++ b) ++ c) H := by
  rw [List.append_assoc]; exact h
theorem tl1D {A : Nat → Prop} {a b c : va_W} (h : va_D A (a ++ (b ++ c))) : va_D A ((a ++ b) ++ c) := by
  rw [List.append_assoc]; exact h
theorem tl2P {D : va_G} {cl : List vw_C} {a b c d : va_W} {H : Heap} (h : va_P D cl ((a ++ (b ++ c)) ++ d) H) : va_P D cl ((a ++ b) ++ (c ++ d)) H := by
  rw [← List.append_assoc a b c, List.append_assoc (a ++ b)] at h; exact h
theorem tl2D {A : Nat → Prop} {a b c d : va_W} (h : va_D A ((a ++ (b ++ c)) ++ d)) : va_D A ((a ++ b) ++ (c ++ d)) := by
  rw [← List.append_assoc a b c, List.append_assoc (a ++ b)] at h; exact h
theorem lvs_push {cI : ClassId} {n q : Nat} {ad : Nat → Nat} {bd : Nat → Nat → Nat} {b : Nat → Nat} : lvs cI (n + 1) (va_up ad n q) (va_up bd n b) (fun _ _ => 0) (fun _ _ _ => 0) = lvs cI n ad bd (fun _ _ => 0) (fun _ _ _ => 0) ++ lv6 cI q b (fun _ => 0) (fun _ _ => 0) := by
  unfold lvs
  rw [List.range_succ, List.flatMap_append]
  congr 1
  · apply fm_congr
    intro j hj
    have hne : j ≠ n := fun q => by
      rw [List.mem_range] at hj
      omega
    rw [va_up_ne _ _ hne, va_up_ne _ _ hne]
  · show (lv6 cI (va_up ad n q n) (va_up bd n b n) (fun _ => 0) (fun _ _ => 0)) ++ [] = _
    rw [va_up_self, va_up_self, List.append_nil]
theorem blk_pushP {D : va_G} {cl : List vw_C} {X : va_W} {H : Heap} {cI : ClassId} {n q : Nat} {ad : Nat → Nat} {bd : Nat → Nat → Nat} {b : Nat → Nat} (h : va_P D cl ((X ++ lv6 cI q b (fun _ => 0) (fun _ _ => 0)) ++ lvs cI n ad bd (fun _ _ => 0) (fun _ _ _ => 0)) H) : va_P D cl (X ++ lvs cI (n + 1) (va_up ad n q) (va_up bd n b) (fun _ _ => 0) (fun _ _ _ => 0)) H := by
  rw [lvs_push, ← List.append_assoc]
  exact va_P.swap h
theorem blk_pushD {A : Nat → Prop} {X : va_W} {cI : ClassId} {n q : Nat} {ad : Nat → Nat} {bd : Nat → Nat → Nat} {b : Nat → Nat} (h : va_D A ((X ++ lv6 cI q b (fun _ => 0) (fun _ _ => 0)) ++ lvs cI n ad bd (fun _ _ => 0) (fun _ _ _ => 0))) : va_D A (X ++ lvs cI (n + 1) (va_up ad n q) (va_up bd n b) (fun _ _ => 0) (fun _ _ _ => 0)) := by
  rw [lvs_push, ← List.append_assoc]
  exact va_D.swap h
theorem ff_push {ff g : Nat → Option Nat} {ad : Nat → Nat} {n q : Nat} (h : ∀ j : Nat, j < n → ff j = some (ad j)) (hn : n < 2 ^ 31) (e : va_up ff (nI n).toNatClampNeg (some q) = g) : ∀ j : Nat, j < n + 1 → g j = some (va_up ad n q j) := by
  intro j hj
  rw [nI_clamp hn] at e
  rw [← e]
  by_cases z : j = n
  · rw [z, va_up_self, va_up_self]
  · rw [va_up_ne _ _ z, va_up_ne _ _ z]
    exact h j (by omega)
theorem lv0P {D : va_G} {cl : List vw_C} {X : va_W} {H : Heap} {cI : ClassId} {ad : Nat → Nat} {bd : Nat → Nat → Nat} (h : va_P D cl X H) : va_P D cl (X ++ lvs cI 0 ad bd (fun _ _ => 0) (fun _ _ _ => 0)) H := by
  show va_P D cl (X ++ []) H
  rw [List.append_nil]; exact h
theorem lv0D {A : Nat → Prop} {X : va_W} {cI : ClassId} {ad : Nat → Nat} {bd : Nat → Nat → Nat} (h : va_D A X) : va_D A (X ++ lvs cI 0 ad bd (fun _ _ => 0) (fun _ _ _ => 0)) := by
  show va_D A (X ++ [])
  rw [List.append_nil]; exact h
theorem dX0_init_0 : decode cX0_init 0 = .ok (.aload_n 0, 1) := dq_42 (by decide +kernel)
theorem dX0_init_1 : decode cX0_init 1 = .ok (.invokespecial 1, 3) := dq_183 (b1 := 0) (b2 := 1) (by decide +kernel) (by decide)
theorem dX0_init_10 : decode cX0_init 10 = .ok (.putfield 11, 3) := dq_181 (b1 := 0) (b2 := 11) (by decide +kernel) (by decide)
theorem dX0_init_13 : decode cX0_init 13 = .ok (.iconst 0, 1) := dq_3 (by decide +kernel)
theorem dX0_init_14 : decode cX0_init 14 = .ok (.istore_n 1, 1) := dq_60 (by decide +kernel)
theorem dX0_init_15 : decode cX0_init 15 = .ok (.iload_n 1, 1) := dq_27 (by decide +kernel)
theorem dX0_init_16 : decode cX0_init 16 = .ok (.bipush 24, 2) := dq_16 (b1 := 24) (by decide +kernel) (by decide)
theorem dX0_init_18 : decode cX0_init 18 = .ok (.if_icmp .ge 22, 3) := dq_162 (b1 := 0) (b2 := 22) (by decide +kernel) (by decide)
theorem dX0_init_21 : decode cX0_init 21 = .ok (.aload_n 0, 1) := dq_42 (by decide +kernel)
theorem dX0_init_22 : decode cX0_init 22 = .ok (.getfield 11, 3) := dq_180 (b1 := 0) (b2 := 11) (by decide +kernel) (by decide)
theorem dX0_init_25 : decode cX0_init 25 = .ok (.iload_n 1, 1) := dq_27 (by decide +kernel)
theorem dX0_init_26 : decode cX0_init 26 = .ok (.new 9, 3) := dq_187 (b1 := 0) (b2 := 9) (by decide +kernel) (by decide)
theorem dX0_init_29 : decode cX0_init 29 = .ok (.dup, 1) := dq_89 (by decide +kernel)
theorem dX0_init_30 : decode cX0_init 30 = .ok (.invokespecial 15, 3) := dq_183 (b1 := 0) (b2 := 15) (by decide +kernel) (by decide)
theorem dX0_init_33 : decode cX0_init 33 = .ok (.aastore, 1) := dq_83 (by decide +kernel)
theorem dX0_init_34 : decode cX0_init 34 = .ok (.iinc 1 1, 3) := dq_132 (b1 := 1) (b2 := 1) (by decide +kernel) (by decide) (by decide)
theorem dX0_init_37 : decode cX0_init 37 = .ok (.goto (-22), 3) := dq_167 (b1 := 255) (b2 := 234) (by decide +kernel) (by decide)
theorem dX0_init_4 : decode cX0_init 4 = .ok (.aload_n 0, 1) := dq_42 (by decide +kernel)
theorem dX0_init_40 : decode cX0_init 40 = .ok (.return_, 1) := dq_177 (by decide +kernel)
theorem dX0_init_5 : decode cX0_init 5 = .ok (.bipush 24, 2) := dq_16 (b1 := 24) (by decide +kernel) (by decide)
theorem dX0_init_7 : decode cX0_init 7 = .ok (.anewarray 9, 3) := dq_189 (b1 := 0) (b2 := 9) (by decide +kernel) (by decide)
theorem dX1_init_0 : decode cX1_init 0 = .ok (.aload_n 0, 1) := dq_42 (by decide +kernel)
theorem dX1_init_1 : decode cX1_init 1 = .ok (.invokespecial 3, 3) := dq_183 (b1 := 0) (b2 := 3) (by decide +kernel) (by decide)
theorem dX1_init_12 : decode cX1_init 12 = .ok (.return_, 1) := dq_177 (by decide +kernel)
theorem dX1_init_4 : decode cX1_init 4 = .ok (.aload_n 0, 1) := dq_42 (by decide +kernel)
theorem dX1_init_5 : decode cX1_init 5 = .ok (.bipush 16, 2) := dq_16 (b1 := 16) (by decide +kernel) (by decide)
theorem dX1_init_7 : decode cX1_init 7 = .ok (.newarray .int, 2) := by decide +kernel
theorem dX1_init_9 : decode cX1_init 9 = .ok (.putfield 11, 3) := dq_181 (b1 := 0) (b2 := 11) (by decide +kernel) (by decide)
theorem dX2_init_0 : decode cX2_init 0 = .ok (.aload_n 0, 1) := dq_42 (by decide +kernel)
theorem dX2_init_1 : decode cX2_init 1 = .ok (.invokespecial 3, 3) := dq_183 (b1 := 0) (b2 := 3) (by decide +kernel) (by decide)
theorem dX2_init_10 : decode cX2_init 10 = .ok (.putfield 13, 3) := dq_181 (b1 := 0) (b2 := 13) (by decide +kernel) (by decide)
theorem dX2_init_13 : decode cX2_init 13 = .ok (.iconst 0, 1) := dq_3 (by decide +kernel)
theorem dX2_init_14 : decode cX2_init 14 = .ok (.istore_n 1, 1) := dq_60 (by decide +kernel)
theorem dX2_init_15 : decode cX2_init 15 = .ok (.iload_n 1, 1) := dq_27 (by decide +kernel)
theorem dX2_init_16 : decode cX2_init 16 = .ok (.bipush 8, 2) := dq_16 (b1 := 8) (by decide +kernel) (by decide)
theorem dX2_init_18 : decode cX2_init 18 = .ok (.if_icmp .gt 22, 3) := dq_163 (b1 := 0) (b2 := 22) (by decide +kernel) (by decide)
theorem dX2_init_21 : decode cX2_init 21 = .ok (.aload_n 0, 1) := dq_42 (by decide +kernel)
theorem dX2_init_22 : decode cX2_init 22 = .ok (.getfield 13, 3) := dq_180 (b1 := 0) (b2 := 13) (by decide +kernel) (by decide)
theorem dX2_init_25 : decode cX2_init 25 = .ok (.iload_n 1, 1) := dq_27 (by decide +kernel)
theorem dX2_init_26 : decode cX2_init 26 = .ok (.new 11, 3) := dq_187 (b1 := 0) (b2 := 11) (by decide +kernel) (by decide)
theorem dX2_init_29 : decode cX2_init 29 = .ok (.dup, 1) := dq_89 (by decide +kernel)
theorem dX2_init_30 : decode cX2_init 30 = .ok (.invokespecial 17, 3) := dq_183 (b1 := 0) (b2 := 17) (by decide +kernel) (by decide)
theorem dX2_init_33 : decode cX2_init 33 = .ok (.aastore, 1) := dq_83 (by decide +kernel)
theorem dX2_init_34 : decode cX2_init 34 = .ok (.iinc 1 1, 3) := dq_132 (b1 := 1) (b2 := 1) (by decide +kernel) (by decide) (by decide)
theorem dX2_init_37 : decode cX2_init 37 = .ok (.goto (-22), 3) := dq_167 (b1 := 255) (b2 := 234) (by decide +kernel) (by decide)
theorem dX2_init_4 : decode cX2_init 4 = .ok (.aload_n 0, 1) := dq_42 (by decide +kernel)
theorem dX2_init_40 : decode cX2_init 40 = .ok (.return_, 1) := dq_177 (by decide +kernel)
theorem dX2_init_5 : decode cX2_init 5 = .ok (.bipush 9, 2) := dq_16 (b1 := 9) (by decide +kernel) (by decide)
theorem dX2_init_7 : decode cX2_init 7 = .ok (.anewarray 11, 3) := dq_189 (b1 := 0) (b2 := 11) (by decide +kernel) (by decide)
theorem dX3_init_0 : decode cX3_init 0 = .ok (.aload_n 0, 1) := dq_42 (by decide +kernel)
theorem dX3_init_1 : decode cX3_init 1 = .ok (.invokespecial 3, 3) := dq_183 (b1 := 0) (b2 := 3) (by decide +kernel) (by decide)
theorem dX3_init_12 : decode cX3_init 12 = .ok (.aload_n 0, 1) := dq_42 (by decide +kernel)
theorem dX3_init_13 : decode cX3_init 13 = .ok (.bipush 6, 2) := dq_16 (b1 := 6) (by decide +kernel) (by decide)
theorem dX3_init_15 : decode cX3_init 15 = .ok (.newarray .int, 2) := by decide +kernel
theorem dX3_init_17 : decode cX3_init 17 = .ok (.putfield 15, 3) := dq_181 (b1 := 0) (b2 := 15) (by decide +kernel) (by decide)
theorem dX3_init_20 : decode cX3_init 20 = .ok (.aload_n 0, 1) := dq_42 (by decide +kernel)
theorem dX3_init_21 : decode cX3_init 21 = .ok (.bipush 6, 2) := dq_16 (b1 := 6) (by decide +kernel) (by decide)
theorem dX3_init_23 : decode cX3_init 23 = .ok (.newarray .int, 2) := by decide +kernel
theorem dX3_init_25 : decode cX3_init 25 = .ok (.putfield 18, 3) := dq_181 (b1 := 0) (b2 := 18) (by decide +kernel) (by decide)
theorem dX3_init_28 : decode cX3_init 28 = .ok (.aload_n 0, 1) := dq_42 (by decide +kernel)
theorem dX3_init_29 : decode cX3_init 29 = .ok (.bipush 6, 2) := dq_16 (b1 := 6) (by decide +kernel) (by decide)
theorem dX3_init_31 : decode cX3_init 31 = .ok (.newarray .int, 2) := by decide +kernel
theorem dX3_init_33 : decode cX3_init 33 = .ok (.putfield 21, 3) := dq_181 (b1 := 0) (b2 := 21) (by decide +kernel) (by decide)
theorem dX3_init_36 : decode cX3_init 36 = .ok (.aload_n 0, 1) := dq_42 (by decide +kernel)
theorem dX3_init_37 : decode cX3_init 37 = .ok (.bipush 6, 2) := dq_16 (b1 := 6) (by decide +kernel) (by decide)
theorem dX3_init_39 : decode cX3_init 39 = .ok (.newarray .int, 2) := by decide +kernel
theorem dX3_init_4 : decode cX3_init 4 = .ok (.aload_n 0, 1) := dq_42 (by decide +kernel)
theorem dX3_init_41 : decode cX3_init 41 = .ok (.putfield 24, 3) := dq_181 (b1 := 0) (b2 := 24) (by decide +kernel) (by decide)
theorem dX3_init_44 : decode cX3_init 44 = .ok (.return_, 1) := dq_177 (by decide +kernel)
theorem dX3_init_5 : decode cX3_init 5 = .ok (.bipush 6, 2) := dq_16 (b1 := 6) (by decide +kernel) (by decide)
theorem dX3_init_7 : decode cX3_init 7 = .ok (.newarray .int, 2) := by decide +kernel
theorem dX3_init_9 : decode cX3_init 9 = .ok (.putfield 9, 3) := dq_181 (b1 := 0) (b2 := 9) (by decide +kernel) (by decide)
theorem dX4_init_0 : decode cX4_init 0 = .ok (.aload_n 0, 1) := dq_42 (by decide +kernel)
theorem dX4_init_1 : decode cX4_init 1 = .ok (.invokespecial 1, 3) := dq_183 (b1 := 0) (b2 := 1) (by decide +kernel) (by decide)
theorem dX4_init_12 : decode cX4_init 12 = .ok (.putfield 10, 3) := dq_181 (b1 := 0) (b2 := 10) (by decide +kernel) (by decide)
theorem dX4_init_15 : decode cX4_init 15 = .ok (.aload_n 0, 1) := dq_42 (by decide +kernel)
theorem dX4_init_16 : decode cX4_init 16 = .ok (.new 7, 3) := dq_187 (b1 := 0) (b2 := 7) (by decide +kernel) (by decide)
theorem dX4_init_19 : decode cX4_init 19 = .ok (.dup, 1) := dq_89 (by decide +kernel)
theorem dX4_init_20 : decode cX4_init 20 = .ok (.invokespecial 9, 3) := dq_183 (b1 := 0) (b2 := 9) (by decide +kernel) (by decide)
theorem dX4_init_23 : decode cX4_init 23 = .ok (.putfield 16, 3) := dq_181 (b1 := 0) (b2 := 16) (by decide +kernel) (by decide)
theorem dX4_init_26 : decode cX4_init 26 = .ok (.return_, 1) := dq_177 (by decide +kernel)
theorem dX4_init_4 : decode cX4_init 4 = .ok (.aload_n 0, 1) := dq_42 (by decide +kernel)
theorem dX4_init_5 : decode cX4_init 5 = .ok (.new 7, 3) := dq_187 (b1 := 0) (b2 := 7) (by decide +kernel) (by decide)
theorem dX4_init_8 : decode cX4_init 8 = .ok (.dup, 1) := dq_89 (by decide +kernel)
theorem dX4_init_9 : decode cX4_init 9 = .ok (.invokespecial 9, 3) := dq_183 (b1 := 0) (b2 := 9) (by decide +kernel) (by decide)
theorem dX5_init_0 : decode cX5_init 0 = .ok (.aload_n 0, 1) := dq_42 (by decide +kernel)
theorem dX5_init_1 : decode cX5_init 1 = .ok (.invokespecial 3, 3) := dq_183 (b1 := 0) (b2 := 3) (by decide +kernel) (by decide)
theorem dX5_init_13 : decode cX5_init 13 = .ok (.putfield 13, 3) := dq_181 (b1 := 0) (b2 := 13) (by decide +kernel) (by decide)
theorem dX5_init_16 : decode cX5_init 16 = .ok (.aload_n 0, 1) := dq_42 (by decide +kernel)
theorem dX5_init_17 : decode cX5_init 17 = .ok (.bipush 8, 2) := dq_16 (b1 := 8) (by decide +kernel) (by decide)
theorem dX5_init_19 : decode cX5_init 19 = .ok (.newarray .int, 2) := by decide +kernel
theorem dX5_init_21 : decode cX5_init 21 = .ok (.putfield 16, 3) := dq_181 (b1 := 0) (b2 := 16) (by decide +kernel) (by decide)
theorem dX5_init_24 : decode cX5_init 24 = .ok (.aload_n 0, 1) := dq_42 (by decide +kernel)
theorem dX5_init_25 : decode cX5_init 25 = .ok (.bipush 8, 2) := dq_16 (b1 := 8) (by decide +kernel) (by decide)
theorem dX5_init_27 : decode cX5_init 27 = .ok (.newarray .int, 2) := by decide +kernel
theorem dX5_init_29 : decode cX5_init 29 = .ok (.putfield 20, 3) := dq_181 (b1 := 0) (b2 := 20) (by decide +kernel) (by decide)
theorem dX5_init_32 : decode cX5_init 32 = .ok (.aload_n 0, 1) := dq_42 (by decide +kernel)
theorem dX5_init_33 : decode cX5_init 33 = .ok (.getfield 16, 3) := dq_180 (b1 := 0) (b2 := 16) (by decide +kernel) (by decide)
theorem dX5_init_36 : decode cX5_init 36 = .ok (.iconst (-1), 1) := dq_2 (by decide +kernel)
theorem dX5_init_37 : decode cX5_init 37 = .ok (.invokestatic 23, 3) := dq_184 (b1 := 0) (b2 := 23) (by decide +kernel) (by decide)
theorem dX5_init_4 : decode cX5_init 4 = .ok (.aload_n 0, 1) := dq_42 (by decide +kernel)
theorem dX5_init_40 : decode cX5_init 40 = .ok (.return_, 1) := dq_177 (by decide +kernel)
theorem dX5_init_5 : decode cX5_init 5 = .ok (.bipush 8, 2) := dq_16 (b1 := 8) (by decide +kernel) (by decide)
theorem dX5_init_7 : decode cX5_init 7 = .ok (.bipush 40, 2) := dq_16 (b1 := 40) (by decide +kernel) (by decide)
theorem dX5_init_9 : decode cX5_init 9 = .ok (.multianewarray 11 2, 4) := by decide +kernel
theorem dX6_init_0 : decode cX6_init 0 = .ok (.aload_n 0, 1) := dq_42 (by decide +kernel)
theorem dX6_init_1 : decode cX6_init 1 = .ok (.invokespecial 3, 3) := dq_183 (b1 := 0) (b2 := 3) (by decide +kernel) (by decide)
theorem dX6_init_12 : decode cX6_init 12 = .ok (.aload_n 0, 1) := dq_42 (by decide +kernel)
theorem dX6_init_13 : decode cX6_init 13 = .ok (.new 15, 3) := dq_187 (b1 := 0) (b2 := 15) (by decide +kernel) (by decide)
theorem dX6_init_16 : decode cX6_init 16 = .ok (.dup, 1) := dq_89 (by decide +kernel)
theorem dX6_init_17 : decode cX6_init 17 = .ok (.invokespecial 17, 3) := dq_183 (b1 := 0) (b2 := 17) (by decide +kernel) (by decide)
theorem dX6_init_20 : decode cX6_init 20 = .ok (.putfield 18, 3) := dq_181 (b1 := 0) (b2 := 18) (by decide +kernel) (by decide)
theorem dX6_init_23 : decode cX6_init 23 = .ok (.return_, 1) := dq_177 (by decide +kernel)
theorem dX6_init_4 : decode cX6_init 4 = .ok (.aload_n 0, 1) := dq_42 (by decide +kernel)
theorem dX6_init_5 : decode cX6_init 5 = .ok (.bipush 120, 2) := dq_16 (b1 := 120) (by decide +kernel) (by decide)
theorem dX6_init_7 : decode cX6_init 7 = .ok (.newarray .int, 2) := by decide +kernel
theorem dX6_init_9 : decode cX6_init 9 = .ok (.putfield 11, 3) := dq_181 (b1 := 0) (b2 := 11) (by decide +kernel) (by decide)
theorem mx_X0_init_9 : Cond.code yX3_init cX3_init 1 none ∈ wsX0_init := by unfold wsX0_init; exact List.mem_cons_of_mem _ (List.mem_append_left _ (List.mem_append_left _ (List.mem_of_getElem? (i := 8) rfl)))
theorem mx_X0_init_10 : Cond.methodLink RX3 3 objectInit ∈ wsX0_init := by unfold wsX0_init; exact List.mem_cons_of_mem _ (List.mem_append_left _ (List.mem_append_left _ (List.mem_of_getElem? (i := 9) rfl)))
theorem mx_X0_init_2 : Cond.instanceMethod objectInit ∈ wsX0_init := by unfold wsX0_init; exact List.mem_cons_of_mem _ (List.mem_append_left _ (List.mem_append_left _ (List.mem_of_getElem? (i := 1) rfl)))
theorem mx_X0_init_3 : Cond.code objectInit ⟨#[0xb1]⟩ 1 none ∈ wsX0_init := by unfold wsX0_init; exact List.mem_cons_of_mem _ (List.mem_append_left _ (List.mem_append_left _ (List.mem_of_getElem? (i := 2) rfl)))
theorem mx_X0_init_11 : Cond.arrayClass .int ∈ wsX0_init := by unfold wsX0_init; exact List.mem_cons_of_mem _ (List.mem_append_left _ (List.mem_append_left _ (List.mem_of_getElem? (i := 10) rfl)))
theorem mx_X0_init_12 : Cond.fieldLink RX3 9 "MillTalk$Level" "winds" "[I" ∈ wsX0_init := by unfold wsX0_init; exact List.mem_cons_of_mem _ (List.mem_append_left _ (List.mem_append_left _ (List.mem_of_getElem? (i := 11) rfl)))
theorem mx_X0_init_13 : Cond.fieldLink RX3 15 "MillTalk$Level" "kinds" "[I" ∈ wsX0_init := by unfold wsX0_init; exact List.mem_cons_of_mem _ (List.mem_append_left _ (List.mem_append_left _ (List.mem_of_getElem? (i := 12) rfl)))
theorem mx_X0_init_14 : Cond.fieldLink RX3 18 "MillTalk$Level" "places" "[I" ∈ wsX0_init := by unfold wsX0_init; exact List.mem_cons_of_mem _ (List.mem_append_left _ (List.mem_append_left _ (List.mem_of_getElem? (i := 13) rfl)))
theorem mx_X0_init_15 : Cond.fieldLink RX3 21 "MillTalk$Level" "louds" "[I" ∈ wsX0_init := by unfold wsX0_init; exact List.mem_cons_of_mem _ (List.mem_append_left _ (List.mem_append_left _ (List.mem_of_getElem? (i := 14) rfl)))
theorem mx_X0_init_16 : Cond.fieldLink RX3 24 "MillTalk$Level" "hows" "[I" ∈ wsX0_init := by unfold wsX0_init; exact List.mem_cons_of_mem _ (List.mem_append_left _ (List.mem_append_left _ (List.mem_of_getElem? (i := 15) rfl)))
theorem mb_X0_init_wsX30 {w : Cond} (h : w ∈ wsX30) : w ∈ wsX0_init := by unfold wsX0_init; exact List.mem_cons_of_mem _ (List.mem_append_right _ (h))
theorem ggX0_init_X3_init : GoodIn wsX0_init wsX3_init := goodIn_sub (by unfold wsX3_init; exact List.forall_mem_cons.mpr ⟨mx_X0_init_9, List.forall_mem_append.mpr ⟨List.forall_mem_cons.mpr ⟨mx_X0_init_10, List.forall_mem_cons.mpr ⟨mx_X0_init_2, List.forall_mem_cons.mpr ⟨mx_X0_init_3, List.forall_mem_cons.mpr ⟨mx_X0_init_11, List.forall_mem_cons.mpr ⟨mx_X0_init_12, List.forall_mem_cons.mpr ⟨mx_X0_init_13, List.forall_mem_cons.mpr ⟨mx_X0_init_14, List.forall_mem_cons.mpr ⟨mx_X0_init_15, List.forall_mem_cons.mpr ⟨mx_X0_init_16, fun _ h_ => absurd h_ List.not_mem_nil⟩⟩⟩⟩⟩⟩⟩⟩⟩, (fun _ h_ => mb_X0_init_wsX30 h_)⟩⟩) (by decide +kernel)
set_option maxRecDepth 20000 in
theorem gX0_init_X3_init_n15 : GoodIn wsX0_init (wsX3_init) := ggX0_init_X3_init
theorem mx_X2_init_9 : Cond.code yX3_init cX3_init 1 none ∈ wsX2_init := by unfold wsX2_init; exact List.mem_cons_of_mem _ (List.mem_append_left _ (List.mem_append_left _ (List.mem_of_getElem? (i := 8) rfl)))
theorem mx_X2_init_10 : Cond.methodLink RX3 3 objectInit ∈ wsX2_init := by unfold wsX2_init; exact List.mem_cons_of_mem _ (List.mem_append_left _ (List.mem_append_left _ (List.mem_of_getElem? (i := 9) rfl)))
theorem mx_X2_init_2 : Cond.instanceMethod objectInit ∈ wsX2_init := by unfold wsX2_init; exact List.mem_cons_of_mem _ (List.mem_append_left _ (List.mem_append_left _ (List.mem_of_getElem? (i := 1) rfl)))
theorem mx_X2_init_3 : Cond.code objectInit ⟨#[0xb1]⟩ 1 none ∈ wsX2_init := by unfold wsX2_init; exact List.mem_cons_of_mem _ (List.mem_append_left _ (List.mem_append_left _ (List.mem_of_getElem? (i := 2) rfl)))
theorem mx_X2_init_11 : Cond.arrayClass .int ∈ wsX2_init := by unfold wsX2_init; exact List.mem_cons_of_mem _ (List.mem_append_left _ (List.mem_append_left _ (List.mem_of_getElem? (i := 10) rfl)))
theorem mx_X2_init_12 : Cond.fieldLink RX3 9 "MillTalk$Level" "winds" "[I" ∈ wsX2_init := by unfold wsX2_init; exact List.mem_cons_of_mem _ (List.mem_append_left _ (List.mem_append_left _ (List.mem_of_getElem? (i := 11) rfl)))
theorem mx_X2_init_13 : Cond.fieldLink RX3 15 "MillTalk$Level" "kinds" "[I" ∈ wsX2_init := by unfold wsX2_init; exact List.mem_cons_of_mem _ (List.mem_append_left _ (List.mem_append_left _ (List.mem_of_getElem? (i := 12) rfl)))
theorem mx_X2_init_14 : Cond.fieldLink RX3 18 "MillTalk$Level" "places" "[I" ∈ wsX2_init := by unfold wsX2_init; exact List.mem_cons_of_mem _ (List.mem_append_left _ (List.mem_append_left _ (List.mem_of_getElem? (i := 13) rfl)))
theorem mx_X2_init_15 : Cond.fieldLink RX3 21 "MillTalk$Level" "louds" "[I" ∈ wsX2_init := by unfold wsX2_init; exact List.mem_cons_of_mem _ (List.mem_append_left _ (List.mem_append_left _ (List.mem_of_getElem? (i := 14) rfl)))
theorem mx_X2_init_16 : Cond.fieldLink RX3 24 "MillTalk$Level" "hows" "[I" ∈ wsX2_init := by unfold wsX2_init; exact List.mem_cons_of_mem _ (List.mem_append_left _ (List.mem_append_left _ (List.mem_of_getElem? (i := 15) rfl)))
theorem mb_X2_init_wsX30 {w : Cond} (h : w ∈ wsX30) : w ∈ wsX2_init := by unfold wsX2_init; exact List.mem_cons_of_mem _ (List.mem_append_right _ (h))
theorem ggX2_init_X3_init : GoodIn wsX2_init wsX3_init := goodIn_sub (by unfold wsX3_init; exact List.forall_mem_cons.mpr ⟨mx_X2_init_9, List.forall_mem_append.mpr ⟨List.forall_mem_cons.mpr ⟨mx_X2_init_10, List.forall_mem_cons.mpr ⟨mx_X2_init_2, List.forall_mem_cons.mpr ⟨mx_X2_init_3, List.forall_mem_cons.mpr ⟨mx_X2_init_11, List.forall_mem_cons.mpr ⟨mx_X2_init_12, List.forall_mem_cons.mpr ⟨mx_X2_init_13, List.forall_mem_cons.mpr ⟨mx_X2_init_14, List.forall_mem_cons.mpr ⟨mx_X2_init_15, List.forall_mem_cons.mpr ⟨mx_X2_init_16, fun _ h_ => absurd h_ List.not_mem_nil⟩⟩⟩⟩⟩⟩⟩⟩⟩, (fun _ h_ => mb_X2_init_wsX30 h_)⟩⟩) (by decide +kernel)
set_option maxRecDepth 20000 in
theorem gX2_init_X3_init_n17 : GoodIn wsX2_init (wsX3_init) := ggX2_init_X3_init
theorem mx_X4_init_10 : Cond.code yX3_init cX3_init 1 none ∈ wsX4_init := by unfold wsX4_init; exact List.mem_cons_of_mem _ (List.mem_append_left _ (List.mem_append_left _ (List.mem_of_getElem? (i := 9) rfl)))
theorem mx_X4_init_11 : Cond.methodLink RX3 3 objectInit ∈ wsX4_init := by unfold wsX4_init; exact List.mem_cons_of_mem _ (List.mem_append_left _ (List.mem_append_left _ (List.mem_of_getElem? (i := 10) rfl)))
theorem mx_X4_init_2 : Cond.instanceMethod objectInit ∈ wsX4_init := by unfold wsX4_init; exact List.mem_cons_of_mem _ (List.mem_append_left _ (List.mem_append_left _ (List.mem_of_getElem? (i := 1) rfl)))
theorem mx_X4_init_3 : Cond.code objectInit ⟨#[0xb1]⟩ 1 none ∈ wsX4_init := by unfold wsX4_init; exact List.mem_cons_of_mem _ (List.mem_append_left _ (List.mem_append_left _ (List.mem_of_getElem? (i := 2) rfl)))
theorem mx_X4_init_12 : Cond.arrayClass .int ∈ wsX4_init := by unfold wsX4_init; exact List.mem_cons_of_mem _ (List.mem_append_left _ (List.mem_append_left _ (List.mem_of_getElem? (i := 11) rfl)))
theorem mx_X4_init_13 : Cond.fieldLink RX3 9 "MillTalk$Level" "winds" "[I" ∈ wsX4_init := by unfold wsX4_init; exact List.mem_cons_of_mem _ (List.mem_append_left _ (List.mem_append_left _ (List.mem_of_getElem? (i := 12) rfl)))
theorem mx_X4_init_14 : Cond.fieldLink RX3 15 "MillTalk$Level" "kinds" "[I" ∈ wsX4_init := by unfold wsX4_init; exact List.mem_cons_of_mem _ (List.mem_append_left _ (List.mem_append_left _ (List.mem_of_getElem? (i := 13) rfl)))
theorem mx_X4_init_15 : Cond.fieldLink RX3 18 "MillTalk$Level" "places" "[I" ∈ wsX4_init := by unfold wsX4_init; exact List.mem_cons_of_mem _ (List.mem_append_left _ (List.mem_append_left _ (List.mem_of_getElem? (i := 14) rfl)))
theorem mx_X4_init_16 : Cond.fieldLink RX3 21 "MillTalk$Level" "louds" "[I" ∈ wsX4_init := by unfold wsX4_init; exact List.mem_cons_of_mem _ (List.mem_append_left _ (List.mem_append_left _ (List.mem_of_getElem? (i := 15) rfl)))
theorem mx_X4_init_17 : Cond.fieldLink RX3 24 "MillTalk$Level" "hows" "[I" ∈ wsX4_init := by unfold wsX4_init; exact List.mem_cons_of_mem _ (List.mem_append_left _ (List.mem_append_left _ (List.mem_of_getElem? (i := 16) rfl)))
theorem mb_X4_init_wsX30 {w : Cond} (h : w ∈ wsX30) : w ∈ wsX4_init := by unfold wsX4_init; exact List.mem_cons_of_mem _ (List.mem_append_left _ (List.mem_append_right _ (h)))
theorem ggX4_init_X3_init : GoodIn wsX4_init wsX3_init := goodIn_sub (by unfold wsX3_init; exact List.forall_mem_cons.mpr ⟨mx_X4_init_10, List.forall_mem_append.mpr ⟨List.forall_mem_cons.mpr ⟨mx_X4_init_11, List.forall_mem_cons.mpr ⟨mx_X4_init_2, List.forall_mem_cons.mpr ⟨mx_X4_init_3, List.forall_mem_cons.mpr ⟨mx_X4_init_12, List.forall_mem_cons.mpr ⟨mx_X4_init_13, List.forall_mem_cons.mpr ⟨mx_X4_init_14, List.forall_mem_cons.mpr ⟨mx_X4_init_15, List.forall_mem_cons.mpr ⟨mx_X4_init_16, List.forall_mem_cons.mpr ⟨mx_X4_init_17, fun _ h_ => absurd h_ List.not_mem_nil⟩⟩⟩⟩⟩⟩⟩⟩⟩, (fun _ h_ => mb_X4_init_wsX30 h_)⟩⟩) (by decide +kernel)
set_option maxRecDepth 20000 in
theorem gX4_init_X3_init_n9 : GoodIn wsX4_init (wsX3_init) := ggX4_init_X3_init
theorem mx_X5_init_12 : Cond.code yJ7_fill_53178 cJ7_fill_53178 4 none ∈ wsX5_init := by unfold wsX5_init; exact List.mem_cons_of_mem _ (List.mem_append_left _ (List.mem_of_getElem? (i := 11) rfl))
theorem ggX5_init_J7_fill_53178 : GoodIn wsX5_init wsJ7_fill_53178 := goodIn_sub (by unfold wsJ7_fill_53178; exact List.forall_mem_cons.mpr ⟨mx_X5_init_12, fun _ h_ => absurd h_ List.not_mem_nil⟩) (by decide +kernel)
set_option maxRecDepth 20000 in
theorem gX5_init_J7_fill_53178 : GoodIn wsX5_init (va_wsS RX5 23 yJ7_fill_53178 wsJ7_fill_53178) := goodIn_app (goodIn_of _ (by decide +kernel)) ggX5_init_J7_fill_53178
theorem mx_X6_init_11 : Cond.code yX3_init cX3_init 1 none ∈ wsX6_init := by unfold wsX6_init; exact List.mem_cons_of_mem _ (List.mem_append_left _ (List.mem_append_left _ (List.mem_of_getElem? (i := 10) rfl)))
theorem mx_X6_init_12 : Cond.methodLink RX3 3 objectInit ∈ wsX6_init := by unfold wsX6_init; exact List.mem_cons_of_mem _ (List.mem_append_left _ (List.mem_append_left _ (List.mem_of_getElem? (i := 11) rfl)))
theorem mx_X6_init_2 : Cond.instanceMethod objectInit ∈ wsX6_init := by unfold wsX6_init; exact List.mem_cons_of_mem _ (List.mem_append_left _ (List.mem_append_left _ (List.mem_of_getElem? (i := 1) rfl)))
theorem mx_X6_init_3 : Cond.code objectInit ⟨#[0xb1]⟩ 1 none ∈ wsX6_init := by unfold wsX6_init; exact List.mem_cons_of_mem _ (List.mem_append_left _ (List.mem_append_left _ (List.mem_of_getElem? (i := 2) rfl)))
theorem mx_X6_init_4 : Cond.arrayClass .int ∈ wsX6_init := by unfold wsX6_init; exact List.mem_cons_of_mem _ (List.mem_append_left _ (List.mem_append_left _ (List.mem_of_getElem? (i := 3) rfl)))
theorem mx_X6_init_13 : Cond.fieldLink RX3 9 "MillTalk$Level" "winds" "[I" ∈ wsX6_init := by unfold wsX6_init; exact List.mem_cons_of_mem _ (List.mem_append_left _ (List.mem_append_left _ (List.mem_of_getElem? (i := 12) rfl)))
theorem mx_X6_init_14 : Cond.fieldLink RX3 15 "MillTalk$Level" "kinds" "[I" ∈ wsX6_init := by unfold wsX6_init; exact List.mem_cons_of_mem _ (List.mem_append_left _ (List.mem_append_left _ (List.mem_of_getElem? (i := 13) rfl)))
theorem mx_X6_init_15 : Cond.fieldLink RX3 18 "MillTalk$Level" "places" "[I" ∈ wsX6_init := by unfold wsX6_init; exact List.mem_cons_of_mem _ (List.mem_append_left _ (List.mem_append_left _ (List.mem_of_getElem? (i := 14) rfl)))
theorem mx_X6_init_16 : Cond.fieldLink RX3 21 "MillTalk$Level" "louds" "[I" ∈ wsX6_init := by unfold wsX6_init; exact List.mem_cons_of_mem _ (List.mem_append_left _ (List.mem_append_left _ (List.mem_of_getElem? (i := 15) rfl)))
theorem mx_X6_init_17 : Cond.fieldLink RX3 24 "MillTalk$Level" "hows" "[I" ∈ wsX6_init := by unfold wsX6_init; exact List.mem_cons_of_mem _ (List.mem_append_left _ (List.mem_append_left _ (List.mem_of_getElem? (i := 16) rfl)))
theorem mb_X6_init_wsX30 {w : Cond} (h : w ∈ wsX30) : w ∈ wsX6_init := by unfold wsX6_init; exact List.mem_cons_of_mem _ (List.mem_append_right _ (h))
theorem ggX6_init_X3_init : GoodIn wsX6_init wsX3_init := goodIn_sub (by unfold wsX3_init; exact List.forall_mem_cons.mpr ⟨mx_X6_init_11, List.forall_mem_append.mpr ⟨List.forall_mem_cons.mpr ⟨mx_X6_init_12, List.forall_mem_cons.mpr ⟨mx_X6_init_2, List.forall_mem_cons.mpr ⟨mx_X6_init_3, List.forall_mem_cons.mpr ⟨mx_X6_init_4, List.forall_mem_cons.mpr ⟨mx_X6_init_13, List.forall_mem_cons.mpr ⟨mx_X6_init_14, List.forall_mem_cons.mpr ⟨mx_X6_init_15, List.forall_mem_cons.mpr ⟨mx_X6_init_16, List.forall_mem_cons.mpr ⟨mx_X6_init_17, fun _ h_ => absurd h_ List.not_mem_nil⟩⟩⟩⟩⟩⟩⟩⟩⟩, (fun _ h_ => mb_X6_init_wsX30 h_)⟩⟩) (by decide +kernel)
set_option maxRecDepth 20000 in
theorem gX6_init_X3_init_n17 : GoodIn wsX6_init (wsX3_init) := ggX6_init_X3_init
theorem mb_X0_init_wsX00 {w : Cond} (h : w ∈ wsX00) : w ∈ wsX0_init := by unfold wsX0_init; exact List.mem_cons_of_mem _ (List.mem_append_left _ (List.mem_append_right _ (h)))
theorem i_X0_init_X0 : ∀ w ∈ u_ws RX0 TX0 3, w ∈ wsX0_init := fun _ h_ => mb_X0_init_wsX00 h_
theorem i_X0_init_X3 : ∀ w ∈ u_ws RX3 TX3 13, w ∈ wsX0_init := fun _ h_ => mb_X0_init_wsX30 h_
theorem mb_X1_init_wsX10 {w : Cond} (h : w ∈ wsX10) : w ∈ wsX1_init := by unfold wsX1_init; exact List.mem_cons_of_mem _ (List.mem_append_right _ (h))
theorem i_X1_init_X1 : ∀ w ∈ u_ws RX1 TX1 6, w ∈ wsX1_init := fun _ h_ => mb_X1_init_wsX10 h_
theorem mb_X2_init_wsX20 {w : Cond} (h : w ∈ wsX20) : w ∈ wsX2_init := by unfold wsX2_init; exact List.mem_cons_of_mem _ (List.mem_append_left _ (List.mem_append_right _ (h)))
theorem i_X2_init_X2 : ∀ w ∈ u_ws RX2 TX2 6, w ∈ wsX2_init := fun _ h_ => mb_X2_init_wsX20 h_
theorem i_X2_init_X3 : ∀ w ∈ u_ws RX3 TX3 13, w ∈ wsX2_init := fun _ h_ => mb_X2_init_wsX30 h_
theorem mb_X3_init_wsX30 {w : Cond} (h : w ∈ wsX30) : w ∈ wsX3_init := by unfold wsX3_init; exact List.mem_cons_of_mem _ (List.mem_append_right _ (h))
theorem i_X3_init_X3 : ∀ w ∈ u_ws RX3 TX3 13, w ∈ wsX3_init := fun _ h_ => mb_X3_init_wsX30 h_
theorem i_X4_init_X3 : ∀ w ∈ u_ws RX3 TX3 13, w ∈ wsX4_init := fun _ h_ => mb_X4_init_wsX30 h_
theorem mb_X4_init_wsX40 {w : Cond} (h : w ∈ wsX40) : w ∈ wsX4_init := by unfold wsX4_init; exact List.mem_cons_of_mem _ (List.mem_append_right _ (h))
theorem i_X4_init_X4 : ∀ w ∈ u_ws RX4 TX4 3, w ∈ wsX4_init := fun _ h_ => mb_X4_init_wsX40 h_
theorem mb_X5_init_wsX50 {w : Cond} (h : w ∈ wsX50) : w ∈ wsX5_init := by unfold wsX5_init; exact List.mem_cons_of_mem _ (List.mem_append_right _ (h))
theorem i_X5_init_X5 : ∀ w ∈ u_ws RX5 TX5 3, w ∈ wsX5_init := fun _ h_ => mb_X5_init_wsX50 h_
theorem i_X6_init_X3 : ∀ w ∈ u_ws RX3 TX3 13, w ∈ wsX6_init := fun _ h_ => mb_X6_init_wsX30 h_
theorem mb_X6_init_wsX60 {w : Cond} (h : w ∈ wsX60) : w ∈ wsX6_init := by unfold wsX6_init; exact List.mem_cons_of_mem _ (List.mem_append_left _ (List.mem_append_right _ (h)))
theorem i_X6_init_X6 : ∀ w ∈ u_ws RX6 TX6 6, w ∈ wsX6_init := fun _ h_ => mb_X6_init_wsX60 h_
theorem mx_X3_init_1 : Cond.methodLink RX3 3 objectInit ∈ wsX3_init := by unfold wsX3_init; exact List.mem_cons_of_mem _ (List.mem_append_left _ (List.mem_of_getElem? (i := 0) rfl))
theorem mx_X3_init_2 : Cond.instanceMethod objectInit ∈ wsX3_init := by unfold wsX3_init; exact List.mem_cons_of_mem _ (List.mem_append_left _ (List.mem_of_getElem? (i := 1) rfl))
theorem mx_X3_init_4 : Cond.arrayClass .int ∈ wsX3_init := by unfold wsX3_init; exact List.mem_cons_of_mem _ (List.mem_append_left _ (List.mem_of_getElem? (i := 3) rfl))
theorem mx_X3_init_5 : Cond.fieldLink RX3 9 "MillTalk$Level" "winds" "[I" ∈ wsX3_init := by unfold wsX3_init; exact List.mem_cons_of_mem _ (List.mem_append_left _ (List.mem_of_getElem? (i := 4) rfl))
theorem mx_X3_init_6 : Cond.fieldLink RX3 15 "MillTalk$Level" "kinds" "[I" ∈ wsX3_init := by unfold wsX3_init; exact List.mem_cons_of_mem _ (List.mem_append_left _ (List.mem_of_getElem? (i := 5) rfl))
theorem mx_X3_init_7 : Cond.fieldLink RX3 18 "MillTalk$Level" "places" "[I" ∈ wsX3_init := by unfold wsX3_init; exact List.mem_cons_of_mem _ (List.mem_append_left _ (List.mem_of_getElem? (i := 6) rfl))
theorem mx_X3_init_8 : Cond.fieldLink RX3 21 "MillTalk$Level" "louds" "[I" ∈ wsX3_init := by unfold wsX3_init; exact List.mem_cons_of_mem _ (List.mem_append_left _ (List.mem_of_getElem? (i := 7) rfl))
theorem mx_X3_init_9 : Cond.fieldLink RX3 24 "MillTalk$Level" "hows" "[I" ∈ wsX3_init := by unfold wsX3_init; exact List.mem_cons_of_mem _ (List.mem_append_left _ (List.mem_of_getElem? (i := 8) rfl))
theorem mx_X6_init_1 : Cond.methodLink RX6 3 objectInit ∈ wsX6_init := by unfold wsX6_init; exact List.mem_cons_of_mem _ (List.mem_append_left _ (List.mem_append_left _ (List.mem_of_getElem? (i := 0) rfl)))
theorem mx_X6_init_5 : Cond.fieldLink RX6 11 "MillTalk$Tape" "bytes" "[I" ∈ wsX6_init := by unfold wsX6_init; exact List.mem_cons_of_mem _ (List.mem_append_left _ (List.mem_append_left _ (List.mem_of_getElem? (i := 4) rfl)))
theorem mx_X6_init_6 : Cond.classLink RX6 15 RX3 ∈ wsX6_init := by unfold wsX6_init; exact List.mem_cons_of_mem _ (List.mem_append_left _ (List.mem_append_left _ (List.mem_of_getElem? (i := 5) rfl)))
theorem mx_X6_init_7 : Cond.instantiable RX3 13 ∈ wsX6_init := by unfold wsX6_init; exact List.mem_cons_of_mem _ (List.mem_append_left _ (List.mem_append_left _ (List.mem_of_getElem? (i := 6) rfl)))
theorem mx_X6_init_8 : Cond.initialized RX3 ∈ wsX6_init := by unfold wsX6_init; exact List.mem_cons_of_mem _ (List.mem_append_left _ (List.mem_append_left _ (List.mem_of_getElem? (i := 7) rfl)))
theorem mx_X6_init_10 : Cond.instanceMethod yX3_init ∈ wsX6_init := by unfold wsX6_init; exact List.mem_cons_of_mem _ (List.mem_append_left _ (List.mem_append_left _ (List.mem_of_getElem? (i := 9) rfl)))
theorem mx_X6_init_9 : Cond.fieldLink RX6 18 "MillTalk$Tape" "told" "LMillTalk$Level;" ∈ wsX6_init := by unfold wsX6_init; exact List.mem_cons_of_mem _ (List.mem_append_left _ (List.mem_append_left _ (List.mem_of_getElem? (i := 8) rfl)))
theorem mx_X4_init_1 : Cond.methodLink RX4 1 objectInit ∈ wsX4_init := by unfold wsX4_init; exact List.mem_cons_of_mem _ (List.mem_append_left _ (List.mem_append_left _ (List.mem_of_getElem? (i := 0) rfl)))
theorem mx_X4_init_4 : Cond.classLink RX4 7 RX3 ∈ wsX4_init := by unfold wsX4_init; exact List.mem_cons_of_mem _ (List.mem_append_left _ (List.mem_append_left _ (List.mem_of_getElem? (i := 3) rfl)))
theorem mx_X4_init_5 : Cond.instantiable RX3 13 ∈ wsX4_init := by unfold wsX4_init; exact List.mem_cons_of_mem _ (List.mem_append_left _ (List.mem_append_left _ (List.mem_of_getElem? (i := 4) rfl)))
theorem mx_X4_init_6 : Cond.initialized RX3 ∈ wsX4_init := by unfold wsX4_init; exact List.mem_cons_of_mem _ (List.mem_append_left _ (List.mem_append_left _ (List.mem_of_getElem? (i := 5) rfl)))
theorem mx_X4_init_9 : Cond.instanceMethod yX3_init ∈ wsX4_init := by unfold wsX4_init; exact List.mem_cons_of_mem _ (List.mem_append_left _ (List.mem_append_left _ (List.mem_of_getElem? (i := 8) rfl)))
theorem mx_X4_init_7 : Cond.fieldLink RX4 10 "MillTalk$Play" "board" "LMillTalk$Level;" ∈ wsX4_init := by unfold wsX4_init; exact List.mem_cons_of_mem _ (List.mem_append_left _ (List.mem_append_left _ (List.mem_of_getElem? (i := 6) rfl)))
theorem mx_X4_init_8 : Cond.fieldLink RX4 16 "MillTalk$Play" "outcome" "LMillTalk$Level;" ∈ wsX4_init := by unfold wsX4_init; exact List.mem_cons_of_mem _ (List.mem_append_left _ (List.mem_append_left _ (List.mem_of_getElem? (i := 7) rfl)))
theorem mx_X1_init_1 : Cond.methodLink RX1 3 objectInit ∈ wsX1_init := by unfold wsX1_init; exact List.mem_cons_of_mem _ (List.mem_append_left _ (List.mem_of_getElem? (i := 0) rfl))
theorem mx_X1_init_2 : Cond.instanceMethod objectInit ∈ wsX1_init := by unfold wsX1_init; exact List.mem_cons_of_mem _ (List.mem_append_left _ (List.mem_of_getElem? (i := 1) rfl))
theorem mx_X1_init_4 : Cond.arrayClass .int ∈ wsX1_init := by unfold wsX1_init; exact List.mem_cons_of_mem _ (List.mem_append_left _ (List.mem_of_getElem? (i := 3) rfl))
theorem mx_X1_init_5 : Cond.fieldLink RX1 11 "MillTalk$Asks" "trace" "[I" ∈ wsX1_init := by unfold wsX1_init; exact List.mem_cons_of_mem _ (List.mem_append_left _ (List.mem_of_getElem? (i := 4) rfl))
theorem mx_X5_init_1 : Cond.methodLink RX5 3 objectInit ∈ wsX5_init := by unfold wsX5_init; exact List.mem_cons_of_mem _ (List.mem_append_left _ (List.mem_of_getElem? (i := 0) rfl))
theorem mx_X5_init_2 : Cond.instanceMethod objectInit ∈ wsX5_init := by unfold wsX5_init; exact List.mem_cons_of_mem _ (List.mem_append_left _ (List.mem_of_getElem? (i := 1) rfl))
theorem mx_X5_init_4 : Cond.classLink RX5 11 "[[I" ∈ wsX5_init := by unfold wsX5_init; exact List.mem_cons_of_mem _ (List.mem_append_left _ (List.mem_of_getElem? (i := 3) rfl))
theorem mx_X5_init_6 : Cond.fieldLink RX5 13 "MillTalk$Rows" "items" "[[I" ∈ wsX5_init := by unfold wsX5_init; exact List.mem_cons_of_mem _ (List.mem_append_left _ (List.mem_of_getElem? (i := 5) rfl))
theorem mx_X5_init_5 : Cond.arrayClass .int ∈ wsX5_init := by unfold wsX5_init; exact List.mem_cons_of_mem _ (List.mem_append_left _ (List.mem_of_getElem? (i := 4) rfl))
theorem mx_X5_init_7 : Cond.fieldLink RX5 16 "MillTalk$Rows" "lanes" "[I" ∈ wsX5_init := by unfold wsX5_init; exact List.mem_cons_of_mem _ (List.mem_append_left _ (List.mem_of_getElem? (i := 6) rfl))
theorem mx_X5_init_8 : Cond.fieldLink RX5 20 "MillTalk$Rows" "lengths" "[I" ∈ wsX5_init := by unfold wsX5_init; exact List.mem_cons_of_mem _ (List.mem_append_left _ (List.mem_of_getElem? (i := 7) rfl))
theorem mx_X0_init_1 : Cond.methodLink RX0 1 objectInit ∈ wsX0_init := by unfold wsX0_init; exact List.mem_cons_of_mem _ (List.mem_append_left _ (List.mem_append_left _ (List.mem_of_getElem? (i := 0) rfl)))
theorem mx_X0_init_4 : Cond.classLink RX0 9 RX3 ∈ wsX0_init := by unfold wsX0_init; exact List.mem_cons_of_mem _ (List.mem_append_left _ (List.mem_append_left _ (List.mem_of_getElem? (i := 3) rfl)))
theorem mx_X0_init_5 : Cond.fieldLink RX0 11 "MillTalk$Acts" "before" "[LMillTalk$Level;" ∈ wsX0_init := by unfold wsX0_init; exact List.mem_cons_of_mem _ (List.mem_append_left _ (List.mem_append_left _ (List.mem_of_getElem? (i := 4) rfl)))
theorem mx_X0_init_6 : Cond.instantiable RX3 13 ∈ wsX0_init := by unfold wsX0_init; exact List.mem_cons_of_mem _ (List.mem_append_left _ (List.mem_append_left _ (List.mem_of_getElem? (i := 5) rfl)))
theorem mx_X0_init_7 : Cond.initialized RX3 ∈ wsX0_init := by unfold wsX0_init; exact List.mem_cons_of_mem _ (List.mem_append_left _ (List.mem_append_left _ (List.mem_of_getElem? (i := 6) rfl)))
theorem mx_X0_init_8 : Cond.instanceMethod yX3_init ∈ wsX0_init := by unfold wsX0_init; exact List.mem_cons_of_mem _ (List.mem_append_left _ (List.mem_append_left _ (List.mem_of_getElem? (i := 7) rfl)))
theorem mx_X2_init_1 : Cond.methodLink RX2 3 objectInit ∈ wsX2_init := by unfold wsX2_init; exact List.mem_cons_of_mem _ (List.mem_append_left _ (List.mem_append_left _ (List.mem_of_getElem? (i := 0) rfl)))
theorem mx_X2_init_4 : Cond.classLink RX2 11 RX3 ∈ wsX2_init := by unfold wsX2_init; exact List.mem_cons_of_mem _ (List.mem_append_left _ (List.mem_append_left _ (List.mem_of_getElem? (i := 3) rfl)))
theorem mx_X2_init_5 : Cond.fieldLink RX2 13 "MillTalk$CapSearch" "behind" "[LMillTalk$Level;" ∈ wsX2_init := by unfold wsX2_init; exact List.mem_cons_of_mem _ (List.mem_append_left _ (List.mem_append_left _ (List.mem_of_getElem? (i := 4) rfl)))
theorem mx_X2_init_6 : Cond.instantiable RX3 13 ∈ wsX2_init := by unfold wsX2_init; exact List.mem_cons_of_mem _ (List.mem_append_left _ (List.mem_append_left _ (List.mem_of_getElem? (i := 5) rfl)))
theorem mx_X2_init_7 : Cond.initialized RX3 ∈ wsX2_init := by unfold wsX2_init; exact List.mem_cons_of_mem _ (List.mem_append_left _ (List.mem_append_left _ (List.mem_of_getElem? (i := 6) rfl)))
theorem mx_X2_init_8 : Cond.instanceMethod yX3_init ∈ wsX2_init := by unfold wsX2_init; exact List.mem_cons_of_mem _ (List.mem_append_left _ (List.mem_append_left _ (List.mem_of_getElem? (i := 7) rfl)))
