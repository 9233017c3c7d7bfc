theorem xim_k {r I : RF} {k j : Int32} (h : ¬ k = j) : n_image r I k j = I := by
  unfold n_image
  rw [if_neg (fun q => h q.1)]
theorem xim_0 {r I : RF} {k j : Int32} (h : r 0 = 0) : n_image r I k j = I := by
  unfold n_image
  rw [if_neg (fun q => q.2 h)]
theorem xim_go {r I : RF} {k : Int32} (h : ¬ r 0 = 0) : n_image r I k k = r := by
  unfold n_image
  rw [if_pos ⟨rfl, h⟩]
theorem xaim_b {r : RF} {k : Int32} (h : bd2 k) : a_image r k = -1000001 := by
  unfold a_image
  rw [if_pos h]
theorem xaim_0 {r : RF} {k : Int32} (hk : ¬ bd2 k) (h : r 0 = 0) : a_image r k = -1000002 := by
  unfold a_image
  rw [if_neg hk, if_pos h]
theorem xaim_go {r : RF} {k : Int32} (hk : ¬ bd2 k) (h : ¬ r 0 = 0) : a_image r k = 1 := by
  unfold a_image
  rw [if_neg hk, if_neg h]
theorem xpk_0 {I0 I1 : RF} : pkI I0 I1 0 = I0 := by
  unfold pkI
  rw [if_pos rfl]
theorem xpk_1 {I0 I1 : RF} : pkI I0 I1 1 = I1 := by
  unfold pkI
  rw [if_neg (by decide)]
theorem xrs_b {Lv I0 I1 : RF} {An : Nat} {k : Int32} (h : bd2 k) : n_rst Lv I0 I1 k = Lv ∧ m_rst An I0 I1 k = An ∧ a_rst I0 I1 k = -1000001 := by
  have g : ¬ gd_rst I0 I1 k := fun q => q.1 h
  unfold n_rst m_rst a_rst
  exact ⟨if_neg g, if_neg g, if_pos h⟩
theorem xrs_x0 {Lv I0 I1 : RF} {An : Nat} {k : Int32} (hk : ¬ bd2 k) (h : pkI I0 I1 k 0 = 0) : n_rst Lv I0 I1 k = Lv ∧ m_rst An I0 I1 k = An ∧ a_rst I0 I1 k = -1000002 := by
  have g : ¬ gd_rst I0 I1 k := fun q => q.2 h
  unfold n_rst m_rst a_rst
  refine ⟨if_neg g, if_neg g, ?_⟩
  rw [if_neg hk, if_pos h]
theorem xrs_x1 {Lv I0 I1 : RF} {An : Nat} {k : Int32} (hk : ¬ bd2 k) (h : ¬ pkI I0 I1 k 0 = 0) : n_rst Lv I0 I1 k = pkI I0 I1 k ∧ m_rst An I0 I1 k = 0 ∧ a_rst I0 I1 k = 1 := by
  have g : gd_rst I0 I1 k := ⟨hk, h⟩
  unfold n_rst m_rst a_rst
  refine ⟨if_pos g, if_pos g, ?_⟩
  rw [if_neg hk, if_neg h]
theorem xrs_00 {Lv I0 I1 : RF} {An : Nat} (h : I0 0 = 0) : n_rst Lv I0 I1 0 = Lv ∧ m_rst An I0 I1 0 = An ∧ a_rst I0 I1 0 = -1000002 := xrs_x0 (by decide) (by rw [xpk_0]; exact h)
theorem xrs_10 {Lv I0 I1 : RF} {An : Nat} (h : I1 0 = 0) : n_rst Lv I0 I1 1 = Lv ∧ m_rst An I0 I1 1 = An ∧ a_rst I0 I1 1 = -1000002 := xrs_x0 (by decide) (by rw [xpk_1]; exact h)
theorem xrs_01 {Lv I0 I1 : RF} {An : Nat} (h : ¬ I0 0 = 0) : n_rst Lv I0 I1 0 = I0 ∧ m_rst An I0 I1 0 = 0 ∧ a_rst I0 I1 0 = 1 := by
  have z := xrs_x1 (Lv := Lv) (An := An) (I0 := I0) (I1 := I1) (k := 0) (by decide) (by rw [xpk_0]; exact h)
  rw [xpk_0] at z
  exact z
theorem xrs_11 {Lv I0 I1 : RF} {An : Nat} (h : ¬ I1 0 = 0) : n_rst Lv I0 I1 1 = I1 ∧ m_rst An I0 I1 1 = 0 ∧ a_rst I0 I1 1 = 1 := by
  have z := xrs_x1 (Lv := Lv) (An := An) (I0 := I0) (I1 := I1) (k := 1) (by decide) (by rw [xpk_1]; exact h)
  rw [xpk_1] at z
  exact z
theorem dX7_image_0 : decode cX7_image 0 = .ok (.iload_n 1, 1) := dq_27 (by decide +kernel)
theorem dX7_image_1 : decode cX7_image 1 = .ok (.ifCond .lt 12, 3) := dq_155 (b1 := 0) (b2 := 12) (by decide +kernel) (by decide)
theorem dX7_image_10 : decode cX7_image 10 = .ok (.if_icmp .lt 6, 3) := dq_161 (b1 := 0) (b2 := 6) (by decide +kernel) (by decide)
theorem dX7_image_13 : decode cX7_image 13 = .ok (.ldc 72, 2) := dq_18 (b1 := 72) (by decide +kernel) (by decide)
theorem dX7_image_15 : decode cX7_image 15 = .ok (.ireturn, 1) := dq_172 (by decide +kernel)
theorem dX7_image_16 : decode cX7_image 16 = .ok (.aload_n 0, 1) := dq_42 (by decide +kernel)
theorem dX7_image_17 : decode cX7_image 17 = .ok (.getfield 26, 3) := dq_180 (b1 := 0) (b2 := 26) (by decide +kernel) (by decide)
theorem dX7_image_20 : decode cX7_image 20 = .ok (.invokevirtual 145, 3) := dq_182 (b1 := 0) (b2 := 145) (by decide +kernel) (by decide)
theorem dX7_image_23 : decode cX7_image 23 = .ok (.ifCond .ne 6, 3) := dq_154 (b1 := 0) (b2 := 6) (by decide +kernel) (by decide)
theorem dX7_image_26 : decode cX7_image 26 = .ok (.ldc 141, 2) := dq_18 (b1 := 141) (by decide +kernel) (by decide)
theorem dX7_image_28 : decode cX7_image 28 = .ok (.ireturn, 1) := dq_172 (by decide +kernel)
theorem dX7_image_29 : decode cX7_image 29 = .ok (.aload_n 0, 1) := dq_42 (by decide +kernel)
theorem dX7_image_30 : decode cX7_image 30 = .ok (.getfield 37, 3) := dq_180 (b1 := 0) (b2 := 37) (by decide +kernel) (by decide)
theorem dX7_image_33 : decode cX7_image 33 = .ok (.iload_n 1, 1) := dq_27 (by decide +kernel)
theorem dX7_image_34 : decode cX7_image 34 = .ok (.aaload, 1) := dq_50 (by decide +kernel)
theorem dX7_image_35 : decode cX7_image 35 = .ok (.aload_n 0, 1) := dq_42 (by decide +kernel)
theorem dX7_image_36 : decode cX7_image 36 = .ok (.getfield 26, 3) := dq_180 (b1 := 0) (b2 := 26) (by decide +kernel) (by decide)
theorem dX7_image_39 : decode cX7_image 39 = .ok (.invokevirtual 128, 3) := dq_182 (b1 := 0) (b2 := 128) (by decide +kernel) (by decide)
theorem dX7_image_4 : decode cX7_image 4 = .ok (.iload_n 1, 1) := dq_27 (by decide +kernel)
theorem dX7_image_42 : decode cX7_image 42 = .ok (.iconst 1, 1) := dq_4 (by decide +kernel)
theorem dX7_image_43 : decode cX7_image 43 = .ok (.ireturn, 1) := dq_172 (by decide +kernel)
theorem dX7_image_5 : decode cX7_image 5 = .ok (.aload_n 0, 1) := dq_42 (by decide +kernel)
theorem dX7_image_6 : decode cX7_image 6 = .ok (.getfield 37, 3) := dq_180 (b1 := 0) (b2 := 37) (by decide +kernel) (by decide)
theorem dX7_image_9 : decode cX7_image 9 = .ok (.arraylength, 1) := dq_190 (by decide +kernel)
theorem dX7_restore_0 : decode cX7_restore 0 = .ok (.iload_n 1, 1) := dq_27 (by decide +kernel)
theorem dX7_restore_1 : decode cX7_restore 1 = .ok (.ifCond .lt 12, 3) := dq_155 (b1 := 0) (b2 := 12) (by decide +kernel) (by decide)
theorem dX7_restore_10 : decode cX7_restore 10 = .ok (.if_icmp .lt 6, 3) := dq_161 (b1 := 0) (b2 := 6) (by decide +kernel) (by decide)
theorem dX7_restore_13 : decode cX7_restore 13 = .ok (.ldc 72, 2) := dq_18 (b1 := 72) (by decide +kernel) (by decide)
theorem dX7_restore_15 : decode cX7_restore 15 = .ok (.ireturn, 1) := dq_172 (by decide +kernel)
theorem dX7_restore_16 : decode cX7_restore 16 = .ok (.aload_n 0, 1) := dq_42 (by decide +kernel)
theorem dX7_restore_17 : decode cX7_restore 17 = .ok (.getfield 37, 3) := dq_180 (b1 := 0) (b2 := 37) (by decide +kernel) (by decide)
theorem dX7_restore_20 : decode cX7_restore 20 = .ok (.iload_n 1, 1) := dq_27 (by decide +kernel)
theorem dX7_restore_21 : decode cX7_restore 21 = .ok (.aaload, 1) := dq_50 (by decide +kernel)
theorem dX7_restore_22 : decode cX7_restore 22 = .ok (.invokevirtual 145, 3) := dq_182 (b1 := 0) (b2 := 145) (by decide +kernel) (by decide)
theorem dX7_restore_25 : decode cX7_restore 25 = .ok (.ifCond .ne 6, 3) := dq_154 (b1 := 0) (b2 := 6) (by decide +kernel) (by decide)
theorem dX7_restore_28 : decode cX7_restore 28 = .ok (.ldc 141, 2) := dq_18 (b1 := 141) (by decide +kernel) (by decide)
theorem dX7_restore_30 : decode cX7_restore 30 = .ok (.ireturn, 1) := dq_172 (by decide +kernel)
theorem dX7_restore_31 : decode cX7_restore 31 = .ok (.aload_n 0, 1) := dq_42 (by decide +kernel)
theorem dX7_restore_32 : decode cX7_restore 32 = .ok (.getfield 26, 3) := dq_180 (b1 := 0) (b2 := 26) (by decide +kernel) (by decide)
theorem dX7_restore_35 : decode cX7_restore 35 = .ok (.aload_n 0, 1) := dq_42 (by decide +kernel)
theorem dX7_restore_36 : decode cX7_restore 36 = .ok (.getfield 37, 3) := dq_180 (b1 := 0) (b2 := 37) (by decide +kernel) (by decide)
theorem dX7_restore_39 : decode cX7_restore 39 = .ok (.iload_n 1, 1) := dq_27 (by decide +kernel)
theorem dX7_restore_4 : decode cX7_restore 4 = .ok (.iload_n 1, 1) := dq_27 (by decide +kernel)
theorem dX7_restore_40 : decode cX7_restore 40 = .ok (.aaload, 1) := dq_50 (by decide +kernel)
theorem dX7_restore_41 : decode cX7_restore 41 = .ok (.invokevirtual 128, 3) := dq_182 (b1 := 0) (b2 := 128) (by decide +kernel) (by decide)
theorem dX7_restore_44 : decode cX7_restore 44 = .ok (.aload_n 0, 1) := dq_42 (by decide +kernel)
theorem dX7_restore_45 : decode cX7_restore 45 = .ok (.getfield 33, 3) := dq_180 (b1 := 0) (b2 := 33) (by decide +kernel) (by decide)
theorem dX7_restore_48 : decode cX7_restore 48 = .ok (.invokevirtual 132, 3) := dq_182 (b1 := 0) (b2 := 132) (by decide +kernel) (by decide)
theorem dX7_restore_5 : decode cX7_restore 5 = .ok (.aload_n 0, 1) := dq_42 (by decide +kernel)
theorem dX7_restore_51 : decode cX7_restore 51 = .ok (.iconst 1, 1) := dq_4 (by decide +kernel)
theorem dX7_restore_52 : decode cX7_restore 52 = .ok (.ireturn, 1) := dq_172 (by decide +kernel)
theorem dX7_restore_6 : decode cX7_restore 6 = .ok (.getfield 37, 3) := dq_180 (b1 := 0) (b2 := 37) (by decide +kernel) (by decide)
theorem dX7_restore_9 : decode cX7_restore 9 = .ok (.arraylength, 1) := dq_190 (by decide +kernel)
theorem mb_X7_image_wsX7_image_r1 {w : Cond} (h : w ∈ wsX7_image_r1) : w ∈ wsX7_image := by unfold wsX7_image; exact List.mem_cons_of_mem _ (List.mem_append_left _ (List.mem_append_left _ (List.mem_append_left _ (h))))
theorem mx_X7_image_14 : Cond.code yX3_becomeLike cX3_becomeLike 2 none ∈ wsX7_image := mb_X7_image_wsX7_image_r1 (List.mem_of_getElem? (i := 13) rfl)
theorem mx_X7_image_10 : Cond.fieldLink RX3 27 "MillTalk$Level" "cells" "I" ∈ wsX7_image := mb_X7_image_wsX7_image_r1 (List.mem_of_getElem? (i := 9) rfl)
theorem mx_X7_image_15 : Cond.fieldLink RX3 31 "MillTalk$Level" "mill" "I" ∈ wsX7_image := mb_X7_image_wsX7_image_r1 (List.mem_of_getElem? (i := 14) rfl)
theorem mx_X7_image_16 : Cond.fieldLink RX3 34 "MillTalk$Level" "reach" "I" ∈ wsX7_image := mb_X7_image_wsX7_image_r1 (List.mem_of_getElem? (i := 15) rfl)
theorem mx_X7_image_17 : Cond.fieldLink RX3 37 "MillTalk$Level" "cap" "I" ∈ wsX7_image := mb_X7_image_wsX7_image_r1 (List.mem_of_getElem? (i := 16) rfl)
theorem mx_X7_image_18 : Cond.fieldLink RX3 40 "MillTalk$Level" "hour" "I" ∈ wsX7_image := mb_X7_image_wsX7_image_r1 (List.mem_of_getElem? (i := 17) rfl)
theorem mx_X7_image_19 : Cond.fieldLink RX3 43 "MillTalk$Level" "meal" "I" ∈ wsX7_image := mb_X7_image_wsX7_image_r1 (List.mem_of_getElem? (i := 18) rfl)
theorem mx_X7_image_20 : Cond.fieldLink RX3 46 "MillTalk$Level" "windCount" "I" ∈ wsX7_image := mb_X7_image_wsX7_image_r1 (List.mem_of_getElem? (i := 19) rfl)
theorem mx_X7_image_21 : Cond.fieldLink RX3 49 "MillTalk$Level" "soundCount" "I" ∈ wsX7_image := mb_X7_image_wsX7_image_r1 (List.mem_of_getElem? (i := 20) rfl)
theorem mx_X7_image_22 : Cond.fieldLink RX3 9 "MillTalk$Level" "winds" "[I" ∈ wsX7_image := mb_X7_image_wsX7_image_r1 (List.mem_of_getElem? (i := 21) rfl)
theorem mx_X7_image_23 : Cond.methodLink RX3 52 arraycopyName ∈ wsX7_image := mb_X7_image_wsX7_image_r1 (List.mem_of_getElem? (i := 22) rfl)
theorem mx_X7_image_24 : Cond.native arraycopyName ∈ wsX7_image := mb_X7_image_wsX7_image_r1 (List.mem_of_getElem? (i := 23) rfl)
theorem mb_X7_image_wsX7_image_r2 {w : Cond} (h : w ∈ wsX7_image_r2) : w ∈ wsX7_image := by unfold wsX7_image; exact List.mem_cons_of_mem _ (List.mem_append_left _ (List.mem_append_left _ (List.mem_append_right _ (h))))
theorem mx_X7_image_25 : Cond.static arraycopyName ∈ wsX7_image := mb_X7_image_wsX7_image_r2 (List.mem_of_getElem? (i := 0) rfl)
theorem mx_X7_image_26 : Cond.initialized "java/lang/System" ∈ wsX7_image := mb_X7_image_wsX7_image_r2 (List.mem_of_getElem? (i := 1) rfl)
theorem mx_X7_image_27 : Cond.fieldLink RX3 15 "MillTalk$Level" "kinds" "[I" ∈ wsX7_image := mb_X7_image_wsX7_image_r2 (List.mem_of_getElem? (i := 2) rfl)
theorem mx_X7_image_28 : Cond.fieldLink RX3 18 "MillTalk$Level" "places" "[I" ∈ wsX7_image := mb_X7_image_wsX7_image_r2 (List.mem_of_getElem? (i := 3) rfl)
theorem mx_X7_image_29 : Cond.fieldLink RX3 21 "MillTalk$Level" "louds" "[I" ∈ wsX7_image := mb_X7_image_wsX7_image_r2 (List.mem_of_getElem? (i := 4) rfl)
theorem mx_X7_image_30 : Cond.fieldLink RX3 24 "MillTalk$Level" "hows" "[I" ∈ wsX7_image := mb_X7_image_wsX7_image_r2 (List.mem_of_getElem? (i := 5) rfl)
theorem mb_X7_image_wsX30 {w : Cond} (h : w ∈ wsX30) : w ∈ wsX7_image := by unfold wsX7_image; exact List.mem_cons_of_mem _ (List.mem_append_right _ (h))
theorem ggX7_image_X3_becomeLike : GoodIn wsX7_image wsX3_becomeLike := goodIn_sub (by unfold wsX3_becomeLike; exact List.forall_mem_cons.mpr ⟨mx_X7_image_14, List.forall_mem_append.mpr ⟨List.forall_mem_cons.mpr ⟨mx_X7_image_10, List.forall_mem_cons.mpr ⟨mx_X7_image_15, List.forall_mem_cons.mpr ⟨mx_X7_image_16, List.forall_mem_cons.mpr ⟨mx_X7_image_17, List.forall_mem_cons.mpr ⟨mx_X7_image_18, List.forall_mem_cons.mpr ⟨mx_X7_image_19, List.forall_mem_cons.mpr ⟨mx_X7_image_20, List.forall_mem_cons.mpr ⟨mx_X7_image_21, List.forall_mem_cons.mpr ⟨mx_X7_image_22, List.forall_mem_cons.mpr ⟨mx_X7_image_23, List.forall_mem_cons.mpr ⟨mx_X7_image_24, List.forall_mem_cons.mpr ⟨mx_X7_image_25, List.forall_mem_cons.mpr ⟨mx_X7_image_26, List.forall_mem_cons.mpr ⟨mx_X7_image_27, List.forall_mem_cons.mpr ⟨mx_X7_image_28, List.forall_mem_cons.mpr ⟨mx_X7_image_29, List.forall_mem_cons.mpr ⟨mx_X7_image_30, fun _ h_ => absurd h_ List.not_mem_nil⟩⟩⟩⟩⟩⟩⟩⟩⟩⟩⟩⟩⟩⟩⟩⟩⟩, (fun _ h_ => mb_X7_image_wsX30 h_)⟩⟩) (by decide +kernel)
theorem mx_X7_image_11 : Cond.methodLink RX7 128 yX3_becomeLike ∈ wsX7_image := mb_X7_image_wsX7_image_r1 (List.mem_of_getElem? (i := 10) rfl)
theorem mx_X7_image_12 : Cond.instanceMethod yX3_becomeLike ∈ wsX7_image := mb_X7_image_wsX7_image_r1 (List.mem_of_getElem? (i := 11) rfl)
theorem mx_X7_image_13 : Cond.selects RX3 yX3_becomeLike yX3_becomeLike ∈ wsX7_image := mb_X7_image_wsX7_image_r1 (List.mem_of_getElem? (i := 12) rfl)
theorem mx_X7_image_8 : Cond.initialized RX3 ∈ wsX7_image := mb_X7_image_wsX7_image_r1 (List.mem_of_getElem? (i := 7) rfl)
theorem gX7_image_X3_becomeLike : GoodIn wsX7_image (wsV RX7 128 RX3 yX3_becomeLike wsX3_becomeLike) := goodIn_app (goodIn_sub (List.forall_mem_cons.mpr ⟨mx_X7_image_11, List.forall_mem_cons.mpr ⟨mx_X7_image_12, List.forall_mem_cons.mpr ⟨mx_X7_image_13, List.forall_mem_cons.mpr ⟨mx_X7_image_8, fun _ h_ => absurd h_ List.not_mem_nil⟩⟩⟩⟩) (by decide +kernel)) ggX7_image_X3_becomeLike
theorem mx_X7_image_9 : Cond.code yX3_isTold cX3_isTold 1 (some .boolean) ∈ wsX7_image := mb_X7_image_wsX7_image_r1 (List.mem_of_getElem? (i := 8) rfl)
theorem ggX7_image_X3_isTold : GoodIn wsX7_image wsX3_isTold := goodIn_sub (by unfold wsX3_isTold; exact List.forall_mem_cons.mpr ⟨mx_X7_image_9, List.forall_mem_append.mpr ⟨List.forall_mem_cons.mpr ⟨mx_X7_image_10, fun _ h_ => absurd h_ List.not_mem_nil⟩, (fun _ h_ => mb_X7_image_wsX30 h_)⟩⟩) (by decide +kernel)
theorem mx_X7_image_5 : Cond.methodLink RX7 145 yX3_isTold ∈ wsX7_image := mb_X7_image_wsX7_image_r1 (List.mem_of_getElem? (i := 4) rfl)
theorem mx_X7_image_6 : Cond.instanceMethod yX3_isTold ∈ wsX7_image := mb_X7_image_wsX7_image_r1 (List.mem_of_getElem? (i := 5) rfl)
theorem mx_X7_image_7 : Cond.selects RX3 yX3_isTold yX3_isTold ∈ wsX7_image := mb_X7_image_wsX7_image_r1 (List.mem_of_getElem? (i := 6) rfl)
theorem gX7_image_X3_isTold : GoodIn wsX7_image (wsV RX7 145 RX3 yX3_isTold wsX3_isTold) := goodIn_app (goodIn_sub (List.forall_mem_cons.mpr ⟨mx_X7_image_5, List.forall_mem_cons.mpr ⟨mx_X7_image_6, List.forall_mem_cons.mpr ⟨mx_X7_image_7, List.forall_mem_cons.mpr ⟨mx_X7_image_8, fun _ h_ => absurd h_ List.not_mem_nil⟩⟩⟩⟩) (by decide +kernel)) ggX7_image_X3_isTold
theorem mb_X7_restore_wsX7_restore_r2 {w : Cond} (h : w ∈ wsX7_restore_r2) : w ∈ wsX7_restore := by unfold wsX7_restore; exact List.mem_cons_of_mem _ (List.mem_append_left _ (List.mem_append_left _ (List.mem_append_left _ (List.mem_append_right _ (h)))))
theorem mx_X7_restore_36 : Cond.code yX0_forget cX0_forget 1 none ∈ wsX7_restore := mb_X7_restore_wsX7_restore_r2 (List.mem_of_getElem? (i := 11) rfl)
theorem mx_X7_restore_37 : Cond.fieldLink RX0 16 "MillTalk$Acts" "size" "I" ∈ wsX7_restore := mb_X7_restore_wsX7_restore_r2 (List.mem_of_getElem? (i := 12) rfl)
theorem mb_X7_restore_wsX00 {w : Cond} (h : w ∈ wsX00) : w ∈ wsX7_restore := by unfold wsX7_restore; exact List.mem_cons_of_mem _ (List.mem_append_right _ (h))
theorem ggX7_restore_X0_forget : GoodIn wsX7_restore wsX0_forget := goodIn_sub (by unfold wsX0_forget; exact List.forall_mem_cons.mpr ⟨mx_X7_restore_36, List.forall_mem_append.mpr ⟨List.forall_mem_cons.mpr ⟨mx_X7_restore_37, fun _ h_ => absurd h_ List.not_mem_nil⟩, (fun _ h_ => mb_X7_restore_wsX00 h_)⟩⟩) (by decide +kernel)
theorem mx_X7_restore_32 : Cond.methodLink RX7 132 yX0_forget ∈ wsX7_restore := mb_X7_restore_wsX7_restore_r2 (List.mem_of_getElem? (i := 7) rfl)
theorem mx_X7_restore_33 : Cond.instanceMethod yX0_forget ∈ wsX7_restore := mb_X7_restore_wsX7_restore_r2 (List.mem_of_getElem? (i := 8) rfl)
theorem mx_X7_restore_34 : Cond.selects RX0 yX0_forget yX0_forget ∈ wsX7_restore := mb_X7_restore_wsX7_restore_r2 (List.mem_of_getElem? (i := 9) rfl)
theorem mx_X7_restore_35 : Cond.initialized RX0 ∈ wsX7_restore := mb_X7_restore_wsX7_restore_r2 (List.mem_of_getElem? (i := 10) rfl)
theorem gX7_restore_X0_forget : GoodIn wsX7_restore (wsV RX7 132 RX0 yX0_forget wsX0_forget) := goodIn_app (goodIn_sub (List.forall_mem_cons.mpr ⟨mx_X7_restore_32, List.forall_mem_cons.mpr ⟨mx_X7_restore_33, List.forall_mem_cons.mpr ⟨mx_X7_restore_34, List.forall_mem_cons.mpr ⟨mx_X7_restore_35, fun _ h_ => absurd h_ List.not_mem_nil⟩⟩⟩⟩) (by decide +kernel)) ggX7_restore_X0_forget
theorem mb_X7_restore_wsX7_restore_r1 {w : Cond} (h : w ∈ wsX7_restore_r1) : w ∈ wsX7_restore := by unfold wsX7_restore; exact List.mem_cons_of_mem _ (List.mem_append_left _ (List.mem_append_left _ (List.mem_append_left _ (List.mem_append_left _ (h)))))
theorem mx_X7_restore_15 : Cond.code yX3_becomeLike cX3_becomeLike 2 none ∈ wsX7_restore := mb_X7_restore_wsX7_restore_r1 (List.mem_of_getElem? (i := 14) rfl)
theorem mx_X7_restore_11 : Cond.fieldLink RX3 27 "MillTalk$Level" "cells" "I" ∈ wsX7_restore := mb_X7_restore_wsX7_restore_r1 (List.mem_of_getElem? (i := 10) rfl)
theorem mx_X7_restore_16 : Cond.fieldLink RX3 31 "MillTalk$Level" "mill" "I" ∈ wsX7_restore := mb_X7_restore_wsX7_restore_r1 (List.mem_of_getElem? (i := 15) rfl)
theorem mx_X7_restore_17 : Cond.fieldLink RX3 34 "MillTalk$Level" "reach" "I" ∈ wsX7_restore := mb_X7_restore_wsX7_restore_r1 (List.mem_of_getElem? (i := 16) rfl)
theorem mx_X7_restore_18 : Cond.fieldLink RX3 37 "MillTalk$Level" "cap" "I" ∈ wsX7_restore := mb_X7_restore_wsX7_restore_r1 (List.mem_of_getElem? (i := 17) rfl)
theorem mx_X7_restore_19 : Cond.fieldLink RX3 40 "MillTalk$Level" "hour" "I" ∈ wsX7_restore := mb_X7_restore_wsX7_restore_r1 (List.mem_of_getElem? (i := 18) rfl)
theorem mx_X7_restore_20 : Cond.fieldLink RX3 43 "MillTalk$Level" "meal" "I" ∈ wsX7_restore := mb_X7_restore_wsX7_restore_r1 (List.mem_of_getElem? (i := 19) rfl)
theorem mx_X7_restore_21 : Cond.fieldLink RX3 46 "MillTalk$Level" "windCount" "I" ∈ wsX7_restore := mb_X7_restore_wsX7_restore_r1 (List.mem_of_getElem? (i := 20) rfl)
theorem mx_X7_restore_22 : Cond.fieldLink RX3 49 "MillTalk$Level" "soundCount" "I" ∈ wsX7_restore := mb_X7_restore_wsX7_restore_r1 (List.mem_of_getElem? (i := 21) rfl)
theorem mx_X7_restore_23 : Cond.fieldLink RX3 9 "MillTalk$Level" "winds" "[I" ∈ wsX7_restore := mb_X7_restore_wsX7_restore_r1 (List.mem_of_getElem? (i := 22) rfl)
theorem mx_X7_restore_24 : Cond.methodLink RX3 52 arraycopyName ∈ wsX7_restore := mb_X7_restore_wsX7_restore_r1 (List.mem_of_getElem? (i := 23) rfl)
theorem mx_X7_restore_25 : Cond.native arraycopyName ∈ wsX7_restore := mb_X7_restore_wsX7_restore_r2 (List.mem_of_getElem? (i := 0) rfl)
theorem mx_X7_restore_26 : Cond.static arraycopyName ∈ wsX7_restore := mb_X7_restore_wsX7_restore_r2 (List.mem_of_getElem? (i := 1) rfl)
theorem mx_X7_restore_27 : Cond.initialized "java/lang/System" ∈ wsX7_restore := mb_X7_restore_wsX7_restore_r2 (List.mem_of_getElem? (i := 2) rfl)
theorem mx_X7_restore_28 : Cond.fieldLink RX3 15 "MillTalk$Level" "kinds" "[I" ∈ wsX7_restore := mb_X7_restore_wsX7_restore_r2 (List.mem_of_getElem? (i := 3) rfl)
theorem mx_X7_restore_29 : Cond.fieldLink RX3 18 "MillTalk$Level" "places" "[I" ∈ wsX7_restore := mb_X7_restore_wsX7_restore_r2 (List.mem_of_getElem? (i := 4) rfl)
theorem mx_X7_restore_30 : Cond.fieldLink RX3 21 "MillTalk$Level" "louds" "[I" ∈ wsX7_restore := mb_X7_restore_wsX7_restore_r2 (List.mem_of_getElem? (i := 5) rfl)
theorem mx_X7_restore_31 : Cond.fieldLink RX3 24 "MillTalk$Level" "hows" "[I" ∈ wsX7_restore := mb_X7_restore_wsX7_restore_r2 (List.mem_of_getElem? (i := 6) rfl)
theorem mb_X7_restore_wsX30 {w : Cond} (h : w ∈ wsX30) : w ∈ wsX7_restore := by unfold wsX7_restore; exact List.mem_cons_of_mem _ (List.mem_append_left _ (List.mem_append_right _ (h)))
theorem ggX7_restore_X3_becomeLike : GoodIn wsX7_restore wsX3_becomeLike := goodIn_sub (by unfold wsX3_becomeLike; exact List.forall_mem_cons.mpr ⟨mx_X7_restore_15, List.forall_mem_append.mpr ⟨List.forall_mem_cons.mpr ⟨mx_X7_restore_11, List.forall_mem_cons.mpr ⟨mx_X7_restore_16, List.forall_mem_cons.mpr ⟨mx_X7_restore_17, List.forall_mem_cons.mpr ⟨mx_X7_restore_18, List.forall_mem_cons.mpr ⟨mx_X7_restore_19, List.forall_mem_cons.mpr ⟨mx_X7_restore_20, List.forall_mem_cons.mpr ⟨mx_X7_restore_21, List.forall_mem_cons.mpr ⟨mx_X7_restore_22, List.forall_mem_cons.mpr ⟨mx_X7_restore_23, List.forall_mem_cons.mpr ⟨mx_X7_restore_24, List.forall_mem_cons.mpr ⟨mx_X7_restore_25, List.forall_mem_cons.mpr ⟨mx_X7_restore_26, List.forall_mem_cons.mpr ⟨mx_X7_restore_27, List.forall_mem_cons.mpr ⟨mx_X7_restore_28, List.forall_mem_cons.mpr ⟨mx_X7_restore_29, List.forall_mem_cons.mpr ⟨mx_X7_restore_30, List.forall_mem_cons.mpr ⟨mx_X7_restore_31, fun _ h_ => absurd h_ List.not_mem_nil⟩⟩⟩⟩⟩⟩⟩⟩⟩⟩⟩⟩⟩⟩⟩⟩⟩, (fun _ h_ => mb_X7_restore_wsX30 h_)⟩⟩) (by decide +kernel)
theorem mx_X7_restore_12 : Cond.methodLink RX7 128 yX3_becomeLike ∈ wsX7_restore := mb_X7_restore_wsX7_restore_r1 (List.mem_of_getElem? (i := 11) rfl)
theorem mx_X7_restore_13 : Cond.instanceMethod yX3_becomeLike ∈ wsX7_restore := mb_X7_restore_wsX7_restore_r1 (List.mem_of_getElem? (i := 12) rfl)
theorem mx_X7_restore_14 : Cond.selects RX3 yX3_becomeLike yX3_becomeLike ∈ wsX7_restore := mb_X7_restore_wsX7_restore_r1 (List.mem_of_getElem? (i := 13) rfl)
theorem mx_X7_restore_9 : Cond.initialized RX3 ∈ wsX7_restore := mb_X7_restore_wsX7_restore_r1 (List.mem_of_getElem? (i := 8) rfl)
theorem gX7_restore_X3_becomeLike : GoodIn wsX7_restore (wsV RX7 128 RX3 yX3_becomeLike wsX3_becomeLike) := goodIn_app (goodIn_sub (List.forall_mem_cons.mpr ⟨mx_X7_restore_12, List.forall_mem_cons.mpr ⟨mx_X7_restore_13, List.forall_mem_cons.mpr ⟨mx_X7_restore_14, List.forall_mem_cons.mpr ⟨mx_X7_restore_9, fun _ h_ => absurd h_ List.not_mem_nil⟩⟩⟩⟩) (by decide +kernel)) ggX7_restore_X3_becomeLike
theorem mx_X7_restore_10 : Cond.code yX3_isTold cX3_isTold 1 (some .boolean) ∈ wsX7_restore := mb_X7_restore_wsX7_restore_r1 (List.mem_of_getElem? (i := 9) rfl)
theorem ggX7_restore_X3_isTold : GoodIn wsX7_restore wsX3_isTold := goodIn_sub (by unfold wsX3_isTold; exact List.forall_mem_cons.mpr ⟨mx_X7_restore_10, List.forall_mem_append.mpr ⟨List.forall_mem_cons.mpr ⟨mx_X7_restore_11, fun _ h_ => absurd h_ List.not_mem_nil⟩, (fun _ h_ => mb_X7_restore_wsX30 h_)⟩⟩) (by decide +kernel)
theorem mx_X7_restore_6 : Cond.methodLink RX7 145 yX3_isTold ∈ wsX7_restore := mb_X7_restore_wsX7_restore_r1 (List.mem_of_getElem? (i := 5) rfl)
theorem mx_X7_restore_7 : Cond.instanceMethod yX3_isTold ∈ wsX7_restore := mb_X7_restore_wsX7_restore_r1 (List.mem_of_getElem? (i := 6) rfl)
theorem mx_X7_restore_8 : Cond.selects RX3 yX3_isTold yX3_isTold ∈ wsX7_restore := mb_X7_restore_wsX7_restore_r1 (List.mem_of_getElem? (i := 7) rfl)
theorem gX7_restore_X3_isTold : GoodIn wsX7_restore (wsV RX7 145 RX3 yX3_isTold wsX3_isTold) := goodIn_app (goodIn_sub (List.forall_mem_cons.mpr ⟨mx_X7_restore_6, List.forall_mem_cons.mpr ⟨mx_X7_restore_7, List.forall_mem_cons.mpr ⟨mx_X7_restore_8, List.forall_mem_cons.mpr ⟨mx_X7_restore_9, fun _ h_ => absurd h_ List.not_mem_nil⟩⟩⟩⟩) (by decide +kernel)) ggX7_restore_X3_isTold
theorem mb_X7_image_wsX70 {w : Cond} (h : w ∈ wsX70) : w ∈ wsX7_image := by unfold wsX7_image; exact List.mem_cons_of_mem _ (List.mem_append_left _ (List.mem_append_right _ (h)))
theorem i_X7_image_X7 : ∀ w ∈ u_ws RX7 TX7 11, w ∈ wsX7_image := fun _ h_ => mb_X7_image_wsX70 h_
theorem mb_X7_restore_wsX70 {w : Cond} (h : w ∈ wsX70) : w ∈ wsX7_restore := by unfold wsX7_restore; exact List.mem_cons_of_mem _ (List.mem_append_left _ (List.mem_append_left _ (List.mem_append_right _ (h))))
theorem i_X7_restore_X7 : ∀ w ∈ u_ws RX7 TX7 11, w ∈ wsX7_restore := fun _ h_ => mb_X7_restore_wsX70 h_
theorem mx_X7_image_2 : Cond.constant RX7 72 (-1000001) ∈ wsX7_image := mb_X7_image_wsX7_image_r1 (List.mem_of_getElem? (i := 1) rfl)
theorem mx_X7_image_1 : Cond.fieldLink RX7 37 "MillTalk" "images" "[LMillTalk$Level;" ∈ wsX7_image := mb_X7_image_wsX7_image_r1 (List.mem_of_getElem? (i := 0) rfl)
theorem mx_X7_image_3 : Cond.fieldLink RX7 26 "MillTalk" "now" "LMillTalk$Level;" ∈ wsX7_image := mb_X7_image_wsX7_image_r1 (List.mem_of_getElem? (i := 2) rfl)
theorem mx_X7_image_4 : Cond.constant RX7 141 (-1000002) ∈ wsX7_image := mb_X7_image_wsX7_image_r1 (List.mem_of_getElem? (i := 3) rfl)
theorem mx_X7_restore_2 : Cond.constant RX7 72 (-1000001) ∈ wsX7_restore := mb_X7_restore_wsX7_restore_r1 (List.mem_of_getElem? (i := 1) rfl)
theorem mx_X7_restore_1 : Cond.fieldLink RX7 37 "MillTalk" "images" "[LMillTalk$Level;" ∈ wsX7_restore := mb_X7_restore_wsX7_restore_r1 (List.mem_of_getElem? (i := 0) rfl)
theorem mx_X7_restore_3 : Cond.constant RX7 141 (-1000002) ∈ wsX7_restore := mb_X7_restore_wsX7_restore_r1 (List.mem_of_getElem? (i := 2) rfl)
theorem mx_X7_restore_4 : Cond.fieldLink RX7 26 "MillTalk" "now" "LMillTalk$Level;" ∈ wsX7_restore := mb_X7_restore_wsX7_restore_r1 (List.mem_of_getElem? (i := 3) rfl)
theorem mx_X7_restore_5 : Cond.fieldLink RX7 33 "MillTalk" "acts" "LMillTalk$Acts;" ∈ wsX7_restore := mb_X7_restore_wsX7_restore_r1 (List.mem_of_getElem? (i := 4) rfl)
