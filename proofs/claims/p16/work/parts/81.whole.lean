theorem st1_of {args : Array Value} {s : State} {C n : String} {A : Nat → Prop} {f : Nat → Int32} (hl : (Cond.laysStatic C n "[I").before args s = true) (hini : (Cond.initialized C).before args s = true) (harr : (Cond.arrayOf (.static C n "[I") .int).before args s = true) (hlen : (Cond.eq (.length (.static C n "[I")) (.int 6)).before args s = true) (hel : ∀ j : Nat, j < 6 → (Cond.eq (.elem (.static C n "[I") (.int (Int32.ofNat j))) (.int (f j))).before args s = true) (hA : ∀ a : Nat, a < s.heap.size → ¬ A a) : st1 C n f A s s.heap := by
  obtain ⟨t, h1, h2⟩ := va_Tof (N := 6) (f := fun j => .int (f j)) (by decide) harr (va_eqt hlen) (fun j hj => va_eqt (hel j hj)) hA
  exact ⟨t, va_Zref hl hini h1 hA, h2⟩
set_option maxHeartbeats 4000000 in
set_option maxRecDepth 100000 in
theorem stt_start {args : Array Value} {s : State} {A : Nat → Prop} (hgv : (Jvm.Cond.and given_1 narrow_1).before args s = true) (hts0 : ∀ w ∈ lw_tbl, w.before args s = true) (hA : ∀ a : Nat, a < s.heap.size → ¬ A a) : stt A s s.heap := by
  have hs := flat_of_before _ hgv
  have h_NEXT_KIND : st1 "MillTalk" "NEXT_KIND" nkF A s s.heap := by
    refine st1_of (f := (fun j => [(-1 : Int32), (0 : Int32), (1 : Int32), (1 : Int32), (0 : Int32), (4 : Int32)].getD j 0)) (hts0 _ (by decide +kernel)) (hts0 _ (by decide +kernel)) (hs _ (by decide +kernel)) (hs _ (by decide +kernel)) (fun j hj => ?_) hA
    rcases (show j = 0 ∨ j = 1 ∨ j = 2 ∨ j = 3 ∨ j = 4 ∨ j = 5 by omega) with rfl | rfl | rfl | rfl | rfl | rfl
    · exact hs _ (by decide +kernel)
    · exact hs _ (by decide +kernel)
    · exact hs _ (by decide +kernel)
    · exact hs _ (by decide +kernel)
    · exact hs _ (by decide +kernel)
    · exact hs _ (by decide +kernel)
  have h_SIZE_BODIES : st1 "MillTalk$Asks" "SIZE_BODIES" sbF A s s.heap := by
    refine st1_of (f := (fun j => [(10 : Int32), (11 : Int32), (12 : Int32), (0 : Int32), (13 : Int32), (14 : Int32)].getD j 0)) (hts0 _ (by decide +kernel)) (hts0 _ (by decide +kernel)) (hs _ (by decide +kernel)) (hs _ (by decide +kernel)) (fun j hj => ?_) hA
    rcases (show j = 0 ∨ j = 1 ∨ j = 2 ∨ j = 3 ∨ j = 4 ∨ j = 5 by omega) with rfl | rfl | rfl | rfl | rfl | rfl
    · exact hs _ (by decide +kernel)
    · exact hs _ (by decide +kernel)
    · exact hs _ (by decide +kernel)
    · exact hs _ (by decide +kernel)
    · exact hs _ (by decide +kernel)
    · exact hs _ (by decide +kernel)
  have h_MARK_BODIES : st1 "MillTalk$Asks" "MARK_BODIES" mbF A s s.heap := by
    refine st1_of (f := (fun j => [(20 : Int32), (21 : Int32), (24 : Int32), (22 : Int32), (23 : Int32), (0 : Int32)].getD j 0)) (hts0 _ (by decide +kernel)) (hts0 _ (by decide +kernel)) (hs _ (by decide +kernel)) (hs _ (by decide +kernel)) (fun j hj => ?_) hA
    rcases (show j = 0 ∨ j = 1 ∨ j = 2 ∨ j = 3 ∨ j = 4 ∨ j = 5 by omega) with rfl | rfl | rfl | rfl | rfl | rfl
    · exact hs _ (by decide +kernel)
    · exact hs _ (by decide +kernel)
    · exact hs _ (by decide +kernel)
    · exact hs _ (by decide +kernel)
    · exact hs _ (by decide +kernel)
    · exact hs _ (by decide +kernel)
  exact ⟨h_NEXT_KIND, h_SIZE_BODIES, h_MARK_BODIES, va_Nw.of rfl (hts0 (.fieldLinkNest RX1 53 "MillTalk" "NEXT_KIND" "[I" "MillTalk") (by decide +kernel))⟩

set_option maxHeartbeats 8000000 in
set_option maxRecDepth 100000 in
theorem lw_step {p : Program} {l : Launch} {e : Env} {s : State} {m : MethodId} {below : List Frame} {meth : Method} {c : Code} {b L : Nat} {xs : Nat → Int32} {dC : Nat → ClassId} {dI : Nat → Nat → Nat} {cI cZ cL cJ : ClassId} {A : Nat → Prop} {H : Heap} {locs : List Loc} {ls : Array Slot} {x mo i : Nat} {wx wm : va_W} (hC : LCx p s m meth c b L xs dC dI cI cZ cL cJ A) (hi : 6 * i + 6 ≤ L) (hv : LIv dC dI cI cZ cL cJ A s b x mo i (wx, wm) H locs ls) (ih : ∀ (st2 : va_W × va_W) (H2 : Heap) (locs2 : List Loc) (ls2 : Array Slot), LIv dC dI cI cZ cL cJ A s b x mo (i + 1) st2 H2 locs2 ls2 → W p l e room_1 s m #[Value.ref b] below meth c H2 locs2 277 3929 (lw_Z below #[Value.ref b] s) (F0 m 18 ls2 [])) : W p l e room_1 s m #[Value.ref b] below meth c H locs 277 3929 (lw_Z below #[Value.ref b] s) (F0 m 18 ls []) := by
  have hC0 := hC
  obtain ⟨hx, hb, hr, hml, hown, hts, hX, hbl, hlocks, hAd, hA, hbA, hK, hst, hL⟩ := hC
  have hv0 := hv
  obtain ⟨hR, hP, hD, hS, hl⟩ := hv
  refine lv_iload_n hx hb dL_law_18 rfl (lv_at hl 0 rfl) ?_
  refine lv_aload_n hx hb dL_law_19 rfl (lv_at hl 3 rfl) ?_
  refine va_slen hx hb hX hbl hbA hS dL_law_20 ?_
  refine lv_bipush (v := 6) hx hb dL_law_21 (by decide) ?_
  refine lv_isub hx hb dL_law_23 ?_
  refine lv_icmp_gt (tgt := 1363) hx hb dL_law_24 (by decide) (fun c_ => absurd c_ (sc_go hi hL)) (fun _ => ?_)
  refine lv_aload_n hx hb dL_law_27 rfl (lv_at hl 3 rfl) ?_
  refine lv_iload_n hx hb dL_law_28 rfl (lv_at hl 0 rfl) ?_
  refine va_sld hx hb hX hbl hbA hS (vp_in_nI (by omega) (by omega)) dL_law_29 ?_
  refine lv_bipush (v := 63) hx hb dL_law_30 (by decide) ?_
  refine lv_iand hx hb dL_law_32 ?_
  refine lv_topi (fun y0 hy0 => ?_)
  by_cases k_0 : y0 = 0
  · subst k_0
    refine lv_tableIn (off := 163) (tgt := 196) hx hb dL_law_33 (by decide) (by decide) (by decide) (by decide) ?_
    exact lw_c0 hC0 hi hv0 ih
  by_cases k_1 : y0 = 1
  · subst k_1
    refine lv_tableIn (off := 206) (tgt := 239) hx hb dL_law_33 (by decide) (by decide) (by decide) (by decide) ?_
    exact lw_c1 hC0 hi hv0 ih
  by_cases k_2 : y0 = 2
  · subst k_2
    refine lv_tableIn (off := 249) (tgt := 282) hx hb dL_law_33 (by decide) (by decide) (by decide) (by decide) ?_
    exact lw_c2 hC0 hi hv0 ih
  by_cases k_3 : y0 = 3
  · subst k_3
    refine lv_tableIn (off := 312) (tgt := 345) hx hb dL_law_33 (by decide) (by decide) (by decide) (by decide) ?_
    exact lw_c3 hC0 hi hv0 ih
  by_cases k_4 : y0 = 4
  · subst k_4
    refine lv_tableIn (off := 335) (tgt := 368) hx hb dL_law_33 (by decide) (by decide) (by decide) (by decide) ?_
    exact lw_c4 hC0 hi hv0 ih
  by_cases k_5 : y0 = 5
  · subst k_5
    refine lv_tableIn (off := 358) (tgt := 391) hx hb dL_law_33 (by decide) (by decide) (by decide) (by decide) ?_
    exact lw_c5 hC0 hi hv0 ih
  by_cases k_6 : y0 = 6
  · subst k_6
    refine lv_tableIn (off := 371) (tgt := 404) hx hb dL_law_33 (by decide) (by decide) (by decide) (by decide) ?_
    exact lw_c6 hC0 hi hv0 ih
  by_cases k_7 : y0 = 7
  · subst k_7
    refine lv_tableIn (off := 384) (tgt := 417) hx hb dL_law_33 (by decide) (by decide) (by decide) (by decide) ?_
    exact lw_c7 hC0 hi hv0 ih
  by_cases k_8 : y0 = 8
  · subst k_8
    refine lv_tableIn (off := 397) (tgt := 430) hx hb dL_law_33 (by decide) (by decide) (by decide) (by decide) ?_
    exact lw_c8 hC0 hi hv0 ih
  by_cases k_9 : y0 = 9
  · subst k_9
    refine lv_tableIn (off := 420) (tgt := 453) hx hb dL_law_33 (by decide) (by decide) (by decide) (by decide) ?_
    exact lw_c9 hC0 hi hv0 ih
  by_cases k_10 : y0 = 10
  · subst k_10
    refine lv_tableIn (off := 433) (tgt := 466) hx hb dL_law_33 (by decide) (by decide) (by decide) (by decide) ?_
    exact lw_c10 hC0 hi hv0 ih
  by_cases k_11 : y0 = 11
  · subst k_11
    refine lv_tableIn (off := 466) (tgt := 499) hx hb dL_law_33 (by decide) (by decide) (by decide) (by decide) ?_
    exact lw_c11 hC0 hi hv0 ih
  by_cases k_12 : y0 = 12
  · subst k_12
    refine lv_tableIn (off := 509) (tgt := 542) hx hb dL_law_33 (by decide) (by decide) (by decide) (by decide) ?_
    exact lw_c12 hC0 hi hv0 ih
  by_cases k_13 : y0 = 13
  · subst k_13
    refine lv_tableIn (off := 532) (tgt := 565) hx hb dL_law_33 (by decide) (by decide) (by decide) (by decide) ?_
    exact lw_c13 hC0 hi hv0 ih
  by_cases k_14 : y0 = 14
  · subst k_14
    refine lv_tableIn (off := 565) (tgt := 598) hx hb dL_law_33 (by decide) (by decide) (by decide) (by decide) ?_
    exact lw_c14 hC0 hi hv0 ih
  by_cases k_15 : y0 = 15
  · subst k_15
    refine lv_tableIn (off := 588) (tgt := 621) hx hb dL_law_33 (by decide) (by decide) (by decide) (by decide) ?_
    exact lw_c15 hC0 hi hv0 ih
  by_cases k_16 : y0 = 16
  · subst k_16
    refine lv_tableIn (off := 611) (tgt := 644) hx hb dL_law_33 (by decide) (by decide) (by decide) (by decide) ?_
    exact lw_c16 hC0 hi hv0 ih
  by_cases k_17 : y0 = 17
  · subst k_17
    refine lv_tableIn (off := 654) (tgt := 687) hx hb dL_law_33 (by decide) (by decide) (by decide) (by decide) ?_
    exact lw_c17 hC0 hi hv0 ih
  by_cases k_18 : y0 = 18
  · subst k_18
    refine lv_tableIn (off := 677) (tgt := 710) hx hb dL_law_33 (by decide) (by decide) (by decide) (by decide) ?_
    exact lw_c18 hC0 hi hv0 ih
  by_cases k_19 : y0 = 19
  · subst k_19
    refine lv_tableIn (off := 710) (tgt := 743) hx hb dL_law_33 (by decide) (by decide) (by decide) (by decide) ?_
    exact lw_c19 hC0 hi hv0 ih
  by_cases k_20 : y0 = 20
  · subst k_20
    refine lv_tableIn (off := 743) (tgt := 776) hx hb dL_law_33 (by decide) (by decide) (by decide) (by decide) ?_
    exact lw_c20 hC0 hi hv0 ih
  by_cases k_21 : y0 = 21
  · subst k_21
    refine lv_tableIn (off := 776) (tgt := 809) hx hb dL_law_33 (by decide) (by decide) (by decide) (by decide) ?_
    exact lw_c21 hC0 hi hv0 ih
  by_cases k_22 : y0 = 22
  · subst k_22
    refine lv_tableIn (off := 809) (tgt := 842) hx hb dL_law_33 (by decide) (by decide) (by decide) (by decide) ?_
    exact lw_c22 hC0 hi hv0 ih
  by_cases k_23 : y0 = 23
  · subst k_23
    refine lv_tableIn (off := 842) (tgt := 875) hx hb dL_law_33 (by decide) (by decide) (by decide) (by decide) ?_
    exact lw_c23 hC0 hi hv0 ih
  by_cases k_24 : y0 = 24
  · subst k_24
    refine lv_tableIn (off := 875) (tgt := 908) hx hb dL_law_33 (by decide) (by decide) (by decide) (by decide) ?_
    exact lw_c24 hC0 hi hv0 ih
  by_cases k_25 : y0 = 25
  · subst k_25
    refine lv_tableIn (off := 908) (tgt := 941) hx hb dL_law_33 (by decide) (by decide) (by decide) (by decide) ?_
    exact lw_c25 hC0 hi hv0 ih
  by_cases k_26 : y0 = 26
  · subst k_26
    refine lv_tableIn (off := 971) (tgt := 1004) hx hb dL_law_33 (by decide) (by decide) (by decide) (by decide) ?_
    exact lw_c26 hC0 hi hv0 ih
  by_cases k_27 : y0 = 27
  · subst k_27
    refine lv_tableIn (off := 1034) (tgt := 1067) hx hb dL_law_33 (by decide) (by decide) (by decide) (by decide) ?_
    exact lw_c27 hC0 hi hv0 ih
  by_cases k_28 : y0 = 28
  · subst k_28
    refine lv_tableIn (off := 1087) (tgt := 1120) hx hb dL_law_33 (by decide) (by decide) (by decide) (by decide) ?_
    exact lw_c28 hC0 hi hv0 ih
  by_cases k_29 : y0 = 29
  · subst k_29
    refine lv_tableIn (off := 1130) (tgt := 1163) hx hb dL_law_33 (by decide) (by decide) (by decide) (by decide) ?_
    exact lw_c29 hC0 hi hv0 ih
  by_cases k_30 : y0 = 30
  · subst k_30
    refine lv_tableIn (off := 1153) (tgt := 1186) hx hb dL_law_33 (by decide) (by decide) (by decide) (by decide) ?_
    exact lw_c30 hC0 hi hv0 ih
  by_cases k_31 : y0 = 31
  · subst k_31
    refine lv_tableIn (off := 1176) (tgt := 1209) hx hb dL_law_33 (by decide) (by decide) (by decide) (by decide) ?_
    exact lw_c31 hC0 hi hv0 ih
  by_cases k_32 : y0 = 32
  · subst k_32
    refine lv_tableIn (off := 1199) (tgt := 1232) hx hb dL_law_33 (by decide) (by decide) (by decide) (by decide) ?_
    exact lw_c32 hC0 hi hv0 ih
  by_cases k_33 : y0 = 33
  · subst k_33
    refine lv_tableIn (off := 1232) (tgt := 1265) hx hb dL_law_33 (by decide) (by decide) (by decide) (by decide) ?_
    exact lw_c33 hC0 hi hv0 ih
  by_cases k_34 : y0 = 34
  · subst k_34
    refine lv_tableIn (off := 1265) (tgt := 1298) hx hb dL_law_33 (by decide) (by decide) (by decide) (by decide) ?_
    exact lw_c34 hC0 hi hv0 ih
  by_cases k_35 : y0 = 35
  · subst k_35
    refine lv_tableIn (off := 1288) (tgt := 1321) hx hb dL_law_33 (by decide) (by decide) (by decide) (by decide) ?_
    exact lw_c35 hC0 hi hv0 ih
  by_cases k_36 : y0 = 36
  · subst k_36
    refine lv_tableIn (off := 1311) (tgt := 1344) hx hb dL_law_33 (by decide) (by decide) (by decide) (by decide) ?_
    exact lw_c36 hC0 hi hv0 ih
  have k_0 := lv_neT k_0 (show (0 : Int32).toInt = 0 from rfl)
  have k_1 := lv_neT k_1 (show (1 : Int32).toInt = 1 from rfl)
  have k_2 := lv_neT k_2 (show (2 : Int32).toInt = 2 from rfl)
  have k_3 := lv_neT k_3 (show (3 : Int32).toInt = 3 from rfl)
  have k_4 := lv_neT k_4 (show (4 : Int32).toInt = 4 from rfl)
  have k_5 := lv_neT k_5 (show (5 : Int32).toInt = 5 from rfl)
  have k_6 := lv_neT k_6 (show (6 : Int32).toInt = 6 from rfl)
  have k_7 := lv_neT k_7 (show (7 : Int32).toInt = 7 from rfl)
  have k_8 := lv_neT k_8 (show (8 : Int32).toInt = 8 from rfl)
  have k_9 := lv_neT k_9 (show (9 : Int32).toInt = 9 from rfl)
  have k_10 := lv_neT k_10 (show (10 : Int32).toInt = 10 from rfl)
  have k_11 := lv_neT k_11 (show (11 : Int32).toInt = 11 from rfl)
  have k_12 := lv_neT k_12 (show (12 : Int32).toInt = 12 from rfl)
  have k_13 := lv_neT k_13 (show (13 : Int32).toInt = 13 from rfl)
  have k_14 := lv_neT k_14 (show (14 : Int32).toInt = 14 from rfl)
  have k_15 := lv_neT k_15 (show (15 : Int32).toInt = 15 from rfl)
  have k_16 := lv_neT k_16 (show (16 : Int32).toInt = 16 from rfl)
  have k_17 := lv_neT k_17 (show (17 : Int32).toInt = 17 from rfl)
  have k_18 := lv_neT k_18 (show (18 : Int32).toInt = 18 from rfl)
  have k_19 := lv_neT k_19 (show (19 : Int32).toInt = 19 from rfl)
  have k_20 := lv_neT k_20 (show (20 : Int32).toInt = 20 from rfl)
  have k_21 := lv_neT k_21 (show (21 : Int32).toInt = 21 from rfl)
  have k_22 := lv_neT k_22 (show (22 : Int32).toInt = 22 from rfl)
  have k_23 := lv_neT k_23 (show (23 : Int32).toInt = 23 from rfl)
  have k_24 := lv_neT k_24 (show (24 : Int32).toInt = 24 from rfl)
  have k_25 := lv_neT k_25 (show (25 : Int32).toInt = 25 from rfl)
  have k_26 := lv_neT k_26 (show (26 : Int32).toInt = 26 from rfl)
  have k_27 := lv_neT k_27 (show (27 : Int32).toInt = 27 from rfl)
  have k_28 := lv_neT k_28 (show (28 : Int32).toInt = 28 from rfl)
  have k_29 := lv_neT k_29 (show (29 : Int32).toInt = 29 from rfl)
  have k_30 := lv_neT k_30 (show (30 : Int32).toInt = 30 from rfl)
  have k_31 := lv_neT k_31 (show (31 : Int32).toInt = 31 from rfl)
  have k_32 := lv_neT k_32 (show (32 : Int32).toInt = 32 from rfl)
  have k_33 := lv_neT k_33 (show (33 : Int32).toInt = 33 from rfl)
  have k_34 := lv_neT k_34 (show (34 : Int32).toInt = 34 from rfl)
  have k_35 := lv_neT k_35 (show (35 : Int32).toInt = 35 from rfl)
  have k_36 := lv_neT k_36 (show (36 : Int32).toInt = 36 from rfl)
  refine lv_tableOut (tgt := 1357) hx hb dL_law_33 (by omega) (by decide) ?_
  exact lw_tail hC0 hi hv0 ih

