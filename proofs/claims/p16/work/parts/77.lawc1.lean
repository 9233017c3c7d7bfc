set_option maxHeartbeats 4000000 in
set_option maxRecDepth 100000 in
theorem lw_c13 {p : Program} {l : Launch} {e : Env} {s : State} {m : MethodId} {below : List Frame} {meth : Method} {c : Code} {b L : Nat} {xs : Nat → Int32} {dC : Nat → ClassId} {dI : Nat → Nat → Nat} {cI cZ cL cJ : ClassId} {A : Nat → Prop} {H : Heap} {locs : List Loc} {ls : Array Slot} {x mo i : Nat} {wx wm : va_W} (hC : LCx p s m meth c b L xs dC dI cI cZ cL cJ A) (hi : 6 * i + 6 ≤ L) (hv : LIv dC dI cI cZ cL cJ A s b x mo i (wx, wm) H locs ls) (ih : ∀ (st2 : va_W × va_W) (H2 : Heap) (locs2 : List Loc) (ls2 : Array Slot), LIv dC dI cI cZ cL cJ A s b x mo (i + 1) st2 H2 locs2 ls2 → W p l e room_1 s m #[Value.ref b] below meth c H2 locs2 277 3929 (lw_Z below #[Value.ref b] s) (F0 m 18 ls2 [])) : W p l e room_1 s m #[Value.ref b] below meth c H locs 277 3929 (lw_Z below #[Value.ref b] s) (F0 m 565 ls []) := by
  have hC0 := hC
  obtain ⟨hx, hb, hr, hml, hown, hts, hX, hbl, hlocks, hAd, hA, hbA, hK, hst, hL⟩ := hC
  obtain ⟨⟨Rl, Rn, zt, Tb, lf, Lv, An, Ac, I0, I1, Tz, Tc, hs, hIX, hIM⟩, hP, hD, hS, hl⟩ := hv
  refine lv_aload_n hx hb dL_law_565 rfl (lv_at hl 2 rfl) ?_
  refine lv_aload_n hx hb dL_law_566 rfl (lv_at hl 3 rfl) ?_
  refine lv_iload_n hx hb dL_law_567 rfl (lv_at hl 0 rfl) ?_
  refine lv_iconst (v := 1) hx hb dL_law_568 (by decide) ?_
  refine lv_iadd hx hb dL_law_569 ?_
  refine va_sld hx hb hX hbl hbA hS (sc_in (j := 1) (by decide) (by decide) hi hL) dL_law_570 ?_
  refine lv_topi (fun a_1 ea_1 => ?_)
  refine lv_aload_n hx hb dL_law_571 rfl (lv_at hl 3 rfl) ?_
  refine lv_iload_n hx hb dL_law_572 rfl (lv_at hl 0 rfl) ?_
  refine lv_iconst (v := 2) hx hb dL_law_573 (by decide) ?_
  refine lv_iadd hx hb dL_law_574 ?_
  refine va_sld hx hb hX hbl hbA hS (sc_in (j := 2) (by decide) (by decide) hi hL) dL_law_575 ?_
  refine lv_topi (fun a_2 ea_2 => ?_)
  obtain ⟨fs_3, hd_3⟩ := isx_hd (ys := wm) hIX
  have hFc_3 := fr_l hD hS hA
  refine va_calli (va_runV (As := [.int a_1, .int a_2]) (rest := []) ⟨hx, hb, hml, hown, hts⟩ (w_X7_sound l dC dI cI cZ cL cJ H.size x _ _ _ _ _ _ _ _ _ _ _ _ wx a_1 a_2 hs hIX) (cwV 2 hts gL_law_X7_sound rfl rfl rfl (by decide +kernel) ⟨Nat.le_of_ble_eq_true rfl, Nat.le_of_ble_eq_true rfl⟩) (pvL 7 hK hP hD hst hS hFc_3 rfl hd_3) rfl rfl hl.1 rfl (lv_room (Nat.le_of_ble_eq_true rfl)) dL_law_576 ⟨Nat.le_of_ble_eq_true rfl, Nat.le_of_ble_eq_true rfl⟩) hS (fun q _ h => hFc_3 q h) hFc_3 (fun r_3 u_3 t_3 H1 locs ht hvm h_3 hB hz1 hk1 hS => ?_)
  obtain ⟨wx_3, hIX, hP1, hD1⟩ := hB
  rw [ht] at hP1
  obtain ⟨hP, hD⟩ := jn2 hP hD hk1 hFc_3 hP1 hD1
  generalize H1 = H at hP hS ⊢
  refine W.widen (k := 277) (n := 3929) (Nat.le_of_ble_eq_true rfl) (Nat.le_of_ble_eq_true rfl) ?_
  refine lv_pop hx hb dL_law_579 rfl ?_
  refine lv_aload_n hx hb dL_law_580 rfl (lv_at hl 1 rfl) ?_
  refine lv_aload_n hx hb dL_law_581 rfl (lv_at hl 3 rfl) ?_
  refine lv_iload_n hx hb dL_law_582 rfl (lv_at hl 0 rfl) ?_
  refine lv_iconst (v := 1) hx hb dL_law_583 (by decide) ?_
  refine lv_iadd hx hb dL_law_584 ?_
  refine va_sld hx hb hX hbl hbA hS (sc_in (j := 1) (by decide) (by decide) hi hL) dL_law_585 ?_
  rw [← ea_1]
  refine lv_aload_n hx hb dL_law_586 rfl (lv_at hl 3 rfl) ?_
  refine lv_iload_n hx hb dL_law_587 rfl (lv_at hl 0 rfl) ?_
  refine lv_iconst (v := 2) hx hb dL_law_588 (by decide) ?_
  refine lv_iadd hx hb dL_law_589 ?_
  refine va_sld hx hb hX hbl hbA hS (sc_in (j := 2) (by decide) (by decide) hi hL) dL_law_590 ?_
  rw [← ea_2]
  obtain ⟨fs_6, hd_6⟩ := ism_hd (ys := wx_3) hIM
  have hFc_6 := fr_l hD hS hA
  refine va_calli (va_runV (As := [.int a_1, .int a_2]) (rest := []) ⟨hx, hb, hml, hown, hts⟩ (w_X8_sound l dC dI cI cZ cL cJ H.size mo _ _ _ _ _ _ _ _ _ _ _ _ wm a_1 a_2 hIM) (cwV 2 hts gL_law_X8_sound rfl rfl rfl (by decide +kernel) ⟨Nat.le_of_ble_eq_true rfl, Nat.le_of_ble_eq_true rfl⟩) (pvL 8 hK hP hD hst hS hFc_6 rfl hd_6) rfl rfl hl.1 rfl (lv_room (Nat.le_of_ble_eq_true rfl)) dL_law_591 ⟨Nat.le_of_ble_eq_true rfl, Nat.le_of_ble_eq_true rfl⟩) hS (fun q _ h => hFc_6 q h) hFc_6 (fun r_6 u_6 t_6 H1 locs ht hvm h_6 hB hz1 hk1 hS => ?_)
  obtain ⟨wm_6, hIM, hP1, hD1⟩ := hB
  rw [ht] at hP1
  obtain ⟨hP, hD⟩ := jn2 hP hD hk1 hFc_6 hP1 hD1
  generalize H1 = H at hP hS ⊢
  refine W.widen (k := 277) (n := 3929) (Nat.le_of_ble_eq_true rfl) (Nat.le_of_ble_eq_true rfl) ?_
  refine lv_pop hx hb dL_law_594 rfl ?_
  refine lv_goto (tgt := 1357) hx hb dL_law_595 (by decide) ?_
  exact lw_tail hC0 hi ⟨⟨_, _, _, _, _, _, _, _, _, _, _, _, hs, hIX, hIM⟩, hP, hD, hS, hl⟩ ih

set_option maxHeartbeats 4000000 in
set_option maxRecDepth 100000 in
theorem lw_c14 {p : Program} {l : Launch} {e : Env} {s : State} {m : MethodId} {below : List Frame} {meth : Method} {c : Code} {b L : Nat} {xs : Nat → Int32} {dC : Nat → ClassId} {dI : Nat → Nat → Nat} {cI cZ cL cJ : ClassId} {A : Nat → Prop} {H : Heap} {locs : List Loc} {ls : Array Slot} {x mo i : Nat} {wx wm : va_W} (hC : LCx p s m meth c b L xs dC dI cI cZ cL cJ A) (hi : 6 * i + 6 ≤ L) (hv : LIv dC dI cI cZ cL cJ A s b x mo i (wx, wm) H locs ls) (ih : ∀ (st2 : va_W × va_W) (H2 : Heap) (locs2 : List Loc) (ls2 : Array Slot), LIv dC dI cI cZ cL cJ A s b x mo (i + 1) st2 H2 locs2 ls2 → W p l e room_1 s m #[Value.ref b] below meth c H2 locs2 277 3929 (lw_Z below #[Value.ref b] s) (F0 m 18 ls2 [])) : W p l e room_1 s m #[Value.ref b] below meth c H locs 277 3929 (lw_Z below #[Value.ref b] s) (F0 m 598 ls []) := by
  have hC0 := hC
  obtain ⟨hx, hb, hr, hml, hown, hts, hX, hbl, hlocks, hAd, hA, hbA, hK, hst, hL⟩ := hC
  obtain ⟨⟨Rl, Rn, zt, Tb, lf, Lv, An, Ac, I0, I1, Tz, Tc, hs, hIX, hIM⟩, hP, hD, hS, hl⟩ := hv
  refine lv_aload_n hx hb dL_law_598 rfl (lv_at hl 2 rfl) ?_
  refine lv_aload_n hx hb dL_law_599 rfl (lv_at hl 3 rfl) ?_
  refine lv_iload_n hx hb dL_law_600 rfl (lv_at hl 0 rfl) ?_
  refine lv_iconst (v := 1) hx hb dL_law_601 (by decide) ?_
  refine lv_iadd hx hb dL_law_602 ?_
  refine va_sld hx hb hX hbl hbA hS (sc_in (j := 1) (by decide) (by decide) hi hL) dL_law_603 ?_
  refine lv_topi (fun a_1 ea_1 => ?_)
  obtain ⟨fs_2, hd_2⟩ := isx_hd (ys := wm) hIX
  have hFc_2 := fr_l hD hS hA
  refine va_calli (va_runV (As := [.int a_1]) (rest := []) ⟨hx, hb, hml, hown, hts⟩ (w_X7_stand l dC dI cI cZ cL cJ H.size x _ _ _ _ _ _ _ _ _ _ _ _ wx a_1 hs hIX) (cwV 1 hts gL_law_X7_stand rfl rfl rfl (by decide +kernel) ⟨Nat.le_of_ble_eq_true rfl, Nat.le_of_ble_eq_true rfl⟩) (pvL 7 hK hP hD hst hS hFc_2 rfl hd_2) rfl rfl hl.1 rfl (lv_room (Nat.le_of_ble_eq_true rfl)) dL_law_604 ⟨Nat.le_of_ble_eq_true rfl, Nat.le_of_ble_eq_true rfl⟩) hS (fun q _ h => hFc_2 q h) hFc_2 (fun r_2 u_2 t_2 H1 locs ht hvm h_2 hB hz1 hk1 hS => ?_)
  obtain ⟨wx_2, hIX, hP1, hD1⟩ := hB
  rw [ht] at hP1
  obtain ⟨hP, hD⟩ := jn2 hP hD hk1 hFc_2 hP1 hD1
  generalize H1 = H at hP hS ⊢
  refine W.widen (k := 277) (n := 3929) (Nat.le_of_ble_eq_true rfl) (Nat.le_of_ble_eq_true rfl) ?_
  refine lv_aload_n hx hb dL_law_607 rfl (lv_at hl 1 rfl) ?_
  refine lv_aload_n hx hb dL_law_608 rfl (lv_at hl 3 rfl) ?_
  refine lv_iload_n hx hb dL_law_609 rfl (lv_at hl 0 rfl) ?_
  refine lv_iconst (v := 1) hx hb dL_law_610 (by decide) ?_
  refine lv_iadd hx hb dL_law_611 ?_
  refine va_sld hx hb hX hbl hbA hS (sc_in (j := 1) (by decide) (by decide) hi hL) dL_law_612 ?_
  rw [← ea_1]
  obtain ⟨fs_4, hd_4⟩ := ism_hd (ys := wx_2) hIM
  have hFc_4 := fr_l hD hS hA
  refine va_calli (va_runV (As := [.int a_1]) (rest := [.int r_2]) ⟨hx, hb, hml, hown, hts⟩ (w_X8_stand l dC dI cI cZ cL cJ H.size mo _ _ _ _ _ _ _ _ _ _ _ _ wm a_1 hIM) (cwV 1 hts gL_law_X8_stand rfl rfl rfl (by decide +kernel) ⟨Nat.le_of_ble_eq_true rfl, Nat.le_of_ble_eq_true rfl⟩) (pvL 8 hK hP hD hst hS hFc_4 rfl hd_4) rfl rfl hl.1 rfl (lv_room (Nat.le_of_ble_eq_true rfl)) dL_law_613 ⟨Nat.le_of_ble_eq_true rfl, Nat.le_of_ble_eq_true rfl⟩) hS (fun q _ h => hFc_4 q h) hFc_4 (fun r_4 u_4 t_4 H1 locs ht hvm h_4 hB hz1 hk1 hS => ?_)
  obtain ⟨wm_4, hIM, hP1, hD1⟩ := hB
  rw [ht] at hP1
  obtain ⟨hP, hD⟩ := jn2 hP hD hk1 hFc_4 hP1 hD1
  generalize H1 = H at hP hS ⊢
  refine W.widen (k := 277) (n := 3929) (Nat.le_of_ble_eq_true rfl) (Nat.le_of_ble_eq_true rfl) ?_
  refine lv_icmp_eq (tgt := 1357) hx hb dL_law_616 (by decide) (fun _ => ?_) (fun c_ => absurd (h_2.trans h_4.symm) c_)
  exact lw_tail hC0 hi ⟨⟨_, _, _, _, _, _, _, _, _, _, _, _, hs, hIX, hIM⟩, hP, hD, hS, hl⟩ ih

set_option maxHeartbeats 4000000 in
set_option maxRecDepth 100000 in
theorem lw_c15 {p : Program} {l : Launch} {e : Env} {s : State} {m : MethodId} {below : List Frame} {meth : Method} {c : Code} {b L : Nat} {xs : Nat → Int32} {dC : Nat → ClassId} {dI : Nat → Nat → Nat} {cI cZ cL cJ : ClassId} {A : Nat → Prop} {H : Heap} {locs : List Loc} {ls : Array Slot} {x mo i : Nat} {wx wm : va_W} (hC : LCx p s m meth c b L xs dC dI cI cZ cL cJ A) (hi : 6 * i + 6 ≤ L) (hv : LIv dC dI cI cZ cL cJ A s b x mo i (wx, wm) H locs ls) (ih : ∀ (st2 : va_W × va_W) (H2 : Heap) (locs2 : List Loc) (ls2 : Array Slot), LIv dC dI cI cZ cL cJ A s b x mo (i + 1) st2 H2 locs2 ls2 → W p l e room_1 s m #[Value.ref b] below meth c H2 locs2 277 3929 (lw_Z below #[Value.ref b] s) (F0 m 18 ls2 [])) : W p l e room_1 s m #[Value.ref b] below meth c H locs 277 3929 (lw_Z below #[Value.ref b] s) (F0 m 621 ls []) := by
  have hC0 := hC
  obtain ⟨hx, hb, hr, hml, hown, hts, hX, hbl, hlocks, hAd, hA, hbA, hK, hst, hL⟩ := hC
  obtain ⟨⟨Rl, Rn, zt, Tb, lf, Lv, An, Ac, I0, I1, Tz, Tc, hs, hIX, hIM⟩, hP, hD, hS, hl⟩ := hv
  refine lv_aload_n hx hb dL_law_621 rfl (lv_at hl 2 rfl) ?_
  refine lv_aload_n hx hb dL_law_622 rfl (lv_at hl 3 rfl) ?_
  refine lv_iload_n hx hb dL_law_623 rfl (lv_at hl 0 rfl) ?_
  refine lv_iconst (v := 1) hx hb dL_law_624 (by decide) ?_
  refine lv_iadd hx hb dL_law_625 ?_
  refine va_sld hx hb hX hbl hbA hS (sc_in (j := 1) (by decide) (by decide) hi hL) dL_law_626 ?_
  refine lv_topi (fun a_1 ea_1 => ?_)
  obtain ⟨fs_2, hd_2⟩ := isx_hd (ys := wm) hIX
  have hFc_2 := fr_l hD hS hA
  refine va_calli (va_runV (As := [.int a_1]) (rest := []) ⟨hx, hb, hml, hown, hts⟩ (w_X7_gust l dC dI cI cZ cL cJ H.size x _ _ _ _ _ _ _ _ _ _ _ _ wx a_1 hs hIX) (cwV 1 hts gL_law_X7_gust rfl rfl rfl (by decide +kernel) ⟨Nat.le_of_ble_eq_true rfl, Nat.le_of_ble_eq_true rfl⟩) (pvL 7 hK hP hD hst hS hFc_2 rfl hd_2) rfl rfl hl.1 rfl (lv_room (Nat.le_of_ble_eq_true rfl)) dL_law_627 ⟨Nat.le_of_ble_eq_true rfl, Nat.le_of_ble_eq_true rfl⟩) hS (fun q _ h => hFc_2 q h) hFc_2 (fun r_2 u_2 t_2 H1 locs ht hvm h_2 hB hz1 hk1 hS => ?_)
  obtain ⟨wx_2, hIX, hP1, hD1⟩ := hB
  rw [ht] at hP1
  obtain ⟨hP, hD⟩ := jn2 hP hD hk1 hFc_2 hP1 hD1
  generalize H1 = H at hP hS ⊢
  refine W.widen (k := 277) (n := 3929) (Nat.le_of_ble_eq_true rfl) (Nat.le_of_ble_eq_true rfl) ?_
  refine lv_pop hx hb dL_law_630 rfl ?_
  refine lv_aload_n hx hb dL_law_631 rfl (lv_at hl 1 rfl) ?_
  refine lv_aload_n hx hb dL_law_632 rfl (lv_at hl 3 rfl) ?_
  refine lv_iload_n hx hb dL_law_633 rfl (lv_at hl 0 rfl) ?_
  refine lv_iconst (v := 1) hx hb dL_law_634 (by decide) ?_
  refine lv_iadd hx hb dL_law_635 ?_
  refine va_sld hx hb hX hbl hbA hS (sc_in (j := 1) (by decide) (by decide) hi hL) dL_law_636 ?_
  rw [← ea_1]
  obtain ⟨fs_4, hd_4⟩ := ism_hd (ys := wx_2) hIM
  have hFc_4 := fr_l hD hS hA
  refine va_calli (va_runV (As := [.int a_1]) (rest := []) ⟨hx, hb, hml, hown, hts⟩ (w_X8_gust l dC dI cI cZ cL cJ H.size mo _ _ _ _ _ _ _ _ _ _ _ _ wm a_1 hIM) (cwV 1 hts gL_law_X8_gust rfl rfl rfl (by decide +kernel) ⟨Nat.le_of_ble_eq_true rfl, Nat.le_of_ble_eq_true rfl⟩) (pvL 8 hK hP hD hst hS hFc_4 rfl hd_4) rfl rfl hl.1 rfl (lv_room (Nat.le_of_ble_eq_true rfl)) dL_law_637 ⟨Nat.le_of_ble_eq_true rfl, Nat.le_of_ble_eq_true rfl⟩) hS (fun q _ h => hFc_4 q h) hFc_4 (fun r_4 u_4 t_4 H1 locs ht hvm h_4 hB hz1 hk1 hS => ?_)
  obtain ⟨wm_4, hIM, hP1, hD1⟩ := hB
  rw [ht] at hP1
  obtain ⟨hP, hD⟩ := jn2 hP hD hk1 hFc_4 hP1 hD1
  generalize H1 = H at hP hS ⊢
  refine W.widen (k := 277) (n := 3929) (Nat.le_of_ble_eq_true rfl) (Nat.le_of_ble_eq_true rfl) ?_
  refine lv_pop hx hb dL_law_640 rfl ?_
  refine lv_goto (tgt := 1357) hx hb dL_law_641 (by decide) ?_
  exact lw_tail hC0 hi ⟨⟨_, _, _, _, _, _, _, _, _, _, _, _, hs, hIX, hIM⟩, hP, hD, hS, hl⟩ ih

set_option maxHeartbeats 4000000 in
set_option maxRecDepth 100000 in
theorem lw_c16 {p : Program} {l : Launch} {e : Env} {s : State} {m : MethodId} {below : List Frame} {meth : Method} {c : Code} {b L : Nat} {xs : Nat → Int32} {dC : Nat → ClassId} {dI : Nat → Nat → Nat} {cI cZ cL cJ : ClassId} {A : Nat → Prop} {H : Heap} {locs : List Loc} {ls : Array Slot} {x mo i : Nat} {wx wm : va_W} (hC : LCx p s m meth c b L xs dC dI cI cZ cL cJ A) (hi : 6 * i + 6 ≤ L) (hv : LIv dC dI cI cZ cL cJ A s b x mo i (wx, wm) H locs ls) (ih : ∀ (st2 : va_W × va_W) (H2 : Heap) (locs2 : List Loc) (ls2 : Array Slot), LIv dC dI cI cZ cL cJ A s b x mo (i + 1) st2 H2 locs2 ls2 → W p l e room_1 s m #[Value.ref b] below meth c H2 locs2 277 3929 (lw_Z below #[Value.ref b] s) (F0 m 18 ls2 [])) : W p l e room_1 s m #[Value.ref b] below meth c H locs 277 3929 (lw_Z below #[Value.ref b] s) (F0 m 644 ls []) := by
  have hC0 := hC
  obtain ⟨hx, hb, hr, hml, hown, hts, hX, hbl, hlocks, hAd, hA, hbA, hK, hst, hL⟩ := hC
  obtain ⟨⟨Rl, Rn, zt, Tb, lf, Lv, An, Ac, I0, I1, Tz, Tc, hs, hIX, hIM⟩, hP, hD, hS, hl⟩ := hv
  refine lv_aload_n hx hb dL_law_644 rfl (lv_at hl 2 rfl) ?_
  refine lv_aload_n hx hb dL_law_645 rfl (lv_at hl 3 rfl) ?_
  refine lv_iload_n hx hb dL_law_646 rfl (lv_at hl 0 rfl) ?_
  refine lv_iconst (v := 1) hx hb dL_law_647 (by decide) ?_
  refine lv_iadd hx hb dL_law_648 ?_
  refine va_sld hx hb hX hbl hbA hS (sc_in (j := 1) (by decide) (by decide) hi hL) dL_law_649 ?_
  refine lv_topi (fun a_1 ea_1 => ?_)
  refine lv_aload_n hx hb dL_law_650 rfl (lv_at hl 3 rfl) ?_
  refine lv_iload_n hx hb dL_law_651 rfl (lv_at hl 0 rfl) ?_
  refine lv_iconst (v := 2) hx hb dL_law_652 (by decide) ?_
  refine lv_iadd hx hb dL_law_653 ?_
  refine va_sld hx hb hX hbl hbA hS (sc_in (j := 2) (by decide) (by decide) hi hL) dL_law_654 ?_
  refine lv_topi (fun a_2 ea_2 => ?_)
  refine lv_aload_n hx hb dL_law_655 rfl (lv_at hl 3 rfl) ?_
  refine lv_iload_n hx hb dL_law_656 rfl (lv_at hl 0 rfl) ?_
  refine lv_iconst (v := 3) hx hb dL_law_657 (by decide) ?_
  refine lv_iadd hx hb dL_law_658 ?_
  refine va_sld hx hb hX hbl hbA hS (sc_in (j := 3) (by decide) (by decide) hi hL) dL_law_659 ?_
  refine lv_topi (fun a_3 ea_3 => ?_)
  obtain ⟨fs_4, hd_4⟩ := isx_hd (ys := wm) hIX
  have hFc_4 := fr_l hD hS hA
  refine va_calli (va_runV (As := [.int a_1, .int a_2, .int a_3]) (rest := []) ⟨hx, hb, hml, hown, hts⟩ (w_X7_ahead l dC dI cI cZ cL cJ H.size x _ _ _ _ _ _ _ _ _ _ _ _ wx a_1 a_2 a_3 hs hIX) (cwV 3 hts gL_law_X7_ahead rfl rfl rfl (by decide +kernel) ⟨Nat.le_of_ble_eq_true rfl, Nat.le_of_ble_eq_true rfl⟩) (pvL 7 hK hP hD hst hS hFc_4 rfl hd_4) rfl rfl hl.1 rfl (lv_room (Nat.le_of_ble_eq_true rfl)) dL_law_660 ⟨Nat.le_of_ble_eq_true rfl, Nat.le_of_ble_eq_true rfl⟩) hS (fun q _ h => hFc_4 q h) hFc_4 (fun r_4 u_4 t_4 H1 locs ht hvm h_4 hB hz1 hk1 hS => ?_)
  obtain ⟨wx_4, hIX, hP1, hD1⟩ := hB
  rw [ht] at hP1
  obtain ⟨hP, hD⟩ := jn2 hP hD hk1 hFc_4 hP1 hD1
  generalize H1 = H at hP hS ⊢
  refine W.widen (k := 277) (n := 3929) (Nat.le_of_ble_eq_true rfl) (Nat.le_of_ble_eq_true rfl) ?_
  refine lv_pop hx hb dL_law_663 rfl ?_
  refine lv_aload_n hx hb dL_law_664 rfl (lv_at hl 1 rfl) ?_
  refine lv_aload_n hx hb dL_law_665 rfl (lv_at hl 3 rfl) ?_
  refine lv_iload_n hx hb dL_law_666 rfl (lv_at hl 0 rfl) ?_
  refine lv_iconst (v := 1) hx hb dL_law_667 (by decide) ?_
  refine lv_iadd hx hb dL_law_668 ?_
  refine va_sld hx hb hX hbl hbA hS (sc_in (j := 1) (by decide) (by decide) hi hL) dL_law_669 ?_
  rw [← ea_1]
  refine lv_aload_n hx hb dL_law_670 rfl (lv_at hl 3 rfl) ?_
  refine lv_iload_n hx hb dL_law_671 rfl (lv_at hl 0 rfl) ?_
  refine lv_iconst (v := 2) hx hb dL_law_672 (by decide) ?_
  refine lv_iadd hx hb dL_law_673 ?_
  refine va_sld hx hb hX hbl hbA hS (sc_in (j := 2) (by decide) (by decide) hi hL) dL_law_674 ?_
  rw [← ea_2]
  refine lv_aload_n hx hb dL_law_675 rfl (lv_at hl 3 rfl) ?_
  refine lv_iload_n hx hb dL_law_676 rfl (lv_at hl 0 rfl) ?_
  refine lv_iconst (v := 3) hx hb dL_law_677 (by decide) ?_
  refine lv_iadd hx hb dL_law_678 ?_
  refine va_sld hx hb hX hbl hbA hS (sc_in (j := 3) (by decide) (by decide) hi hL) dL_law_679 ?_
  rw [← ea_3]
  obtain ⟨fs_8, hd_8⟩ := ism_hd (ys := wx_4) hIM
  have hFc_8 := fr_l hD hS hA
  refine va_calli (va_runV (As := [.int a_1, .int a_2, .int a_3]) (rest := []) ⟨hx, hb, hml, hown, hts⟩ (w_X8_ahead l dC dI cI cZ cL cJ H.size mo _ _ _ _ _ _ _ _ _ _ _ _ wm a_1 a_2 a_3 hIM) (cwV 3 hts gL_law_X8_ahead rfl rfl rfl (by decide +kernel) ⟨Nat.le_of_ble_eq_true rfl, Nat.le_of_ble_eq_true rfl⟩) (pvL 8 hK hP hD hst hS hFc_8 rfl hd_8) rfl rfl hl.1 rfl (lv_room (Nat.le_of_ble_eq_true rfl)) dL_law_680 ⟨Nat.le_of_ble_eq_true rfl, Nat.le_of_ble_eq_true rfl⟩) hS (fun q _ h => hFc_8 q h) hFc_8 (fun r_8 u_8 t_8 H1 locs ht hvm h_8 hB hz1 hk1 hS => ?_)
  obtain ⟨wm_8, hIM, hP1, hD1⟩ := hB
  rw [ht] at hP1
  obtain ⟨hP, hD⟩ := jn2 hP hD hk1 hFc_8 hP1 hD1
  generalize H1 = H at hP hS ⊢
  refine W.widen (k := 277) (n := 3929) (Nat.le_of_ble_eq_true rfl) (Nat.le_of_ble_eq_true rfl) ?_
  refine lv_pop hx hb dL_law_683 rfl ?_
  refine lv_goto (tgt := 1357) hx hb dL_law_684 (by decide) ?_
  exact lw_tail hC0 hi ⟨⟨_, _, _, _, _, _, _, _, _, _, _, _, hs, hIX, hIM⟩, hP, hD, hS, hl⟩ ih

set_option maxHeartbeats 4000000 in
set_option maxRecDepth 100000 in
theorem lw_c17 {p : Program} {l : Launch} {e : Env} {s : State} {m : MethodId} {below : List Frame} {meth : Method} {c : Code} {b L : Nat} {xs : Nat → Int32} {dC : Nat → ClassId} {dI : Nat → Nat → Nat} {cI cZ cL cJ : ClassId} {A : Nat → Prop} {H : Heap} {locs : List Loc} {ls : Array Slot} {x mo i : Nat} {wx wm : va_W} (hC : LCx p s m meth c b L xs dC dI cI cZ cL cJ A) (hi : 6 * i + 6 ≤ L) (hv : LIv dC dI cI cZ cL cJ A s b x mo i (wx, wm) H locs ls) (ih : ∀ (st2 : va_W × va_W) (H2 : Heap) (locs2 : List Loc) (ls2 : Array Slot), LIv dC dI cI cZ cL cJ A s b x mo (i + 1) st2 H2 locs2 ls2 → W p l e room_1 s m #[Value.ref b] below meth c H2 locs2 277 3929 (lw_Z below #[Value.ref b] s) (F0 m 18 ls2 [])) : W p l e room_1 s m #[Value.ref b] below meth c H locs 277 3929 (lw_Z below #[Value.ref b] s) (F0 m 687 ls []) := by
  have hC0 := hC
  obtain ⟨hx, hb, hr, hml, hown, hts, hX, hbl, hlocks, hAd, hA, hbA, hK, hst, hL⟩ := hC
  obtain ⟨⟨Rl, Rn, zt, Tb, lf, Lv, An, Ac, I0, I1, Tz, Tc, hs, hIX, hIM⟩, hP, hD, hS, hl⟩ := hv
  refine lv_aload_n hx hb dL_law_687 rfl (lv_at hl 2 rfl) ?_
  refine lv_aload_n hx hb dL_law_688 rfl (lv_at hl 3 rfl) ?_
  refine lv_iload_n hx hb dL_law_689 rfl (lv_at hl 0 rfl) ?_
  refine lv_iconst (v := 1) hx hb dL_law_690 (by decide) ?_
  refine lv_iadd hx hb dL_law_691 ?_
  refine va_sld hx hb hX hbl hbA hS (sc_in (j := 1) (by decide) (by decide) hi hL) dL_law_692 ?_
  refine lv_topi (fun a_1 ea_1 => ?_)
  obtain ⟨fs_2, hd_2⟩ := isx_hd (ys := wm) hIX
  have hFc_2 := fr_l hD hS hA
  refine va_calli (va_runV (As := [.int a_1]) (rest := []) ⟨hx, hb, hml, hown, hts⟩ (w_X7_meal l dC dI cI cZ cL cJ H.size x _ _ _ _ _ _ _ _ _ _ _ _ wx a_1 hs hIX) (cwV 1 hts gL_law_X7_meal rfl rfl rfl (by decide +kernel) ⟨Nat.le_of_ble_eq_true rfl, Nat.le_of_ble_eq_true rfl⟩) (pvL 7 hK hP hD hst hS hFc_2 rfl hd_2) rfl rfl hl.1 rfl (lv_room (Nat.le_of_ble_eq_true rfl)) dL_law_693 ⟨Nat.le_of_ble_eq_true rfl, Nat.le_of_ble_eq_true rfl⟩) hS (fun q _ h => hFc_2 q h) hFc_2 (fun r_2 u_2 t_2 H1 locs ht hvm h_2 hB hz1 hk1 hS => ?_)
  obtain ⟨wx_2, hIX, hP1, hD1⟩ := hB
  rw [ht] at hP1
  obtain ⟨hP, hD⟩ := jn2 hP hD hk1 hFc_2 hP1 hD1
  generalize H1 = H at hP hS ⊢
  refine W.widen (k := 277) (n := 3929) (Nat.le_of_ble_eq_true rfl) (Nat.le_of_ble_eq_true rfl) ?_
  refine lv_pop hx hb dL_law_696 rfl ?_
  refine lv_aload_n hx hb dL_law_697 rfl (lv_at hl 1 rfl) ?_
  refine lv_aload_n hx hb dL_law_698 rfl (lv_at hl 3 rfl) ?_
  refine lv_iload_n hx hb dL_law_699 rfl (lv_at hl 0 rfl) ?_
  refine lv_iconst (v := 1) hx hb dL_law_700 (by decide) ?_
  refine lv_iadd hx hb dL_law_701 ?_
  refine va_sld hx hb hX hbl hbA hS (sc_in (j := 1) (by decide) (by decide) hi hL) dL_law_702 ?_
  rw [← ea_1]
  obtain ⟨fs_4, hd_4⟩ := ism_hd (ys := wx_2) hIM
  have hFc_4 := fr_l hD hS hA
  refine va_calli (va_runV (As := [.int a_1]) (rest := []) ⟨hx, hb, hml, hown, hts⟩ (w_X8_meal l dC dI cI cZ cL cJ H.size mo _ _ _ _ _ _ _ _ _ _ _ _ wm a_1 hIM) (cwV 1 hts gL_law_X8_meal rfl rfl rfl (by decide +kernel) ⟨Nat.le_of_ble_eq_true rfl, Nat.le_of_ble_eq_true rfl⟩) (pvL 8 hK hP hD hst hS hFc_4 rfl hd_4) rfl rfl hl.1 rfl (lv_room (Nat.le_of_ble_eq_true rfl)) dL_law_703 ⟨Nat.le_of_ble_eq_true rfl, Nat.le_of_ble_eq_true rfl⟩) hS (fun q _ h => hFc_4 q h) hFc_4 (fun r_4 u_4 t_4 H1 locs ht hvm h_4 hB hz1 hk1 hS => ?_)
  obtain ⟨wm_4, hIM, hP1, hD1⟩ := hB
  rw [ht] at hP1
  obtain ⟨hP, hD⟩ := jn2 hP hD hk1 hFc_4 hP1 hD1
  generalize H1 = H at hP hS ⊢
  refine W.widen (k := 277) (n := 3929) (Nat.le_of_ble_eq_true rfl) (Nat.le_of_ble_eq_true rfl) ?_
  refine lv_pop hx hb dL_law_706 rfl ?_
  refine lv_goto (tgt := 1357) hx hb dL_law_707 (by decide) ?_
  exact lw_tail hC0 hi ⟨⟨_, _, _, _, _, _, _, _, _, _, _, _, hs, hIX, hIM⟩, hP, hD, hS, hl⟩ ih

set_option maxHeartbeats 4000000 in
set_option maxRecDepth 100000 in
theorem lw_c18 {p : Program} {l : Launch} {e : Env} {s : State} {m : MethodId} {below : List Frame} {meth : Method} {c : Code} {b L : Nat} {xs : Nat → Int32} {dC : Nat → ClassId} {dI : Nat → Nat → Nat} {cI cZ cL cJ : ClassId} {A : Nat → Prop} {H : Heap} {locs : List Loc} {ls : Array Slot} {x mo i : Nat} {wx wm : va_W} (hC : LCx p s m meth c b L xs dC dI cI cZ cL cJ A) (hi : 6 * i + 6 ≤ L) (hv : LIv dC dI cI cZ cL cJ A s b x mo i (wx, wm) H locs ls) (ih : ∀ (st2 : va_W × va_W) (H2 : Heap) (locs2 : List Loc) (ls2 : Array Slot), LIv dC dI cI cZ cL cJ A s b x mo (i + 1) st2 H2 locs2 ls2 → W p l e room_1 s m #[Value.ref b] below meth c H2 locs2 277 3929 (lw_Z below #[Value.ref b] s) (F0 m 18 ls2 [])) : W p l e room_1 s m #[Value.ref b] below meth c H locs 277 3929 (lw_Z below #[Value.ref b] s) (F0 m 710 ls []) := by
  have hC0 := hC
  obtain ⟨hx, hb, hr, hml, hown, hts, hX, hbl, hlocks, hAd, hA, hbA, hK, hst, hL⟩ := hC
  obtain ⟨⟨Rl, Rn, zt, Tb, lf, Lv, An, Ac, I0, I1, Tz, Tc, hs, hIX, hIM⟩, hP, hD, hS, hl⟩ := hv
  refine lv_aload_n hx hb dL_law_710 rfl (lv_at hl 2 rfl) ?_
  refine lv_aload_n hx hb dL_law_711 rfl (lv_at hl 3 rfl) ?_
  refine lv_iload_n hx hb dL_law_712 rfl (lv_at hl 0 rfl) ?_
  refine lv_iconst (v := 1) hx hb dL_law_713 (by decide) ?_
  refine lv_iadd hx hb dL_law_714 ?_
  refine va_sld hx hb hX hbl hbA hS (sc_in (j := 1) (by decide) (by decide) hi hL) dL_law_715 ?_
  refine lv_topi (fun a_1 ea_1 => ?_)
  refine lv_aload_n hx hb dL_law_716 rfl (lv_at hl 3 rfl) ?_
  refine lv_iload_n hx hb dL_law_717 rfl (lv_at hl 0 rfl) ?_
  refine lv_iconst (v := 2) hx hb dL_law_718 (by decide) ?_
  refine lv_iadd hx hb dL_law_719 ?_
  refine va_sld hx hb hX hbl hbA hS (sc_in (j := 2) (by decide) (by decide) hi hL) dL_law_720 ?_
  refine lv_topi (fun a_2 ea_2 => ?_)
  obtain ⟨fs_3, hd_3⟩ := isx_hd (ys := wm) hIX
  have hFc_3 := fr_l hD hS hA
  refine va_calli (va_runV (As := [.int a_1, .int a_2]) (rest := []) ⟨hx, hb, hml, hown, hts⟩ (w_X7_when l dC dI cI cZ cL cJ H.size x _ _ _ _ _ _ _ _ _ _ _ _ wx a_1 a_2 hs hIX) (cwV 2 hts gL_law_X7_when rfl rfl rfl (by decide +kernel) ⟨Nat.le_of_ble_eq_true rfl, Nat.le_of_ble_eq_true rfl⟩) (pvL 7 hK hP hD hst hS hFc_3 rfl hd_3) rfl rfl hl.1 rfl (lv_room (Nat.le_of_ble_eq_true rfl)) dL_law_721 ⟨Nat.le_of_ble_eq_true rfl, Nat.le_of_ble_eq_true rfl⟩) hS (fun q _ h => hFc_3 q h) hFc_3 (fun r_3 u_3 t_3 H1 locs ht hvm h_3 hB hz1 hk1 hS => ?_)
  obtain ⟨wx_3, hIX, hP1, hD1⟩ := hB
  rw [ht] at hP1
  obtain ⟨hP, hD⟩ := jn2 hP hD hk1 hFc_3 hP1 hD1
  generalize H1 = H at hP hS ⊢
  refine W.widen (k := 277) (n := 3929) (Nat.le_of_ble_eq_true rfl) (Nat.le_of_ble_eq_true rfl) ?_
  refine lv_pop hx hb dL_law_724 rfl ?_
  refine lv_aload_n hx hb dL_law_725 rfl (lv_at hl 1 rfl) ?_
  refine lv_aload_n hx hb dL_law_726 rfl (lv_at hl 3 rfl) ?_
  refine lv_iload_n hx hb dL_law_727 rfl (lv_at hl 0 rfl) ?_
  refine lv_iconst (v := 1) hx hb dL_law_728 (by decide) ?_
  refine lv_iadd hx hb dL_law_729 ?_
  refine va_sld hx hb hX hbl hbA hS (sc_in (j := 1) (by decide) (by decide) hi hL) dL_law_730 ?_
  rw [← ea_1]
  refine lv_aload_n hx hb dL_law_731 rfl (lv_at hl 3 rfl) ?_
  refine lv_iload_n hx hb dL_law_732 rfl (lv_at hl 0 rfl) ?_
  refine lv_iconst (v := 2) hx hb dL_law_733 (by decide) ?_
  refine lv_iadd hx hb dL_law_734 ?_
  refine va_sld hx hb hX hbl hbA hS (sc_in (j := 2) (by decide) (by decide) hi hL) dL_law_735 ?_
  rw [← ea_2]
  obtain ⟨fs_6, hd_6⟩ := ism_hd (ys := wx_3) hIM
  have hFc_6 := fr_l hD hS hA
  refine va_calli (va_runV (As := [.int a_1, .int a_2]) (rest := []) ⟨hx, hb, hml, hown, hts⟩ (w_X8_when l dC dI cI cZ cL cJ H.size mo _ _ _ _ _ _ _ _ _ _ _ _ wm a_1 a_2 hIM) (cwV 2 hts gL_law_X8_when rfl rfl rfl (by decide +kernel) ⟨Nat.le_of_ble_eq_true rfl, Nat.le_of_ble_eq_true rfl⟩) (pvL 8 hK hP hD hst hS hFc_6 rfl hd_6) rfl rfl hl.1 rfl (lv_room (Nat.le_of_ble_eq_true rfl)) dL_law_736 ⟨Nat.le_of_ble_eq_true rfl, Nat.le_of_ble_eq_true rfl⟩) hS (fun q _ h => hFc_6 q h) hFc_6 (fun r_6 u_6 t_6 H1 locs ht hvm h_6 hB hz1 hk1 hS => ?_)
  obtain ⟨wm_6, hIM, hP1, hD1⟩ := hB
  rw [ht] at hP1
  obtain ⟨hP, hD⟩ := jn2 hP hD hk1 hFc_6 hP1 hD1
  generalize H1 = H at hP hS ⊢
  refine W.widen (k := 277) (n := 3929) (Nat.le_of_ble_eq_true rfl) (Nat.le_of_ble_eq_true rfl) ?_
  refine lv_pop hx hb dL_law_739 rfl ?_
  refine lv_goto (tgt := 1357) hx hb dL_law_740 (by decide) ?_
  exact lw_tail hC0 hi ⟨⟨_, _, _, _, _, _, _, _, _, _, _, _, hs, hIX, hIM⟩, hP, hD, hS, hl⟩ ih

set_option maxHeartbeats 4000000 in
set_option maxRecDepth 100000 in
theorem lw_c19 {p : Program} {l : Launch} {e : Env} {s : State} {m : MethodId} {below : List Frame} {meth : Method} {c : Code} {b L : Nat} {xs : Nat → Int32} {dC : Nat → ClassId} {dI : Nat → Nat → Nat} {cI cZ cL cJ : ClassId} {A : Nat → Prop} {H : Heap} {locs : List Loc} {ls : Array Slot} {x mo i : Nat} {wx wm : va_W} (hC : LCx p s m meth c b L xs dC dI cI cZ cL cJ A) (hi : 6 * i + 6 ≤ L) (hv : LIv dC dI cI cZ cL cJ A s b x mo i (wx, wm) H locs ls) (ih : ∀ (st2 : va_W × va_W) (H2 : Heap) (locs2 : List Loc) (ls2 : Array Slot), LIv dC dI cI cZ cL cJ A s b x mo (i + 1) st2 H2 locs2 ls2 → W p l e room_1 s m #[Value.ref b] below meth c H2 locs2 277 3929 (lw_Z below #[Value.ref b] s) (F0 m 18 ls2 [])) : W p l e room_1 s m #[Value.ref b] below meth c H locs 277 3929 (lw_Z below #[Value.ref b] s) (F0 m 743 ls []) := by
  have hC0 := hC
  obtain ⟨hx, hb, hr, hml, hown, hts, hX, hbl, hlocks, hAd, hA, hbA, hK, hst, hL⟩ := hC
  obtain ⟨⟨Rl, Rn, zt, Tb, lf, Lv, An, Ac, I0, I1, Tz, Tc, hs, hIX, hIM⟩, hP, hD, hS, hl⟩ := hv
  refine lv_aload_n hx hb dL_law_743 rfl (lv_at hl 2 rfl) ?_
  refine lv_aload_n hx hb dL_law_744 rfl (lv_at hl 3 rfl) ?_
  refine lv_iload_n hx hb dL_law_745 rfl (lv_at hl 0 rfl) ?_
  refine lv_iconst (v := 1) hx hb dL_law_746 (by decide) ?_
  refine lv_iadd hx hb dL_law_747 ?_
  refine va_sld hx hb hX hbl hbA hS (sc_in (j := 1) (by decide) (by decide) hi hL) dL_law_748 ?_
  refine lv_topi (fun a_1 ea_1 => ?_)
  refine lv_aload_n hx hb dL_law_749 rfl (lv_at hl 3 rfl) ?_
  refine lv_iload_n hx hb dL_law_750 rfl (lv_at hl 0 rfl) ?_
  refine lv_iconst (v := 2) hx hb dL_law_751 (by decide) ?_
  refine lv_iadd hx hb dL_law_752 ?_
  refine va_sld hx hb hX hbl hbA hS (sc_in (j := 2) (by decide) (by decide) hi hL) dL_law_753 ?_
  refine lv_topi (fun a_2 ea_2 => ?_)
  obtain ⟨fs_3, hd_3⟩ := isx_hd (ys := wm) hIX
  have hFc_3 := fr_l hD hS hA
  refine va_calli (va_runV (As := [.int a_1, .int a_2]) (rest := []) ⟨hx, hb, hml, hown, hts⟩ (w_X7_caps l dC dI cI cZ cL cJ H.size x _ _ _ _ _ _ _ _ _ _ _ _ wx a_1 a_2 hs hIX) (cwV 2 hts gL_law_X7_caps rfl rfl rfl (by decide +kernel) ⟨Nat.le_of_ble_eq_true rfl, Nat.le_of_ble_eq_true rfl⟩) (pvL 7 hK hP hD hst hS hFc_3 rfl hd_3) rfl rfl hl.1 rfl (lv_room (Nat.le_of_ble_eq_true rfl)) dL_law_754 ⟨Nat.le_of_ble_eq_true rfl, Nat.le_of_ble_eq_true rfl⟩) hS (fun q _ h => hFc_3 q h) hFc_3 (fun r_3 u_3 t_3 H1 locs ht hvm h_3 hB hz1 hk1 hS => ?_)
  obtain ⟨wx_3, hIX, hP1, hD1⟩ := hB
  rw [ht] at hP1
  obtain ⟨hP, hD⟩ := jn2 hP hD hk1 hFc_3 hP1 hD1
  generalize H1 = H at hP hS ⊢
  refine W.widen (k := 277) (n := 3929) (Nat.le_of_ble_eq_true rfl) (Nat.le_of_ble_eq_true rfl) ?_
  refine lv_pop hx hb dL_law_757 rfl ?_
  refine lv_aload_n hx hb dL_law_758 rfl (lv_at hl 1 rfl) ?_
  refine lv_aload_n hx hb dL_law_759 rfl (lv_at hl 3 rfl) ?_
  refine lv_iload_n hx hb dL_law_760 rfl (lv_at hl 0 rfl) ?_
  refine lv_iconst (v := 1) hx hb dL_law_761 (by decide) ?_
  refine lv_iadd hx hb dL_law_762 ?_
  refine va_sld hx hb hX hbl hbA hS (sc_in (j := 1) (by decide) (by decide) hi hL) dL_law_763 ?_
  rw [← ea_1]
  refine lv_aload_n hx hb dL_law_764 rfl (lv_at hl 3 rfl) ?_
  refine lv_iload_n hx hb dL_law_765 rfl (lv_at hl 0 rfl) ?_
  refine lv_iconst (v := 2) hx hb dL_law_766 (by decide) ?_
  refine lv_iadd hx hb dL_law_767 ?_
  refine va_sld hx hb hX hbl hbA hS (sc_in (j := 2) (by decide) (by decide) hi hL) dL_law_768 ?_
  rw [← ea_2]
  obtain ⟨fs_6, hd_6⟩ := ism_hd (ys := wx_3) hIM
  have hFc_6 := fr_l hD hS hA
  refine va_calli (va_runV (As := [.int a_1, .int a_2]) (rest := []) ⟨hx, hb, hml, hown, hts⟩ (w_X8_caps l dC dI cI cZ cL cJ H.size mo _ _ _ _ _ _ _ _ _ _ _ _ wm a_1 a_2 hIM) (cwV 2 hts gL_law_X8_caps rfl rfl rfl (by decide +kernel) ⟨Nat.le_of_ble_eq_true rfl, Nat.le_of_ble_eq_true rfl⟩) (pvL 8 hK hP hD hst hS hFc_6 rfl hd_6) rfl rfl hl.1 rfl (lv_room (Nat.le_of_ble_eq_true rfl)) dL_law_769 ⟨Nat.le_of_ble_eq_true rfl, Nat.le_of_ble_eq_true rfl⟩) hS (fun q _ h => hFc_6 q h) hFc_6 (fun r_6 u_6 t_6 H1 locs ht hvm h_6 hB hz1 hk1 hS => ?_)
  obtain ⟨wm_6, hIM, hP1, hD1⟩ := hB
  rw [ht] at hP1
  obtain ⟨hP, hD⟩ := jn2 hP hD hk1 hFc_6 hP1 hD1
  generalize H1 = H at hP hS ⊢
  refine W.widen (k := 277) (n := 3929) (Nat.le_of_ble_eq_true rfl) (Nat.le_of_ble_eq_true rfl) ?_
  refine lv_pop hx hb dL_law_772 rfl ?_
  refine lv_goto (tgt := 1357) hx hb dL_law_773 (by decide) ?_
  exact lw_tail hC0 hi ⟨⟨_, _, _, _, _, _, _, _, _, _, _, _, hs, hIX, hIM⟩, hP, hD, hS, hl⟩ ih

set_option maxHeartbeats 4000000 in
set_option maxRecDepth 100000 in
theorem lw_c20 {p : Program} {l : Launch} {e : Env} {s : State} {m : MethodId} {below : List Frame} {meth : Method} {c : Code} {b L : Nat} {xs : Nat → Int32} {dC : Nat → ClassId} {dI : Nat → Nat → Nat} {cI cZ cL cJ : ClassId} {A : Nat → Prop} {H : Heap} {locs : List Loc} {ls : Array Slot} {x mo i : Nat} {wx wm : va_W} (hC : LCx p s m meth c b L xs dC dI cI cZ cL cJ A) (hi : 6 * i + 6 ≤ L) (hv : LIv dC dI cI cZ cL cJ A s b x mo i (wx, wm) H locs ls) (ih : ∀ (st2 : va_W × va_W) (H2 : Heap) (locs2 : List Loc) (ls2 : Array Slot), LIv dC dI cI cZ cL cJ A s b x mo (i + 1) st2 H2 locs2 ls2 → W p l e room_1 s m #[Value.ref b] below meth c H2 locs2 277 3929 (lw_Z below #[Value.ref b] s) (F0 m 18 ls2 [])) : W p l e room_1 s m #[Value.ref b] below meth c H locs 277 3929 (lw_Z below #[Value.ref b] s) (F0 m 776 ls []) := by
  have hC0 := hC
  obtain ⟨hx, hb, hr, hml, hown, hts, hX, hbl, hlocks, hAd, hA, hbA, hK, hst, hL⟩ := hC
  obtain ⟨⟨Rl, Rn, zt, Tb, lf, Lv, An, Ac, I0, I1, Tz, Tc, hs, hIX, hIM⟩, hP, hD, hS, hl⟩ := hv
  refine lv_aload_n hx hb dL_law_776 rfl (lv_at hl 2 rfl) ?_
  refine lv_aload_n hx hb dL_law_777 rfl (lv_at hl 3 rfl) ?_
  refine lv_iload_n hx hb dL_law_778 rfl (lv_at hl 0 rfl) ?_
  refine lv_iconst (v := 1) hx hb dL_law_779 (by decide) ?_
  refine lv_iadd hx hb dL_law_780 ?_
  refine va_sld hx hb hX hbl hbA hS (sc_in (j := 1) (by decide) (by decide) hi hL) dL_law_781 ?_
  refine lv_topi (fun a_1 ea_1 => ?_)
  refine lv_aload_n hx hb dL_law_782 rfl (lv_at hl 3 rfl) ?_
  refine lv_iload_n hx hb dL_law_783 rfl (lv_at hl 0 rfl) ?_
  refine lv_iconst (v := 2) hx hb dL_law_784 (by decide) ?_
  refine lv_iadd hx hb dL_law_785 ?_
  refine va_sld hx hb hX hbl hbA hS (sc_in (j := 2) (by decide) (by decide) hi hL) dL_law_786 ?_
  refine lv_topi (fun a_2 ea_2 => ?_)
  obtain ⟨fs_3, hd_3⟩ := isx_hd (ys := wm) hIX
  have hFc_3 := fr_l hD hS hA
  refine va_calli (va_runV (As := [.int a_1, .int a_2]) (rest := []) ⟨hx, hb, hml, hown, hts⟩ (w_X7_had l dC dI cI cZ cL cJ H.size x _ _ _ _ _ _ _ _ _ _ _ _ wx a_1 a_2 hs hIX) (cwV 2 hts gL_law_X7_had rfl rfl rfl (by decide +kernel) ⟨Nat.le_of_ble_eq_true rfl, Nat.le_of_ble_eq_true rfl⟩) (pvL 7 hK hP hD hst hS hFc_3 rfl hd_3) rfl rfl hl.1 rfl (lv_room (Nat.le_of_ble_eq_true rfl)) dL_law_787 ⟨Nat.le_of_ble_eq_true rfl, Nat.le_of_ble_eq_true rfl⟩) hS (fun q _ h => hFc_3 q h) hFc_3 (fun r_3 u_3 t_3 H1 locs ht hvm h_3 hB hz1 hk1 hS => ?_)
  obtain ⟨wx_3, hIX, hP1, hD1⟩ := hB
  rw [ht] at hP1
  obtain ⟨hP, hD⟩ := jn2 hP hD hk1 hFc_3 hP1 hD1
  generalize H1 = H at hP hS ⊢
  refine W.widen (k := 277) (n := 3929) (Nat.le_of_ble_eq_true rfl) (Nat.le_of_ble_eq_true rfl) ?_
  refine lv_pop hx hb dL_law_790 rfl ?_
  refine lv_aload_n hx hb dL_law_791 rfl (lv_at hl 1 rfl) ?_
  refine lv_aload_n hx hb dL_law_792 rfl (lv_at hl 3 rfl) ?_
  refine lv_iload_n hx hb dL_law_793 rfl (lv_at hl 0 rfl) ?_
  refine lv_iconst (v := 1) hx hb dL_law_794 (by decide) ?_
  refine lv_iadd hx hb dL_law_795 ?_
  refine va_sld hx hb hX hbl hbA hS (sc_in (j := 1) (by decide) (by decide) hi hL) dL_law_796 ?_
  rw [← ea_1]
  refine lv_aload_n hx hb dL_law_797 rfl (lv_at hl 3 rfl) ?_
  refine lv_iload_n hx hb dL_law_798 rfl (lv_at hl 0 rfl) ?_
  refine lv_iconst (v := 2) hx hb dL_law_799 (by decide) ?_
  refine lv_iadd hx hb dL_law_800 ?_
  refine va_sld hx hb hX hbl hbA hS (sc_in (j := 2) (by decide) (by decide) hi hL) dL_law_801 ?_
  rw [← ea_2]
  obtain ⟨fs_6, hd_6⟩ := ism_hd (ys := wx_3) hIM
  have hFc_6 := fr_l hD hS hA
  refine va_calli (va_runV (As := [.int a_1, .int a_2]) (rest := []) ⟨hx, hb, hml, hown, hts⟩ (w_X8_had l dC dI cI cZ cL cJ H.size mo _ _ _ _ _ _ _ _ _ _ _ _ wm a_1 a_2 hIM) (cwV 2 hts gL_law_X8_had rfl rfl rfl (by decide +kernel) ⟨Nat.le_of_ble_eq_true rfl, Nat.le_of_ble_eq_true rfl⟩) (pvL 8 hK hP hD hst hS hFc_6 rfl hd_6) rfl rfl hl.1 rfl (lv_room (Nat.le_of_ble_eq_true rfl)) dL_law_802 ⟨Nat.le_of_ble_eq_true rfl, Nat.le_of_ble_eq_true rfl⟩) hS (fun q _ h => hFc_6 q h) hFc_6 (fun r_6 u_6 t_6 H1 locs ht hvm h_6 hB hz1 hk1 hS => ?_)
  obtain ⟨wm_6, hIM, hP1, hD1⟩ := hB
  rw [ht] at hP1
  obtain ⟨hP, hD⟩ := jn2 hP hD hk1 hFc_6 hP1 hD1
  generalize H1 = H at hP hS ⊢
  refine W.widen (k := 277) (n := 3929) (Nat.le_of_ble_eq_true rfl) (Nat.le_of_ble_eq_true rfl) ?_
  refine lv_pop hx hb dL_law_805 rfl ?_
  refine lv_goto (tgt := 1357) hx hb dL_law_806 (by decide) ?_
  exact lw_tail hC0 hi ⟨⟨_, _, _, _, _, _, _, _, _, _, _, _, hs, hIX, hIM⟩, hP, hD, hS, hl⟩ ih

set_option maxHeartbeats 4000000 in
set_option maxRecDepth 100000 in
theorem lw_c21 {p : Program} {l : Launch} {e : Env} {s : State} {m : MethodId} {below : List Frame} {meth : Method} {c : Code} {b L : Nat} {xs : Nat → Int32} {dC : Nat → ClassId} {dI : Nat → Nat → Nat} {cI cZ cL cJ : ClassId} {A : Nat → Prop} {H : Heap} {locs : List Loc} {ls : Array Slot} {x mo i : Nat} {wx wm : va_W} (hC : LCx p s m meth c b L xs dC dI cI cZ cL cJ A) (hi : 6 * i + 6 ≤ L) (hv : LIv dC dI cI cZ cL cJ A s b x mo i (wx, wm) H locs ls) (ih : ∀ (st2 : va_W × va_W) (H2 : Heap) (locs2 : List Loc) (ls2 : Array Slot), LIv dC dI cI cZ cL cJ A s b x mo (i + 1) st2 H2 locs2 ls2 → W p l e room_1 s m #[Value.ref b] below meth c H2 locs2 277 3929 (lw_Z below #[Value.ref b] s) (F0 m 18 ls2 [])) : W p l e room_1 s m #[Value.ref b] below meth c H locs 277 3929 (lw_Z below #[Value.ref b] s) (F0 m 809 ls []) := by
  have hC0 := hC
  obtain ⟨hx, hb, hr, hml, hown, hts, hX, hbl, hlocks, hAd, hA, hbA, hK, hst, hL⟩ := hC
  obtain ⟨⟨Rl, Rn, zt, Tb, lf, Lv, An, Ac, I0, I1, Tz, Tc, hs, hIX, hIM⟩, hP, hD, hS, hl⟩ := hv
  refine lv_aload_n hx hb dL_law_809 rfl (lv_at hl 2 rfl) ?_
  refine lv_aload_n hx hb dL_law_810 rfl (lv_at hl 3 rfl) ?_
  refine lv_iload_n hx hb dL_law_811 rfl (lv_at hl 0 rfl) ?_
  refine lv_iconst (v := 1) hx hb dL_law_812 (by decide) ?_
  refine lv_iadd hx hb dL_law_813 ?_
  refine va_sld hx hb hX hbl hbA hS (sc_in (j := 1) (by decide) (by decide) hi hL) dL_law_814 ?_
  refine lv_topi (fun a_1 ea_1 => ?_)
  refine lv_aload_n hx hb dL_law_815 rfl (lv_at hl 3 rfl) ?_
  refine lv_iload_n hx hb dL_law_816 rfl (lv_at hl 0 rfl) ?_
  refine lv_iconst (v := 2) hx hb dL_law_817 (by decide) ?_
  refine lv_iadd hx hb dL_law_818 ?_
  refine va_sld hx hb hX hbl hbA hS (sc_in (j := 2) (by decide) (by decide) hi hL) dL_law_819 ?_
  refine lv_topi (fun a_2 ea_2 => ?_)
  obtain ⟨fs_3, hd_3⟩ := isx_hd (ys := wm) hIX
  have hFc_3 := fr_l hD hS hA
  refine va_calli (va_runV (As := [.int a_1, .int a_2]) (rest := []) ⟨hx, hb, hml, hown, hts⟩ (w_X7_site l dC dI cI cZ cL cJ H.size x _ _ _ _ _ _ _ _ _ _ _ _ wx a_1 a_2 hs hIX) (cwV 2 hts gL_law_X7_site rfl rfl rfl (by decide +kernel) ⟨Nat.le_of_ble_eq_true rfl, Nat.le_of_ble_eq_true rfl⟩) (pvL 7 hK hP hD hst hS hFc_3 rfl hd_3) rfl rfl hl.1 rfl (lv_room (Nat.le_of_ble_eq_true rfl)) dL_law_820 ⟨Nat.le_of_ble_eq_true rfl, Nat.le_of_ble_eq_true rfl⟩) hS (fun q _ h => hFc_3 q h) hFc_3 (fun r_3 u_3 t_3 H1 locs ht hvm h_3 hB hz1 hk1 hS => ?_)
  obtain ⟨wx_3, hIX, hP1, hD1⟩ := hB
  rw [ht] at hP1
  obtain ⟨hP, hD⟩ := jn2 hP hD hk1 hFc_3 hP1 hD1
  generalize H1 = H at hP hS ⊢
  refine W.widen (k := 277) (n := 3929) (Nat.le_of_ble_eq_true rfl) (Nat.le_of_ble_eq_true rfl) ?_
  refine lv_pop hx hb dL_law_823 rfl ?_
  refine lv_aload_n hx hb dL_law_824 rfl (lv_at hl 1 rfl) ?_
  refine lv_aload_n hx hb dL_law_825 rfl (lv_at hl 3 rfl) ?_
  refine lv_iload_n hx hb dL_law_826 rfl (lv_at hl 0 rfl) ?_
  refine lv_iconst (v := 1) hx hb dL_law_827 (by decide) ?_
  refine lv_iadd hx hb dL_law_828 ?_
  refine va_sld hx hb hX hbl hbA hS (sc_in (j := 1) (by decide) (by decide) hi hL) dL_law_829 ?_
  rw [← ea_1]
  refine lv_aload_n hx hb dL_law_830 rfl (lv_at hl 3 rfl) ?_
  refine lv_iload_n hx hb dL_law_831 rfl (lv_at hl 0 rfl) ?_
  refine lv_iconst (v := 2) hx hb dL_law_832 (by decide) ?_
  refine lv_iadd hx hb dL_law_833 ?_
  refine va_sld hx hb hX hbl hbA hS (sc_in (j := 2) (by decide) (by decide) hi hL) dL_law_834 ?_
  rw [← ea_2]
  obtain ⟨fs_6, hd_6⟩ := ism_hd (ys := wx_3) hIM
  have hFc_6 := fr_l hD hS hA
  refine va_calli (va_runV (As := [.int a_1, .int a_2]) (rest := []) ⟨hx, hb, hml, hown, hts⟩ (w_X8_site l dC dI cI cZ cL cJ H.size mo _ _ _ _ _ _ _ _ _ _ _ _ wm a_1 a_2 hIM) (cwV 2 hts gL_law_X8_site rfl rfl rfl (by decide +kernel) ⟨Nat.le_of_ble_eq_true rfl, Nat.le_of_ble_eq_true rfl⟩) (pvL 8 hK hP hD hst hS hFc_6 rfl hd_6) rfl rfl hl.1 rfl (lv_room (Nat.le_of_ble_eq_true rfl)) dL_law_835 ⟨Nat.le_of_ble_eq_true rfl, Nat.le_of_ble_eq_true rfl⟩) hS (fun q _ h => hFc_6 q h) hFc_6 (fun r_6 u_6 t_6 H1 locs ht hvm h_6 hB hz1 hk1 hS => ?_)
  obtain ⟨wm_6, hIM, hP1, hD1⟩ := hB
  rw [ht] at hP1
  obtain ⟨hP, hD⟩ := jn2 hP hD hk1 hFc_6 hP1 hD1
  generalize H1 = H at hP hS ⊢
  refine W.widen (k := 277) (n := 3929) (Nat.le_of_ble_eq_true rfl) (Nat.le_of_ble_eq_true rfl) ?_
  refine lv_pop hx hb dL_law_838 rfl ?_
  refine lv_goto (tgt := 1357) hx hb dL_law_839 (by decide) ?_
  exact lw_tail hC0 hi ⟨⟨_, _, _, _, _, _, _, _, _, _, _, _, hs, hIX, hIM⟩, hP, hD, hS, hl⟩ ih

set_option maxHeartbeats 4000000 in
set_option maxRecDepth 100000 in
theorem lw_c22 {p : Program} {l : Launch} {e : Env} {s : State} {m : MethodId} {below : List Frame} {meth : Method} {c : Code} {b L : Nat} {xs : Nat → Int32} {dC : Nat → ClassId} {dI : Nat → Nat → Nat} {cI cZ cL cJ : ClassId} {A : Nat → Prop} {H : Heap} {locs : List Loc} {ls : Array Slot} {x mo i : Nat} {wx wm : va_W} (hC : LCx p s m meth c b L xs dC dI cI cZ cL cJ A) (hi : 6 * i + 6 ≤ L) (hv : LIv dC dI cI cZ cL cJ A s b x mo i (wx, wm) H locs ls) (ih : ∀ (st2 : va_W × va_W) (H2 : Heap) (locs2 : List Loc) (ls2 : Array Slot), LIv dC dI cI cZ cL cJ A s b x mo (i + 1) st2 H2 locs2 ls2 → W p l e room_1 s m #[Value.ref b] below meth c H2 locs2 277 3929 (lw_Z below #[Value.ref b] s) (F0 m 18 ls2 [])) : W p l e room_1 s m #[Value.ref b] below meth c H locs 277 3929 (lw_Z below #[Value.ref b] s) (F0 m 842 ls []) := by
  have hC0 := hC
  obtain ⟨hx, hb, hr, hml, hown, hts, hX, hbl, hlocks, hAd, hA, hbA, hK, hst, hL⟩ := hC
  obtain ⟨⟨Rl, Rn, zt, Tb, lf, Lv, An, Ac, I0, I1, Tz, Tc, hs, hIX, hIM⟩, hP, hD, hS, hl⟩ := hv
  refine lv_aload_n hx hb dL_law_842 rfl (lv_at hl 2 rfl) ?_
  refine lv_aload_n hx hb dL_law_843 rfl (lv_at hl 3 rfl) ?_
  refine lv_iload_n hx hb dL_law_844 rfl (lv_at hl 0 rfl) ?_
  refine lv_iconst (v := 1) hx hb dL_law_845 (by decide) ?_
  refine lv_iadd hx hb dL_law_846 ?_
  refine va_sld hx hb hX hbl hbA hS (sc_in (j := 1) (by decide) (by decide) hi hL) dL_law_847 ?_
  refine lv_topi (fun a_1 ea_1 => ?_)
  refine lv_aload_n hx hb dL_law_848 rfl (lv_at hl 3 rfl) ?_
  refine lv_iload_n hx hb dL_law_849 rfl (lv_at hl 0 rfl) ?_
  refine lv_iconst (v := 2) hx hb dL_law_850 (by decide) ?_
  refine lv_iadd hx hb dL_law_851 ?_
  refine va_sld hx hb hX hbl hbA hS (sc_in (j := 2) (by decide) (by decide) hi hL) dL_law_852 ?_
  refine lv_topi (fun a_2 ea_2 => ?_)
  obtain ⟨fs_3, hd_3⟩ := isx_hd (ys := wm) hIX
  have hFc_3 := fr_l hD hS hA
  refine va_calli (va_runV (As := [.int a_1, .int a_2]) (rest := []) ⟨hx, hb, hml, hown, hts⟩ (w_X7_sack l dC dI cI cZ cL cJ H.size x _ _ _ _ _ _ _ _ _ _ _ _ wx a_1 a_2 hs hIX) (cwV 2 hts gL_law_X7_sack rfl rfl rfl (by decide +kernel) ⟨Nat.le_of_ble_eq_true rfl, Nat.le_of_ble_eq_true rfl⟩) (pvL 7 hK hP hD hst hS hFc_3 rfl hd_3) rfl rfl hl.1 rfl (lv_room (Nat.le_of_ble_eq_true rfl)) dL_law_853 ⟨Nat.le_of_ble_eq_true rfl, Nat.le_of_ble_eq_true rfl⟩) hS (fun q _ h => hFc_3 q h) hFc_3 (fun r_3 u_3 t_3 H1 locs ht hvm h_3 hB hz1 hk1 hS => ?_)
  obtain ⟨wx_3, hIX, hP1, hD1⟩ := hB
  rw [ht] at hP1
  obtain ⟨hP, hD⟩ := jn2 hP hD hk1 hFc_3 hP1 hD1
  generalize H1 = H at hP hS ⊢
  refine W.widen (k := 277) (n := 3929) (Nat.le_of_ble_eq_true rfl) (Nat.le_of_ble_eq_true rfl) ?_
  refine lv_pop hx hb dL_law_856 rfl ?_
  refine lv_aload_n hx hb dL_law_857 rfl (lv_at hl 1 rfl) ?_
  refine lv_aload_n hx hb dL_law_858 rfl (lv_at hl 3 rfl) ?_
  refine lv_iload_n hx hb dL_law_859 rfl (lv_at hl 0 rfl) ?_
  refine lv_iconst (v := 1) hx hb dL_law_860 (by decide) ?_
  refine lv_iadd hx hb dL_law_861 ?_
  refine va_sld hx hb hX hbl hbA hS (sc_in (j := 1) (by decide) (by decide) hi hL) dL_law_862 ?_
  rw [← ea_1]
  refine lv_aload_n hx hb dL_law_863 rfl (lv_at hl 3 rfl) ?_
  refine lv_iload_n hx hb dL_law_864 rfl (lv_at hl 0 rfl) ?_
  refine lv_iconst (v := 2) hx hb dL_law_865 (by decide) ?_
  refine lv_iadd hx hb dL_law_866 ?_
  refine va_sld hx hb hX hbl hbA hS (sc_in (j := 2) (by decide) (by decide) hi hL) dL_law_867 ?_
  rw [← ea_2]
  obtain ⟨fs_6, hd_6⟩ := ism_hd (ys := wx_3) hIM
  have hFc_6 := fr_l hD hS hA
  refine va_calli (va_runV (As := [.int a_1, .int a_2]) (rest := []) ⟨hx, hb, hml, hown, hts⟩ (w_X8_sack l dC dI cI cZ cL cJ H.size mo _ _ _ _ _ _ _ _ _ _ _ _ wm a_1 a_2 hIM) (cwV 2 hts gL_law_X8_sack rfl rfl rfl (by decide +kernel) ⟨Nat.le_of_ble_eq_true rfl, Nat.le_of_ble_eq_true rfl⟩) (pvL 8 hK hP hD hst hS hFc_6 rfl hd_6) rfl rfl hl.1 rfl (lv_room (Nat.le_of_ble_eq_true rfl)) dL_law_868 ⟨Nat.le_of_ble_eq_true rfl, Nat.le_of_ble_eq_true rfl⟩) hS (fun q _ h => hFc_6 q h) hFc_6 (fun r_6 u_6 t_6 H1 locs ht hvm h_6 hB hz1 hk1 hS => ?_)
  obtain ⟨wm_6, hIM, hP1, hD1⟩ := hB
  rw [ht] at hP1
  obtain ⟨hP, hD⟩ := jn2 hP hD hk1 hFc_6 hP1 hD1
  generalize H1 = H at hP hS ⊢
  refine W.widen (k := 277) (n := 3929) (Nat.le_of_ble_eq_true rfl) (Nat.le_of_ble_eq_true rfl) ?_
  refine lv_pop hx hb dL_law_871 rfl ?_
  refine lv_goto (tgt := 1357) hx hb dL_law_872 (by decide) ?_
  exact lw_tail hC0 hi ⟨⟨_, _, _, _, _, _, _, _, _, _, _, _, hs, hIX, hIM⟩, hP, hD, hS, hl⟩ ih

set_option maxHeartbeats 4000000 in
set_option maxRecDepth 100000 in
theorem lw_c23 {p : Program} {l : Launch} {e : Env} {s : State} {m : MethodId} {below : List Frame} {meth : Method} {c : Code} {b L : Nat} {xs : Nat → Int32} {dC : Nat → ClassId} {dI : Nat → Nat → Nat} {cI cZ cL cJ : ClassId} {A : Nat → Prop} {H : Heap} {locs : List Loc} {ls : Array Slot} {x mo i : Nat} {wx wm : va_W} (hC : LCx p s m meth c b L xs dC dI cI cZ cL cJ A) (hi : 6 * i + 6 ≤ L) (hv : LIv dC dI cI cZ cL cJ A s b x mo i (wx, wm) H locs ls) (ih : ∀ (st2 : va_W × va_W) (H2 : Heap) (locs2 : List Loc) (ls2 : Array Slot), LIv dC dI cI cZ cL cJ A s b x mo (i + 1) st2 H2 locs2 ls2 → W p l e room_1 s m #[Value.ref b] below meth c H2 locs2 277 3929 (lw_Z below #[Value.ref b] s) (F0 m 18 ls2 [])) : W p l e room_1 s m #[Value.ref b] below meth c H locs 277 3929 (lw_Z below #[Value.ref b] s) (F0 m 875 ls []) := by
  have hC0 := hC
  obtain ⟨hx, hb, hr, hml, hown, hts, hX, hbl, hlocks, hAd, hA, hbA, hK, hst, hL⟩ := hC
  obtain ⟨⟨Rl, Rn, zt, Tb, lf, Lv, An, Ac, I0, I1, Tz, Tc, hs, hIX, hIM⟩, hP, hD, hS, hl⟩ := hv
  refine lv_aload_n hx hb dL_law_875 rfl (lv_at hl 2 rfl) ?_
  refine lv_aload_n hx hb dL_law_876 rfl (lv_at hl 3 rfl) ?_
  refine lv_iload_n hx hb dL_law_877 rfl (lv_at hl 0 rfl) ?_
  refine lv_iconst (v := 1) hx hb dL_law_878 (by decide) ?_
  refine lv_iadd hx hb dL_law_879 ?_
  refine va_sld hx hb hX hbl hbA hS (sc_in (j := 1) (by decide) (by decide) hi hL) dL_law_880 ?_
  refine lv_topi (fun a_1 ea_1 => ?_)
  refine lv_aload_n hx hb dL_law_881 rfl (lv_at hl 3 rfl) ?_
  refine lv_iload_n hx hb dL_law_882 rfl (lv_at hl 0 rfl) ?_
  refine lv_iconst (v := 2) hx hb dL_law_883 (by decide) ?_
  refine lv_iadd hx hb dL_law_884 ?_
  refine va_sld hx hb hX hbl hbA hS (sc_in (j := 2) (by decide) (by decide) hi hL) dL_law_885 ?_
  refine lv_topi (fun a_2 ea_2 => ?_)
  obtain ⟨fs_3, hd_3⟩ := isx_hd (ys := wm) hIX
  have hFc_3 := fr_l hD hS hA
  refine va_calli (va_runV (As := [.int a_1, .int a_2]) (rest := []) ⟨hx, hb, hml, hown, hts⟩ (w_X7_share l dC dI cI cZ cL cJ H.size x _ _ _ _ _ _ _ _ _ _ _ _ wx a_1 a_2 hs hIX) (cwV 2 hts gL_law_X7_share rfl rfl rfl (by decide +kernel) ⟨Nat.le_of_ble_eq_true rfl, Nat.le_of_ble_eq_true rfl⟩) (pvL 7 hK hP hD hst hS hFc_3 rfl hd_3) rfl rfl hl.1 rfl (lv_room (Nat.le_of_ble_eq_true rfl)) dL_law_886 ⟨Nat.le_of_ble_eq_true rfl, Nat.le_of_ble_eq_true rfl⟩) hS (fun q _ h => hFc_3 q h) hFc_3 (fun r_3 u_3 t_3 H1 locs ht hvm h_3 hB hz1 hk1 hS => ?_)
  obtain ⟨wx_3, hIX, hP1, hD1⟩ := hB
  rw [ht] at hP1
  obtain ⟨hP, hD⟩ := jn2 hP hD hk1 hFc_3 hP1 hD1
  generalize H1 = H at hP hS ⊢
  refine W.widen (k := 277) (n := 3929) (Nat.le_of_ble_eq_true rfl) (Nat.le_of_ble_eq_true rfl) ?_
  refine lv_pop hx hb dL_law_889 rfl ?_
  refine lv_aload_n hx hb dL_law_890 rfl (lv_at hl 1 rfl) ?_
  refine lv_aload_n hx hb dL_law_891 rfl (lv_at hl 3 rfl) ?_
  refine lv_iload_n hx hb dL_law_892 rfl (lv_at hl 0 rfl) ?_
  refine lv_iconst (v := 1) hx hb dL_law_893 (by decide) ?_
  refine lv_iadd hx hb dL_law_894 ?_
  refine va_sld hx hb hX hbl hbA hS (sc_in (j := 1) (by decide) (by decide) hi hL) dL_law_895 ?_
  rw [← ea_1]
  refine lv_aload_n hx hb dL_law_896 rfl (lv_at hl 3 rfl) ?_
  refine lv_iload_n hx hb dL_law_897 rfl (lv_at hl 0 rfl) ?_
  refine lv_iconst (v := 2) hx hb dL_law_898 (by decide) ?_
  refine lv_iadd hx hb dL_law_899 ?_
  refine va_sld hx hb hX hbl hbA hS (sc_in (j := 2) (by decide) (by decide) hi hL) dL_law_900 ?_
  rw [← ea_2]
  obtain ⟨fs_6, hd_6⟩ := ism_hd (ys := wx_3) hIM
  have hFc_6 := fr_l hD hS hA
  refine va_calli (va_runV (As := [.int a_1, .int a_2]) (rest := []) ⟨hx, hb, hml, hown, hts⟩ (w_X8_share l dC dI cI cZ cL cJ H.size mo _ _ _ _ _ _ _ _ _ _ _ _ wm a_1 a_2 hIM) (cwV 2 hts gL_law_X8_share rfl rfl rfl (by decide +kernel) ⟨Nat.le_of_ble_eq_true rfl, Nat.le_of_ble_eq_true rfl⟩) (pvL 8 hK hP hD hst hS hFc_6 rfl hd_6) rfl rfl hl.1 rfl (lv_room (Nat.le_of_ble_eq_true rfl)) dL_law_901 ⟨Nat.le_of_ble_eq_true rfl, Nat.le_of_ble_eq_true rfl⟩) hS (fun q _ h => hFc_6 q h) hFc_6 (fun r_6 u_6 t_6 H1 locs ht hvm h_6 hB hz1 hk1 hS => ?_)
  obtain ⟨wm_6, hIM, hP1, hD1⟩ := hB
  rw [ht] at hP1
  obtain ⟨hP, hD⟩ := jn2 hP hD hk1 hFc_6 hP1 hD1
  generalize H1 = H at hP hS ⊢
  refine W.widen (k := 277) (n := 3929) (Nat.le_of_ble_eq_true rfl) (Nat.le_of_ble_eq_true rfl) ?_
  refine lv_pop hx hb dL_law_904 rfl ?_
  refine lv_goto (tgt := 1357) hx hb dL_law_905 (by decide) ?_
  exact lw_tail hC0 hi ⟨⟨_, _, _, _, _, _, _, _, _, _, _, _, hs, hIX, hIM⟩, hP, hD, hS, hl⟩ ih

set_option maxHeartbeats 4000000 in
set_option maxRecDepth 100000 in
theorem lw_c24 {p : Program} {l : Launch} {e : Env} {s : State} {m : MethodId} {below : List Frame} {meth : Method} {c : Code} {b L : Nat} {xs : Nat → Int32} {dC : Nat → ClassId} {dI : Nat → Nat → Nat} {cI cZ cL cJ : ClassId} {A : Nat → Prop} {H : Heap} {locs : List Loc} {ls : Array Slot} {x mo i : Nat} {wx wm : va_W} (hC : LCx p s m meth c b L xs dC dI cI cZ cL cJ A) (hi : 6 * i + 6 ≤ L) (hv : LIv dC dI cI cZ cL cJ A s b x mo i (wx, wm) H locs ls) (ih : ∀ (st2 : va_W × va_W) (H2 : Heap) (locs2 : List Loc) (ls2 : Array Slot), LIv dC dI cI cZ cL cJ A s b x mo (i + 1) st2 H2 locs2 ls2 → W p l e room_1 s m #[Value.ref b] below meth c H2 locs2 277 3929 (lw_Z below #[Value.ref b] s) (F0 m 18 ls2 [])) : W p l e room_1 s m #[Value.ref b] below meth c H locs 277 3929 (lw_Z below #[Value.ref b] s) (F0 m 908 ls []) := by
  have hC0 := hC
  obtain ⟨hx, hb, hr, hml, hown, hts, hX, hbl, hlocks, hAd, hA, hbA, hK, hst, hL⟩ := hC
  obtain ⟨⟨Rl, Rn, zt, Tb, lf, Lv, An, Ac, I0, I1, Tz, Tc, hs, hIX, hIM⟩, hP, hD, hS, hl⟩ := hv
  refine lv_aload_n hx hb dL_law_908 rfl (lv_at hl 2 rfl) ?_
  refine lv_aload_n hx hb dL_law_909 rfl (lv_at hl 3 rfl) ?_
  refine lv_iload_n hx hb dL_law_910 rfl (lv_at hl 0 rfl) ?_
  refine lv_iconst (v := 1) hx hb dL_law_911 (by decide) ?_
  refine lv_iadd hx hb dL_law_912 ?_
  refine va_sld hx hb hX hbl hbA hS (sc_in (j := 1) (by decide) (by decide) hi hL) dL_law_913 ?_
  refine lv_topi (fun a_1 ea_1 => ?_)
  refine lv_aload_n hx hb dL_law_914 rfl (lv_at hl 3 rfl) ?_
  refine lv_iload_n hx hb dL_law_915 rfl (lv_at hl 0 rfl) ?_
  refine lv_iconst (v := 2) hx hb dL_law_916 (by decide) ?_
  refine lv_iadd hx hb dL_law_917 ?_
  refine va_sld hx hb hX hbl hbA hS (sc_in (j := 2) (by decide) (by decide) hi hL) dL_law_918 ?_
  refine lv_topi (fun a_2 ea_2 => ?_)
  obtain ⟨fs_3, hd_3⟩ := isx_hd (ys := wm) hIX
  have hFc_3 := fr_l hD hS hA
  refine va_calli (va_runV (As := [.int a_1, .int a_2]) (rest := []) ⟨hx, hb, hml, hown, hts⟩ (w_X7_byTurns l dC dI cI cZ cL cJ H.size x _ _ _ _ _ _ _ _ _ _ _ _ wx a_1 a_2 hs hIX) (cwV 2 hts gL_law_X7_byTurns rfl rfl rfl (by decide +kernel) ⟨Nat.le_of_ble_eq_true rfl, Nat.le_of_ble_eq_true rfl⟩) (pvL 7 hK hP hD hst hS hFc_3 rfl hd_3) rfl rfl hl.1 rfl (lv_room (Nat.le_of_ble_eq_true rfl)) dL_law_919 ⟨Nat.le_of_ble_eq_true rfl, Nat.le_of_ble_eq_true rfl⟩) hS (fun q _ h => hFc_3 q h) hFc_3 (fun r_3 u_3 t_3 H1 locs ht hvm h_3 hB hz1 hk1 hS => ?_)
  obtain ⟨wx_3, hIX, hP1, hD1⟩ := hB
  rw [ht] at hP1
  obtain ⟨hP, hD⟩ := jn2 hP hD hk1 hFc_3 hP1 hD1
  generalize H1 = H at hP hS ⊢
  refine W.widen (k := 277) (n := 3929) (Nat.le_of_ble_eq_true rfl) (Nat.le_of_ble_eq_true rfl) ?_
  refine lv_pop hx hb dL_law_922 rfl ?_
  refine lv_aload_n hx hb dL_law_923 rfl (lv_at hl 1 rfl) ?_
  refine lv_aload_n hx hb dL_law_924 rfl (lv_at hl 3 rfl) ?_
  refine lv_iload_n hx hb dL_law_925 rfl (lv_at hl 0 rfl) ?_
  refine lv_iconst (v := 1) hx hb dL_law_926 (by decide) ?_
  refine lv_iadd hx hb dL_law_927 ?_
  refine va_sld hx hb hX hbl hbA hS (sc_in (j := 1) (by decide) (by decide) hi hL) dL_law_928 ?_
  rw [← ea_1]
  refine lv_aload_n hx hb dL_law_929 rfl (lv_at hl 3 rfl) ?_
  refine lv_iload_n hx hb dL_law_930 rfl (lv_at hl 0 rfl) ?_
  refine lv_iconst (v := 2) hx hb dL_law_931 (by decide) ?_
  refine lv_iadd hx hb dL_law_932 ?_
  refine va_sld hx hb hX hbl hbA hS (sc_in (j := 2) (by decide) (by decide) hi hL) dL_law_933 ?_
  rw [← ea_2]
  obtain ⟨fs_6, hd_6⟩ := ism_hd (ys := wx_3) hIM
  have hFc_6 := fr_l hD hS hA
  refine va_calli (va_runV (As := [.int a_1, .int a_2]) (rest := []) ⟨hx, hb, hml, hown, hts⟩ (w_X8_byTurns l dC dI cI cZ cL cJ H.size mo _ _ _ _ _ _ _ _ _ _ _ _ wm a_1 a_2 hIM) (cwV 2 hts gL_law_X8_byTurns rfl rfl rfl (by decide +kernel) ⟨Nat.le_of_ble_eq_true rfl, Nat.le_of_ble_eq_true rfl⟩) (pvL 8 hK hP hD hst hS hFc_6 rfl hd_6) rfl rfl hl.1 rfl (lv_room (Nat.le_of_ble_eq_true rfl)) dL_law_934 ⟨Nat.le_of_ble_eq_true rfl, Nat.le_of_ble_eq_true rfl⟩) hS (fun q _ h => hFc_6 q h) hFc_6 (fun r_6 u_6 t_6 H1 locs ht hvm h_6 hB hz1 hk1 hS => ?_)
  obtain ⟨wm_6, hIM, hP1, hD1⟩ := hB
  rw [ht] at hP1
  obtain ⟨hP, hD⟩ := jn2 hP hD hk1 hFc_6 hP1 hD1
  generalize H1 = H at hP hS ⊢
  refine W.widen (k := 277) (n := 3929) (Nat.le_of_ble_eq_true rfl) (Nat.le_of_ble_eq_true rfl) ?_
  refine lv_pop hx hb dL_law_937 rfl ?_
  refine lv_goto (tgt := 1357) hx hb dL_law_938 (by decide) ?_
  exact lw_tail hC0 hi ⟨⟨_, _, _, _, _, _, _, _, _, _, _, _, hs, hIX, hIM⟩, hP, hD, hS, hl⟩ ih

set_option maxHeartbeats 4000000 in
set_option maxRecDepth 100000 in
theorem lw_c25 {p : Program} {l : Launch} {e : Env} {s : State} {m : MethodId} {below : List Frame} {meth : Method} {c : Code} {b L : Nat} {xs : Nat → Int32} {dC : Nat → ClassId} {dI : Nat → Nat → Nat} {cI cZ cL cJ : ClassId} {A : Nat → Prop} {H : Heap} {locs : List Loc} {ls : Array Slot} {x mo i : Nat} {wx wm : va_W} (hC : LCx p s m meth c b L xs dC dI cI cZ cL cJ A) (hi : 6 * i + 6 ≤ L) (hv : LIv dC dI cI cZ cL cJ A s b x mo i (wx, wm) H locs ls) (ih : ∀ (st2 : va_W × va_W) (H2 : Heap) (locs2 : List Loc) (ls2 : Array Slot), LIv dC dI cI cZ cL cJ A s b x mo (i + 1) st2 H2 locs2 ls2 → W p l e room_1 s m #[Value.ref b] below meth c H2 locs2 277 3929 (lw_Z below #[Value.ref b] s) (F0 m 18 ls2 [])) : W p l e room_1 s m #[Value.ref b] below meth c H locs 277 3929 (lw_Z below #[Value.ref b] s) (F0 m 941 ls []) := by
  have hC0 := hC
  obtain ⟨hx, hb, hr, hml, hown, hts, hX, hbl, hlocks, hAd, hA, hbA, hK, hst, hL⟩ := hC
  obtain ⟨⟨Rl, Rn, zt, Tb, lf, Lv, An, Ac, I0, I1, Tz, Tc, hs, hIX, hIM⟩, hP, hD, hS, hl⟩ := hv
  refine lv_aload_n hx hb dL_law_941 rfl (lv_at hl 2 rfl) ?_
  refine lv_aload_n hx hb dL_law_942 rfl (lv_at hl 3 rfl) ?_
  refine lv_iload_n hx hb dL_law_943 rfl (lv_at hl 0 rfl) ?_
  refine lv_iconst (v := 1) hx hb dL_law_944 (by decide) ?_
  refine lv_iadd hx hb dL_law_945 ?_
  refine va_sld hx hb hX hbl hbA hS (sc_in (j := 1) (by decide) (by decide) hi hL) dL_law_946 ?_
  refine lv_topi (fun a_1 ea_1 => ?_)
  refine lv_aload_n hx hb dL_law_947 rfl (lv_at hl 3 rfl) ?_
  refine lv_iload_n hx hb dL_law_948 rfl (lv_at hl 0 rfl) ?_
  refine lv_iconst (v := 2) hx hb dL_law_949 (by decide) ?_
  refine lv_iadd hx hb dL_law_950 ?_
  refine va_sld hx hb hX hbl hbA hS (sc_in (j := 2) (by decide) (by decide) hi hL) dL_law_951 ?_
  refine lv_topi (fun a_2 ea_2 => ?_)
  refine lv_aload_n hx hb dL_law_952 rfl (lv_at hl 3 rfl) ?_
  refine lv_iload_n hx hb dL_law_953 rfl (lv_at hl 0 rfl) ?_
  refine lv_iconst (v := 3) hx hb dL_law_954 (by decide) ?_
  refine lv_iadd hx hb dL_law_955 ?_
  refine va_sld hx hb hX hbl hbA hS (sc_in (j := 3) (by decide) (by decide) hi hL) dL_law_956 ?_
  refine lv_topi (fun a_3 ea_3 => ?_)
  refine lv_aload_n hx hb dL_law_957 rfl (lv_at hl 3 rfl) ?_
  refine lv_iload_n hx hb dL_law_958 rfl (lv_at hl 0 rfl) ?_
  refine lv_iconst (v := 4) hx hb dL_law_959 (by decide) ?_
  refine lv_iadd hx hb dL_law_960 ?_
  refine va_sld hx hb hX hbl hbA hS (sc_in (j := 4) (by decide) (by decide) hi hL) dL_law_961 ?_
  refine lv_topi (fun a_4 ea_4 => ?_)
  refine lv_aload_n hx hb dL_law_962 rfl (lv_at hl 3 rfl) ?_
  refine lv_iload_n hx hb dL_law_963 rfl (lv_at hl 0 rfl) ?_
  refine lv_iconst (v := 5) hx hb dL_law_964 (by decide) ?_
  refine lv_iadd hx hb dL_law_965 ?_
  refine va_sld hx hb hX hbl hbA hS (sc_in (j := 5) (by decide) (by decide) hi hL) dL_law_966 ?_
  refine lv_topi (fun a_5 ea_5 => ?_)
  obtain ⟨fs_6, hd_6⟩ := isx_hd (ys := wm) hIX
  have hFc_6 := fr_l hD hS hA
  refine va_calli (va_runV (As := [.int a_1, .int a_2, .int a_3, .int a_4, .int a_5]) (rest := []) ⟨hx, hb, hml, hown, hts⟩ (w_X7_who l dC dI cI cZ cL cJ H.size x _ _ _ _ _ _ _ _ _ _ _ _ wx a_1 a_2 a_3 a_4 a_5 hs hIX) (cwV 5 hts gL_law_X7_who rfl rfl rfl (by decide +kernel) ⟨Nat.le_of_ble_eq_true rfl, Nat.le_of_ble_eq_true rfl⟩) (pvL 7 hK hP hD hst hS hFc_6 rfl hd_6) rfl rfl hl.1 rfl (lv_room (Nat.le_of_ble_eq_true rfl)) dL_law_967 ⟨Nat.le_of_ble_eq_true rfl, Nat.le_of_ble_eq_true rfl⟩) hS (fun q _ h => hFc_6 q h) hFc_6 (fun r_6 u_6 t_6 H1 locs ht hvm h_6 hB hz1 hk1 hS => ?_)
  obtain ⟨wx_6, hIX, hP1, hD1⟩ := hB
  rw [ht] at hP1
  obtain ⟨hP, hD⟩ := jn2 hP hD hk1 hFc_6 hP1 hD1
  generalize H1 = H at hP hS ⊢
  refine W.widen (k := 277) (n := 3929) (Nat.le_of_ble_eq_true rfl) (Nat.le_of_ble_eq_true rfl) ?_
  refine lv_pop hx hb dL_law_970 rfl ?_
  refine lv_aload_n hx hb dL_law_971 rfl (lv_at hl 1 rfl) ?_
  refine lv_aload_n hx hb dL_law_972 rfl (lv_at hl 3 rfl) ?_
  refine lv_iload_n hx hb dL_law_973 rfl (lv_at hl 0 rfl) ?_
  refine lv_iconst (v := 1) hx hb dL_law_974 (by decide) ?_
  refine lv_iadd hx hb dL_law_975 ?_
  refine va_sld hx hb hX hbl hbA hS (sc_in (j := 1) (by decide) (by decide) hi hL) dL_law_976 ?_
  rw [← ea_1]
  refine lv_aload_n hx hb dL_law_977 rfl (lv_at hl 3 rfl) ?_
  refine lv_iload_n hx hb dL_law_978 rfl (lv_at hl 0 rfl) ?_
  refine lv_iconst (v := 2) hx hb dL_law_979 (by decide) ?_
  refine lv_iadd hx hb dL_law_980 ?_
  refine va_sld hx hb hX hbl hbA hS (sc_in (j := 2) (by decide) (by decide) hi hL) dL_law_981 ?_
  rw [← ea_2]
  refine lv_aload_n hx hb dL_law_982 rfl (lv_at hl 3 rfl) ?_
  refine lv_iload_n hx hb dL_law_983 rfl (lv_at hl 0 rfl) ?_
  refine lv_iconst (v := 3) hx hb dL_law_984 (by decide) ?_
  refine lv_iadd hx hb dL_law_985 ?_
  refine va_sld hx hb hX hbl hbA hS (sc_in (j := 3) (by decide) (by decide) hi hL) dL_law_986 ?_
  rw [← ea_3]
  refine lv_aload_n hx hb dL_law_987 rfl (lv_at hl 3 rfl) ?_
  refine lv_iload_n hx hb dL_law_988 rfl (lv_at hl 0 rfl) ?_
  refine lv_iconst (v := 4) hx hb dL_law_989 (by decide) ?_
  refine lv_iadd hx hb dL_law_990 ?_
  refine va_sld hx hb hX hbl hbA hS (sc_in (j := 4) (by decide) (by decide) hi hL) dL_law_991 ?_
  rw [← ea_4]
  refine lv_aload_n hx hb dL_law_992 rfl (lv_at hl 3 rfl) ?_
  refine lv_iload_n hx hb dL_law_993 rfl (lv_at hl 0 rfl) ?_
  refine lv_iconst (v := 5) hx hb dL_law_994 (by decide) ?_
  refine lv_iadd hx hb dL_law_995 ?_
  refine va_sld hx hb hX hbl hbA hS (sc_in (j := 5) (by decide) (by decide) hi hL) dL_law_996 ?_
  rw [← ea_5]
  obtain ⟨fs_12, hd_12⟩ := ism_hd (ys := wx_6) hIM
  have hFc_12 := fr_l hD hS hA
  refine va_calli (va_runV (As := [.int a_1, .int a_2, .int a_3, .int a_4, .int a_5]) (rest := []) ⟨hx, hb, hml, hown, hts⟩ (w_X8_who l dC dI cI cZ cL cJ H.size mo _ _ _ _ _ _ _ _ _ _ _ _ wm a_1 a_2 a_3 a_4 a_5 hIM) (cwV 5 hts gL_law_X8_who rfl rfl rfl (by decide +kernel) ⟨Nat.le_of_ble_eq_true rfl, Nat.le_of_ble_eq_true rfl⟩) (pvL 8 hK hP hD hst hS hFc_12 rfl hd_12) rfl rfl hl.1 rfl (lv_room (Nat.le_of_ble_eq_true rfl)) dL_law_997 ⟨Nat.le_of_ble_eq_true rfl, Nat.le_of_ble_eq_true rfl⟩) hS (fun q _ h => hFc_12 q h) hFc_12 (fun r_12 u_12 t_12 H1 locs ht hvm h_12 hB hz1 hk1 hS => ?_)
  obtain ⟨wm_12, hIM, hP1, hD1⟩ := hB
  rw [ht] at hP1
  obtain ⟨hP, hD⟩ := jn2 hP hD hk1 hFc_12 hP1 hD1
  generalize H1 = H at hP hS ⊢
  refine W.widen (k := 277) (n := 3929) (Nat.le_of_ble_eq_true rfl) (Nat.le_of_ble_eq_true rfl) ?_
  refine lv_pop hx hb dL_law_1000 rfl ?_
  refine lv_goto (tgt := 1357) hx hb dL_law_1001 (by decide) ?_
  exact lw_tail hC0 hi ⟨⟨_, _, _, _, _, _, _, _, _, _, _, _, hs, hIX, hIM⟩, hP, hD, hS, hl⟩ ih

