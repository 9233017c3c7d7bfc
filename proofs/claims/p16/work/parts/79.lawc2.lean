set_option maxHeartbeats 4000000 in
set_option maxRecDepth 100000 in
theorem lw_c26 {p : Program} {l : Launch} {e : Env} {s : State} {m : MethodId} {below : List Frame} {meth : Method} {c : Code} {b L : Nat} {xs : Nat → Int32} {dC : Nat → ClassId} {dI : Nat → Nat → Nat} {cI cZ cL cJ : ClassId} {A : Nat → Prop} {H : Heap} {locs : List Loc} {ls : Array Slot} {x mo i : Nat} {wx wm : va_W} (hC : LCx p s m meth c b L xs dC dI cI cZ cL cJ A) (hi : 6 * i + 6 ≤ L) (hv : LIv dC dI cI cZ cL cJ A s b x mo i (wx, wm) H locs ls) (ih : ∀ (st2 : va_W × va_W) (H2 : Heap) (locs2 : List Loc) (ls2 : Array Slot), LIv dC dI cI cZ cL cJ A s b x mo (i + 1) st2 H2 locs2 ls2 → W p l e room_1 s m #[Value.ref b] below meth c H2 locs2 277 3929 (lw_Z below #[Value.ref b] s) (F0 m 18 ls2 [])) : W p l e room_1 s m #[Value.ref b] below meth c H locs 277 3929 (lw_Z below #[Value.ref b] s) (F0 m 1004 ls []) := by
  have hC0 := hC
  obtain ⟨hx, hb, hr, hml, hown, hts, hX, hbl, hlocks, hAd, hA, hbA, hK, hst, hL⟩ := hC
  obtain ⟨⟨Rl, Rn, zt, Tb, lf, Lv, An, Ac, I0, I1, Tz, Tc, hs, hIX, hIM⟩, hP, hD, hS, hl⟩ := hv
  refine lv_aload_n hx hb dL_law_1004 rfl (lv_at hl 2 rfl) ?_
  refine lv_aload_n hx hb dL_law_1005 rfl (lv_at hl 3 rfl) ?_
  refine lv_iload_n hx hb dL_law_1006 rfl (lv_at hl 0 rfl) ?_
  refine lv_iconst (v := 1) hx hb dL_law_1007 (by decide) ?_
  refine lv_iadd hx hb dL_law_1008 ?_
  refine va_sld hx hb hX hbl hbA hS (sc_in (j := 1) (by decide) (by decide) hi hL) dL_law_1009 ?_
  refine lv_topi (fun a_1 ea_1 => ?_)
  refine lv_aload_n hx hb dL_law_1010 rfl (lv_at hl 3 rfl) ?_
  refine lv_iload_n hx hb dL_law_1011 rfl (lv_at hl 0 rfl) ?_
  refine lv_iconst (v := 2) hx hb dL_law_1012 (by decide) ?_
  refine lv_iadd hx hb dL_law_1013 ?_
  refine va_sld hx hb hX hbl hbA hS (sc_in (j := 2) (by decide) (by decide) hi hL) dL_law_1014 ?_
  refine lv_topi (fun a_2 ea_2 => ?_)
  refine lv_aload_n hx hb dL_law_1015 rfl (lv_at hl 3 rfl) ?_
  refine lv_iload_n hx hb dL_law_1016 rfl (lv_at hl 0 rfl) ?_
  refine lv_iconst (v := 3) hx hb dL_law_1017 (by decide) ?_
  refine lv_iadd hx hb dL_law_1018 ?_
  refine va_sld hx hb hX hbl hbA hS (sc_in (j := 3) (by decide) (by decide) hi hL) dL_law_1019 ?_
  refine lv_topi (fun a_3 ea_3 => ?_)
  refine lv_aload_n hx hb dL_law_1020 rfl (lv_at hl 3 rfl) ?_
  refine lv_iload_n hx hb dL_law_1021 rfl (lv_at hl 0 rfl) ?_
  refine lv_iconst (v := 4) hx hb dL_law_1022 (by decide) ?_
  refine lv_iadd hx hb dL_law_1023 ?_
  refine va_sld hx hb hX hbl hbA hS (sc_in (j := 4) (by decide) (by decide) hi hL) dL_law_1024 ?_
  refine lv_topi (fun a_4 ea_4 => ?_)
  refine lv_aload_n hx hb dL_law_1025 rfl (lv_at hl 3 rfl) ?_
  refine lv_iload_n hx hb dL_law_1026 rfl (lv_at hl 0 rfl) ?_
  refine lv_iconst (v := 5) hx hb dL_law_1027 (by decide) ?_
  refine lv_iadd hx hb dL_law_1028 ?_
  refine va_sld hx hb hX hbl hbA hS (sc_in (j := 5) (by decide) (by decide) hi hL) dL_law_1029 ?_
  refine lv_topi (fun a_5 ea_5 => ?_)
  obtain ⟨fs_6, hd_6⟩ := isx_hd (ys := wm) hIX
  have hFc_6 := fr_l hD hS hA
  refine va_calli (va_runV (As := [.int a_1, .int a_2, .int a_3, .int a_4, .int a_5]) (rest := []) ⟨hx, hb, hml, hown, hts⟩ (w_X7_gusts l dC dI cI cZ cL cJ H.size x _ _ _ _ _ _ _ _ _ _ _ _ wx a_1 a_2 a_3 a_4 a_5 hs hIX) (cwV 5 hts gL_law_X7_gusts rfl rfl rfl (by decide +kernel) ⟨Nat.le_of_ble_eq_true rfl, Nat.le_of_ble_eq_true rfl⟩) (pvL 7 hK hP hD hst hS hFc_6 rfl hd_6) rfl rfl hl.1 rfl (lv_room (Nat.le_of_ble_eq_true rfl)) dL_law_1030 ⟨Nat.le_of_ble_eq_true rfl, Nat.le_of_ble_eq_true rfl⟩) hS (fun q _ h => hFc_6 q h) hFc_6 (fun r_6 u_6 t_6 H1 locs ht hvm h_6 hB hz1 hk1 hS => ?_)
  obtain ⟨wx_6, hIX, hP1, hD1⟩ := hB
  rw [ht] at hP1
  obtain ⟨hP, hD⟩ := jn2 hP hD hk1 hFc_6 hP1 hD1
  generalize H1 = H at hP hS ⊢
  refine W.widen (k := 277) (n := 3929) (Nat.le_of_ble_eq_true rfl) (Nat.le_of_ble_eq_true rfl) ?_
  refine lv_pop hx hb dL_law_1033 rfl ?_
  refine lv_aload_n hx hb dL_law_1034 rfl (lv_at hl 1 rfl) ?_
  refine lv_aload_n hx hb dL_law_1035 rfl (lv_at hl 3 rfl) ?_
  refine lv_iload_n hx hb dL_law_1036 rfl (lv_at hl 0 rfl) ?_
  refine lv_iconst (v := 1) hx hb dL_law_1037 (by decide) ?_
  refine lv_iadd hx hb dL_law_1038 ?_
  refine va_sld hx hb hX hbl hbA hS (sc_in (j := 1) (by decide) (by decide) hi hL) dL_law_1039 ?_
  rw [← ea_1]
  refine lv_aload_n hx hb dL_law_1040 rfl (lv_at hl 3 rfl) ?_
  refine lv_iload_n hx hb dL_law_1041 rfl (lv_at hl 0 rfl) ?_
  refine lv_iconst (v := 2) hx hb dL_law_1042 (by decide) ?_
  refine lv_iadd hx hb dL_law_1043 ?_
  refine va_sld hx hb hX hbl hbA hS (sc_in (j := 2) (by decide) (by decide) hi hL) dL_law_1044 ?_
  rw [← ea_2]
  refine lv_aload_n hx hb dL_law_1045 rfl (lv_at hl 3 rfl) ?_
  refine lv_iload_n hx hb dL_law_1046 rfl (lv_at hl 0 rfl) ?_
  refine lv_iconst (v := 3) hx hb dL_law_1047 (by decide) ?_
  refine lv_iadd hx hb dL_law_1048 ?_
  refine va_sld hx hb hX hbl hbA hS (sc_in (j := 3) (by decide) (by decide) hi hL) dL_law_1049 ?_
  rw [← ea_3]
  refine lv_aload_n hx hb dL_law_1050 rfl (lv_at hl 3 rfl) ?_
  refine lv_iload_n hx hb dL_law_1051 rfl (lv_at hl 0 rfl) ?_
  refine lv_iconst (v := 4) hx hb dL_law_1052 (by decide) ?_
  refine lv_iadd hx hb dL_law_1053 ?_
  refine va_sld hx hb hX hbl hbA hS (sc_in (j := 4) (by decide) (by decide) hi hL) dL_law_1054 ?_
  rw [← ea_4]
  refine lv_aload_n hx hb dL_law_1055 rfl (lv_at hl 3 rfl) ?_
  refine lv_iload_n hx hb dL_law_1056 rfl (lv_at hl 0 rfl) ?_
  refine lv_iconst (v := 5) hx hb dL_law_1057 (by decide) ?_
  refine lv_iadd hx hb dL_law_1058 ?_
  refine va_sld hx hb hX hbl hbA hS (sc_in (j := 5) (by decide) (by decide) hi hL) dL_law_1059 ?_
  rw [← ea_5]
  obtain ⟨fs_12, hd_12⟩ := ism_hd (ys := wx_6) hIM
  have hFc_12 := fr_l hD hS hA
  refine va_calli (va_runV (As := [.int a_1, .int a_2, .int a_3, .int a_4, .int a_5]) (rest := []) ⟨hx, hb, hml, hown, hts⟩ (w_X8_gusts l dC dI cI cZ cL cJ H.size mo _ _ _ _ _ _ _ _ _ _ _ _ wm a_1 a_2 a_3 a_4 a_5 hIM) (cwV 5 hts gL_law_X8_gusts rfl rfl rfl (by decide +kernel) ⟨Nat.le_of_ble_eq_true rfl, Nat.le_of_ble_eq_true rfl⟩) (pvL 8 hK hP hD hst hS hFc_12 rfl hd_12) rfl rfl hl.1 rfl (lv_room (Nat.le_of_ble_eq_true rfl)) dL_law_1060 ⟨Nat.le_of_ble_eq_true rfl, Nat.le_of_ble_eq_true rfl⟩) hS (fun q _ h => hFc_12 q h) hFc_12 (fun r_12 u_12 t_12 H1 locs ht hvm h_12 hB hz1 hk1 hS => ?_)
  obtain ⟨wm_12, hIM, hP1, hD1⟩ := hB
  rw [ht] at hP1
  obtain ⟨hP, hD⟩ := jn2 hP hD hk1 hFc_12 hP1 hD1
  generalize H1 = H at hP hS ⊢
  refine W.widen (k := 277) (n := 3929) (Nat.le_of_ble_eq_true rfl) (Nat.le_of_ble_eq_true rfl) ?_
  refine lv_pop hx hb dL_law_1063 rfl ?_
  refine lv_goto (tgt := 1357) hx hb dL_law_1064 (by decide) ?_
  exact lw_tail hC0 hi ⟨⟨_, _, _, _, _, _, _, _, _, _, _, _, hs, hIX, hIM⟩, hP, hD, hS, hl⟩ ih

set_option maxHeartbeats 4000000 in
set_option maxRecDepth 100000 in
theorem lw_c27 {p : Program} {l : Launch} {e : Env} {s : State} {m : MethodId} {below : List Frame} {meth : Method} {c : Code} {b L : Nat} {xs : Nat → Int32} {dC : Nat → ClassId} {dI : Nat → Nat → Nat} {cI cZ cL cJ : ClassId} {A : Nat → Prop} {H : Heap} {locs : List Loc} {ls : Array Slot} {x mo i : Nat} {wx wm : va_W} (hC : LCx p s m meth c b L xs dC dI cI cZ cL cJ A) (hi : 6 * i + 6 ≤ L) (hv : LIv dC dI cI cZ cL cJ A s b x mo i (wx, wm) H locs ls) (ih : ∀ (st2 : va_W × va_W) (H2 : Heap) (locs2 : List Loc) (ls2 : Array Slot), LIv dC dI cI cZ cL cJ A s b x mo (i + 1) st2 H2 locs2 ls2 → W p l e room_1 s m #[Value.ref b] below meth c H2 locs2 277 3929 (lw_Z below #[Value.ref b] s) (F0 m 18 ls2 [])) : W p l e room_1 s m #[Value.ref b] below meth c H locs 277 3929 (lw_Z below #[Value.ref b] s) (F0 m 1067 ls []) := by
  have hC0 := hC
  obtain ⟨hx, hb, hr, hml, hown, hts, hX, hbl, hlocks, hAd, hA, hbA, hK, hst, hL⟩ := hC
  obtain ⟨⟨Rl, Rn, zt, Tb, lf, Lv, An, Ac, I0, I1, Tz, Tc, hs, hIX, hIM⟩, hP, hD, hS, hl⟩ := hv
  refine lv_aload_n hx hb dL_law_1067 rfl (lv_at hl 2 rfl) ?_
  refine lv_aload_n hx hb dL_law_1068 rfl (lv_at hl 3 rfl) ?_
  refine lv_iload_n hx hb dL_law_1069 rfl (lv_at hl 0 rfl) ?_
  refine lv_iconst (v := 1) hx hb dL_law_1070 (by decide) ?_
  refine lv_iadd hx hb dL_law_1071 ?_
  refine va_sld hx hb hX hbl hbA hS (sc_in (j := 1) (by decide) (by decide) hi hL) dL_law_1072 ?_
  refine lv_topi (fun a_1 ea_1 => ?_)
  refine lv_aload_n hx hb dL_law_1073 rfl (lv_at hl 3 rfl) ?_
  refine lv_iload_n hx hb dL_law_1074 rfl (lv_at hl 0 rfl) ?_
  refine lv_iconst (v := 2) hx hb dL_law_1075 (by decide) ?_
  refine lv_iadd hx hb dL_law_1076 ?_
  refine va_sld hx hb hX hbl hbA hS (sc_in (j := 2) (by decide) (by decide) hi hL) dL_law_1077 ?_
  refine lv_topi (fun a_2 ea_2 => ?_)
  refine lv_aload_n hx hb dL_law_1078 rfl (lv_at hl 3 rfl) ?_
  refine lv_iload_n hx hb dL_law_1079 rfl (lv_at hl 0 rfl) ?_
  refine lv_iconst (v := 3) hx hb dL_law_1080 (by decide) ?_
  refine lv_iadd hx hb dL_law_1081 ?_
  refine va_sld hx hb hX hbl hbA hS (sc_in (j := 3) (by decide) (by decide) hi hL) dL_law_1082 ?_
  refine lv_topi (fun a_3 ea_3 => ?_)
  refine lv_aload_n hx hb dL_law_1083 rfl (lv_at hl 3 rfl) ?_
  refine lv_iload_n hx hb dL_law_1084 rfl (lv_at hl 0 rfl) ?_
  refine lv_iconst (v := 4) hx hb dL_law_1085 (by decide) ?_
  refine lv_iadd hx hb dL_law_1086 ?_
  refine va_sld hx hb hX hbl hbA hS (sc_in (j := 4) (by decide) (by decide) hi hL) dL_law_1087 ?_
  refine lv_topi (fun a_4 ea_4 => ?_)
  obtain ⟨fs_5, hd_5⟩ := isx_hd (ys := wm) hIX
  have hFc_5 := fr_l hD hS hA
  refine va_calll (va_runV (As := [.int a_1, .int a_2, .int a_3, .int a_4]) (rest := []) ⟨hx, hb, hml, hown, hts⟩ (w_X7_calm l dC dI cI cZ cL cJ H.size x _ _ _ _ _ _ _ _ _ _ _ _ wx a_1 a_2 a_3 a_4 hs hIX) (cwV 4 hts gL_law_X7_calm rfl rfl rfl (by decide +kernel) ⟨Nat.le_of_ble_eq_true rfl, Nat.le_of_ble_eq_true rfl⟩) (pvL 7 hK hP hD hst hS hFc_5 rfl hd_5) rfl rfl hl.1 rfl (lv_room (Nat.le_of_ble_eq_true rfl)) dL_law_1088 ⟨Nat.le_of_ble_eq_true rfl, Nat.le_of_ble_eq_true rfl⟩) hS (fun q _ h => hFc_5 q h) hFc_5 (fun r_5 u_5 t_5 H1 locs ht hvm h_5 hB hz1 hk1 hS => ?_)
  obtain ⟨wx_5, hIX, hP1, hD1⟩ := hB
  rw [ht] at hP1
  obtain ⟨hP, hD⟩ := jn2 hP hD hk1 hFc_5 hP1 hD1
  generalize H1 = H at hP hS ⊢
  refine W.widen (k := 277) (n := 3929) (Nat.le_of_ble_eq_true rfl) (Nat.le_of_ble_eq_true rfl) ?_
  refine lv_pop2_2 hx hb dL_law_1091 rfl ?_
  refine lv_aload_n hx hb dL_law_1092 rfl (lv_at hl 1 rfl) ?_
  refine lv_aload_n hx hb dL_law_1093 rfl (lv_at hl 3 rfl) ?_
  refine lv_iload_n hx hb dL_law_1094 rfl (lv_at hl 0 rfl) ?_
  refine lv_iconst (v := 1) hx hb dL_law_1095 (by decide) ?_
  refine lv_iadd hx hb dL_law_1096 ?_
  refine va_sld hx hb hX hbl hbA hS (sc_in (j := 1) (by decide) (by decide) hi hL) dL_law_1097 ?_
  rw [← ea_1]
  refine lv_aload_n hx hb dL_law_1098 rfl (lv_at hl 3 rfl) ?_
  refine lv_iload_n hx hb dL_law_1099 rfl (lv_at hl 0 rfl) ?_
  refine lv_iconst (v := 2) hx hb dL_law_1100 (by decide) ?_
  refine lv_iadd hx hb dL_law_1101 ?_
  refine va_sld hx hb hX hbl hbA hS (sc_in (j := 2) (by decide) (by decide) hi hL) dL_law_1102 ?_
  rw [← ea_2]
  refine lv_aload_n hx hb dL_law_1103 rfl (lv_at hl 3 rfl) ?_
  refine lv_iload_n hx hb dL_law_1104 rfl (lv_at hl 0 rfl) ?_
  refine lv_iconst (v := 3) hx hb dL_law_1105 (by decide) ?_
  refine lv_iadd hx hb dL_law_1106 ?_
  refine va_sld hx hb hX hbl hbA hS (sc_in (j := 3) (by decide) (by decide) hi hL) dL_law_1107 ?_
  rw [← ea_3]
  refine lv_aload_n hx hb dL_law_1108 rfl (lv_at hl 3 rfl) ?_
  refine lv_iload_n hx hb dL_law_1109 rfl (lv_at hl 0 rfl) ?_
  refine lv_iconst (v := 4) hx hb dL_law_1110 (by decide) ?_
  refine lv_iadd hx hb dL_law_1111 ?_
  refine va_sld hx hb hX hbl hbA hS (sc_in (j := 4) (by decide) (by decide) hi hL) dL_law_1112 ?_
  rw [← ea_4]
  obtain ⟨fs_10, hd_10⟩ := ism_hd (ys := wx_5) hIM
  have hFc_10 := fr_l hD hS hA
  refine va_calll (va_runV (As := [.int a_1, .int a_2, .int a_3, .int a_4]) (rest := []) ⟨hx, hb, hml, hown, hts⟩ (w_X8_calm l dC dI cI cZ cL cJ H.size mo _ _ _ _ _ _ _ _ _ _ _ _ wm a_1 a_2 a_3 a_4 hIM) (cwV 4 hts gL_law_X8_calm rfl rfl rfl (by decide +kernel) ⟨Nat.le_of_ble_eq_true rfl, Nat.le_of_ble_eq_true rfl⟩) (pvL 8 hK hP hD hst hS hFc_10 rfl hd_10) rfl rfl hl.1 rfl (lv_room (Nat.le_of_ble_eq_true rfl)) dL_law_1113 ⟨Nat.le_of_ble_eq_true rfl, Nat.le_of_ble_eq_true rfl⟩) hS (fun q _ h => hFc_10 q h) hFc_10 (fun r_10 u_10 t_10 H1 locs ht hvm h_10 hB hz1 hk1 hS => ?_)
  obtain ⟨wm_10, hIM, hP1, hD1⟩ := hB
  rw [ht] at hP1
  obtain ⟨hP, hD⟩ := jn2 hP hD hk1 hFc_10 hP1 hD1
  generalize H1 = H at hP hS ⊢
  refine W.widen (k := 277) (n := 3929) (Nat.le_of_ble_eq_true rfl) (Nat.le_of_ble_eq_true rfl) ?_
  refine lv_pop2_2 hx hb dL_law_1116 rfl ?_
  refine lv_goto (tgt := 1357) hx hb dL_law_1117 (by decide) ?_
  exact lw_tail hC0 hi ⟨⟨_, _, _, _, _, _, _, _, _, _, _, _, hs, hIX, hIM⟩, hP, hD, hS, hl⟩ ih

set_option maxHeartbeats 4000000 in
set_option maxRecDepth 100000 in
theorem lw_c28 {p : Program} {l : Launch} {e : Env} {s : State} {m : MethodId} {below : List Frame} {meth : Method} {c : Code} {b L : Nat} {xs : Nat → Int32} {dC : Nat → ClassId} {dI : Nat → Nat → Nat} {cI cZ cL cJ : ClassId} {A : Nat → Prop} {H : Heap} {locs : List Loc} {ls : Array Slot} {x mo i : Nat} {wx wm : va_W} (hC : LCx p s m meth c b L xs dC dI cI cZ cL cJ A) (hi : 6 * i + 6 ≤ L) (hv : LIv dC dI cI cZ cL cJ A s b x mo i (wx, wm) H locs ls) (ih : ∀ (st2 : va_W × va_W) (H2 : Heap) (locs2 : List Loc) (ls2 : Array Slot), LIv dC dI cI cZ cL cJ A s b x mo (i + 1) st2 H2 locs2 ls2 → W p l e room_1 s m #[Value.ref b] below meth c H2 locs2 277 3929 (lw_Z below #[Value.ref b] s) (F0 m 18 ls2 [])) : W p l e room_1 s m #[Value.ref b] below meth c H locs 277 3929 (lw_Z below #[Value.ref b] s) (F0 m 1120 ls []) := by
  have hC0 := hC
  obtain ⟨hx, hb, hr, hml, hown, hts, hX, hbl, hlocks, hAd, hA, hbA, hK, hst, hL⟩ := hC
  obtain ⟨⟨Rl, Rn, zt, Tb, lf, Lv, An, Ac, I0, I1, Tz, Tc, hs, hIX, hIM⟩, hP, hD, hS, hl⟩ := hv
  refine lv_aload_n hx hb dL_law_1120 rfl (lv_at hl 2 rfl) ?_
  refine lv_aload_n hx hb dL_law_1121 rfl (lv_at hl 3 rfl) ?_
  refine lv_iload_n hx hb dL_law_1122 rfl (lv_at hl 0 rfl) ?_
  refine lv_iconst (v := 1) hx hb dL_law_1123 (by decide) ?_
  refine lv_iadd hx hb dL_law_1124 ?_
  refine va_sld hx hb hX hbl hbA hS (sc_in (j := 1) (by decide) (by decide) hi hL) dL_law_1125 ?_
  refine lv_topi (fun a_1 ea_1 => ?_)
  refine lv_aload_n hx hb dL_law_1126 rfl (lv_at hl 3 rfl) ?_
  refine lv_iload_n hx hb dL_law_1127 rfl (lv_at hl 0 rfl) ?_
  refine lv_iconst (v := 2) hx hb dL_law_1128 (by decide) ?_
  refine lv_iadd hx hb dL_law_1129 ?_
  refine va_sld hx hb hX hbl hbA hS (sc_in (j := 2) (by decide) (by decide) hi hL) dL_law_1130 ?_
  refine lv_topi (fun a_2 ea_2 => ?_)
  refine lv_aload_n hx hb dL_law_1131 rfl (lv_at hl 3 rfl) ?_
  refine lv_iload_n hx hb dL_law_1132 rfl (lv_at hl 0 rfl) ?_
  refine lv_iconst (v := 3) hx hb dL_law_1133 (by decide) ?_
  refine lv_iadd hx hb dL_law_1134 ?_
  refine va_sld hx hb hX hbl hbA hS (sc_in (j := 3) (by decide) (by decide) hi hL) dL_law_1135 ?_
  refine lv_topi (fun a_3 ea_3 => ?_)
  obtain ⟨fs_4, hd_4⟩ := isx_hd (ys := wm) hIX
  have hFc_4 := fr_l hD hS hA
  refine va_calli (va_runV (As := [.int a_1, .int a_2, .int a_3]) (rest := []) ⟨hx, hb, hml, hown, hts⟩ (w_X7_drawn l dC dI cI cZ cL cJ H.size x _ _ _ _ _ _ _ _ _ _ _ _ wx a_1 a_2 a_3 hs hIX) (cwV 3 hts gL_law_X7_drawn rfl rfl rfl (by decide +kernel) ⟨Nat.le_of_ble_eq_true rfl, Nat.le_of_ble_eq_true rfl⟩) (pvL 7 hK hP hD hst hS hFc_4 rfl hd_4) rfl rfl hl.1 rfl (lv_room (Nat.le_of_ble_eq_true rfl)) dL_law_1136 ⟨Nat.le_of_ble_eq_true rfl, Nat.le_of_ble_eq_true rfl⟩) hS (fun q _ h => hFc_4 q h) hFc_4 (fun r_4 u_4 t_4 H1 locs ht hvm h_4 hB hz1 hk1 hS => ?_)
  obtain ⟨wx_4, hIX, hP1, hD1⟩ := hB
  rw [ht] at hP1
  obtain ⟨hP, hD⟩ := jn2 hP hD hk1 hFc_4 hP1 hD1
  generalize H1 = H at hP hS ⊢
  refine W.widen (k := 277) (n := 3929) (Nat.le_of_ble_eq_true rfl) (Nat.le_of_ble_eq_true rfl) ?_
  refine lv_pop hx hb dL_law_1139 rfl ?_
  refine lv_aload_n hx hb dL_law_1140 rfl (lv_at hl 1 rfl) ?_
  refine lv_aload_n hx hb dL_law_1141 rfl (lv_at hl 3 rfl) ?_
  refine lv_iload_n hx hb dL_law_1142 rfl (lv_at hl 0 rfl) ?_
  refine lv_iconst (v := 1) hx hb dL_law_1143 (by decide) ?_
  refine lv_iadd hx hb dL_law_1144 ?_
  refine va_sld hx hb hX hbl hbA hS (sc_in (j := 1) (by decide) (by decide) hi hL) dL_law_1145 ?_
  rw [← ea_1]
  refine lv_aload_n hx hb dL_law_1146 rfl (lv_at hl 3 rfl) ?_
  refine lv_iload_n hx hb dL_law_1147 rfl (lv_at hl 0 rfl) ?_
  refine lv_iconst (v := 2) hx hb dL_law_1148 (by decide) ?_
  refine lv_iadd hx hb dL_law_1149 ?_
  refine va_sld hx hb hX hbl hbA hS (sc_in (j := 2) (by decide) (by decide) hi hL) dL_law_1150 ?_
  rw [← ea_2]
  refine lv_aload_n hx hb dL_law_1151 rfl (lv_at hl 3 rfl) ?_
  refine lv_iload_n hx hb dL_law_1152 rfl (lv_at hl 0 rfl) ?_
  refine lv_iconst (v := 3) hx hb dL_law_1153 (by decide) ?_
  refine lv_iadd hx hb dL_law_1154 ?_
  refine va_sld hx hb hX hbl hbA hS (sc_in (j := 3) (by decide) (by decide) hi hL) dL_law_1155 ?_
  rw [← ea_3]
  obtain ⟨fs_8, hd_8⟩ := ism_hd (ys := wx_4) hIM
  have hFc_8 := fr_l hD hS hA
  refine va_calli (va_runV (As := [.int a_1, .int a_2, .int a_3]) (rest := []) ⟨hx, hb, hml, hown, hts⟩ (w_X8_drawn l dC dI cI cZ cL cJ H.size mo _ _ _ _ _ _ _ _ _ _ _ _ wm a_1 a_2 a_3 hIM) (cwV 3 hts gL_law_X8_drawn rfl rfl rfl (by decide +kernel) ⟨Nat.le_of_ble_eq_true rfl, Nat.le_of_ble_eq_true rfl⟩) (pvL 8 hK hP hD hst hS hFc_8 rfl hd_8) rfl rfl hl.1 rfl (lv_room (Nat.le_of_ble_eq_true rfl)) dL_law_1156 ⟨Nat.le_of_ble_eq_true rfl, Nat.le_of_ble_eq_true rfl⟩) hS (fun q _ h => hFc_8 q h) hFc_8 (fun r_8 u_8 t_8 H1 locs ht hvm h_8 hB hz1 hk1 hS => ?_)
  obtain ⟨wm_8, hIM, hP1, hD1⟩ := hB
  rw [ht] at hP1
  obtain ⟨hP, hD⟩ := jn2 hP hD hk1 hFc_8 hP1 hD1
  generalize H1 = H at hP hS ⊢
  refine W.widen (k := 277) (n := 3929) (Nat.le_of_ble_eq_true rfl) (Nat.le_of_ble_eq_true rfl) ?_
  refine lv_pop hx hb dL_law_1159 rfl ?_
  refine lv_goto (tgt := 1357) hx hb dL_law_1160 (by decide) ?_
  exact lw_tail hC0 hi ⟨⟨_, _, _, _, _, _, _, _, _, _, _, _, hs, hIX, hIM⟩, hP, hD, hS, hl⟩ ih

set_option maxHeartbeats 4000000 in
set_option maxRecDepth 100000 in
theorem lw_c29 {p : Program} {l : Launch} {e : Env} {s : State} {m : MethodId} {below : List Frame} {meth : Method} {c : Code} {b L : Nat} {xs : Nat → Int32} {dC : Nat → ClassId} {dI : Nat → Nat → Nat} {cI cZ cL cJ : ClassId} {A : Nat → Prop} {H : Heap} {locs : List Loc} {ls : Array Slot} {x mo i : Nat} {wx wm : va_W} (hC : LCx p s m meth c b L xs dC dI cI cZ cL cJ A) (hi : 6 * i + 6 ≤ L) (hv : LIv dC dI cI cZ cL cJ A s b x mo i (wx, wm) H locs ls) (ih : ∀ (st2 : va_W × va_W) (H2 : Heap) (locs2 : List Loc) (ls2 : Array Slot), LIv dC dI cI cZ cL cJ A s b x mo (i + 1) st2 H2 locs2 ls2 → W p l e room_1 s m #[Value.ref b] below meth c H2 locs2 277 3929 (lw_Z below #[Value.ref b] s) (F0 m 18 ls2 [])) : W p l e room_1 s m #[Value.ref b] below meth c H locs 277 3929 (lw_Z below #[Value.ref b] s) (F0 m 1163 ls []) := by
  have hC0 := hC
  obtain ⟨hx, hb, hr, hml, hown, hts, hX, hbl, hlocks, hAd, hA, hbA, hK, hst, hL⟩ := hC
  obtain ⟨⟨Rl, Rn, zt, Tb, lf, Lv, An, Ac, I0, I1, Tz, Tc, hs, hIX, hIM⟩, hP, hD, hS, hl⟩ := hv
  refine lv_aload_n hx hb dL_law_1163 rfl (lv_at hl 2 rfl) ?_
  refine lv_aload_n hx hb dL_law_1164 rfl (lv_at hl 3 rfl) ?_
  refine lv_iload_n hx hb dL_law_1165 rfl (lv_at hl 0 rfl) ?_
  refine lv_iconst (v := 1) hx hb dL_law_1166 (by decide) ?_
  refine lv_iadd hx hb dL_law_1167 ?_
  refine va_sld hx hb hX hbl hbA hS (sc_in (j := 1) (by decide) (by decide) hi hL) dL_law_1168 ?_
  refine lv_topi (fun a_1 ea_1 => ?_)
  obtain ⟨fs_2, hd_2⟩ := isx_hd (ys := wm) hIX
  have hFc_2 := fr_l hD hS hA
  refine va_calli (va_runV (As := [.int a_1]) (rest := []) ⟨hx, hb, hml, hown, hts⟩ (w_X7_image l dC dI cI cZ cL cJ H.size x _ _ _ _ _ _ _ _ _ _ _ _ wx a_1 hs hIX) (cwV 1 hts gL_law_X7_image rfl rfl rfl (by decide +kernel) ⟨Nat.le_of_ble_eq_true rfl, Nat.le_of_ble_eq_true rfl⟩) (pvL 7 hK hP hD hst hS hFc_2 rfl hd_2) rfl rfl hl.1 rfl (lv_room (Nat.le_of_ble_eq_true rfl)) dL_law_1169 ⟨Nat.le_of_ble_eq_true rfl, Nat.le_of_ble_eq_true rfl⟩) hS (fun q _ h => hFc_2 q h) hFc_2 (fun r_2 u_2 t_2 H1 locs ht hvm h_2 hB hz1 hk1 hS => ?_)
  obtain ⟨wx_2, hIX, hP1, hD1⟩ := hB
  rw [ht] at hP1
  obtain ⟨hP, hD⟩ := jn2 hP hD hk1 hFc_2 hP1 hD1
  generalize H1 = H at hP hS ⊢
  refine W.widen (k := 277) (n := 3929) (Nat.le_of_ble_eq_true rfl) (Nat.le_of_ble_eq_true rfl) ?_
  refine lv_pop hx hb dL_law_1172 rfl ?_
  refine lv_aload_n hx hb dL_law_1173 rfl (lv_at hl 1 rfl) ?_
  refine lv_aload_n hx hb dL_law_1174 rfl (lv_at hl 3 rfl) ?_
  refine lv_iload_n hx hb dL_law_1175 rfl (lv_at hl 0 rfl) ?_
  refine lv_iconst (v := 1) hx hb dL_law_1176 (by decide) ?_
  refine lv_iadd hx hb dL_law_1177 ?_
  refine va_sld hx hb hX hbl hbA hS (sc_in (j := 1) (by decide) (by decide) hi hL) dL_law_1178 ?_
  rw [← ea_1]
  obtain ⟨fs_4, hd_4⟩ := ism_hd (ys := wx_2) hIM
  have hFc_4 := fr_l hD hS hA
  refine va_calli (va_runV (As := [.int a_1]) (rest := []) ⟨hx, hb, hml, hown, hts⟩ (w_X8_image l dC dI cI cZ cL cJ H.size mo _ _ _ _ _ _ _ _ _ _ _ _ wm a_1 hIM) (cwV 1 hts gL_law_X8_image rfl rfl rfl (by decide +kernel) ⟨Nat.le_of_ble_eq_true rfl, Nat.le_of_ble_eq_true rfl⟩) (pvL 8 hK hP hD hst hS hFc_4 rfl hd_4) rfl rfl hl.1 rfl (lv_room (Nat.le_of_ble_eq_true rfl)) dL_law_1179 ⟨Nat.le_of_ble_eq_true rfl, Nat.le_of_ble_eq_true rfl⟩) hS (fun q _ h => hFc_4 q h) hFc_4 (fun r_4 u_4 t_4 H1 locs ht hvm h_4 hB hz1 hk1 hS => ?_)
  obtain ⟨wm_4, hIM, hP1, hD1⟩ := hB
  rw [ht] at hP1
  obtain ⟨hP, hD⟩ := jn2 hP hD hk1 hFc_4 hP1 hD1
  generalize H1 = H at hP hS ⊢
  refine W.widen (k := 277) (n := 3929) (Nat.le_of_ble_eq_true rfl) (Nat.le_of_ble_eq_true rfl) ?_
  refine lv_pop hx hb dL_law_1182 rfl ?_
  refine lv_goto (tgt := 1357) hx hb dL_law_1183 (by decide) ?_
  exact lw_tail hC0 hi ⟨⟨_, _, _, _, _, _, _, _, _, _, _, _, ok_image hs, hIX, hIM⟩, hP, hD, hS, hl⟩ ih

set_option maxHeartbeats 4000000 in
set_option maxRecDepth 100000 in
theorem lw_c30 {p : Program} {l : Launch} {e : Env} {s : State} {m : MethodId} {below : List Frame} {meth : Method} {c : Code} {b L : Nat} {xs : Nat → Int32} {dC : Nat → ClassId} {dI : Nat → Nat → Nat} {cI cZ cL cJ : ClassId} {A : Nat → Prop} {H : Heap} {locs : List Loc} {ls : Array Slot} {x mo i : Nat} {wx wm : va_W} (hC : LCx p s m meth c b L xs dC dI cI cZ cL cJ A) (hi : 6 * i + 6 ≤ L) (hv : LIv dC dI cI cZ cL cJ A s b x mo i (wx, wm) H locs ls) (ih : ∀ (st2 : va_W × va_W) (H2 : Heap) (locs2 : List Loc) (ls2 : Array Slot), LIv dC dI cI cZ cL cJ A s b x mo (i + 1) st2 H2 locs2 ls2 → W p l e room_1 s m #[Value.ref b] below meth c H2 locs2 277 3929 (lw_Z below #[Value.ref b] s) (F0 m 18 ls2 [])) : W p l e room_1 s m #[Value.ref b] below meth c H locs 277 3929 (lw_Z below #[Value.ref b] s) (F0 m 1186 ls []) := by
  have hC0 := hC
  obtain ⟨hx, hb, hr, hml, hown, hts, hX, hbl, hlocks, hAd, hA, hbA, hK, hst, hL⟩ := hC
  obtain ⟨⟨Rl, Rn, zt, Tb, lf, Lv, An, Ac, I0, I1, Tz, Tc, hs, hIX, hIM⟩, hP, hD, hS, hl⟩ := hv
  refine lv_aload_n hx hb dL_law_1186 rfl (lv_at hl 2 rfl) ?_
  refine lv_aload_n hx hb dL_law_1187 rfl (lv_at hl 3 rfl) ?_
  refine lv_iload_n hx hb dL_law_1188 rfl (lv_at hl 0 rfl) ?_
  refine lv_iconst (v := 1) hx hb dL_law_1189 (by decide) ?_
  refine lv_iadd hx hb dL_law_1190 ?_
  refine va_sld hx hb hX hbl hbA hS (sc_in (j := 1) (by decide) (by decide) hi hL) dL_law_1191 ?_
  refine lv_topi (fun a_1 ea_1 => ?_)
  obtain ⟨fs_2, hd_2⟩ := isx_hd (ys := wm) hIX
  have hFc_2 := fr_l hD hS hA
  refine va_calli (va_runV (As := [.int a_1]) (rest := []) ⟨hx, hb, hml, hown, hts⟩ (w_X7_restore l dC dI cI cZ cL cJ H.size x _ _ _ _ _ _ _ _ _ _ _ _ wx a_1 hs hIX) (cwV 1 hts gL_law_X7_restore rfl rfl rfl (by decide +kernel) ⟨Nat.le_of_ble_eq_true rfl, Nat.le_of_ble_eq_true rfl⟩) (pvL 7 hK hP hD hst hS hFc_2 rfl hd_2) rfl rfl hl.1 rfl (lv_room (Nat.le_of_ble_eq_true rfl)) dL_law_1192 ⟨Nat.le_of_ble_eq_true rfl, Nat.le_of_ble_eq_true rfl⟩) hS (fun q _ h => hFc_2 q h) hFc_2 (fun r_2 u_2 t_2 H1 locs ht hvm h_2 hB hz1 hk1 hS => ?_)
  obtain ⟨wx_2, hIX, hP1, hD1⟩ := hB
  rw [ht] at hP1
  obtain ⟨hP, hD⟩ := jn2 hP hD hk1 hFc_2 hP1 hD1
  generalize H1 = H at hP hS ⊢
  refine W.widen (k := 277) (n := 3929) (Nat.le_of_ble_eq_true rfl) (Nat.le_of_ble_eq_true rfl) ?_
  refine lv_pop hx hb dL_law_1195 rfl ?_
  refine lv_aload_n hx hb dL_law_1196 rfl (lv_at hl 1 rfl) ?_
  refine lv_aload_n hx hb dL_law_1197 rfl (lv_at hl 3 rfl) ?_
  refine lv_iload_n hx hb dL_law_1198 rfl (lv_at hl 0 rfl) ?_
  refine lv_iconst (v := 1) hx hb dL_law_1199 (by decide) ?_
  refine lv_iadd hx hb dL_law_1200 ?_
  refine va_sld hx hb hX hbl hbA hS (sc_in (j := 1) (by decide) (by decide) hi hL) dL_law_1201 ?_
  rw [← ea_1]
  obtain ⟨fs_4, hd_4⟩ := ism_hd (ys := wx_2) hIM
  have hFc_4 := fr_l hD hS hA
  refine va_calli (va_runV (As := [.int a_1]) (rest := []) ⟨hx, hb, hml, hown, hts⟩ (w_X8_restore l dC dI cI cZ cL cJ H.size mo _ _ _ _ _ _ _ _ _ _ _ _ wm a_1 hIM) (cwV 1 hts gL_law_X8_restore rfl rfl rfl (by decide +kernel) ⟨Nat.le_of_ble_eq_true rfl, Nat.le_of_ble_eq_true rfl⟩) (pvL 8 hK hP hD hst hS hFc_4 rfl hd_4) rfl rfl hl.1 rfl (lv_room (Nat.le_of_ble_eq_true rfl)) dL_law_1202 ⟨Nat.le_of_ble_eq_true rfl, Nat.le_of_ble_eq_true rfl⟩) hS (fun q _ h => hFc_4 q h) hFc_4 (fun r_4 u_4 t_4 H1 locs ht hvm h_4 hB hz1 hk1 hS => ?_)
  obtain ⟨wm_4, hIM, hP1, hD1⟩ := hB
  rw [ht] at hP1
  obtain ⟨hP, hD⟩ := jn2 hP hD hk1 hFc_4 hP1 hD1
  generalize H1 = H at hP hS ⊢
  refine W.widen (k := 277) (n := 3929) (Nat.le_of_ble_eq_true rfl) (Nat.le_of_ble_eq_true rfl) ?_
  refine lv_pop hx hb dL_law_1205 rfl ?_
  refine lv_goto (tgt := 1357) hx hb dL_law_1206 (by decide) ?_
  exact lw_tail hC0 hi ⟨⟨_, _, _, _, _, _, _, _, _, _, _, _, ok_rst hs, hIX, hIM⟩, hP, hD, hS, hl⟩ ih

set_option maxHeartbeats 4000000 in
set_option maxRecDepth 100000 in
theorem lw_c31 {p : Program} {l : Launch} {e : Env} {s : State} {m : MethodId} {below : List Frame} {meth : Method} {c : Code} {b L : Nat} {xs : Nat → Int32} {dC : Nat → ClassId} {dI : Nat → Nat → Nat} {cI cZ cL cJ : ClassId} {A : Nat → Prop} {H : Heap} {locs : List Loc} {ls : Array Slot} {x mo i : Nat} {wx wm : va_W} (hC : LCx p s m meth c b L xs dC dI cI cZ cL cJ A) (hi : 6 * i + 6 ≤ L) (hv : LIv dC dI cI cZ cL cJ A s b x mo i (wx, wm) H locs ls) (ih : ∀ (st2 : va_W × va_W) (H2 : Heap) (locs2 : List Loc) (ls2 : Array Slot), LIv dC dI cI cZ cL cJ A s b x mo (i + 1) st2 H2 locs2 ls2 → W p l e room_1 s m #[Value.ref b] below meth c H2 locs2 277 3929 (lw_Z below #[Value.ref b] s) (F0 m 18 ls2 [])) : W p l e room_1 s m #[Value.ref b] below meth c H locs 277 3929 (lw_Z below #[Value.ref b] s) (F0 m 1209 ls []) := by
  have hC0 := hC
  obtain ⟨hx, hb, hr, hml, hown, hts, hX, hbl, hlocks, hAd, hA, hbA, hK, hst, hL⟩ := hC
  obtain ⟨⟨Rl, Rn, zt, Tb, lf, Lv, An, Ac, I0, I1, Tz, Tc, hs, hIX, hIM⟩, hP, hD, hS, hl⟩ := hv
  refine lv_aload_n hx hb dL_law_1209 rfl (lv_at hl 2 rfl) ?_
  refine lv_aload_n hx hb dL_law_1210 rfl (lv_at hl 3 rfl) ?_
  refine lv_iload_n hx hb dL_law_1211 rfl (lv_at hl 0 rfl) ?_
  refine lv_iconst (v := 1) hx hb dL_law_1212 (by decide) ?_
  refine lv_iadd hx hb dL_law_1213 ?_
  refine va_sld hx hb hX hbl hbA hS (sc_in (j := 1) (by decide) (by decide) hi hL) dL_law_1214 ?_
  refine lv_topi (fun a_1 ea_1 => ?_)
  obtain ⟨fs_2, hd_2⟩ := isx_hd (ys := wm) hIX
  have hFc_2 := fr_l hD hS hA
  refine va_calli (va_runV (As := [.int a_1]) (rest := []) ⟨hx, hb, hml, hown, hts⟩ (w_X7_kind l dC dI cI cZ cL cJ H.size x _ _ _ _ _ _ _ _ _ _ _ _ wx a_1 hs hIX) (cwV 1 hts gL_law_X7_kind rfl rfl rfl (by decide +kernel) ⟨Nat.le_of_ble_eq_true rfl, Nat.le_of_ble_eq_true rfl⟩) (pvL 7 hK hP hD hst hS hFc_2 rfl hd_2) rfl rfl hl.1 rfl (lv_room (Nat.le_of_ble_eq_true rfl)) dL_law_1215 ⟨Nat.le_of_ble_eq_true rfl, Nat.le_of_ble_eq_true rfl⟩) hS (fun q _ h => hFc_2 q h) hFc_2 (fun r_2 u_2 t_2 H1 locs ht hvm h_2 hB hz1 hk1 hS => ?_)
  obtain ⟨wx_2, hIX, hP1, hD1⟩ := hB
  rw [ht] at hP1
  obtain ⟨hP, hD⟩ := jn2 hP hD hk1 hFc_2 hP1 hD1
  generalize H1 = H at hP hS ⊢
  refine W.widen (k := 277) (n := 3929) (Nat.le_of_ble_eq_true rfl) (Nat.le_of_ble_eq_true rfl) ?_
  refine lv_pop hx hb dL_law_1218 rfl ?_
  refine lv_aload_n hx hb dL_law_1219 rfl (lv_at hl 1 rfl) ?_
  refine lv_aload_n hx hb dL_law_1220 rfl (lv_at hl 3 rfl) ?_
  refine lv_iload_n hx hb dL_law_1221 rfl (lv_at hl 0 rfl) ?_
  refine lv_iconst (v := 1) hx hb dL_law_1222 (by decide) ?_
  refine lv_iadd hx hb dL_law_1223 ?_
  refine va_sld hx hb hX hbl hbA hS (sc_in (j := 1) (by decide) (by decide) hi hL) dL_law_1224 ?_
  rw [← ea_1]
  obtain ⟨fs_4, hd_4⟩ := ism_hd (ys := wx_2) hIM
  have hFc_4 := fr_l hD hS hA
  refine va_calli (va_runV (As := [.int a_1]) (rest := []) ⟨hx, hb, hml, hown, hts⟩ (w_X8_kind l dC dI cI cZ cL cJ H.size mo _ _ _ _ _ _ _ _ _ _ _ _ wm a_1 hIM) (cwV 1 hts gL_law_X8_kind rfl rfl rfl (by decide +kernel) ⟨Nat.le_of_ble_eq_true rfl, Nat.le_of_ble_eq_true rfl⟩) (pvL 8 hK hP hD hst hS hFc_4 rfl hd_4) rfl rfl hl.1 rfl (lv_room (Nat.le_of_ble_eq_true rfl)) dL_law_1225 ⟨Nat.le_of_ble_eq_true rfl, Nat.le_of_ble_eq_true rfl⟩) hS (fun q _ h => hFc_4 q h) hFc_4 (fun r_4 u_4 t_4 H1 locs ht hvm h_4 hB hz1 hk1 hS => ?_)
  obtain ⟨wm_4, hIM, hP1, hD1⟩ := hB
  rw [ht] at hP1
  obtain ⟨hP, hD⟩ := jn2 hP hD hk1 hFc_4 hP1 hD1
  generalize H1 = H at hP hS ⊢
  refine W.widen (k := 277) (n := 3929) (Nat.le_of_ble_eq_true rfl) (Nat.le_of_ble_eq_true rfl) ?_
  refine lv_pop hx hb dL_law_1228 rfl ?_
  refine lv_goto (tgt := 1357) hx hb dL_law_1229 (by decide) ?_
  exact lw_tail hC0 hi ⟨⟨_, _, _, _, _, _, _, _, _, _, _, _, hs, hIX, hIM⟩, hP, hD, hS, hl⟩ ih

set_option maxHeartbeats 4000000 in
set_option maxRecDepth 100000 in
theorem lw_c32 {p : Program} {l : Launch} {e : Env} {s : State} {m : MethodId} {below : List Frame} {meth : Method} {c : Code} {b L : Nat} {xs : Nat → Int32} {dC : Nat → ClassId} {dI : Nat → Nat → Nat} {cI cZ cL cJ : ClassId} {A : Nat → Prop} {H : Heap} {locs : List Loc} {ls : Array Slot} {x mo i : Nat} {wx wm : va_W} (hC : LCx p s m meth c b L xs dC dI cI cZ cL cJ A) (hi : 6 * i + 6 ≤ L) (hv : LIv dC dI cI cZ cL cJ A s b x mo i (wx, wm) H locs ls) (ih : ∀ (st2 : va_W × va_W) (H2 : Heap) (locs2 : List Loc) (ls2 : Array Slot), LIv dC dI cI cZ cL cJ A s b x mo (i + 1) st2 H2 locs2 ls2 → W p l e room_1 s m #[Value.ref b] below meth c H2 locs2 277 3929 (lw_Z below #[Value.ref b] s) (F0 m 18 ls2 [])) : W p l e room_1 s m #[Value.ref b] below meth c H locs 277 3929 (lw_Z below #[Value.ref b] s) (F0 m 1232 ls []) := by
  have hC0 := hC
  obtain ⟨hx, hb, hr, hml, hown, hts, hX, hbl, hlocks, hAd, hA, hbA, hK, hst, hL⟩ := hC
  obtain ⟨⟨Rl, Rn, zt, Tb, lf, Lv, An, Ac, I0, I1, Tz, Tc, hs, hIX, hIM⟩, hP, hD, hS, hl⟩ := hv
  refine lv_aload_n hx hb dL_law_1232 rfl (lv_at hl 2 rfl) ?_
  refine lv_aload_n hx hb dL_law_1233 rfl (lv_at hl 3 rfl) ?_
  refine lv_iload_n hx hb dL_law_1234 rfl (lv_at hl 0 rfl) ?_
  refine lv_iconst (v := 1) hx hb dL_law_1235 (by decide) ?_
  refine lv_iadd hx hb dL_law_1236 ?_
  refine va_sld hx hb hX hbl hbA hS (sc_in (j := 1) (by decide) (by decide) hi hL) dL_law_1237 ?_
  refine lv_topi (fun a_1 ea_1 => ?_)
  refine lv_aload_n hx hb dL_law_1238 rfl (lv_at hl 3 rfl) ?_
  refine lv_iload_n hx hb dL_law_1239 rfl (lv_at hl 0 rfl) ?_
  refine lv_iconst (v := 2) hx hb dL_law_1240 (by decide) ?_
  refine lv_iadd hx hb dL_law_1241 ?_
  refine va_sld hx hb hX hbl hbA hS (sc_in (j := 2) (by decide) (by decide) hi hL) dL_law_1242 ?_
  refine lv_topi (fun a_2 ea_2 => ?_)
  obtain ⟨fs_3, hd_3⟩ := isx_hd (ys := wm) hIX
  have hFc_3 := fr_l hD hS hA
  refine va_calli (va_runV (As := [.int a_1, .int a_2]) (rest := []) ⟨hx, hb, hml, hown, hts⟩ (w_X7_as l dC dI cI cZ cL cJ H.size x _ _ _ _ _ _ _ _ _ _ _ _ wx a_1 a_2 hs hIX) (cwV 2 hts gL_law_X7_as rfl rfl rfl (by decide +kernel) ⟨Nat.le_of_ble_eq_true rfl, Nat.le_of_ble_eq_true rfl⟩) (pvL 7 hK hP hD hst hS hFc_3 rfl hd_3) rfl rfl hl.1 rfl (lv_room (Nat.le_of_ble_eq_true rfl)) dL_law_1243 ⟨Nat.le_of_ble_eq_true rfl, Nat.le_of_ble_eq_true rfl⟩) hS (fun q _ h => hFc_3 q h) hFc_3 (fun r_3 u_3 t_3 H1 locs ht hvm h_3 hB hz1 hk1 hS => ?_)
  obtain ⟨wx_3, hIX, hP1, hD1⟩ := hB
  rw [ht] at hP1
  obtain ⟨hP, hD⟩ := jn2 hP hD hk1 hFc_3 hP1 hD1
  generalize H1 = H at hP hS ⊢
  refine W.widen (k := 277) (n := 3929) (Nat.le_of_ble_eq_true rfl) (Nat.le_of_ble_eq_true rfl) ?_
  refine lv_pop hx hb dL_law_1246 rfl ?_
  refine lv_aload_n hx hb dL_law_1247 rfl (lv_at hl 1 rfl) ?_
  refine lv_aload_n hx hb dL_law_1248 rfl (lv_at hl 3 rfl) ?_
  refine lv_iload_n hx hb dL_law_1249 rfl (lv_at hl 0 rfl) ?_
  refine lv_iconst (v := 1) hx hb dL_law_1250 (by decide) ?_
  refine lv_iadd hx hb dL_law_1251 ?_
  refine va_sld hx hb hX hbl hbA hS (sc_in (j := 1) (by decide) (by decide) hi hL) dL_law_1252 ?_
  rw [← ea_1]
  refine lv_aload_n hx hb dL_law_1253 rfl (lv_at hl 3 rfl) ?_
  refine lv_iload_n hx hb dL_law_1254 rfl (lv_at hl 0 rfl) ?_
  refine lv_iconst (v := 2) hx hb dL_law_1255 (by decide) ?_
  refine lv_iadd hx hb dL_law_1256 ?_
  refine va_sld hx hb hX hbl hbA hS (sc_in (j := 2) (by decide) (by decide) hi hL) dL_law_1257 ?_
  rw [← ea_2]
  obtain ⟨fs_6, hd_6⟩ := ism_hd (ys := wx_3) hIM
  have hFc_6 := fr_l hD hS hA
  refine va_calli (va_runV (As := [.int a_1, .int a_2]) (rest := []) ⟨hx, hb, hml, hown, hts⟩ (w_X8_as l dC dI cI cZ cL cJ H.size mo _ _ _ _ _ _ _ _ _ _ _ _ wm a_1 a_2 hIM) (cwV 2 hts gL_law_X8_as rfl rfl rfl (by decide +kernel) ⟨Nat.le_of_ble_eq_true rfl, Nat.le_of_ble_eq_true rfl⟩) (pvL 8 hK hP hD hst hS hFc_6 rfl hd_6) rfl rfl hl.1 rfl (lv_room (Nat.le_of_ble_eq_true rfl)) dL_law_1258 ⟨Nat.le_of_ble_eq_true rfl, Nat.le_of_ble_eq_true rfl⟩) hS (fun q _ h => hFc_6 q h) hFc_6 (fun r_6 u_6 t_6 H1 locs ht hvm h_6 hB hz1 hk1 hS => ?_)
  obtain ⟨wm_6, hIM, hP1, hD1⟩ := hB
  rw [ht] at hP1
  obtain ⟨hP, hD⟩ := jn2 hP hD hk1 hFc_6 hP1 hD1
  generalize H1 = H at hP hS ⊢
  refine W.widen (k := 277) (n := 3929) (Nat.le_of_ble_eq_true rfl) (Nat.le_of_ble_eq_true rfl) ?_
  refine lv_pop hx hb dL_law_1261 rfl ?_
  refine lv_goto (tgt := 1357) hx hb dL_law_1262 (by decide) ?_
  exact lw_tail hC0 hi ⟨⟨_, _, _, _, _, _, _, _, _, _, _, _, hs, hIX, hIM⟩, hP, hD, hS, hl⟩ ih

set_option maxHeartbeats 4000000 in
set_option maxRecDepth 100000 in
theorem lw_c33 {p : Program} {l : Launch} {e : Env} {s : State} {m : MethodId} {below : List Frame} {meth : Method} {c : Code} {b L : Nat} {xs : Nat → Int32} {dC : Nat → ClassId} {dI : Nat → Nat → Nat} {cI cZ cL cJ : ClassId} {A : Nat → Prop} {H : Heap} {locs : List Loc} {ls : Array Slot} {x mo i : Nat} {wx wm : va_W} (hC : LCx p s m meth c b L xs dC dI cI cZ cL cJ A) (hi : 6 * i + 6 ≤ L) (hv : LIv dC dI cI cZ cL cJ A s b x mo i (wx, wm) H locs ls) (ih : ∀ (st2 : va_W × va_W) (H2 : Heap) (locs2 : List Loc) (ls2 : Array Slot), LIv dC dI cI cZ cL cJ A s b x mo (i + 1) st2 H2 locs2 ls2 → W p l e room_1 s m #[Value.ref b] below meth c H2 locs2 277 3929 (lw_Z below #[Value.ref b] s) (F0 m 18 ls2 [])) : W p l e room_1 s m #[Value.ref b] below meth c H locs 277 3929 (lw_Z below #[Value.ref b] s) (F0 m 1265 ls []) := by
  have hC0 := hC
  obtain ⟨hx, hb, hr, hml, hown, hts, hX, hbl, hlocks, hAd, hA, hbA, hK, hst, hL⟩ := hC
  obtain ⟨⟨Rl, Rn, zt, Tb, lf, Lv, An, Ac, I0, I1, Tz, Tc, hs, hIX, hIM⟩, hP, hD, hS, hl⟩ := hv
  refine lv_aload_n hx hb dL_law_1265 rfl (lv_at hl 2 rfl) ?_
  refine lv_aload_n hx hb dL_law_1266 rfl (lv_at hl 3 rfl) ?_
  refine lv_iload_n hx hb dL_law_1267 rfl (lv_at hl 0 rfl) ?_
  refine lv_iconst (v := 1) hx hb dL_law_1268 (by decide) ?_
  refine lv_iadd hx hb dL_law_1269 ?_
  refine va_sld hx hb hX hbl hbA hS (sc_in (j := 1) (by decide) (by decide) hi hL) dL_law_1270 ?_
  refine lv_topi (fun a_1 ea_1 => ?_)
  refine lv_aload_n hx hb dL_law_1271 rfl (lv_at hl 3 rfl) ?_
  refine lv_iload_n hx hb dL_law_1272 rfl (lv_at hl 0 rfl) ?_
  refine lv_iconst (v := 2) hx hb dL_law_1273 (by decide) ?_
  refine lv_iadd hx hb dL_law_1274 ?_
  refine va_sld hx hb hX hbl hbA hS (sc_in (j := 2) (by decide) (by decide) hi hL) dL_law_1275 ?_
  refine lv_topi (fun a_2 ea_2 => ?_)
  obtain ⟨fs_3, hd_3⟩ := isx_hd (ys := wm) hIX
  have hFc_3 := fr_l hD hS hA
  refine va_calli (va_runV (As := [.int a_1, .int a_2]) (rest := []) ⟨hx, hb, hml, hown, hts⟩ (w_X7_ask l dC dI cI cZ cL cJ H.size x _ _ _ _ _ _ _ _ _ _ _ _ wx a_1 a_2 hs hIX) (cwV 2 hts gL_law_X7_ask rfl rfl rfl (by decide +kernel) ⟨Nat.le_of_ble_eq_true rfl, Nat.le_of_ble_eq_true rfl⟩) (pvL 7 hK hP hD hst hS hFc_3 rfl hd_3) rfl rfl hl.1 rfl (lv_room (Nat.le_of_ble_eq_true rfl)) dL_law_1276 ⟨Nat.le_of_ble_eq_true rfl, Nat.le_of_ble_eq_true rfl⟩) hS (fun q _ h => hFc_3 q h) hFc_3 (fun r_3 u_3 t_3 H1 locs ht hvm h_3 hB hz1 hk1 hS => ?_)
  obtain ⟨wx_3, hIX, hP1, hD1⟩ := hB
  rw [ht] at hP1
  obtain ⟨hP, hD⟩ := jn2 hP hD hk1 hFc_3 hP1 hD1
  generalize H1 = H at hP hS ⊢
  refine W.widen (k := 277) (n := 3929) (Nat.le_of_ble_eq_true rfl) (Nat.le_of_ble_eq_true rfl) ?_
  refine lv_pop hx hb dL_law_1279 rfl ?_
  refine lv_aload_n hx hb dL_law_1280 rfl (lv_at hl 1 rfl) ?_
  refine lv_aload_n hx hb dL_law_1281 rfl (lv_at hl 3 rfl) ?_
  refine lv_iload_n hx hb dL_law_1282 rfl (lv_at hl 0 rfl) ?_
  refine lv_iconst (v := 1) hx hb dL_law_1283 (by decide) ?_
  refine lv_iadd hx hb dL_law_1284 ?_
  refine va_sld hx hb hX hbl hbA hS (sc_in (j := 1) (by decide) (by decide) hi hL) dL_law_1285 ?_
  rw [← ea_1]
  refine lv_aload_n hx hb dL_law_1286 rfl (lv_at hl 3 rfl) ?_
  refine lv_iload_n hx hb dL_law_1287 rfl (lv_at hl 0 rfl) ?_
  refine lv_iconst (v := 2) hx hb dL_law_1288 (by decide) ?_
  refine lv_iadd hx hb dL_law_1289 ?_
  refine va_sld hx hb hX hbl hbA hS (sc_in (j := 2) (by decide) (by decide) hi hL) dL_law_1290 ?_
  rw [← ea_2]
  obtain ⟨fs_6, hd_6⟩ := ism_hd (ys := wx_3) hIM
  have hFc_6 := fr_l hD hS hA
  refine va_calli (va_runV (As := [.int a_1, .int a_2]) (rest := []) ⟨hx, hb, hml, hown, hts⟩ (w_X8_ask l dC dI cI cZ cL cJ H.size mo _ _ _ _ _ _ _ _ _ _ _ _ wm a_1 a_2 hIM) (cwV 2 hts gL_law_X8_ask rfl rfl rfl (by decide +kernel) ⟨Nat.le_of_ble_eq_true rfl, Nat.le_of_ble_eq_true rfl⟩) (pvL 8 hK hP hD hst hS hFc_6 rfl hd_6) rfl rfl hl.1 rfl (lv_room (Nat.le_of_ble_eq_true rfl)) dL_law_1291 ⟨Nat.le_of_ble_eq_true rfl, Nat.le_of_ble_eq_true rfl⟩) hS (fun q _ h => hFc_6 q h) hFc_6 (fun r_6 u_6 t_6 H1 locs ht hvm h_6 hB hz1 hk1 hS => ?_)
  obtain ⟨wm_6, hIM, hP1, hD1⟩ := hB
  rw [ht] at hP1
  obtain ⟨hP, hD⟩ := jn2 hP hD hk1 hFc_6 hP1 hD1
  generalize H1 = H at hP hS ⊢
  refine W.widen (k := 277) (n := 3929) (Nat.le_of_ble_eq_true rfl) (Nat.le_of_ble_eq_true rfl) ?_
  refine lv_pop hx hb dL_law_1294 rfl ?_
  refine lv_goto (tgt := 1357) hx hb dL_law_1295 (by decide) ?_
  exact lw_tail hC0 hi ⟨⟨_, _, _, _, _, _, _, _, _, _, _, _, hs, hIX, hIM⟩, hP, hD, hS, hl⟩ ih

set_option maxHeartbeats 4000000 in
set_option maxRecDepth 100000 in
theorem lw_c34 {p : Program} {l : Launch} {e : Env} {s : State} {m : MethodId} {below : List Frame} {meth : Method} {c : Code} {b L : Nat} {xs : Nat → Int32} {dC : Nat → ClassId} {dI : Nat → Nat → Nat} {cI cZ cL cJ : ClassId} {A : Nat → Prop} {H : Heap} {locs : List Loc} {ls : Array Slot} {x mo i : Nat} {wx wm : va_W} (hC : LCx p s m meth c b L xs dC dI cI cZ cL cJ A) (hi : 6 * i + 6 ≤ L) (hv : LIv dC dI cI cZ cL cJ A s b x mo i (wx, wm) H locs ls) (ih : ∀ (st2 : va_W × va_W) (H2 : Heap) (locs2 : List Loc) (ls2 : Array Slot), LIv dC dI cI cZ cL cJ A s b x mo (i + 1) st2 H2 locs2 ls2 → W p l e room_1 s m #[Value.ref b] below meth c H2 locs2 277 3929 (lw_Z below #[Value.ref b] s) (F0 m 18 ls2 [])) : W p l e room_1 s m #[Value.ref b] below meth c H locs 277 3929 (lw_Z below #[Value.ref b] s) (F0 m 1298 ls []) := by
  have hC0 := hC
  obtain ⟨hx, hb, hr, hml, hown, hts, hX, hbl, hlocks, hAd, hA, hbA, hK, hst, hL⟩ := hC
  obtain ⟨⟨Rl, Rn, zt, Tb, lf, Lv, An, Ac, I0, I1, Tz, Tc, hs, hIX, hIM⟩, hP, hD, hS, hl⟩ := hv
  refine lv_aload_n hx hb dL_law_1298 rfl (lv_at hl 2 rfl) ?_
  refine lv_aload_n hx hb dL_law_1299 rfl (lv_at hl 3 rfl) ?_
  refine lv_iload_n hx hb dL_law_1300 rfl (lv_at hl 0 rfl) ?_
  refine lv_iconst (v := 1) hx hb dL_law_1301 (by decide) ?_
  refine lv_iadd hx hb dL_law_1302 ?_
  refine va_sld hx hb hX hbl hbA hS (sc_in (j := 1) (by decide) (by decide) hi hL) dL_law_1303 ?_
  refine lv_topi (fun a_1 ea_1 => ?_)
  obtain ⟨fs_2, hd_2⟩ := isx_hd (ys := wm) hIX
  have hFc_2 := fr_l hD hS hA
  refine va_calli (va_runV (As := [.int a_1]) (rest := []) ⟨hx, hb, hml, hown, hts⟩ (w_X7_trace l dC dI cI cZ cL cJ H.size x _ _ _ _ _ _ _ _ _ _ _ _ wx a_1 hs hIX) (cwV 1 hts gL_law_X7_trace rfl rfl rfl (by decide +kernel) ⟨Nat.le_of_ble_eq_true rfl, Nat.le_of_ble_eq_true rfl⟩) (pvL 7 hK hP hD hst hS hFc_2 rfl hd_2) rfl rfl hl.1 rfl (lv_room (Nat.le_of_ble_eq_true rfl)) dL_law_1304 ⟨Nat.le_of_ble_eq_true rfl, Nat.le_of_ble_eq_true rfl⟩) hS (fun q _ h => hFc_2 q h) hFc_2 (fun r_2 u_2 t_2 H1 locs ht hvm h_2 hB hz1 hk1 hS => ?_)
  obtain ⟨wx_2, hIX, hP1, hD1⟩ := hB
  rw [ht] at hP1
  obtain ⟨hP, hD⟩ := jn2 hP hD hk1 hFc_2 hP1 hD1
  generalize H1 = H at hP hS ⊢
  refine W.widen (k := 277) (n := 3929) (Nat.le_of_ble_eq_true rfl) (Nat.le_of_ble_eq_true rfl) ?_
  refine lv_pop hx hb dL_law_1307 rfl ?_
  refine lv_aload_n hx hb dL_law_1308 rfl (lv_at hl 1 rfl) ?_
  refine lv_aload_n hx hb dL_law_1309 rfl (lv_at hl 3 rfl) ?_
  refine lv_iload_n hx hb dL_law_1310 rfl (lv_at hl 0 rfl) ?_
  refine lv_iconst (v := 1) hx hb dL_law_1311 (by decide) ?_
  refine lv_iadd hx hb dL_law_1312 ?_
  refine va_sld hx hb hX hbl hbA hS (sc_in (j := 1) (by decide) (by decide) hi hL) dL_law_1313 ?_
  rw [← ea_1]
  obtain ⟨fs_4, hd_4⟩ := ism_hd (ys := wx_2) hIM
  have hFc_4 := fr_l hD hS hA
  refine va_calli (va_runV (As := [.int a_1]) (rest := []) ⟨hx, hb, hml, hown, hts⟩ (w_X8_trace l dC dI cI cZ cL cJ H.size mo _ _ _ _ _ _ _ _ _ _ _ _ wm a_1 hIM) (cwV 1 hts gL_law_X8_trace rfl rfl rfl (by decide +kernel) ⟨Nat.le_of_ble_eq_true rfl, Nat.le_of_ble_eq_true rfl⟩) (pvL 8 hK hP hD hst hS hFc_4 rfl hd_4) rfl rfl hl.1 rfl (lv_room (Nat.le_of_ble_eq_true rfl)) dL_law_1314 ⟨Nat.le_of_ble_eq_true rfl, Nat.le_of_ble_eq_true rfl⟩) hS (fun q _ h => hFc_4 q h) hFc_4 (fun r_4 u_4 t_4 H1 locs ht hvm h_4 hB hz1 hk1 hS => ?_)
  obtain ⟨wm_4, hIM, hP1, hD1⟩ := hB
  rw [ht] at hP1
  obtain ⟨hP, hD⟩ := jn2 hP hD hk1 hFc_4 hP1 hD1
  generalize H1 = H at hP hS ⊢
  refine W.widen (k := 277) (n := 3929) (Nat.le_of_ble_eq_true rfl) (Nat.le_of_ble_eq_true rfl) ?_
  refine lv_pop hx hb dL_law_1317 rfl ?_
  refine lv_goto (tgt := 1357) hx hb dL_law_1318 (by decide) ?_
  exact lw_tail hC0 hi ⟨⟨_, _, _, _, _, _, _, _, _, _, _, _, hs, hIX, hIM⟩, hP, hD, hS, hl⟩ ih

set_option maxHeartbeats 4000000 in
set_option maxRecDepth 100000 in
theorem lw_c35 {p : Program} {l : Launch} {e : Env} {s : State} {m : MethodId} {below : List Frame} {meth : Method} {c : Code} {b L : Nat} {xs : Nat → Int32} {dC : Nat → ClassId} {dI : Nat → Nat → Nat} {cI cZ cL cJ : ClassId} {A : Nat → Prop} {H : Heap} {locs : List Loc} {ls : Array Slot} {x mo i : Nat} {wx wm : va_W} (hC : LCx p s m meth c b L xs dC dI cI cZ cL cJ A) (hi : 6 * i + 6 ≤ L) (hv : LIv dC dI cI cZ cL cJ A s b x mo i (wx, wm) H locs ls) (ih : ∀ (st2 : va_W × va_W) (H2 : Heap) (locs2 : List Loc) (ls2 : Array Slot), LIv dC dI cI cZ cL cJ A s b x mo (i + 1) st2 H2 locs2 ls2 → W p l e room_1 s m #[Value.ref b] below meth c H2 locs2 277 3929 (lw_Z below #[Value.ref b] s) (F0 m 18 ls2 [])) : W p l e room_1 s m #[Value.ref b] below meth c H locs 277 3929 (lw_Z below #[Value.ref b] s) (F0 m 1321 ls []) := by
  have hC0 := hC
  obtain ⟨hx, hb, hr, hml, hown, hts, hX, hbl, hlocks, hAd, hA, hbA, hK, hst, hL⟩ := hC
  obtain ⟨⟨Rl, Rn, zt, Tb, lf, Lv, An, Ac, I0, I1, Tz, Tc, hs, hIX, hIM⟩, hP, hD, hS, hl⟩ := hv
  refine lv_aload_n hx hb dL_law_1321 rfl (lv_at hl 2 rfl) ?_
  refine lv_aload_n hx hb dL_law_1322 rfl (lv_at hl 3 rfl) ?_
  refine lv_iload_n hx hb dL_law_1323 rfl (lv_at hl 0 rfl) ?_
  refine lv_iconst (v := 1) hx hb dL_law_1324 (by decide) ?_
  refine lv_iadd hx hb dL_law_1325 ?_
  refine va_sld hx hb hX hbl hbA hS (sc_in (j := 1) (by decide) (by decide) hi hL) dL_law_1326 ?_
  refine lv_topi (fun a_1 ea_1 => ?_)
  obtain ⟨fs_2, hd_2⟩ := isx_hd (ys := wm) hIX
  have hFc_2 := fr_l hD hS hA
  refine va_calli (va_runV (As := [.int a_1]) (rest := []) ⟨hx, hb, hml, hown, hts⟩ (w_X7_count l dC dI cI cZ cL cJ H.size x _ _ _ _ _ _ _ _ _ _ _ _ wx a_1 hs hIX) (cwV 1 hts gL_law_X7_count rfl rfl rfl (by decide +kernel) ⟨Nat.le_of_ble_eq_true rfl, Nat.le_of_ble_eq_true rfl⟩) (pvL 7 hK hP hD hst hS hFc_2 rfl hd_2) rfl rfl hl.1 rfl (lv_room (Nat.le_of_ble_eq_true rfl)) dL_law_1327 ⟨Nat.le_of_ble_eq_true rfl, Nat.le_of_ble_eq_true rfl⟩) hS (fun q _ h => hFc_2 q h) hFc_2 (fun r_2 u_2 t_2 H1 locs ht hvm h_2 hB hz1 hk1 hS => ?_)
  obtain ⟨wx_2, hIX, hP1, hD1⟩ := hB
  rw [ht] at hP1
  obtain ⟨hP, hD⟩ := jn2 hP hD hk1 hFc_2 hP1 hD1
  generalize H1 = H at hP hS ⊢
  refine W.widen (k := 277) (n := 3929) (Nat.le_of_ble_eq_true rfl) (Nat.le_of_ble_eq_true rfl) ?_
  refine lv_pop hx hb dL_law_1330 rfl ?_
  refine lv_aload_n hx hb dL_law_1331 rfl (lv_at hl 1 rfl) ?_
  refine lv_aload_n hx hb dL_law_1332 rfl (lv_at hl 3 rfl) ?_
  refine lv_iload_n hx hb dL_law_1333 rfl (lv_at hl 0 rfl) ?_
  refine lv_iconst (v := 1) hx hb dL_law_1334 (by decide) ?_
  refine lv_iadd hx hb dL_law_1335 ?_
  refine va_sld hx hb hX hbl hbA hS (sc_in (j := 1) (by decide) (by decide) hi hL) dL_law_1336 ?_
  rw [← ea_1]
  obtain ⟨fs_4, hd_4⟩ := ism_hd (ys := wx_2) hIM
  have hFc_4 := fr_l hD hS hA
  refine va_calli (va_runV (As := [.int a_1]) (rest := []) ⟨hx, hb, hml, hown, hts⟩ (w_X8_count l dC dI cI cZ cL cJ H.size mo _ _ _ _ _ _ _ _ _ _ _ _ wm a_1 hIM) (cwV 1 hts gL_law_X8_count rfl rfl rfl (by decide +kernel) ⟨Nat.le_of_ble_eq_true rfl, Nat.le_of_ble_eq_true rfl⟩) (pvL 8 hK hP hD hst hS hFc_4 rfl hd_4) rfl rfl hl.1 rfl (lv_room (Nat.le_of_ble_eq_true rfl)) dL_law_1337 ⟨Nat.le_of_ble_eq_true rfl, Nat.le_of_ble_eq_true rfl⟩) hS (fun q _ h => hFc_4 q h) hFc_4 (fun r_4 u_4 t_4 H1 locs ht hvm h_4 hB hz1 hk1 hS => ?_)
  obtain ⟨wm_4, hIM, hP1, hD1⟩ := hB
  rw [ht] at hP1
  obtain ⟨hP, hD⟩ := jn2 hP hD hk1 hFc_4 hP1 hD1
  generalize H1 = H at hP hS ⊢
  refine W.widen (k := 277) (n := 3929) (Nat.le_of_ble_eq_true rfl) (Nat.le_of_ble_eq_true rfl) ?_
  refine lv_pop hx hb dL_law_1340 rfl ?_
  refine lv_goto (tgt := 1357) hx hb dL_law_1341 (by decide) ?_
  exact lw_tail hC0 hi ⟨⟨_, _, _, _, _, _, _, _, _, _, _, _, hs, hIX, hIM⟩, hP, hD, hS, hl⟩ ih

set_option maxHeartbeats 4000000 in
set_option maxRecDepth 100000 in
theorem lw_c36 {p : Program} {l : Launch} {e : Env} {s : State} {m : MethodId} {below : List Frame} {meth : Method} {c : Code} {b L : Nat} {xs : Nat → Int32} {dC : Nat → ClassId} {dI : Nat → Nat → Nat} {cI cZ cL cJ : ClassId} {A : Nat → Prop} {H : Heap} {locs : List Loc} {ls : Array Slot} {x mo i : Nat} {wx wm : va_W} (hC : LCx p s m meth c b L xs dC dI cI cZ cL cJ A) (hi : 6 * i + 6 ≤ L) (hv : LIv dC dI cI cZ cL cJ A s b x mo i (wx, wm) H locs ls) (ih : ∀ (st2 : va_W × va_W) (H2 : Heap) (locs2 : List Loc) (ls2 : Array Slot), LIv dC dI cI cZ cL cJ A s b x mo (i + 1) st2 H2 locs2 ls2 → W p l e room_1 s m #[Value.ref b] below meth c H2 locs2 277 3929 (lw_Z below #[Value.ref b] s) (F0 m 18 ls2 [])) : W p l e room_1 s m #[Value.ref b] below meth c H locs 277 3929 (lw_Z below #[Value.ref b] s) (F0 m 1344 ls []) := by
  have hC0 := hC
  obtain ⟨hx, hb, hr, hml, hown, hts, hX, hbl, hlocks, hAd, hA, hbA, hK, hst, hL⟩ := hC
  obtain ⟨⟨Rl, Rn, zt, Tb, lf, Lv, An, Ac, I0, I1, Tz, Tc, hs, hIX, hIM⟩, hP, hD, hS, hl⟩ := hv
  refine lv_aload_n hx hb dL_law_1344 rfl (lv_at hl 2 rfl) ?_
  obtain ⟨fs_1, hd_1⟩ := isx_hd (ys := wm) hIX
  have hFc_1 := fr_l hD hS hA
  refine va_calli (va_runV (As := []) (rest := []) ⟨hx, hb, hml, hown, hts⟩ (w_X7_status l dC dI cI cZ cL cJ H.size x _ _ _ _ _ _ _ _ _ _ _ _ wx  hs hIX) (cwV 0 hts gL_law_X7_status rfl rfl rfl (by decide +kernel) ⟨Nat.le_of_ble_eq_true rfl, Nat.le_of_ble_eq_true rfl⟩) (pvL 7 hK hP hD hst hS hFc_1 rfl hd_1) rfl rfl hl.1 rfl (lv_room (Nat.le_of_ble_eq_true rfl)) dL_law_1345 ⟨Nat.le_of_ble_eq_true rfl, Nat.le_of_ble_eq_true rfl⟩) hS (fun q _ h => hFc_1 q h) hFc_1 (fun r_1 u_1 t_1 H1 locs ht hvm h_1 hB hz1 hk1 hS => ?_)
  obtain ⟨wx_1, hIX, hP1, hD1⟩ := hB
  rw [ht] at hP1
  obtain ⟨hP, hD⟩ := jn2 hP hD hk1 hFc_1 hP1 hD1
  generalize H1 = H at hP hS ⊢
  refine W.widen (k := 277) (n := 3929) (Nat.le_of_ble_eq_true rfl) (Nat.le_of_ble_eq_true rfl) ?_
  refine lv_pop hx hb dL_law_1348 rfl ?_
  refine lv_aload_n hx hb dL_law_1349 rfl (lv_at hl 1 rfl) ?_
  obtain ⟨fs_2, hd_2⟩ := ism_hd (ys := wx_1) hIM
  have hFc_2 := fr_l hD hS hA
  refine va_calli (va_runV (As := []) (rest := []) ⟨hx, hb, hml, hown, hts⟩ (w_X8_status l dC dI cI cZ cL cJ H.size mo _ _ _ _ _ _ _ _ _ _ _ _ wm  hIM) (cwV 0 hts gL_law_X8_status rfl rfl rfl (by decide +kernel) ⟨Nat.le_of_ble_eq_true rfl, Nat.le_of_ble_eq_true rfl⟩) (pvL 8 hK hP hD hst hS hFc_2 rfl hd_2) rfl rfl hl.1 rfl (lv_room (Nat.le_of_ble_eq_true rfl)) dL_law_1350 ⟨Nat.le_of_ble_eq_true rfl, Nat.le_of_ble_eq_true rfl⟩) hS (fun q _ h => hFc_2 q h) hFc_2 (fun r_2 u_2 t_2 H1 locs ht hvm h_2 hB hz1 hk1 hS => ?_)
  obtain ⟨wm_2, hIM, hP1, hD1⟩ := hB
  rw [ht] at hP1
  obtain ⟨hP, hD⟩ := jn2 hP hD hk1 hFc_2 hP1 hD1
  generalize H1 = H at hP hS ⊢
  refine W.widen (k := 277) (n := 3929) (Nat.le_of_ble_eq_true rfl) (Nat.le_of_ble_eq_true rfl) ?_
  refine lv_pop hx hb dL_law_1353 rfl ?_
  refine lv_goto (tgt := 1357) hx hb dL_law_1354 (by decide) ?_
  exact lw_tail hC0 hi ⟨⟨_, _, _, _, _, _, _, _, _, _, _, _, hs, hIX, hIM⟩, hP, hD, hS, hl⟩ ih

