set_option maxHeartbeats 4000000 in
set_option maxRecDepth 100000 in
theorem lw_c26 {p : Program} {l : Launch} {e : Env} {s : State} {m : MethodId} {below : List Frame} {meth : Method} {c : Code} {b : Nat} {xs : Nat → Int32} {dC : Nat → ClassId} {dI : Nat → Nat → Nat} {cI cZ cL cJ : ClassId} {A : Nat → Prop} {H : Heap} {locs : List Loc} {ls : Array Slot} {sc1 sc2 sc3 sc4 sc5 : Int32} {x mo : Nat} {ro : Nat} {it : Nat} {la : Nat} {le : Nat} {fl : Nat → Int32} {ta : Nat} {bs : Nat} {td : Nat} {t1 : Nat} {t2 : Nat} {t3 : Nat} {t4 : Nat} {t5 : Nat} {no : Nat} {n1 : Nat} {n2 : Nat} {n3 : Nat} {n4 : Nat} {n5 : Nat} {ac : Nat} {be : Nat} {im : Nat} {fi : Nat → Option Nat} {i0 : Nat} {x1 : Nat} {x2 : Nat} {x3 : Nat} {x4 : Nat} {x5 : Nat} {i1 : Nat} {y1 : Nat} {y2 : Nat} {y3 : Nat} {y4 : Nat} {y5 : Nat} {tr : Nat} {pl : Nat} {cs : Nat} {ak : Nat} {tc : Nat} {m_la : Nat} {m_sz : Nat} {m_it : Nat} {m_st : Nat} {m_mv : Nat} {m_tp : Nat} {m_rd : Nat} {m_ac : Nat} {m_as : Nat} {m_wo : Nat} {m_ik : Nat} {m_ke : Nat} {m_tr : Nat} {fm : Nat → Int32} (hx : p.tables.exec = Jvm.exec) (hb : c.code = code) (hr : meth.sig.returnType = ret) (hml : c.maxLocals = 4) (hown : s.vm.findClass RL = some m.cls) (hts : ∀ w ∈ wsL_law, w.before #[Value.ref b] s = true) (hX : va_X b 6 xs s s.heap) (hbl : b < s.heap.size) (hlocks : meth.locks = false) (hAd : A = fun q => s.heap.size ≤ q) (hA : ∀ q : Nat, s.heap.size ≤ q → A q) (hbA : ¬ A b) (hsc1 : sc1 = xs 1) (hsc2 : sc2 = xs 2) (hsc3 : sc3 = xs 3) (hsc4 : sc4 = xs 4) (hsc5 : sc5 = xs 5) (hfl : ∀ j : Nat, j < 8 → fl j = -1) (hf0 : fi 0 = some i0) (hf1 : fi 1 = some i1) (hfm : ∀ j : Nat, j < 8 → fm j = -1) (hK : va_K (dC, dI) vwCl [(cI, .int), (cZ, .boolean), (cL, .object RX3), (cJ, .array .int)] s) (hP : va_P (dC, dI) vwCl [(x, .inr (7, [.ref ro, .ref ta, .ref no, .ref ac, .ref im, .ref tr, .ref pl, .ref cs, .ref ak, .int 0, .int 0])), (ro, .inr (5, [.ref it, .ref la, .ref le])), (la, .inl (cI, 8, .inl fl)), (le, .inl (cI, 8, .inl (fun _ => 0))), (it, .inl (cJ, 8, .inr (.inr (.inr (.inr (fun i => if i < 8 then some (it + 1 + i) else none)))))), ((it + 1 + 0), .inl (cI, 40, .inl (fun _ => 0))), ((it + 1 + 1), .inl (cI, 40, .inl (fun _ => 0))), ((it + 1 + 2), .inl (cI, 40, .inl (fun _ => 0))), ((it + 1 + 3), .inl (cI, 40, .inl (fun _ => 0))), ((it + 1 + 4), .inl (cI, 40, .inl (fun _ => 0))), ((it + 1 + 5), .inl (cI, 40, .inl (fun _ => 0))), ((it + 1 + 6), .inl (cI, 40, .inl (fun _ => 0))), ((it + 1 + 7), .inl (cI, 40, .inl (fun _ => 0))), (ta, .inr (6, [.ref bs, .int 0, .ref td, .int 0, .int 0, .int 0])), (bs, .inl (cI, 120, .inl (fun _ => 0))), (td, .inr (3, [.int 0, .int 0, .int 0, .int 0, .int 0, .int 0, .int 0, .int 0, .ref t1, .ref t2, .ref t3, .ref t4, .ref t5])), (no, .inr (3, [.int 0, .int 0, .int 0, .int 0, .int 0, .int 0, .int 0, .int 0, .ref n1, .ref n2, .ref n3, .ref n4, .ref n5])), (ac, .inr (0, [.ref be, .int 0, .int 0])), (im, .inl (cL, 2, .inr (.inr (.inr (.inr fi))))), (i0, .inr (3, [.int 0, .int 0, .int 0, .int 0, .int 0, .int 0, .int 0, .int 0, .ref x1, .ref x2, .ref x3, .ref x4, .ref x5])), (i1, .inr (3, [.int 0, .int 0, .int 0, .int 0, .int 0, .int 0, .int 0, .int 0, .ref y1, .ref y2, .ref y3, .ref y4, .ref y5])), (ak, .inr (1, [.ref tc, .int 0, .int 0, .int 0, .int 0, .int 0])), (mo, .inr (8, [.ref m_la, .ref m_sz, .ref m_it, .int 0, .int 0, .ref m_st, .ref m_mv, .ref m_tp, .int 0, .int 0, .int 0, .int 0, .int 0, .int 0, .int 0, .ref m_rd, .ref m_ac, .int 0, .ref m_as, .ref m_wo, .ref m_ik, .ref m_ke, .ref m_tr, .int 0])), (m_sz, .inl (cI, 8, .inl fm)), (m_st, .inl (cI, 38, .inl (fun _ => 0))), (m_ik, .inl (cZ, 2, .inl (fun _ => 0))), (m_la, .inl (cI, 8, .inl (fun _ => 0))), (m_it, .inl (cI, 320, .inl (fun _ => 0))), (m_tp, .inl (cI, 120, .inl (fun _ => 0))), (m_rd, .inl (cI, 38, .inl (fun _ => 0)))] H) (hD : va_D A [(x, .inr (7, [.ref ro, .ref ta, .ref no, .ref ac, .ref im, .ref tr, .ref pl, .ref cs, .ref ak, .int 0, .int 0])), (ro, .inr (5, [.ref it, .ref la, .ref le])), (la, .inl (cI, 8, .inl fl)), (le, .inl (cI, 8, .inl (fun _ => 0))), (it, .inl (cJ, 8, .inr (.inr (.inr (.inr (fun i => if i < 8 then some (it + 1 + i) else none)))))), ((it + 1 + 0), .inl (cI, 40, .inl (fun _ => 0))), ((it + 1 + 1), .inl (cI, 40, .inl (fun _ => 0))), ((it + 1 + 2), .inl (cI, 40, .inl (fun _ => 0))), ((it + 1 + 3), .inl (cI, 40, .inl (fun _ => 0))), ((it + 1 + 4), .inl (cI, 40, .inl (fun _ => 0))), ((it + 1 + 5), .inl (cI, 40, .inl (fun _ => 0))), ((it + 1 + 6), .inl (cI, 40, .inl (fun _ => 0))), ((it + 1 + 7), .inl (cI, 40, .inl (fun _ => 0))), (ta, .inr (6, [.ref bs, .int 0, .ref td, .int 0, .int 0, .int 0])), (bs, .inl (cI, 120, .inl (fun _ => 0))), (td, .inr (3, [.int 0, .int 0, .int 0, .int 0, .int 0, .int 0, .int 0, .int 0, .ref t1, .ref t2, .ref t3, .ref t4, .ref t5])), (no, .inr (3, [.int 0, .int 0, .int 0, .int 0, .int 0, .int 0, .int 0, .int 0, .ref n1, .ref n2, .ref n3, .ref n4, .ref n5])), (ac, .inr (0, [.ref be, .int 0, .int 0])), (im, .inl (cL, 2, .inr (.inr (.inr (.inr fi))))), (i0, .inr (3, [.int 0, .int 0, .int 0, .int 0, .int 0, .int 0, .int 0, .int 0, .ref x1, .ref x2, .ref x3, .ref x4, .ref x5])), (i1, .inr (3, [.int 0, .int 0, .int 0, .int 0, .int 0, .int 0, .int 0, .int 0, .ref y1, .ref y2, .ref y3, .ref y4, .ref y5])), (ak, .inr (1, [.ref tc, .int 0, .int 0, .int 0, .int 0, .int 0])), (mo, .inr (8, [.ref m_la, .ref m_sz, .ref m_it, .int 0, .int 0, .ref m_st, .ref m_mv, .ref m_tp, .int 0, .int 0, .int 0, .int 0, .int 0, .int 0, .int 0, .ref m_rd, .ref m_ac, .int 0, .ref m_as, .ref m_wo, .ref m_ik, .ref m_ke, .ref m_tr, .int 0])), (m_sz, .inl (cI, 8, .inl fm)), (m_st, .inl (cI, 38, .inl (fun _ => 0))), (m_ik, .inl (cZ, 2, .inl (fun _ => 0))), (m_la, .inl (cI, 8, .inl (fun _ => 0))), (m_it, .inl (cI, 320, .inl (fun _ => 0))), (m_tp, .inl (cI, 120, .inl (fun _ => 0))), (m_rd, .inl (cI, 38, .inl (fun _ => 0)))]) (hS : va_S A s.heap H locs) (hl : lv_has ls 4 [(3, .int 0), (2, .ref mo), (1, .ref x), (0, .ref b)]) : W p l e room_1 s m #[Value.ref b] below meth c H locs 277 3929 (lw_Z below #[Value.ref b] s) (F0 m 1004 ls []) := by
  refine lv_aload_n hx hb dL_law_1004 rfl (lv_at hl 2 rfl) ?_
  refine lv_aload_n hx hb dL_law_1005 rfl (lv_at hl 3 rfl) ?_
  refine lv_iload_n hx hb dL_law_1006 rfl (lv_at hl 0 rfl) ?_
  refine lv_iconst (v := 1) hx hb dL_law_1007 (by decide) ?_
  refine lv_iadd hx hb dL_law_1008 ?_
  refine lv_topi (fun v_1 e_1 => ?_)
  obtain rfl : v_1 = 1 := (e_1).trans (by decide)
  refine va_sld hx hb hX hbl hbA hS (by unfold vp_in; decide) dL_law_1009 ?_
  refine lv_topi (fun v_2 e_2 => ?_)
  obtain rfl : sc1 = v_2 := ((e_2).trans hsc1.symm).symm
  refine lv_aload_n hx hb dL_law_1010 rfl (lv_at hl 3 rfl) ?_
  refine lv_iload_n hx hb dL_law_1011 rfl (lv_at hl 0 rfl) ?_
  refine lv_iconst (v := 2) hx hb dL_law_1012 (by decide) ?_
  refine lv_iadd hx hb dL_law_1013 ?_
  refine lv_topi (fun v_3 e_3 => ?_)
  obtain rfl : v_3 = 2 := (e_3).trans (by decide)
  refine va_sld hx hb hX hbl hbA hS (by unfold vp_in; decide) dL_law_1014 ?_
  refine lv_topi (fun v_4 e_4 => ?_)
  obtain rfl : sc2 = v_4 := ((e_4).trans hsc2.symm).symm
  refine lv_aload_n hx hb dL_law_1015 rfl (lv_at hl 3 rfl) ?_
  refine lv_iload_n hx hb dL_law_1016 rfl (lv_at hl 0 rfl) ?_
  refine lv_iconst (v := 3) hx hb dL_law_1017 (by decide) ?_
  refine lv_iadd hx hb dL_law_1018 ?_
  refine lv_topi (fun v_5 e_5 => ?_)
  obtain rfl : v_5 = 3 := (e_5).trans (by decide)
  refine va_sld hx hb hX hbl hbA hS (by unfold vp_in; decide) dL_law_1019 ?_
  refine lv_topi (fun v_6 e_6 => ?_)
  obtain rfl : sc3 = v_6 := ((e_6).trans hsc3.symm).symm
  refine lv_aload_n hx hb dL_law_1020 rfl (lv_at hl 3 rfl) ?_
  refine lv_iload_n hx hb dL_law_1021 rfl (lv_at hl 0 rfl) ?_
  refine lv_iconst (v := 4) hx hb dL_law_1022 (by decide) ?_
  refine lv_iadd hx hb dL_law_1023 ?_
  refine lv_topi (fun v_7 e_7 => ?_)
  obtain rfl : v_7 = 4 := (e_7).trans (by decide)
  refine va_sld hx hb hX hbl hbA hS (by unfold vp_in; decide) dL_law_1024 ?_
  refine lv_topi (fun v_8 e_8 => ?_)
  obtain rfl : sc4 = v_8 := ((e_8).trans hsc4.symm).symm
  refine lv_aload_n hx hb dL_law_1025 rfl (lv_at hl 3 rfl) ?_
  refine lv_iload_n hx hb dL_law_1026 rfl (lv_at hl 0 rfl) ?_
  refine lv_iconst (v := 5) hx hb dL_law_1027 (by decide) ?_
  refine lv_iadd hx hb dL_law_1028 ?_
  refine lv_topi (fun v_9 e_9 => ?_)
  obtain rfl : v_9 = 5 := (e_9).trans (by decide)
  refine va_sld hx hb hX hbl hbA hS (by unfold vp_in; decide) dL_law_1029 ?_
  refine lv_topi (fun v_10 e_10 => ?_)
  obtain rfl : sc5 = v_10 := ((e_10).trans hsc5.symm).symm
  have hPc_11 := hP.sub (ws' := [(x, .inr (7, [.ref ro, .ref ta, .ref no, .ref ac, .ref im, .ref tr, .ref pl, .ref cs, .ref ak, .int 0, .int 0])), (no, .inr (3, [.int 0, .int 0, .int 0, .int 0, .int 0, .int 0, .int 0, .int 0, .ref n1, .ref n2, .ref n3, .ref n4, .ref n5]))]) [0, 16] rfl
  refine vp_callSi (W.runV (As := [.int sc1, .int sc2, .int sc3, .int sc4, .int sc5]) (rest := []) ⟨hx, hb, hml, hown, hts⟩ (c_X7_gusts l dC dI cI cZ cL cJ x ro ta no ac im tr pl cs ak n1 n2 n3 n4 n5 sc1 sc2 sc3 sc4 sc5 ) (cwV 5 hts gL_law_X7_gusts rfl rfl rfl (by decide +kernel) ⟨Nat.le_of_ble_eq_true rfl, Nat.le_of_ble_eq_true rfl⟩) ⟨fun a U g mk q => by obtain ⟨q0, qP, qK⟩ := q; exact ⟨q0, qP, va_K.moved (u := U) (U := U.calling g mk a) (Vm.Alike.refl U.vm) qK⟩, va_recv hK hP (ci := 7) (q0 := 0) rfl rfl, fun U hU hW => ⟨rfl, by rw [hU]; exact hPc_11, va_K.moved hW.alike hK⟩⟩ rfl rfl hl.1 rfl (lv_room (Nat.le_of_ble_eq_true rfl)) dL_law_1030 ⟨Nat.le_of_ble_eq_true rfl, Nat.le_of_ble_eq_true rfl⟩) (fun r_11 h_11 => ?_)
  subst h_11
  refine lv_aload_n hx hb dL_law_1033 rfl (lv_at hl 1 rfl) ?_
  refine lv_aload_n hx hb dL_law_1034 rfl (lv_at hl 3 rfl) ?_
  refine lv_iload_n hx hb dL_law_1035 rfl (lv_at hl 0 rfl) ?_
  refine lv_iconst (v := 1) hx hb dL_law_1036 (by decide) ?_
  refine lv_iadd hx hb dL_law_1037 ?_
  refine lv_topi (fun v_12 e_12 => ?_)
  obtain rfl : v_12 = 1 := (e_12).trans (by decide)
  refine va_sld hx hb hX hbl hbA hS (by unfold vp_in; decide) dL_law_1038 ?_
  refine lv_topi (fun v_13 e_13 => ?_)
  obtain rfl : sc1 = v_13 := ((e_13).trans hsc1.symm).symm
  refine lv_aload_n hx hb dL_law_1039 rfl (lv_at hl 3 rfl) ?_
  refine lv_iload_n hx hb dL_law_1040 rfl (lv_at hl 0 rfl) ?_
  refine lv_iconst (v := 2) hx hb dL_law_1041 (by decide) ?_
  refine lv_iadd hx hb dL_law_1042 ?_
  refine lv_topi (fun v_14 e_14 => ?_)
  obtain rfl : v_14 = 2 := (e_14).trans (by decide)
  refine va_sld hx hb hX hbl hbA hS (by unfold vp_in; decide) dL_law_1043 ?_
  refine lv_topi (fun v_15 e_15 => ?_)
  obtain rfl : sc2 = v_15 := ((e_15).trans hsc2.symm).symm
  refine lv_aload_n hx hb dL_law_1044 rfl (lv_at hl 3 rfl) ?_
  refine lv_iload_n hx hb dL_law_1045 rfl (lv_at hl 0 rfl) ?_
  refine lv_iconst (v := 3) hx hb dL_law_1046 (by decide) ?_
  refine lv_iadd hx hb dL_law_1047 ?_
  refine lv_topi (fun v_16 e_16 => ?_)
  obtain rfl : v_16 = 3 := (e_16).trans (by decide)
  refine va_sld hx hb hX hbl hbA hS (by unfold vp_in; decide) dL_law_1048 ?_
  refine lv_topi (fun v_17 e_17 => ?_)
  obtain rfl : sc3 = v_17 := ((e_17).trans hsc3.symm).symm
  refine lv_aload_n hx hb dL_law_1049 rfl (lv_at hl 3 rfl) ?_
  refine lv_iload_n hx hb dL_law_1050 rfl (lv_at hl 0 rfl) ?_
  refine lv_iconst (v := 4) hx hb dL_law_1051 (by decide) ?_
  refine lv_iadd hx hb dL_law_1052 ?_
  refine lv_topi (fun v_18 e_18 => ?_)
  obtain rfl : v_18 = 4 := (e_18).trans (by decide)
  refine va_sld hx hb hX hbl hbA hS (by unfold vp_in; decide) dL_law_1053 ?_
  refine lv_topi (fun v_19 e_19 => ?_)
  obtain rfl : sc4 = v_19 := ((e_19).trans hsc4.symm).symm
  refine lv_aload_n hx hb dL_law_1054 rfl (lv_at hl 3 rfl) ?_
  refine lv_iload_n hx hb dL_law_1055 rfl (lv_at hl 0 rfl) ?_
  refine lv_iconst (v := 5) hx hb dL_law_1056 (by decide) ?_
  refine lv_iadd hx hb dL_law_1057 ?_
  refine lv_topi (fun v_20 e_20 => ?_)
  obtain rfl : v_20 = 5 := (e_20).trans (by decide)
  refine va_sld hx hb hX hbl hbA hS (by unfold vp_in; decide) dL_law_1058 ?_
  refine lv_topi (fun v_21 e_21 => ?_)
  obtain rfl : sc5 = v_21 := ((e_21).trans hsc5.symm).symm
  have hPc_22 := hP.sub (ws' := [(mo, .inr (8, [.ref m_la, .ref m_sz, .ref m_it, .int 0, .int 0, .ref m_st, .ref m_mv, .ref m_tp, .int 0, .int 0, .int 0, .int 0, .int 0, .int 0, .int 0, .ref m_rd, .ref m_ac, .int 0, .ref m_as, .ref m_wo, .ref m_ik, .ref m_ke, .ref m_tr, .int 0])), (m_st, .inl (cI, 38, .inl (fun _ => 0)))]) [22, 24] rfl
  refine vp_callSi (W.runV (As := [.int sc1, .int sc2, .int sc3, .int sc4, .int sc5]) (rest := [.int (-1000001)]) ⟨hx, hb, hml, hown, hts⟩ (c_X8_gusts l dC dI cI cZ cL cJ mo m_la m_sz m_it m_st m_mv m_tp m_rd m_ac m_as m_wo m_ik m_ke m_tr sc1 sc2 sc3 sc4 sc5 ) (cwV 5 hts gL_law_X8_gusts rfl rfl rfl (by decide +kernel) ⟨Nat.le_of_ble_eq_true rfl, Nat.le_of_ble_eq_true rfl⟩) ⟨fun a U g mk q => by obtain ⟨q0, qP, qK⟩ := q; exact ⟨q0, qP, va_K.moved (u := U) (U := U.calling g mk a) (Vm.Alike.refl U.vm) qK⟩, va_recv hK hP (ci := 8) (q0 := 22) rfl rfl, fun U hU hW => ⟨rfl, by rw [hU]; exact hPc_22, va_K.moved hW.alike hK⟩⟩ rfl rfl hl.1 rfl (lv_room (Nat.le_of_ble_eq_true rfl)) dL_law_1059 ⟨Nat.le_of_ble_eq_true rfl, Nat.le_of_ble_eq_true rfl⟩) (fun r_22 h_22 => ?_)
  subst h_22
  refine lv_icmp_eq (tgt := 1358) hx hb dL_law_1062 (by decide) (fun _ => ?_) (fun c_ => absurd (by decide) c_)
  refine lv_iinc (v := 6) (lv' := [(3, .int 6), (2, .ref mo), (1, .ref x), (0, .ref b)]) hx hb dL_law_1358 hl (k := 0) rfl (by decide) (by decide) rfl (fun ls hl => ?_)
  refine lv_goto (tgt := 18) hx hb dL_law_1361 (by decide) ?_
  refine lv_iload_n hx hb dL_law_18 rfl (lv_at hl 0 rfl) ?_
  refine lv_aload_n hx hb dL_law_19 rfl (lv_at hl 3 rfl) ?_
  refine va_slen hx hb hX hbl hbA hS dL_law_20 ?_
  refine lv_topi (fun v_24 e_24 => ?_)
  obtain rfl : v_24 = 6 := (e_24).trans (by decide)
  refine lv_bipush (v := 6) hx hb dL_law_21 (by decide) ?_
  refine lv_isub hx hb dL_law_23 ?_
  refine lv_topi (fun v_25 e_25 => ?_)
  obtain rfl : v_25 = 0 := (e_25).trans (by decide)
  refine lv_icmp_gt (tgt := 1364) hx hb dL_law_24 (by decide) (fun _ => ?_) (fun c_ => absurd (by decide) c_)
  refine lv_iconst (v := 1) hx hb dL_law_1364 (by decide) ?_
  refine va_forget (fun q hq => by have q9 := hS.2.2 q hq; rw [hAd] at q9; exact q9) ?_
  refine W.widen (k := 600000) (n := 7302250) (Nat.le_of_ble_eq_true rfl) (Nat.le_of_ble_eq_true rfl) ?_
  exact lw_ret hx hb hr hlocks dL_law_1365
set_option maxHeartbeats 4000000 in
set_option maxRecDepth 100000 in
theorem lw_c27 {p : Program} {l : Launch} {e : Env} {s : State} {m : MethodId} {below : List Frame} {meth : Method} {c : Code} {b : Nat} {xs : Nat → Int32} {dC : Nat → ClassId} {dI : Nat → Nat → Nat} {cI cZ cL cJ : ClassId} {A : Nat → Prop} {H : Heap} {locs : List Loc} {ls : Array Slot} {sc1 sc2 sc3 sc4 sc5 : Int32} {x mo : Nat} {ro : Nat} {it : Nat} {la : Nat} {le : Nat} {fl : Nat → Int32} {ta : Nat} {bs : Nat} {td : Nat} {t1 : Nat} {t2 : Nat} {t3 : Nat} {t4 : Nat} {t5 : Nat} {no : Nat} {n1 : Nat} {n2 : Nat} {n3 : Nat} {n4 : Nat} {n5 : Nat} {ac : Nat} {be : Nat} {im : Nat} {fi : Nat → Option Nat} {i0 : Nat} {x1 : Nat} {x2 : Nat} {x3 : Nat} {x4 : Nat} {x5 : Nat} {i1 : Nat} {y1 : Nat} {y2 : Nat} {y3 : Nat} {y4 : Nat} {y5 : Nat} {tr : Nat} {pl : Nat} {cs : Nat} {ak : Nat} {tc : Nat} {m_la : Nat} {m_sz : Nat} {m_it : Nat} {m_st : Nat} {m_mv : Nat} {m_tp : Nat} {m_rd : Nat} {m_ac : Nat} {m_as : Nat} {m_wo : Nat} {m_ik : Nat} {m_ke : Nat} {m_tr : Nat} {fm : Nat → Int32} (hx : p.tables.exec = Jvm.exec) (hb : c.code = code) (hr : meth.sig.returnType = ret) (hml : c.maxLocals = 4) (hown : s.vm.findClass RL = some m.cls) (hts : ∀ w ∈ wsL_law, w.before #[Value.ref b] s = true) (hX : va_X b 6 xs s s.heap) (hbl : b < s.heap.size) (hlocks : meth.locks = false) (hAd : A = fun q => s.heap.size ≤ q) (hA : ∀ q : Nat, s.heap.size ≤ q → A q) (hbA : ¬ A b) (hsc1 : sc1 = xs 1) (hsc2 : sc2 = xs 2) (hsc3 : sc3 = xs 3) (hsc4 : sc4 = xs 4) (hsc5 : sc5 = xs 5) (hfl : ∀ j : Nat, j < 8 → fl j = -1) (hf0 : fi 0 = some i0) (hf1 : fi 1 = some i1) (hfm : ∀ j : Nat, j < 8 → fm j = -1) (hK : va_K (dC, dI) vwCl [(cI, .int), (cZ, .boolean), (cL, .object RX3), (cJ, .array .int)] s) (hP : va_P (dC, dI) vwCl [(x, .inr (7, [.ref ro, .ref ta, .ref no, .ref ac, .ref im, .ref tr, .ref pl, .ref cs, .ref ak, .int 0, .int 0])), (ro, .inr (5, [.ref it, .ref la, .ref le])), (la, .inl (cI, 8, .inl fl)), (le, .inl (cI, 8, .inl (fun _ => 0))), (it, .inl (cJ, 8, .inr (.inr (.inr (.inr (fun i => if i < 8 then some (it + 1 + i) else none)))))), ((it + 1 + 0), .inl (cI, 40, .inl (fun _ => 0))), ((it + 1 + 1), .inl (cI, 40, .inl (fun _ => 0))), ((it + 1 + 2), .inl (cI, 40, .inl (fun _ => 0))), ((it + 1 + 3), .inl (cI, 40, .inl (fun _ => 0))), ((it + 1 + 4), .inl (cI, 40, .inl (fun _ => 0))), ((it + 1 + 5), .inl (cI, 40, .inl (fun _ => 0))), ((it + 1 + 6), .inl (cI, 40, .inl (fun _ => 0))), ((it + 1 + 7), .inl (cI, 40, .inl (fun _ => 0))), (ta, .inr (6, [.ref bs, .int 0, .ref td, .int 0, .int 0, .int 0])), (bs, .inl (cI, 120, .inl (fun _ => 0))), (td, .inr (3, [.int 0, .int 0, .int 0, .int 0, .int 0, .int 0, .int 0, .int 0, .ref t1, .ref t2, .ref t3, .ref t4, .ref t5])), (no, .inr (3, [.int 0, .int 0, .int 0, .int 0, .int 0, .int 0, .int 0, .int 0, .ref n1, .ref n2, .ref n3, .ref n4, .ref n5])), (ac, .inr (0, [.ref be, .int 0, .int 0])), (im, .inl (cL, 2, .inr (.inr (.inr (.inr fi))))), (i0, .inr (3, [.int 0, .int 0, .int 0, .int 0, .int 0, .int 0, .int 0, .int 0, .ref x1, .ref x2, .ref x3, .ref x4, .ref x5])), (i1, .inr (3, [.int 0, .int 0, .int 0, .int 0, .int 0, .int 0, .int 0, .int 0, .ref y1, .ref y2, .ref y3, .ref y4, .ref y5])), (ak, .inr (1, [.ref tc, .int 0, .int 0, .int 0, .int 0, .int 0])), (mo, .inr (8, [.ref m_la, .ref m_sz, .ref m_it, .int 0, .int 0, .ref m_st, .ref m_mv, .ref m_tp, .int 0, .int 0, .int 0, .int 0, .int 0, .int 0, .int 0, .ref m_rd, .ref m_ac, .int 0, .ref m_as, .ref m_wo, .ref m_ik, .ref m_ke, .ref m_tr, .int 0])), (m_sz, .inl (cI, 8, .inl fm)), (m_st, .inl (cI, 38, .inl (fun _ => 0))), (m_ik, .inl (cZ, 2, .inl (fun _ => 0))), (m_la, .inl (cI, 8, .inl (fun _ => 0))), (m_it, .inl (cI, 320, .inl (fun _ => 0))), (m_tp, .inl (cI, 120, .inl (fun _ => 0))), (m_rd, .inl (cI, 38, .inl (fun _ => 0)))] H) (hD : va_D A [(x, .inr (7, [.ref ro, .ref ta, .ref no, .ref ac, .ref im, .ref tr, .ref pl, .ref cs, .ref ak, .int 0, .int 0])), (ro, .inr (5, [.ref it, .ref la, .ref le])), (la, .inl (cI, 8, .inl fl)), (le, .inl (cI, 8, .inl (fun _ => 0))), (it, .inl (cJ, 8, .inr (.inr (.inr (.inr (fun i => if i < 8 then some (it + 1 + i) else none)))))), ((it + 1 + 0), .inl (cI, 40, .inl (fun _ => 0))), ((it + 1 + 1), .inl (cI, 40, .inl (fun _ => 0))), ((it + 1 + 2), .inl (cI, 40, .inl (fun _ => 0))), ((it + 1 + 3), .inl (cI, 40, .inl (fun _ => 0))), ((it + 1 + 4), .inl (cI, 40, .inl (fun _ => 0))), ((it + 1 + 5), .inl (cI, 40, .inl (fun _ => 0))), ((it + 1 + 6), .inl (cI, 40, .inl (fun _ => 0))), ((it + 1 + 7), .inl (cI, 40, .inl (fun _ => 0))), (ta, .inr (6, [.ref bs, .int 0, .ref td, .int 0, .int 0, .int 0])), (bs, .inl (cI, 120, .inl (fun _ => 0))), (td, .inr (3, [.int 0, .int 0, .int 0, .int 0, .int 0, .int 0, .int 0, .int 0, .ref t1, .ref t2, .ref t3, .ref t4, .ref t5])), (no, .inr (3, [.int 0, .int 0, .int 0, .int 0, .int 0, .int 0, .int 0, .int 0, .ref n1, .ref n2, .ref n3, .ref n4, .ref n5])), (ac, .inr (0, [.ref be, .int 0, .int 0])), (im, .inl (cL, 2, .inr (.inr (.inr (.inr fi))))), (i0, .inr (3, [.int 0, .int 0, .int 0, .int 0, .int 0, .int 0, .int 0, .int 0, .ref x1, .ref x2, .ref x3, .ref x4, .ref x5])), (i1, .inr (3, [.int 0, .int 0, .int 0, .int 0, .int 0, .int 0, .int 0, .int 0, .ref y1, .ref y2, .ref y3, .ref y4, .ref y5])), (ak, .inr (1, [.ref tc, .int 0, .int 0, .int 0, .int 0, .int 0])), (mo, .inr (8, [.ref m_la, .ref m_sz, .ref m_it, .int 0, .int 0, .ref m_st, .ref m_mv, .ref m_tp, .int 0, .int 0, .int 0, .int 0, .int 0, .int 0, .int 0, .ref m_rd, .ref m_ac, .int 0, .ref m_as, .ref m_wo, .ref m_ik, .ref m_ke, .ref m_tr, .int 0])), (m_sz, .inl (cI, 8, .inl fm)), (m_st, .inl (cI, 38, .inl (fun _ => 0))), (m_ik, .inl (cZ, 2, .inl (fun _ => 0))), (m_la, .inl (cI, 8, .inl (fun _ => 0))), (m_it, .inl (cI, 320, .inl (fun _ => 0))), (m_tp, .inl (cI, 120, .inl (fun _ => 0))), (m_rd, .inl (cI, 38, .inl (fun _ => 0)))]) (hS : va_S A s.heap H locs) (hl : lv_has ls 4 [(3, .int 0), (2, .ref mo), (1, .ref x), (0, .ref b)]) : W p l e room_1 s m #[Value.ref b] below meth c H locs 277 3929 (lw_Z below #[Value.ref b] s) (F0 m 1067 ls []) := by
  refine lv_aload_n hx hb dL_law_1067 rfl (lv_at hl 2 rfl) ?_
  refine lv_aload_n hx hb dL_law_1068 rfl (lv_at hl 3 rfl) ?_
  refine lv_iload_n hx hb dL_law_1069 rfl (lv_at hl 0 rfl) ?_
  refine lv_iconst (v := 1) hx hb dL_law_1070 (by decide) ?_
  refine lv_iadd hx hb dL_law_1071 ?_
  refine lv_topi (fun v_1 e_1 => ?_)
  obtain rfl : v_1 = 1 := (e_1).trans (by decide)
  refine va_sld hx hb hX hbl hbA hS (by unfold vp_in; decide) dL_law_1072 ?_
  refine lv_topi (fun v_2 e_2 => ?_)
  obtain rfl : sc1 = v_2 := ((e_2).trans hsc1.symm).symm
  refine lv_aload_n hx hb dL_law_1073 rfl (lv_at hl 3 rfl) ?_
  refine lv_iload_n hx hb dL_law_1074 rfl (lv_at hl 0 rfl) ?_
  refine lv_iconst (v := 2) hx hb dL_law_1075 (by decide) ?_
  refine lv_iadd hx hb dL_law_1076 ?_
  refine lv_topi (fun v_3 e_3 => ?_)
  obtain rfl : v_3 = 2 := (e_3).trans (by decide)
  refine va_sld hx hb hX hbl hbA hS (by unfold vp_in; decide) dL_law_1077 ?_
  refine lv_topi (fun v_4 e_4 => ?_)
  obtain rfl : sc2 = v_4 := ((e_4).trans hsc2.symm).symm
  refine lv_aload_n hx hb dL_law_1078 rfl (lv_at hl 3 rfl) ?_
  refine lv_iload_n hx hb dL_law_1079 rfl (lv_at hl 0 rfl) ?_
  refine lv_iconst (v := 3) hx hb dL_law_1080 (by decide) ?_
  refine lv_iadd hx hb dL_law_1081 ?_
  refine lv_topi (fun v_5 e_5 => ?_)
  obtain rfl : v_5 = 3 := (e_5).trans (by decide)
  refine va_sld hx hb hX hbl hbA hS (by unfold vp_in; decide) dL_law_1082 ?_
  refine lv_topi (fun v_6 e_6 => ?_)
  obtain rfl : sc3 = v_6 := ((e_6).trans hsc3.symm).symm
  refine lv_aload_n hx hb dL_law_1083 rfl (lv_at hl 3 rfl) ?_
  refine lv_iload_n hx hb dL_law_1084 rfl (lv_at hl 0 rfl) ?_
  refine lv_iconst (v := 4) hx hb dL_law_1085 (by decide) ?_
  refine lv_iadd hx hb dL_law_1086 ?_
  refine lv_topi (fun v_7 e_7 => ?_)
  obtain rfl : v_7 = 4 := (e_7).trans (by decide)
  refine va_sld hx hb hX hbl hbA hS (by unfold vp_in; decide) dL_law_1087 ?_
  refine lv_topi (fun v_8 e_8 => ?_)
  obtain rfl : sc4 = v_8 := ((e_8).trans hsc4.symm).symm
  have hPc_9 := hP.sub (ws' := [(x, .inr (7, [.ref ro, .ref ta, .ref no, .ref ac, .ref im, .ref tr, .ref pl, .ref cs, .ref ak, .int 0, .int 0])), (no, .inr (3, [.int 0, .int 0, .int 0, .int 0, .int 0, .int 0, .int 0, .int 0, .ref n1, .ref n2, .ref n3, .ref n4, .ref n5]))]) [0, 16] rfl
  refine vp_callSl (W.runV (As := [.int sc1, .int sc2, .int sc3, .int sc4]) (rest := []) ⟨hx, hb, hml, hown, hts⟩ (c_X7_calm l dC dI cI cZ cL cJ x ro ta no ac im tr pl cs ak n1 n2 n3 n4 n5 sc1 sc2 sc3 sc4 ) (cwV 4 hts gL_law_X7_calm rfl rfl rfl (by decide +kernel) ⟨Nat.le_of_ble_eq_true rfl, Nat.le_of_ble_eq_true rfl⟩) ⟨fun a U g mk q => by obtain ⟨q0, qP, qK⟩ := q; exact ⟨q0, qP, va_K.moved (u := U) (U := U.calling g mk a) (Vm.Alike.refl U.vm) qK⟩, va_recv hK hP (ci := 7) (q0 := 0) rfl rfl, fun U hU hW => ⟨rfl, by rw [hU]; exact hPc_9, va_K.moved hW.alike hK⟩⟩ rfl rfl hl.1 rfl (lv_room (Nat.le_of_ble_eq_true rfl)) dL_law_1088 ⟨Nat.le_of_ble_eq_true rfl, Nat.le_of_ble_eq_true rfl⟩) (fun r_9 h_9 => ?_)
  subst h_9
  refine lv_aload_n hx hb dL_law_1091 rfl (lv_at hl 1 rfl) ?_
  refine lv_aload_n hx hb dL_law_1092 rfl (lv_at hl 3 rfl) ?_
  refine lv_iload_n hx hb dL_law_1093 rfl (lv_at hl 0 rfl) ?_
  refine lv_iconst (v := 1) hx hb dL_law_1094 (by decide) ?_
  refine lv_iadd hx hb dL_law_1095 ?_
  refine lv_topi (fun v_10 e_10 => ?_)
  obtain rfl : v_10 = 1 := (e_10).trans (by decide)
  refine va_sld hx hb hX hbl hbA hS (by unfold vp_in; decide) dL_law_1096 ?_
  refine lv_topi (fun v_11 e_11 => ?_)
  obtain rfl : sc1 = v_11 := ((e_11).trans hsc1.symm).symm
  refine lv_aload_n hx hb dL_law_1097 rfl (lv_at hl 3 rfl) ?_
  refine lv_iload_n hx hb dL_law_1098 rfl (lv_at hl 0 rfl) ?_
  refine lv_iconst (v := 2) hx hb dL_law_1099 (by decide) ?_
  refine lv_iadd hx hb dL_law_1100 ?_
  refine lv_topi (fun v_12 e_12 => ?_)
  obtain rfl : v_12 = 2 := (e_12).trans (by decide)
  refine va_sld hx hb hX hbl hbA hS (by unfold vp_in; decide) dL_law_1101 ?_
  refine lv_topi (fun v_13 e_13 => ?_)
  obtain rfl : sc2 = v_13 := ((e_13).trans hsc2.symm).symm
  refine lv_aload_n hx hb dL_law_1102 rfl (lv_at hl 3 rfl) ?_
  refine lv_iload_n hx hb dL_law_1103 rfl (lv_at hl 0 rfl) ?_
  refine lv_iconst (v := 3) hx hb dL_law_1104 (by decide) ?_
  refine lv_iadd hx hb dL_law_1105 ?_
  refine lv_topi (fun v_14 e_14 => ?_)
  obtain rfl : v_14 = 3 := (e_14).trans (by decide)
  refine va_sld hx hb hX hbl hbA hS (by unfold vp_in; decide) dL_law_1106 ?_
  refine lv_topi (fun v_15 e_15 => ?_)
  obtain rfl : sc3 = v_15 := ((e_15).trans hsc3.symm).symm
  refine lv_aload_n hx hb dL_law_1107 rfl (lv_at hl 3 rfl) ?_
  refine lv_iload_n hx hb dL_law_1108 rfl (lv_at hl 0 rfl) ?_
  refine lv_iconst (v := 4) hx hb dL_law_1109 (by decide) ?_
  refine lv_iadd hx hb dL_law_1110 ?_
  refine lv_topi (fun v_16 e_16 => ?_)
  obtain rfl : v_16 = 4 := (e_16).trans (by decide)
  refine va_sld hx hb hX hbl hbA hS (by unfold vp_in; decide) dL_law_1111 ?_
  refine lv_topi (fun v_17 e_17 => ?_)
  obtain rfl : sc4 = v_17 := ((e_17).trans hsc4.symm).symm
  have hPc_18 := hP.sub (ws' := [(mo, .inr (8, [.ref m_la, .ref m_sz, .ref m_it, .int 0, .int 0, .ref m_st, .ref m_mv, .ref m_tp, .int 0, .int 0, .int 0, .int 0, .int 0, .int 0, .int 0, .ref m_rd, .ref m_ac, .int 0, .ref m_as, .ref m_wo, .ref m_ik, .ref m_ke, .ref m_tr, .int 0])), (m_st, .inl (cI, 38, .inl (fun _ => 0)))]) [22, 24] rfl
  refine vp_callSl (W.runV (As := [.int sc1, .int sc2, .int sc3, .int sc4]) (rest := [.long (-1000001)]) ⟨hx, hb, hml, hown, hts⟩ (c_X8_calm l dC dI cI cZ cL cJ mo m_la m_sz m_it m_st m_mv m_tp m_rd m_ac m_as m_wo m_ik m_ke m_tr sc1 sc2 sc3 sc4 ) (cwV 4 hts gL_law_X8_calm rfl rfl rfl (by decide +kernel) ⟨Nat.le_of_ble_eq_true rfl, Nat.le_of_ble_eq_true rfl⟩) ⟨fun a U g mk q => by obtain ⟨q0, qP, qK⟩ := q; exact ⟨q0, qP, va_K.moved (u := U) (U := U.calling g mk a) (Vm.Alike.refl U.vm) qK⟩, va_recv hK hP (ci := 8) (q0 := 22) rfl rfl, fun U hU hW => ⟨rfl, by rw [hU]; exact hPc_18, va_K.moved hW.alike hK⟩⟩ rfl rfl hl.1 rfl (lv_room (Nat.le_of_ble_eq_true rfl)) dL_law_1112 ⟨Nat.le_of_ble_eq_true rfl, Nat.le_of_ble_eq_true rfl⟩) (fun r_18 h_18 => ?_)
  subst h_18
  refine W.lcmp hx hb dL_law_1115 ?_
  refine lv_topi (fun v_19 e_19 => ?_)
  obtain rfl : v_19 = 0 := (e_19).trans (by decide)
  refine lv_if_eq (tgt := 1358) hx hb dL_law_1116 (by decide) (fun _ => ?_) (fun c_ => absurd (by decide) c_)
  refine lv_iinc (v := 6) (lv' := [(3, .int 6), (2, .ref mo), (1, .ref x), (0, .ref b)]) hx hb dL_law_1358 hl (k := 0) rfl (by decide) (by decide) rfl (fun ls hl => ?_)
  refine lv_goto (tgt := 18) hx hb dL_law_1361 (by decide) ?_
  refine lv_iload_n hx hb dL_law_18 rfl (lv_at hl 0 rfl) ?_
  refine lv_aload_n hx hb dL_law_19 rfl (lv_at hl 3 rfl) ?_
  refine va_slen hx hb hX hbl hbA hS dL_law_20 ?_
  refine lv_topi (fun v_21 e_21 => ?_)
  obtain rfl : v_21 = 6 := (e_21).trans (by decide)
  refine lv_bipush (v := 6) hx hb dL_law_21 (by decide) ?_
  refine lv_isub hx hb dL_law_23 ?_
  refine lv_topi (fun v_22 e_22 => ?_)
  obtain rfl : v_22 = 0 := (e_22).trans (by decide)
  refine lv_icmp_gt (tgt := 1364) hx hb dL_law_24 (by decide) (fun _ => ?_) (fun c_ => absurd (by decide) c_)
  refine lv_iconst (v := 1) hx hb dL_law_1364 (by decide) ?_
  refine va_forget (fun q hq => by have q9 := hS.2.2 q hq; rw [hAd] at q9; exact q9) ?_
  refine W.widen (k := 600000) (n := 7302250) (Nat.le_of_ble_eq_true rfl) (Nat.le_of_ble_eq_true rfl) ?_
  exact lw_ret hx hb hr hlocks dL_law_1365
set_option maxHeartbeats 4000000 in
set_option maxRecDepth 100000 in
theorem lw_c28 {p : Program} {l : Launch} {e : Env} {s : State} {m : MethodId} {below : List Frame} {meth : Method} {c : Code} {b : Nat} {xs : Nat → Int32} {dC : Nat → ClassId} {dI : Nat → Nat → Nat} {cI cZ cL cJ : ClassId} {A : Nat → Prop} {H : Heap} {locs : List Loc} {ls : Array Slot} {sc1 sc2 sc3 sc4 sc5 : Int32} {x mo : Nat} {ro : Nat} {it : Nat} {la : Nat} {le : Nat} {fl : Nat → Int32} {ta : Nat} {bs : Nat} {td : Nat} {t1 : Nat} {t2 : Nat} {t3 : Nat} {t4 : Nat} {t5 : Nat} {no : Nat} {n1 : Nat} {n2 : Nat} {n3 : Nat} {n4 : Nat} {n5 : Nat} {ac : Nat} {be : Nat} {im : Nat} {fi : Nat → Option Nat} {i0 : Nat} {x1 : Nat} {x2 : Nat} {x3 : Nat} {x4 : Nat} {x5 : Nat} {i1 : Nat} {y1 : Nat} {y2 : Nat} {y3 : Nat} {y4 : Nat} {y5 : Nat} {tr : Nat} {pl : Nat} {cs : Nat} {ak : Nat} {tc : Nat} {m_la : Nat} {m_sz : Nat} {m_it : Nat} {m_st : Nat} {m_mv : Nat} {m_tp : Nat} {m_rd : Nat} {m_ac : Nat} {m_as : Nat} {m_wo : Nat} {m_ik : Nat} {m_ke : Nat} {m_tr : Nat} {fm : Nat → Int32} (hx : p.tables.exec = Jvm.exec) (hb : c.code = code) (hr : meth.sig.returnType = ret) (hml : c.maxLocals = 4) (hown : s.vm.findClass RL = some m.cls) (hts : ∀ w ∈ wsL_law, w.before #[Value.ref b] s = true) (hX : va_X b 6 xs s s.heap) (hbl : b < s.heap.size) (hlocks : meth.locks = false) (hAd : A = fun q => s.heap.size ≤ q) (hA : ∀ q : Nat, s.heap.size ≤ q → A q) (hbA : ¬ A b) (hsc1 : sc1 = xs 1) (hsc2 : sc2 = xs 2) (hsc3 : sc3 = xs 3) (hsc4 : sc4 = xs 4) (hsc5 : sc5 = xs 5) (hfl : ∀ j : Nat, j < 8 → fl j = -1) (hf0 : fi 0 = some i0) (hf1 : fi 1 = some i1) (hfm : ∀ j : Nat, j < 8 → fm j = -1) (hK : va_K (dC, dI) vwCl [(cI, .int), (cZ, .boolean), (cL, .object RX3), (cJ, .array .int)] s) (hP : va_P (dC, dI) vwCl [(x, .inr (7, [.ref ro, .ref ta, .ref no, .ref ac, .ref im, .ref tr, .ref pl, .ref cs, .ref ak, .int 0, .int 0])), (ro, .inr (5, [.ref it, .ref la, .ref le])), (la, .inl (cI, 8, .inl fl)), (le, .inl (cI, 8, .inl (fun _ => 0))), (it, .inl (cJ, 8, .inr (.inr (.inr (.inr (fun i => if i < 8 then some (it + 1 + i) else none)))))), ((it + 1 + 0), .inl (cI, 40, .inl (fun _ => 0))), ((it + 1 + 1), .inl (cI, 40, .inl (fun _ => 0))), ((it + 1 + 2), .inl (cI, 40, .inl (fun _ => 0))), ((it + 1 + 3), .inl (cI, 40, .inl (fun _ => 0))), ((it + 1 + 4), .inl (cI, 40, .inl (fun _ => 0))), ((it + 1 + 5), .inl (cI, 40, .inl (fun _ => 0))), ((it + 1 + 6), .inl (cI, 40, .inl (fun _ => 0))), ((it + 1 + 7), .inl (cI, 40, .inl (fun _ => 0))), (ta, .inr (6, [.ref bs, .int 0, .ref td, .int 0, .int 0, .int 0])), (bs, .inl (cI, 120, .inl (fun _ => 0))), (td, .inr (3, [.int 0, .int 0, .int 0, .int 0, .int 0, .int 0, .int 0, .int 0, .ref t1, .ref t2, .ref t3, .ref t4, .ref t5])), (no, .inr (3, [.int 0, .int 0, .int 0, .int 0, .int 0, .int 0, .int 0, .int 0, .ref n1, .ref n2, .ref n3, .ref n4, .ref n5])), (ac, .inr (0, [.ref be, .int 0, .int 0])), (im, .inl (cL, 2, .inr (.inr (.inr (.inr fi))))), (i0, .inr (3, [.int 0, .int 0, .int 0, .int 0, .int 0, .int 0, .int 0, .int 0, .ref x1, .ref x2, .ref x3, .ref x4, .ref x5])), (i1, .inr (3, [.int 0, .int 0, .int 0, .int 0, .int 0, .int 0, .int 0, .int 0, .ref y1, .ref y2, .ref y3, .ref y4, .ref y5])), (ak, .inr (1, [.ref tc, .int 0, .int 0, .int 0, .int 0, .int 0])), (mo, .inr (8, [.ref m_la, .ref m_sz, .ref m_it, .int 0, .int 0, .ref m_st, .ref m_mv, .ref m_tp, .int 0, .int 0, .int 0, .int 0, .int 0, .int 0, .int 0, .ref m_rd, .ref m_ac, .int 0, .ref m_as, .ref m_wo, .ref m_ik, .ref m_ke, .ref m_tr, .int 0])), (m_sz, .inl (cI, 8, .inl fm)), (m_st, .inl (cI, 38, .inl (fun _ => 0))), (m_ik, .inl (cZ, 2, .inl (fun _ => 0))), (m_la, .inl (cI, 8, .inl (fun _ => 0))), (m_it, .inl (cI, 320, .inl (fun _ => 0))), (m_tp, .inl (cI, 120, .inl (fun _ => 0))), (m_rd, .inl (cI, 38, .inl (fun _ => 0)))] H) (hD : va_D A [(x, .inr (7, [.ref ro, .ref ta, .ref no, .ref ac, .ref im, .ref tr, .ref pl, .ref cs, .ref ak, .int 0, .int 0])), (ro, .inr (5, [.ref it, .ref la, .ref le])), (la, .inl (cI, 8, .inl fl)), (le, .inl (cI, 8, .inl (fun _ => 0))), (it, .inl (cJ, 8, .inr (.inr (.inr (.inr (fun i => if i < 8 then some (it + 1 + i) else none)))))), ((it + 1 + 0), .inl (cI, 40, .inl (fun _ => 0))), ((it + 1 + 1), .inl (cI, 40, .inl (fun _ => 0))), ((it + 1 + 2), .inl (cI, 40, .inl (fun _ => 0))), ((it + 1 + 3), .inl (cI, 40, .inl (fun _ => 0))), ((it + 1 + 4), .inl (cI, 40, .inl (fun _ => 0))), ((it + 1 + 5), .inl (cI, 40, .inl (fun _ => 0))), ((it + 1 + 6), .inl (cI, 40, .inl (fun _ => 0))), ((it + 1 + 7), .inl (cI, 40, .inl (fun _ => 0))), (ta, .inr (6, [.ref bs, .int 0, .ref td, .int 0, .int 0, .int 0])), (bs, .inl (cI, 120, .inl (fun _ => 0))), (td, .inr (3, [.int 0, .int 0, .int 0, .int 0, .int 0, .int 0, .int 0, .int 0, .ref t1, .ref t2, .ref t3, .ref t4, .ref t5])), (no, .inr (3, [.int 0, .int 0, .int 0, .int 0, .int 0, .int 0, .int 0, .int 0, .ref n1, .ref n2, .ref n3, .ref n4, .ref n5])), (ac, .inr (0, [.ref be, .int 0, .int 0])), (im, .inl (cL, 2, .inr (.inr (.inr (.inr fi))))), (i0, .inr (3, [.int 0, .int 0, .int 0, .int 0, .int 0, .int 0, .int 0, .int 0, .ref x1, .ref x2, .ref x3, .ref x4, .ref x5])), (i1, .inr (3, [.int 0, .int 0, .int 0, .int 0, .int 0, .int 0, .int 0, .int 0, .ref y1, .ref y2, .ref y3, .ref y4, .ref y5])), (ak, .inr (1, [.ref tc, .int 0, .int 0, .int 0, .int 0, .int 0])), (mo, .inr (8, [.ref m_la, .ref m_sz, .ref m_it, .int 0, .int 0, .ref m_st, .ref m_mv, .ref m_tp, .int 0, .int 0, .int 0, .int 0, .int 0, .int 0, .int 0, .ref m_rd, .ref m_ac, .int 0, .ref m_as, .ref m_wo, .ref m_ik, .ref m_ke, .ref m_tr, .int 0])), (m_sz, .inl (cI, 8, .inl fm)), (m_st, .inl (cI, 38, .inl (fun _ => 0))), (m_ik, .inl (cZ, 2, .inl (fun _ => 0))), (m_la, .inl (cI, 8, .inl (fun _ => 0))), (m_it, .inl (cI, 320, .inl (fun _ => 0))), (m_tp, .inl (cI, 120, .inl (fun _ => 0))), (m_rd, .inl (cI, 38, .inl (fun _ => 0)))]) (hS : va_S A s.heap H locs) (hl : lv_has ls 4 [(3, .int 0), (2, .ref mo), (1, .ref x), (0, .ref b)]) : W p l e room_1 s m #[Value.ref b] below meth c H locs 277 3929 (lw_Z below #[Value.ref b] s) (F0 m 1121 ls []) := by
  refine lv_aload_n hx hb dL_law_1121 rfl (lv_at hl 2 rfl) ?_
  refine lv_aload_n hx hb dL_law_1122 rfl (lv_at hl 3 rfl) ?_
  refine lv_iload_n hx hb dL_law_1123 rfl (lv_at hl 0 rfl) ?_
  refine lv_iconst (v := 1) hx hb dL_law_1124 (by decide) ?_
  refine lv_iadd hx hb dL_law_1125 ?_
  refine lv_topi (fun v_1 e_1 => ?_)
  obtain rfl : v_1 = 1 := (e_1).trans (by decide)
  refine va_sld hx hb hX hbl hbA hS (by unfold vp_in; decide) dL_law_1126 ?_
  refine lv_topi (fun v_2 e_2 => ?_)
  obtain rfl : sc1 = v_2 := ((e_2).trans hsc1.symm).symm
  refine lv_aload_n hx hb dL_law_1127 rfl (lv_at hl 3 rfl) ?_
  refine lv_iload_n hx hb dL_law_1128 rfl (lv_at hl 0 rfl) ?_
  refine lv_iconst (v := 2) hx hb dL_law_1129 (by decide) ?_
  refine lv_iadd hx hb dL_law_1130 ?_
  refine lv_topi (fun v_3 e_3 => ?_)
  obtain rfl : v_3 = 2 := (e_3).trans (by decide)
  refine va_sld hx hb hX hbl hbA hS (by unfold vp_in; decide) dL_law_1131 ?_
  refine lv_topi (fun v_4 e_4 => ?_)
  obtain rfl : sc2 = v_4 := ((e_4).trans hsc2.symm).symm
  refine lv_aload_n hx hb dL_law_1132 rfl (lv_at hl 3 rfl) ?_
  refine lv_iload_n hx hb dL_law_1133 rfl (lv_at hl 0 rfl) ?_
  refine lv_iconst (v := 3) hx hb dL_law_1134 (by decide) ?_
  refine lv_iadd hx hb dL_law_1135 ?_
  refine lv_topi (fun v_5 e_5 => ?_)
  obtain rfl : v_5 = 3 := (e_5).trans (by decide)
  refine va_sld hx hb hX hbl hbA hS (by unfold vp_in; decide) dL_law_1136 ?_
  refine lv_topi (fun v_6 e_6 => ?_)
  obtain rfl : sc3 = v_6 := ((e_6).trans hsc3.symm).symm
  have hPc_7 := hP.sub (ws' := [(x, .inr (7, [.ref ro, .ref ta, .ref no, .ref ac, .ref im, .ref tr, .ref pl, .ref cs, .ref ak, .int 0, .int 0])), (no, .inr (3, [.int 0, .int 0, .int 0, .int 0, .int 0, .int 0, .int 0, .int 0, .ref n1, .ref n2, .ref n3, .ref n4, .ref n5]))]) [0, 16] rfl
  refine vp_callSi (W.runV (As := [.int sc1, .int sc2, .int sc3]) (rest := []) ⟨hx, hb, hml, hown, hts⟩ (c_X7_drawn l dC dI cI cZ cL cJ x ro ta no ac im tr pl cs ak n1 n2 n3 n4 n5 sc1 sc2 sc3 ) (cwV 3 hts gL_law_X7_drawn rfl rfl rfl (by decide +kernel) ⟨Nat.le_of_ble_eq_true rfl, Nat.le_of_ble_eq_true rfl⟩) ⟨fun a U g mk q => by obtain ⟨q0, qP, qK⟩ := q; exact ⟨q0, qP, va_K.moved (u := U) (U := U.calling g mk a) (Vm.Alike.refl U.vm) qK⟩, va_recv hK hP (ci := 7) (q0 := 0) rfl rfl, fun U hU hW => ⟨rfl, by rw [hU]; exact hPc_7, va_K.moved hW.alike hK⟩⟩ rfl rfl hl.1 rfl (lv_room (Nat.le_of_ble_eq_true rfl)) dL_law_1137 ⟨Nat.le_of_ble_eq_true rfl, Nat.le_of_ble_eq_true rfl⟩) (fun r_7 h_7 => ?_)
  subst h_7
  refine lv_aload_n hx hb dL_law_1140 rfl (lv_at hl 1 rfl) ?_
  refine lv_aload_n hx hb dL_law_1141 rfl (lv_at hl 3 rfl) ?_
  refine lv_iload_n hx hb dL_law_1142 rfl (lv_at hl 0 rfl) ?_
  refine lv_iconst (v := 1) hx hb dL_law_1143 (by decide) ?_
  refine lv_iadd hx hb dL_law_1144 ?_
  refine lv_topi (fun v_8 e_8 => ?_)
  obtain rfl : v_8 = 1 := (e_8).trans (by decide)
  refine va_sld hx hb hX hbl hbA hS (by unfold vp_in; decide) dL_law_1145 ?_
  refine lv_topi (fun v_9 e_9 => ?_)
  obtain rfl : sc1 = v_9 := ((e_9).trans hsc1.symm).symm
  refine lv_aload_n hx hb dL_law_1146 rfl (lv_at hl 3 rfl) ?_
  refine lv_iload_n hx hb dL_law_1147 rfl (lv_at hl 0 rfl) ?_
  refine lv_iconst (v := 2) hx hb dL_law_1148 (by decide) ?_
  refine lv_iadd hx hb dL_law_1149 ?_
  refine lv_topi (fun v_10 e_10 => ?_)
  obtain rfl : v_10 = 2 := (e_10).trans (by decide)
  refine va_sld hx hb hX hbl hbA hS (by unfold vp_in; decide) dL_law_1150 ?_
  refine lv_topi (fun v_11 e_11 => ?_)
  obtain rfl : sc2 = v_11 := ((e_11).trans hsc2.symm).symm
  refine lv_aload_n hx hb dL_law_1151 rfl (lv_at hl 3 rfl) ?_
  refine lv_iload_n hx hb dL_law_1152 rfl (lv_at hl 0 rfl) ?_
  refine lv_iconst (v := 3) hx hb dL_law_1153 (by decide) ?_
  refine lv_iadd hx hb dL_law_1154 ?_
  refine lv_topi (fun v_12 e_12 => ?_)
  obtain rfl : v_12 = 3 := (e_12).trans (by decide)
  refine va_sld hx hb hX hbl hbA hS (by unfold vp_in; decide) dL_law_1155 ?_
  refine lv_topi (fun v_13 e_13 => ?_)
  obtain rfl : sc3 = v_13 := ((e_13).trans hsc3.symm).symm
  have hPc_14 := hP.sub (ws' := [(mo, .inr (8, [.ref m_la, .ref m_sz, .ref m_it, .int 0, .int 0, .ref m_st, .ref m_mv, .ref m_tp, .int 0, .int 0, .int 0, .int 0, .int 0, .int 0, .int 0, .ref m_rd, .ref m_ac, .int 0, .ref m_as, .ref m_wo, .ref m_ik, .ref m_ke, .ref m_tr, .int 0]))]) [22] rfl
  refine vp_callSi (W.runV (As := [.int sc1, .int sc2, .int sc3]) (rest := [.int (-1000002)]) ⟨hx, hb, hml, hown, hts⟩ (c_X8_drawn l dC dI cI cZ cL cJ mo m_la m_sz m_it m_st m_mv m_tp m_rd m_ac m_as m_wo m_ik m_ke m_tr sc1 sc2 sc3 ) (cwV 3 hts gL_law_X8_drawn rfl rfl rfl (by decide +kernel) ⟨Nat.le_of_ble_eq_true rfl, Nat.le_of_ble_eq_true rfl⟩) ⟨fun a U g mk q => by obtain ⟨q0, qP, qK⟩ := q; exact ⟨q0, qP, va_K.moved (u := U) (U := U.calling g mk a) (Vm.Alike.refl U.vm) qK⟩, va_recv hK hP (ci := 8) (q0 := 22) rfl rfl, fun U hU hW => ⟨rfl, by rw [hU]; exact hPc_14, va_K.moved hW.alike hK⟩⟩ rfl rfl hl.1 rfl (lv_room (Nat.le_of_ble_eq_true rfl)) dL_law_1156 ⟨Nat.le_of_ble_eq_true rfl, Nat.le_of_ble_eq_true rfl⟩) (fun r_14 h_14 => ?_)
  subst h_14
  refine lv_icmp_eq (tgt := 1358) hx hb dL_law_1159 (by decide) (fun _ => ?_) (fun c_ => absurd (by decide) c_)
  refine lv_iinc (v := 6) (lv' := [(3, .int 6), (2, .ref mo), (1, .ref x), (0, .ref b)]) hx hb dL_law_1358 hl (k := 0) rfl (by decide) (by decide) rfl (fun ls hl => ?_)
  refine lv_goto (tgt := 18) hx hb dL_law_1361 (by decide) ?_
  refine lv_iload_n hx hb dL_law_18 rfl (lv_at hl 0 rfl) ?_
  refine lv_aload_n hx hb dL_law_19 rfl (lv_at hl 3 rfl) ?_
  refine va_slen hx hb hX hbl hbA hS dL_law_20 ?_
  refine lv_topi (fun v_16 e_16 => ?_)
  obtain rfl : v_16 = 6 := (e_16).trans (by decide)
  refine lv_bipush (v := 6) hx hb dL_law_21 (by decide) ?_
  refine lv_isub hx hb dL_law_23 ?_
  refine lv_topi (fun v_17 e_17 => ?_)
  obtain rfl : v_17 = 0 := (e_17).trans (by decide)
  refine lv_icmp_gt (tgt := 1364) hx hb dL_law_24 (by decide) (fun _ => ?_) (fun c_ => absurd (by decide) c_)
  refine lv_iconst (v := 1) hx hb dL_law_1364 (by decide) ?_
  refine va_forget (fun q hq => by have q9 := hS.2.2 q hq; rw [hAd] at q9; exact q9) ?_
  refine W.widen (k := 600000) (n := 7302250) (Nat.le_of_ble_eq_true rfl) (Nat.le_of_ble_eq_true rfl) ?_
  exact lw_ret hx hb hr hlocks dL_law_1365
set_option maxHeartbeats 4000000 in
set_option maxRecDepth 100000 in
theorem lw_c29 {p : Program} {l : Launch} {e : Env} {s : State} {m : MethodId} {below : List Frame} {meth : Method} {c : Code} {b : Nat} {xs : Nat → Int32} {dC : Nat → ClassId} {dI : Nat → Nat → Nat} {cI cZ cL cJ : ClassId} {A : Nat → Prop} {H : Heap} {locs : List Loc} {ls : Array Slot} {sc1 sc2 sc3 sc4 sc5 : Int32} {x mo : Nat} {ro : Nat} {it : Nat} {la : Nat} {le : Nat} {fl : Nat → Int32} {ta : Nat} {bs : Nat} {td : Nat} {t1 : Nat} {t2 : Nat} {t3 : Nat} {t4 : Nat} {t5 : Nat} {no : Nat} {n1 : Nat} {n2 : Nat} {n3 : Nat} {n4 : Nat} {n5 : Nat} {ac : Nat} {be : Nat} {im : Nat} {fi : Nat → Option Nat} {i0 : Nat} {x1 : Nat} {x2 : Nat} {x3 : Nat} {x4 : Nat} {x5 : Nat} {i1 : Nat} {y1 : Nat} {y2 : Nat} {y3 : Nat} {y4 : Nat} {y5 : Nat} {tr : Nat} {pl : Nat} {cs : Nat} {ak : Nat} {tc : Nat} {m_la : Nat} {m_sz : Nat} {m_it : Nat} {m_st : Nat} {m_mv : Nat} {m_tp : Nat} {m_rd : Nat} {m_ac : Nat} {m_as : Nat} {m_wo : Nat} {m_ik : Nat} {m_ke : Nat} {m_tr : Nat} {fm : Nat → Int32} (hx : p.tables.exec = Jvm.exec) (hb : c.code = code) (hr : meth.sig.returnType = ret) (hml : c.maxLocals = 4) (hown : s.vm.findClass RL = some m.cls) (hts : ∀ w ∈ wsL_law, w.before #[Value.ref b] s = true) (hX : va_X b 6 xs s s.heap) (hbl : b < s.heap.size) (hlocks : meth.locks = false) (hAd : A = fun q => s.heap.size ≤ q) (hA : ∀ q : Nat, s.heap.size ≤ q → A q) (hbA : ¬ A b) (hsc1 : sc1 = xs 1) (hsc2 : sc2 = xs 2) (hsc3 : sc3 = xs 3) (hsc4 : sc4 = xs 4) (hsc5 : sc5 = xs 5) (hfl : ∀ j : Nat, j < 8 → fl j = -1) (hf0 : fi 0 = some i0) (hf1 : fi 1 = some i1) (hfm : ∀ j : Nat, j < 8 → fm j = -1) (hK : va_K (dC, dI) vwCl [(cI, .int), (cZ, .boolean), (cL, .object RX3), (cJ, .array .int)] s) (hP : va_P (dC, dI) vwCl [(x, .inr (7, [.ref ro, .ref ta, .ref no, .ref ac, .ref im, .ref tr, .ref pl, .ref cs, .ref ak, .int 0, .int 0])), (ro, .inr (5, [.ref it, .ref la, .ref le])), (la, .inl (cI, 8, .inl fl)), (le, .inl (cI, 8, .inl (fun _ => 0))), (it, .inl (cJ, 8, .inr (.inr (.inr (.inr (fun i => if i < 8 then some (it + 1 + i) else none)))))), ((it + 1 + 0), .inl (cI, 40, .inl (fun _ => 0))), ((it + 1 + 1), .inl (cI, 40, .inl (fun _ => 0))), ((it + 1 + 2), .inl (cI, 40, .inl (fun _ => 0))), ((it + 1 + 3), .inl (cI, 40, .inl (fun _ => 0))), ((it + 1 + 4), .inl (cI, 40, .inl (fun _ => 0))), ((it + 1 + 5), .inl (cI, 40, .inl (fun _ => 0))), ((it + 1 + 6), .inl (cI, 40, .inl (fun _ => 0))), ((it + 1 + 7), .inl (cI, 40, .inl (fun _ => 0))), (ta, .inr (6, [.ref bs, .int 0, .ref td, .int 0, .int 0, .int 0])), (bs, .inl (cI, 120, .inl (fun _ => 0))), (td, .inr (3, [.int 0, .int 0, .int 0, .int 0, .int 0, .int 0, .int 0, .int 0, .ref t1, .ref t2, .ref t3, .ref t4, .ref t5])), (no, .inr (3, [.int 0, .int 0, .int 0, .int 0, .int 0, .int 0, .int 0, .int 0, .ref n1, .ref n2, .ref n3, .ref n4, .ref n5])), (ac, .inr (0, [.ref be, .int 0, .int 0])), (im, .inl (cL, 2, .inr (.inr (.inr (.inr fi))))), (i0, .inr (3, [.int 0, .int 0, .int 0, .int 0, .int 0, .int 0, .int 0, .int 0, .ref x1, .ref x2, .ref x3, .ref x4, .ref x5])), (i1, .inr (3, [.int 0, .int 0, .int 0, .int 0, .int 0, .int 0, .int 0, .int 0, .ref y1, .ref y2, .ref y3, .ref y4, .ref y5])), (ak, .inr (1, [.ref tc, .int 0, .int 0, .int 0, .int 0, .int 0])), (mo, .inr (8, [.ref m_la, .ref m_sz, .ref m_it, .int 0, .int 0, .ref m_st, .ref m_mv, .ref m_tp, .int 0, .int 0, .int 0, .int 0, .int 0, .int 0, .int 0, .ref m_rd, .ref m_ac, .int 0, .ref m_as, .ref m_wo, .ref m_ik, .ref m_ke, .ref m_tr, .int 0])), (m_sz, .inl (cI, 8, .inl fm)), (m_st, .inl (cI, 38, .inl (fun _ => 0))), (m_ik, .inl (cZ, 2, .inl (fun _ => 0))), (m_la, .inl (cI, 8, .inl (fun _ => 0))), (m_it, .inl (cI, 320, .inl (fun _ => 0))), (m_tp, .inl (cI, 120, .inl (fun _ => 0))), (m_rd, .inl (cI, 38, .inl (fun _ => 0)))] H) (hD : va_D A [(x, .inr (7, [.ref ro, .ref ta, .ref no, .ref ac, .ref im, .ref tr, .ref pl, .ref cs, .ref ak, .int 0, .int 0])), (ro, .inr (5, [.ref it, .ref la, .ref le])), (la, .inl (cI, 8, .inl fl)), (le, .inl (cI, 8, .inl (fun _ => 0))), (it, .inl (cJ, 8, .inr (.inr (.inr (.inr (fun i => if i < 8 then some (it + 1 + i) else none)))))), ((it + 1 + 0), .inl (cI, 40, .inl (fun _ => 0))), ((it + 1 + 1), .inl (cI, 40, .inl (fun _ => 0))), ((it + 1 + 2), .inl (cI, 40, .inl (fun _ => 0))), ((it + 1 + 3), .inl (cI, 40, .inl (fun _ => 0))), ((it + 1 + 4), .inl (cI, 40, .inl (fun _ => 0))), ((it + 1 + 5), .inl (cI, 40, .inl (fun _ => 0))), ((it + 1 + 6), .inl (cI, 40, .inl (fun _ => 0))), ((it + 1 + 7), .inl (cI, 40, .inl (fun _ => 0))), (ta, .inr (6, [.ref bs, .int 0, .ref td, .int 0, .int 0, .int 0])), (bs, .inl (cI, 120, .inl (fun _ => 0))), (td, .inr (3, [.int 0, .int 0, .int 0, .int 0, .int 0, .int 0, .int 0, .int 0, .ref t1, .ref t2, .ref t3, .ref t4, .ref t5])), (no, .inr (3, [.int 0, .int 0, .int 0, .int 0, .int 0, .int 0, .int 0, .int 0, .ref n1, .ref n2, .ref n3, .ref n4, .ref n5])), (ac, .inr (0, [.ref be, .int 0, .int 0])), (im, .inl (cL, 2, .inr (.inr (.inr (.inr fi))))), (i0, .inr (3, [.int 0, .int 0, .int 0, .int 0, .int 0, .int 0, .int 0, .int 0, .ref x1, .ref x2, .ref x3, .ref x4, .ref x5])), (i1, .inr (3, [.int 0, .int 0, .int 0, .int 0, .int 0, .int 0, .int 0, .int 0, .ref y1, .ref y2, .ref y3, .ref y4, .ref y5])), (ak, .inr (1, [.ref tc, .int 0, .int 0, .int 0, .int 0, .int 0])), (mo, .inr (8, [.ref m_la, .ref m_sz, .ref m_it, .int 0, .int 0, .ref m_st, .ref m_mv, .ref m_tp, .int 0, .int 0, .int 0, .int 0, .int 0, .int 0, .int 0, .ref m_rd, .ref m_ac, .int 0, .ref m_as, .ref m_wo, .ref m_ik, .ref m_ke, .ref m_tr, .int 0])), (m_sz, .inl (cI, 8, .inl fm)), (m_st, .inl (cI, 38, .inl (fun _ => 0))), (m_ik, .inl (cZ, 2, .inl (fun _ => 0))), (m_la, .inl (cI, 8, .inl (fun _ => 0))), (m_it, .inl (cI, 320, .inl (fun _ => 0))), (m_tp, .inl (cI, 120, .inl (fun _ => 0))), (m_rd, .inl (cI, 38, .inl (fun _ => 0)))]) (hS : va_S A s.heap H locs) (hl : lv_has ls 4 [(3, .int 0), (2, .ref mo), (1, .ref x), (0, .ref b)]) : W p l e room_1 s m #[Value.ref b] below meth c H locs 277 3929 (lw_Z below #[Value.ref b] s) (F0 m 1164 ls []) := by
  refine lv_aload_n hx hb dL_law_1164 rfl (lv_at hl 2 rfl) ?_
  refine lv_aload_n hx hb dL_law_1165 rfl (lv_at hl 3 rfl) ?_
  refine lv_iload_n hx hb dL_law_1166 rfl (lv_at hl 0 rfl) ?_
  refine lv_iconst (v := 1) hx hb dL_law_1167 (by decide) ?_
  refine lv_iadd hx hb dL_law_1168 ?_
  refine lv_topi (fun v_1 e_1 => ?_)
  obtain rfl : v_1 = 1 := (e_1).trans (by decide)
  refine va_sld hx hb hX hbl hbA hS (by unfold vp_in; decide) dL_law_1169 ?_
  refine lv_topi (fun v_2 e_2 => ?_)
  obtain rfl : sc1 = v_2 := ((e_2).trans hsc1.symm).symm
  have hPc_3 := hP.sub (ws' := [(x, .inr (7, [.ref ro, .ref ta, .ref no, .ref ac, .ref im, .ref tr, .ref pl, .ref cs, .ref ak, .int 0, .int 0])), (no, .inr (3, [.int 0, .int 0, .int 0, .int 0, .int 0, .int 0, .int 0, .int 0, .ref n1, .ref n2, .ref n3, .ref n4, .ref n5])), (im, .inl (cL, 2, .inr (.inr (.inr (.inr fi)))))]) [0, 16, 18] rfl
  refine vp_callSi (W.runV (As := [.int sc1]) (rest := []) ⟨hx, hb, hml, hown, hts⟩ (c_X7_image l dC dI cI cZ cL cJ x ro ta no ac im tr pl cs ak n1 n2 n3 n4 n5 fi sc1 ) (cwV 1 hts gL_law_X7_image rfl rfl rfl (by decide +kernel) ⟨Nat.le_of_ble_eq_true rfl, Nat.le_of_ble_eq_true rfl⟩) ⟨fun a U g mk q => by obtain ⟨q0, qP, qK⟩ := q; exact ⟨q0, qP, va_K.moved (u := U) (U := U.calling g mk a) (Vm.Alike.refl U.vm) qK⟩, va_recv hK hP (ci := 7) (q0 := 0) rfl rfl, fun U hU hW => ⟨rfl, by rw [hU]; exact hPc_3, va_K.moved hW.alike hK⟩⟩ rfl rfl hl.1 rfl (lv_room (Nat.le_of_ble_eq_true rfl)) dL_law_1170 ⟨Nat.le_of_ble_eq_true rfl, Nat.le_of_ble_eq_true rfl⟩) (fun r_3 h_3 => ?_)
  refine lv_aload_n hx hb dL_law_1173 rfl (lv_at hl 1 rfl) ?_
  refine lv_aload_n hx hb dL_law_1174 rfl (lv_at hl 3 rfl) ?_
  refine lv_iload_n hx hb dL_law_1175 rfl (lv_at hl 0 rfl) ?_
  refine lv_iconst (v := 1) hx hb dL_law_1176 (by decide) ?_
  refine lv_iadd hx hb dL_law_1177 ?_
  refine lv_topi (fun v_4 e_4 => ?_)
  obtain rfl : v_4 = 1 := (e_4).trans (by decide)
  refine va_sld hx hb hX hbl hbA hS (by unfold vp_in; decide) dL_law_1178 ?_
  refine lv_topi (fun v_5 e_5 => ?_)
  obtain rfl : sc1 = v_5 := ((e_5).trans hsc1.symm).symm
  have hPc_6 := hP.sub (ws' := [(mo, .inr (8, [.ref m_la, .ref m_sz, .ref m_it, .int 0, .int 0, .ref m_st, .ref m_mv, .ref m_tp, .int 0, .int 0, .int 0, .int 0, .int 0, .int 0, .int 0, .ref m_rd, .ref m_ac, .int 0, .ref m_as, .ref m_wo, .ref m_ik, .ref m_ke, .ref m_tr, .int 0]))]) [22] rfl
  refine vp_callSi (W.runV (As := [.int sc1]) (rest := [.int r_3]) ⟨hx, hb, hml, hown, hts⟩ (c_X8_image l dC dI cI cZ cL cJ mo m_la m_sz m_it m_st m_mv m_tp m_rd m_ac m_as m_wo m_ik m_ke m_tr sc1 ) (cwV 1 hts gL_law_X8_image rfl rfl rfl (by decide +kernel) ⟨Nat.le_of_ble_eq_true rfl, Nat.le_of_ble_eq_true rfl⟩) ⟨fun a U g mk q => by obtain ⟨q0, qP, qK⟩ := q; exact ⟨q0, qP, va_K.moved (u := U) (U := U.calling g mk a) (Vm.Alike.refl U.vm) qK⟩, va_recv hK hP (ci := 8) (q0 := 22) rfl rfl, fun U hU hW => ⟨rfl, by rw [hU]; exact hPc_6, va_K.moved hW.alike hK⟩⟩ rfl rfl hl.1 rfl (lv_room (Nat.le_of_ble_eq_true rfl)) dL_law_1179 ⟨Nat.le_of_ble_eq_true rfl, Nat.le_of_ble_eq_true rfl⟩) (fun r_6 h_6 => ?_)
  refine lv_icmp_eq (tgt := 1358) hx hb dL_law_1182 (by decide) (fun _ => ?_) (fun c_ => absurd (h_3.trans h_6.symm) c_)
  refine lv_iinc (v := 6) (lv' := [(3, .int 6), (2, .ref mo), (1, .ref x), (0, .ref b)]) hx hb dL_law_1358 hl (k := 0) rfl (by decide) (by decide) rfl (fun ls hl => ?_)
  refine lv_goto (tgt := 18) hx hb dL_law_1361 (by decide) ?_
  refine lv_iload_n hx hb dL_law_18 rfl (lv_at hl 0 rfl) ?_
  refine lv_aload_n hx hb dL_law_19 rfl (lv_at hl 3 rfl) ?_
  refine va_slen hx hb hX hbl hbA hS dL_law_20 ?_
  refine lv_topi (fun v_8 e_8 => ?_)
  obtain rfl : v_8 = 6 := (e_8).trans (by decide)
  refine lv_bipush (v := 6) hx hb dL_law_21 (by decide) ?_
  refine lv_isub hx hb dL_law_23 ?_
  refine lv_topi (fun v_9 e_9 => ?_)
  obtain rfl : v_9 = 0 := (e_9).trans (by decide)
  refine lv_icmp_gt (tgt := 1364) hx hb dL_law_24 (by decide) (fun _ => ?_) (fun c_ => absurd (by decide) c_)
  refine lv_iconst (v := 1) hx hb dL_law_1364 (by decide) ?_
  refine va_forget (fun q hq => by have q9 := hS.2.2 q hq; rw [hAd] at q9; exact q9) ?_
  refine W.widen (k := 600000) (n := 7302250) (Nat.le_of_ble_eq_true rfl) (Nat.le_of_ble_eq_true rfl) ?_
  exact lw_ret hx hb hr hlocks dL_law_1365
set_option maxHeartbeats 4000000 in
set_option maxRecDepth 100000 in
theorem lw_c30 {p : Program} {l : Launch} {e : Env} {s : State} {m : MethodId} {below : List Frame} {meth : Method} {c : Code} {b : Nat} {xs : Nat → Int32} {dC : Nat → ClassId} {dI : Nat → Nat → Nat} {cI cZ cL cJ : ClassId} {A : Nat → Prop} {H : Heap} {locs : List Loc} {ls : Array Slot} {sc1 sc2 sc3 sc4 sc5 : Int32} {x mo : Nat} {ro : Nat} {it : Nat} {la : Nat} {le : Nat} {fl : Nat → Int32} {ta : Nat} {bs : Nat} {td : Nat} {t1 : Nat} {t2 : Nat} {t3 : Nat} {t4 : Nat} {t5 : Nat} {no : Nat} {n1 : Nat} {n2 : Nat} {n3 : Nat} {n4 : Nat} {n5 : Nat} {ac : Nat} {be : Nat} {im : Nat} {fi : Nat → Option Nat} {i0 : Nat} {x1 : Nat} {x2 : Nat} {x3 : Nat} {x4 : Nat} {x5 : Nat} {i1 : Nat} {y1 : Nat} {y2 : Nat} {y3 : Nat} {y4 : Nat} {y5 : Nat} {tr : Nat} {pl : Nat} {cs : Nat} {ak : Nat} {tc : Nat} {m_la : Nat} {m_sz : Nat} {m_it : Nat} {m_st : Nat} {m_mv : Nat} {m_tp : Nat} {m_rd : Nat} {m_ac : Nat} {m_as : Nat} {m_wo : Nat} {m_ik : Nat} {m_ke : Nat} {m_tr : Nat} {fm : Nat → Int32} (hx : p.tables.exec = Jvm.exec) (hb : c.code = code) (hr : meth.sig.returnType = ret) (hml : c.maxLocals = 4) (hown : s.vm.findClass RL = some m.cls) (hts : ∀ w ∈ wsL_law, w.before #[Value.ref b] s = true) (hX : va_X b 6 xs s s.heap) (hbl : b < s.heap.size) (hlocks : meth.locks = false) (hAd : A = fun q => s.heap.size ≤ q) (hA : ∀ q : Nat, s.heap.size ≤ q → A q) (hbA : ¬ A b) (hsc1 : sc1 = xs 1) (hsc2 : sc2 = xs 2) (hsc3 : sc3 = xs 3) (hsc4 : sc4 = xs 4) (hsc5 : sc5 = xs 5) (hfl : ∀ j : Nat, j < 8 → fl j = -1) (hf0 : fi 0 = some i0) (hf1 : fi 1 = some i1) (hfm : ∀ j : Nat, j < 8 → fm j = -1) (hK : va_K (dC, dI) vwCl [(cI, .int), (cZ, .boolean), (cL, .object RX3), (cJ, .array .int)] s) (hP : va_P (dC, dI) vwCl [(x, .inr (7, [.ref ro, .ref ta, .ref no, .ref ac, .ref im, .ref tr, .ref pl, .ref cs, .ref ak, .int 0, .int 0])), (ro, .inr (5, [.ref it, .ref la, .ref le])), (la, .inl (cI, 8, .inl fl)), (le, .inl (cI, 8, .inl (fun _ => 0))), (it, .inl (cJ, 8, .inr (.inr (.inr (.inr (fun i => if i < 8 then some (it + 1 + i) else none)))))), ((it + 1 + 0), .inl (cI, 40, .inl (fun _ => 0))), ((it + 1 + 1), .inl (cI, 40, .inl (fun _ => 0))), ((it + 1 + 2), .inl (cI, 40, .inl (fun _ => 0))), ((it + 1 + 3), .inl (cI, 40, .inl (fun _ => 0))), ((it + 1 + 4), .inl (cI, 40, .inl (fun _ => 0))), ((it + 1 + 5), .inl (cI, 40, .inl (fun _ => 0))), ((it + 1 + 6), .inl (cI, 40, .inl (fun _ => 0))), ((it + 1 + 7), .inl (cI, 40, .inl (fun _ => 0))), (ta, .inr (6, [.ref bs, .int 0, .ref td, .int 0, .int 0, .int 0])), (bs, .inl (cI, 120, .inl (fun _ => 0))), (td, .inr (3, [.int 0, .int 0, .int 0, .int 0, .int 0, .int 0, .int 0, .int 0, .ref t1, .ref t2, .ref t3, .ref t4, .ref t5])), (no, .inr (3, [.int 0, .int 0, .int 0, .int 0, .int 0, .int 0, .int 0, .int 0, .ref n1, .ref n2, .ref n3, .ref n4, .ref n5])), (ac, .inr (0, [.ref be, .int 0, .int 0])), (im, .inl (cL, 2, .inr (.inr (.inr (.inr fi))))), (i0, .inr (3, [.int 0, .int 0, .int 0, .int 0, .int 0, .int 0, .int 0, .int 0, .ref x1, .ref x2, .ref x3, .ref x4, .ref x5])), (i1, .inr (3, [.int 0, .int 0, .int 0, .int 0, .int 0, .int 0, .int 0, .int 0, .ref y1, .ref y2, .ref y3, .ref y4, .ref y5])), (ak, .inr (1, [.ref tc, .int 0, .int 0, .int 0, .int 0, .int 0])), (mo, .inr (8, [.ref m_la, .ref m_sz, .ref m_it, .int 0, .int 0, .ref m_st, .ref m_mv, .ref m_tp, .int 0, .int 0, .int 0, .int 0, .int 0, .int 0, .int 0, .ref m_rd, .ref m_ac, .int 0, .ref m_as, .ref m_wo, .ref m_ik, .ref m_ke, .ref m_tr, .int 0])), (m_sz, .inl (cI, 8, .inl fm)), (m_st, .inl (cI, 38, .inl (fun _ => 0))), (m_ik, .inl (cZ, 2, .inl (fun _ => 0))), (m_la, .inl (cI, 8, .inl (fun _ => 0))), (m_it, .inl (cI, 320, .inl (fun _ => 0))), (m_tp, .inl (cI, 120, .inl (fun _ => 0))), (m_rd, .inl (cI, 38, .inl (fun _ => 0)))] H) (hD : va_D A [(x, .inr (7, [.ref ro, .ref ta, .ref no, .ref ac, .ref im, .ref tr, .ref pl, .ref cs, .ref ak, .int 0, .int 0])), (ro, .inr (5, [.ref it, .ref la, .ref le])), (la, .inl (cI, 8, .inl fl)), (le, .inl (cI, 8, .inl (fun _ => 0))), (it, .inl (cJ, 8, .inr (.inr (.inr (.inr (fun i => if i < 8 then some (it + 1 + i) else none)))))), ((it + 1 + 0), .inl (cI, 40, .inl (fun _ => 0))), ((it + 1 + 1), .inl (cI, 40, .inl (fun _ => 0))), ((it + 1 + 2), .inl (cI, 40, .inl (fun _ => 0))), ((it + 1 + 3), .inl (cI, 40, .inl (fun _ => 0))), ((it + 1 + 4), .inl (cI, 40, .inl (fun _ => 0))), ((it + 1 + 5), .inl (cI, 40, .inl (fun _ => 0))), ((it + 1 + 6), .inl (cI, 40, .inl (fun _ => 0))), ((it + 1 + 7), .inl (cI, 40, .inl (fun _ => 0))), (ta, .inr (6, [.ref bs, .int 0, .ref td, .int 0, .int 0, .int 0])), (bs, .inl (cI, 120, .inl (fun _ => 0))), (td, .inr (3, [.int 0, .int 0, .int 0, .int 0, .int 0, .int 0, .int 0, .int 0, .ref t1, .ref t2, .ref t3, .ref t4, .ref t5])), (no, .inr (3, [.int 0, .int 0, .int 0, .int 0, .int 0, .int 0, .int 0, .int 0, .ref n1, .ref n2, .ref n3, .ref n4, .ref n5])), (ac, .inr (0, [.ref be, .int 0, .int 0])), (im, .inl (cL, 2, .inr (.inr (.inr (.inr fi))))), (i0, .inr (3, [.int 0, .int 0, .int 0, .int 0, .int 0, .int 0, .int 0, .int 0, .ref x1, .ref x2, .ref x3, .ref x4, .ref x5])), (i1, .inr (3, [.int 0, .int 0, .int 0, .int 0, .int 0, .int 0, .int 0, .int 0, .ref y1, .ref y2, .ref y3, .ref y4, .ref y5])), (ak, .inr (1, [.ref tc, .int 0, .int 0, .int 0, .int 0, .int 0])), (mo, .inr (8, [.ref m_la, .ref m_sz, .ref m_it, .int 0, .int 0, .ref m_st, .ref m_mv, .ref m_tp, .int 0, .int 0, .int 0, .int 0, .int 0, .int 0, .int 0, .ref m_rd, .ref m_ac, .int 0, .ref m_as, .ref m_wo, .ref m_ik, .ref m_ke, .ref m_tr, .int 0])), (m_sz, .inl (cI, 8, .inl fm)), (m_st, .inl (cI, 38, .inl (fun _ => 0))), (m_ik, .inl (cZ, 2, .inl (fun _ => 0))), (m_la, .inl (cI, 8, .inl (fun _ => 0))), (m_it, .inl (cI, 320, .inl (fun _ => 0))), (m_tp, .inl (cI, 120, .inl (fun _ => 0))), (m_rd, .inl (cI, 38, .inl (fun _ => 0)))]) (hS : va_S A s.heap H locs) (hl : lv_has ls 4 [(3, .int 0), (2, .ref mo), (1, .ref x), (0, .ref b)]) : W p l e room_1 s m #[Value.ref b] below meth c H locs 277 3929 (lw_Z below #[Value.ref b] s) (F0 m 1187 ls []) := by
  refine lv_aload_n hx hb dL_law_1187 rfl (lv_at hl 2 rfl) ?_
  refine lv_aload_n hx hb dL_law_1188 rfl (lv_at hl 3 rfl) ?_
  refine lv_iload_n hx hb dL_law_1189 rfl (lv_at hl 0 rfl) ?_
  refine lv_iconst (v := 1) hx hb dL_law_1190 (by decide) ?_
  refine lv_iadd hx hb dL_law_1191 ?_
  refine lv_topi (fun v_1 e_1 => ?_)
  obtain rfl : v_1 = 1 := (e_1).trans (by decide)
  refine va_sld hx hb hX hbl hbA hS (by unfold vp_in; decide) dL_law_1192 ?_
  refine lv_topi (fun v_2 e_2 => ?_)
  obtain rfl : sc1 = v_2 := ((e_2).trans hsc1.symm).symm
  have hPc_3 := hP.sub (ws' := [(x, .inr (7, [.ref ro, .ref ta, .ref no, .ref ac, .ref im, .ref tr, .ref pl, .ref cs, .ref ak, .int 0, .int 0])), (im, .inl (cL, 2, .inr (.inr (.inr (.inr fi))))), (i0, .inr (3, [.int 0, .int 0, .int 0, .int 0, .int 0, .int 0, .int 0, .int 0, .ref x1, .ref x2, .ref x3, .ref x4, .ref x5])), (i1, .inr (3, [.int 0, .int 0, .int 0, .int 0, .int 0, .int 0, .int 0, .int 0, .ref y1, .ref y2, .ref y3, .ref y4, .ref y5]))]) [0, 18, 19, 20] rfl
  refine vp_callSi (W.runV (As := [.int sc1]) (rest := []) ⟨hx, hb, hml, hown, hts⟩ (c_X7_restore l dC dI cI cZ cL cJ x ro ta no ac im tr pl cs ak i0 i1 x1 x2 x3 x4 x5 y1 y2 y3 y4 y5 fi sc1 (hf0) (hf1)) (cwV 1 hts gL_law_X7_restore rfl rfl rfl (by decide +kernel) ⟨Nat.le_of_ble_eq_true rfl, Nat.le_of_ble_eq_true rfl⟩) ⟨fun a U g mk q => by obtain ⟨q0, qP, qK⟩ := q; exact ⟨q0, qP, va_K.moved (u := U) (U := U.calling g mk a) (Vm.Alike.refl U.vm) qK⟩, va_recv hK hP (ci := 7) (q0 := 0) rfl rfl, fun U hU hW => ⟨rfl, by rw [hU]; exact hPc_3, va_K.moved hW.alike hK⟩⟩ rfl rfl hl.1 rfl (lv_room (Nat.le_of_ble_eq_true rfl)) dL_law_1193 ⟨Nat.le_of_ble_eq_true rfl, Nat.le_of_ble_eq_true rfl⟩) (fun r_3 h_3 => ?_)
  refine lv_aload_n hx hb dL_law_1196 rfl (lv_at hl 1 rfl) ?_
  refine lv_aload_n hx hb dL_law_1197 rfl (lv_at hl 3 rfl) ?_
  refine lv_iload_n hx hb dL_law_1198 rfl (lv_at hl 0 rfl) ?_
  refine lv_iconst (v := 1) hx hb dL_law_1199 (by decide) ?_
  refine lv_iadd hx hb dL_law_1200 ?_
  refine lv_topi (fun v_4 e_4 => ?_)
  obtain rfl : v_4 = 1 := (e_4).trans (by decide)
  refine va_sld hx hb hX hbl hbA hS (by unfold vp_in; decide) dL_law_1201 ?_
  refine lv_topi (fun v_5 e_5 => ?_)
  obtain rfl : sc1 = v_5 := ((e_5).trans hsc1.symm).symm
  have hPc_6 := hP.sub (ws' := [(mo, .inr (8, [.ref m_la, .ref m_sz, .ref m_it, .int 0, .int 0, .ref m_st, .ref m_mv, .ref m_tp, .int 0, .int 0, .int 0, .int 0, .int 0, .int 0, .int 0, .ref m_rd, .ref m_ac, .int 0, .ref m_as, .ref m_wo, .ref m_ik, .ref m_ke, .ref m_tr, .int 0])), (m_ik, .inl (cZ, 2, .inl (fun _ => 0)))]) [22, 25] rfl
  refine vp_callSi (W.runV (As := [.int sc1]) (rest := [.int r_3]) ⟨hx, hb, hml, hown, hts⟩ (c_X8_restore l dC dI cI cZ cL cJ mo m_la m_sz m_it m_st m_mv m_tp m_rd m_ac m_as m_wo m_ik m_ke m_tr sc1 ) (cwV 1 hts gL_law_X8_restore rfl rfl rfl (by decide +kernel) ⟨Nat.le_of_ble_eq_true rfl, Nat.le_of_ble_eq_true rfl⟩) ⟨fun a U g mk q => by obtain ⟨q0, qP, qK⟩ := q; exact ⟨q0, qP, va_K.moved (u := U) (U := U.calling g mk a) (Vm.Alike.refl U.vm) qK⟩, va_recv hK hP (ci := 8) (q0 := 22) rfl rfl, fun U hU hW => ⟨rfl, by rw [hU]; exact hPc_6, va_K.moved hW.alike hK⟩⟩ rfl rfl hl.1 rfl (lv_room (Nat.le_of_ble_eq_true rfl)) dL_law_1202 ⟨Nat.le_of_ble_eq_true rfl, Nat.le_of_ble_eq_true rfl⟩) (fun r_6 h_6 => ?_)
  refine lv_icmp_eq (tgt := 1358) hx hb dL_law_1205 (by decide) (fun _ => ?_) (fun c_ => absurd (h_3.trans h_6.symm) c_)
  refine lv_iinc (v := 6) (lv' := [(3, .int 6), (2, .ref mo), (1, .ref x), (0, .ref b)]) hx hb dL_law_1358 hl (k := 0) rfl (by decide) (by decide) rfl (fun ls hl => ?_)
  refine lv_goto (tgt := 18) hx hb dL_law_1361 (by decide) ?_
  refine lv_iload_n hx hb dL_law_18 rfl (lv_at hl 0 rfl) ?_
  refine lv_aload_n hx hb dL_law_19 rfl (lv_at hl 3 rfl) ?_
  refine va_slen hx hb hX hbl hbA hS dL_law_20 ?_
  refine lv_topi (fun v_8 e_8 => ?_)
  obtain rfl : v_8 = 6 := (e_8).trans (by decide)
  refine lv_bipush (v := 6) hx hb dL_law_21 (by decide) ?_
  refine lv_isub hx hb dL_law_23 ?_
  refine lv_topi (fun v_9 e_9 => ?_)
  obtain rfl : v_9 = 0 := (e_9).trans (by decide)
  refine lv_icmp_gt (tgt := 1364) hx hb dL_law_24 (by decide) (fun _ => ?_) (fun c_ => absurd (by decide) c_)
  refine lv_iconst (v := 1) hx hb dL_law_1364 (by decide) ?_
  refine va_forget (fun q hq => by have q9 := hS.2.2 q hq; rw [hAd] at q9; exact q9) ?_
  refine W.widen (k := 600000) (n := 7302250) (Nat.le_of_ble_eq_true rfl) (Nat.le_of_ble_eq_true rfl) ?_
  exact lw_ret hx hb hr hlocks dL_law_1365
set_option maxHeartbeats 4000000 in
set_option maxRecDepth 100000 in
theorem lw_c31 {p : Program} {l : Launch} {e : Env} {s : State} {m : MethodId} {below : List Frame} {meth : Method} {c : Code} {b : Nat} {xs : Nat → Int32} {dC : Nat → ClassId} {dI : Nat → Nat → Nat} {cI cZ cL cJ : ClassId} {A : Nat → Prop} {H : Heap} {locs : List Loc} {ls : Array Slot} {sc1 sc2 sc3 sc4 sc5 : Int32} {x mo : Nat} {ro : Nat} {it : Nat} {la : Nat} {le : Nat} {fl : Nat → Int32} {ta : Nat} {bs : Nat} {td : Nat} {t1 : Nat} {t2 : Nat} {t3 : Nat} {t4 : Nat} {t5 : Nat} {no : Nat} {n1 : Nat} {n2 : Nat} {n3 : Nat} {n4 : Nat} {n5 : Nat} {ac : Nat} {be : Nat} {im : Nat} {fi : Nat → Option Nat} {i0 : Nat} {x1 : Nat} {x2 : Nat} {x3 : Nat} {x4 : Nat} {x5 : Nat} {i1 : Nat} {y1 : Nat} {y2 : Nat} {y3 : Nat} {y4 : Nat} {y5 : Nat} {tr : Nat} {pl : Nat} {cs : Nat} {ak : Nat} {tc : Nat} {m_la : Nat} {m_sz : Nat} {m_it : Nat} {m_st : Nat} {m_mv : Nat} {m_tp : Nat} {m_rd : Nat} {m_ac : Nat} {m_as : Nat} {m_wo : Nat} {m_ik : Nat} {m_ke : Nat} {m_tr : Nat} {fm : Nat → Int32} (hx : p.tables.exec = Jvm.exec) (hb : c.code = code) (hr : meth.sig.returnType = ret) (hml : c.maxLocals = 4) (hown : s.vm.findClass RL = some m.cls) (hts : ∀ w ∈ wsL_law, w.before #[Value.ref b] s = true) (hX : va_X b 6 xs s s.heap) (hbl : b < s.heap.size) (hlocks : meth.locks = false) (hAd : A = fun q => s.heap.size ≤ q) (hA : ∀ q : Nat, s.heap.size ≤ q → A q) (hbA : ¬ A b) (hsc1 : sc1 = xs 1) (hsc2 : sc2 = xs 2) (hsc3 : sc3 = xs 3) (hsc4 : sc4 = xs 4) (hsc5 : sc5 = xs 5) (hfl : ∀ j : Nat, j < 8 → fl j = -1) (hf0 : fi 0 = some i0) (hf1 : fi 1 = some i1) (hfm : ∀ j : Nat, j < 8 → fm j = -1) (hK : va_K (dC, dI) vwCl [(cI, .int), (cZ, .boolean), (cL, .object RX3), (cJ, .array .int)] s) (hP : va_P (dC, dI) vwCl [(x, .inr (7, [.ref ro, .ref ta, .ref no, .ref ac, .ref im, .ref tr, .ref pl, .ref cs, .ref ak, .int 0, .int 0])), (ro, .inr (5, [.ref it, .ref la, .ref le])), (la, .inl (cI, 8, .inl fl)), (le, .inl (cI, 8, .inl (fun _ => 0))), (it, .inl (cJ, 8, .inr (.inr (.inr (.inr (fun i => if i < 8 then some (it + 1 + i) else none)))))), ((it + 1 + 0), .inl (cI, 40, .inl (fun _ => 0))), ((it + 1 + 1), .inl (cI, 40, .inl (fun _ => 0))), ((it + 1 + 2), .inl (cI, 40, .inl (fun _ => 0))), ((it + 1 + 3), .inl (cI, 40, .inl (fun _ => 0))), ((it + 1 + 4), .inl (cI, 40, .inl (fun _ => 0))), ((it + 1 + 5), .inl (cI, 40, .inl (fun _ => 0))), ((it + 1 + 6), .inl (cI, 40, .inl (fun _ => 0))), ((it + 1 + 7), .inl (cI, 40, .inl (fun _ => 0))), (ta, .inr (6, [.ref bs, .int 0, .ref td, .int 0, .int 0, .int 0])), (bs, .inl (cI, 120, .inl (fun _ => 0))), (td, .inr (3, [.int 0, .int 0, .int 0, .int 0, .int 0, .int 0, .int 0, .int 0, .ref t1, .ref t2, .ref t3, .ref t4, .ref t5])), (no, .inr (3, [.int 0, .int 0, .int 0, .int 0, .int 0, .int 0, .int 0, .int 0, .ref n1, .ref n2, .ref n3, .ref n4, .ref n5])), (ac, .inr (0, [.ref be, .int 0, .int 0])), (im, .inl (cL, 2, .inr (.inr (.inr (.inr fi))))), (i0, .inr (3, [.int 0, .int 0, .int 0, .int 0, .int 0, .int 0, .int 0, .int 0, .ref x1, .ref x2, .ref x3, .ref x4, .ref x5])), (i1, .inr (3, [.int 0, .int 0, .int 0, .int 0, .int 0, .int 0, .int 0, .int 0, .ref y1, .ref y2, .ref y3, .ref y4, .ref y5])), (ak, .inr (1, [.ref tc, .int 0, .int 0, .int 0, .int 0, .int 0])), (mo, .inr (8, [.ref m_la, .ref m_sz, .ref m_it, .int 0, .int 0, .ref m_st, .ref m_mv, .ref m_tp, .int 0, .int 0, .int 0, .int 0, .int 0, .int 0, .int 0, .ref m_rd, .ref m_ac, .int 0, .ref m_as, .ref m_wo, .ref m_ik, .ref m_ke, .ref m_tr, .int 0])), (m_sz, .inl (cI, 8, .inl fm)), (m_st, .inl (cI, 38, .inl (fun _ => 0))), (m_ik, .inl (cZ, 2, .inl (fun _ => 0))), (m_la, .inl (cI, 8, .inl (fun _ => 0))), (m_it, .inl (cI, 320, .inl (fun _ => 0))), (m_tp, .inl (cI, 120, .inl (fun _ => 0))), (m_rd, .inl (cI, 38, .inl (fun _ => 0)))] H) (hD : va_D A [(x, .inr (7, [.ref ro, .ref ta, .ref no, .ref ac, .ref im, .ref tr, .ref pl, .ref cs, .ref ak, .int 0, .int 0])), (ro, .inr (5, [.ref it, .ref la, .ref le])), (la, .inl (cI, 8, .inl fl)), (le, .inl (cI, 8, .inl (fun _ => 0))), (it, .inl (cJ, 8, .inr (.inr (.inr (.inr (fun i => if i < 8 then some (it + 1 + i) else none)))))), ((it + 1 + 0), .inl (cI, 40, .inl (fun _ => 0))), ((it + 1 + 1), .inl (cI, 40, .inl (fun _ => 0))), ((it + 1 + 2), .inl (cI, 40, .inl (fun _ => 0))), ((it + 1 + 3), .inl (cI, 40, .inl (fun _ => 0))), ((it + 1 + 4), .inl (cI, 40, .inl (fun _ => 0))), ((it + 1 + 5), .inl (cI, 40, .inl (fun _ => 0))), ((it + 1 + 6), .inl (cI, 40, .inl (fun _ => 0))), ((it + 1 + 7), .inl (cI, 40, .inl (fun _ => 0))), (ta, .inr (6, [.ref bs, .int 0, .ref td, .int 0, .int 0, .int 0])), (bs, .inl (cI, 120, .inl (fun _ => 0))), (td, .inr (3, [.int 0, .int 0, .int 0, .int 0, .int 0, .int 0, .int 0, .int 0, .ref t1, .ref t2, .ref t3, .ref t4, .ref t5])), (no, .inr (3, [.int 0, .int 0, .int 0, .int 0, .int 0, .int 0, .int 0, .int 0, .ref n1, .ref n2, .ref n3, .ref n4, .ref n5])), (ac, .inr (0, [.ref be, .int 0, .int 0])), (im, .inl (cL, 2, .inr (.inr (.inr (.inr fi))))), (i0, .inr (3, [.int 0, .int 0, .int 0, .int 0, .int 0, .int 0, .int 0, .int 0, .ref x1, .ref x2, .ref x3, .ref x4, .ref x5])), (i1, .inr (3, [.int 0, .int 0, .int 0, .int 0, .int 0, .int 0, .int 0, .int 0, .ref y1, .ref y2, .ref y3, .ref y4, .ref y5])), (ak, .inr (1, [.ref tc, .int 0, .int 0, .int 0, .int 0, .int 0])), (mo, .inr (8, [.ref m_la, .ref m_sz, .ref m_it, .int 0, .int 0, .ref m_st, .ref m_mv, .ref m_tp, .int 0, .int 0, .int 0, .int 0, .int 0, .int 0, .int 0, .ref m_rd, .ref m_ac, .int 0, .ref m_as, .ref m_wo, .ref m_ik, .ref m_ke, .ref m_tr, .int 0])), (m_sz, .inl (cI, 8, .inl fm)), (m_st, .inl (cI, 38, .inl (fun _ => 0))), (m_ik, .inl (cZ, 2, .inl (fun _ => 0))), (m_la, .inl (cI, 8, .inl (fun _ => 0))), (m_it, .inl (cI, 320, .inl (fun _ => 0))), (m_tp, .inl (cI, 120, .inl (fun _ => 0))), (m_rd, .inl (cI, 38, .inl (fun _ => 0)))]) (hS : va_S A s.heap H locs) (hl : lv_has ls 4 [(3, .int 0), (2, .ref mo), (1, .ref x), (0, .ref b)]) : W p l e room_1 s m #[Value.ref b] below meth c H locs 277 3929 (lw_Z below #[Value.ref b] s) (F0 m 1210 ls []) := by
  refine lv_aload_n hx hb dL_law_1210 rfl (lv_at hl 2 rfl) ?_
  refine lv_aload_n hx hb dL_law_1211 rfl (lv_at hl 3 rfl) ?_
  refine lv_iload_n hx hb dL_law_1212 rfl (lv_at hl 0 rfl) ?_
  refine lv_iconst (v := 1) hx hb dL_law_1213 (by decide) ?_
  refine lv_iadd hx hb dL_law_1214 ?_
  refine lv_topi (fun v_1 e_1 => ?_)
  obtain rfl : v_1 = 1 := (e_1).trans (by decide)
  refine va_sld hx hb hX hbl hbA hS (by unfold vp_in; decide) dL_law_1215 ?_
  refine lv_topi (fun v_2 e_2 => ?_)
  obtain rfl : sc1 = v_2 := ((e_2).trans hsc1.symm).symm
  have hPc_3 := hP.sub (ws' := [(x, .inr (7, [.ref ro, .ref ta, .ref no, .ref ac, .ref im, .ref tr, .ref pl, .ref cs, .ref ak, .int 0, .int 0])), (no, .inr (3, [.int 0, .int 0, .int 0, .int 0, .int 0, .int 0, .int 0, .int 0, .ref n1, .ref n2, .ref n3, .ref n4, .ref n5]))]) [0, 16] rfl
  refine vp_callSi (W.runV (As := [.int sc1]) (rest := []) ⟨hx, hb, hml, hown, hts⟩ (c_X7_kind l dC dI cI cZ cL cJ x ro ta no ac im tr pl cs ak n1 n2 n3 n4 n5 sc1 ) (cwV 1 hts gL_law_X7_kind rfl rfl rfl (by decide +kernel) ⟨Nat.le_of_ble_eq_true rfl, Nat.le_of_ble_eq_true rfl⟩) ⟨fun a U g mk q => by obtain ⟨q0, qP, qK⟩ := q; exact ⟨q0, qP, va_K.moved (u := U) (U := U.calling g mk a) (Vm.Alike.refl U.vm) qK⟩, va_recv hK hP (ci := 7) (q0 := 0) rfl rfl, fun U hU hW => ⟨rfl, by rw [hU]; exact hPc_3, va_K.moved hW.alike hK⟩⟩ rfl rfl hl.1 rfl (lv_room (Nat.le_of_ble_eq_true rfl)) dL_law_1216 ⟨Nat.le_of_ble_eq_true rfl, Nat.le_of_ble_eq_true rfl⟩) (fun r_3 h_3 => ?_)
  subst h_3
  refine lv_aload_n hx hb dL_law_1219 rfl (lv_at hl 1 rfl) ?_
  refine lv_aload_n hx hb dL_law_1220 rfl (lv_at hl 3 rfl) ?_
  refine lv_iload_n hx hb dL_law_1221 rfl (lv_at hl 0 rfl) ?_
  refine lv_iconst (v := 1) hx hb dL_law_1222 (by decide) ?_
  refine lv_iadd hx hb dL_law_1223 ?_
  refine lv_topi (fun v_4 e_4 => ?_)
  obtain rfl : v_4 = 1 := (e_4).trans (by decide)
  refine va_sld hx hb hX hbl hbA hS (by unfold vp_in; decide) dL_law_1224 ?_
  refine lv_topi (fun v_5 e_5 => ?_)
  obtain rfl : sc1 = v_5 := ((e_5).trans hsc1.symm).symm
  have hPc_6 := hP.sub (ws' := [(mo, .inr (8, [.ref m_la, .ref m_sz, .ref m_it, .int 0, .int 0, .ref m_st, .ref m_mv, .ref m_tp, .int 0, .int 0, .int 0, .int 0, .int 0, .int 0, .int 0, .ref m_rd, .ref m_ac, .int 0, .ref m_as, .ref m_wo, .ref m_ik, .ref m_ke, .ref m_tr, .int 0])), (m_st, .inl (cI, 38, .inl (fun _ => 0)))]) [22, 24] rfl
  refine vp_callSi (W.runV (As := [.int sc1]) (rest := [.int (-1000001)]) ⟨hx, hb, hml, hown, hts⟩ (c_X8_kind l dC dI cI cZ cL cJ mo m_la m_sz m_it m_st m_mv m_tp m_rd m_ac m_as m_wo m_ik m_ke m_tr sc1 ) (cwV 1 hts gL_law_X8_kind rfl rfl rfl (by decide +kernel) ⟨Nat.le_of_ble_eq_true rfl, Nat.le_of_ble_eq_true rfl⟩) ⟨fun a U g mk q => by obtain ⟨q0, qP, qK⟩ := q; exact ⟨q0, qP, va_K.moved (u := U) (U := U.calling g mk a) (Vm.Alike.refl U.vm) qK⟩, va_recv hK hP (ci := 8) (q0 := 22) rfl rfl, fun U hU hW => ⟨rfl, by rw [hU]; exact hPc_6, va_K.moved hW.alike hK⟩⟩ rfl rfl hl.1 rfl (lv_room (Nat.le_of_ble_eq_true rfl)) dL_law_1225 ⟨Nat.le_of_ble_eq_true rfl, Nat.le_of_ble_eq_true rfl⟩) (fun r_6 h_6 => ?_)
  subst h_6
  refine lv_icmp_eq (tgt := 1358) hx hb dL_law_1228 (by decide) (fun _ => ?_) (fun c_ => absurd (by decide) c_)
  refine lv_iinc (v := 6) (lv' := [(3, .int 6), (2, .ref mo), (1, .ref x), (0, .ref b)]) hx hb dL_law_1358 hl (k := 0) rfl (by decide) (by decide) rfl (fun ls hl => ?_)
  refine lv_goto (tgt := 18) hx hb dL_law_1361 (by decide) ?_
  refine lv_iload_n hx hb dL_law_18 rfl (lv_at hl 0 rfl) ?_
  refine lv_aload_n hx hb dL_law_19 rfl (lv_at hl 3 rfl) ?_
  refine va_slen hx hb hX hbl hbA hS dL_law_20 ?_
  refine lv_topi (fun v_8 e_8 => ?_)
  obtain rfl : v_8 = 6 := (e_8).trans (by decide)
  refine lv_bipush (v := 6) hx hb dL_law_21 (by decide) ?_
  refine lv_isub hx hb dL_law_23 ?_
  refine lv_topi (fun v_9 e_9 => ?_)
  obtain rfl : v_9 = 0 := (e_9).trans (by decide)
  refine lv_icmp_gt (tgt := 1364) hx hb dL_law_24 (by decide) (fun _ => ?_) (fun c_ => absurd (by decide) c_)
  refine lv_iconst (v := 1) hx hb dL_law_1364 (by decide) ?_
  refine va_forget (fun q hq => by have q9 := hS.2.2 q hq; rw [hAd] at q9; exact q9) ?_
  refine W.widen (k := 600000) (n := 7302250) (Nat.le_of_ble_eq_true rfl) (Nat.le_of_ble_eq_true rfl) ?_
  exact lw_ret hx hb hr hlocks dL_law_1365
set_option maxHeartbeats 4000000 in
set_option maxRecDepth 100000 in
theorem lw_c32 {p : Program} {l : Launch} {e : Env} {s : State} {m : MethodId} {below : List Frame} {meth : Method} {c : Code} {b : Nat} {xs : Nat → Int32} {dC : Nat → ClassId} {dI : Nat → Nat → Nat} {cI cZ cL cJ : ClassId} {A : Nat → Prop} {H : Heap} {locs : List Loc} {ls : Array Slot} {sc1 sc2 sc3 sc4 sc5 : Int32} {x mo : Nat} {ro : Nat} {it : Nat} {la : Nat} {le : Nat} {fl : Nat → Int32} {ta : Nat} {bs : Nat} {td : Nat} {t1 : Nat} {t2 : Nat} {t3 : Nat} {t4 : Nat} {t5 : Nat} {no : Nat} {n1 : Nat} {n2 : Nat} {n3 : Nat} {n4 : Nat} {n5 : Nat} {ac : Nat} {be : Nat} {im : Nat} {fi : Nat → Option Nat} {i0 : Nat} {x1 : Nat} {x2 : Nat} {x3 : Nat} {x4 : Nat} {x5 : Nat} {i1 : Nat} {y1 : Nat} {y2 : Nat} {y3 : Nat} {y4 : Nat} {y5 : Nat} {tr : Nat} {pl : Nat} {cs : Nat} {ak : Nat} {tc : Nat} {m_la : Nat} {m_sz : Nat} {m_it : Nat} {m_st : Nat} {m_mv : Nat} {m_tp : Nat} {m_rd : Nat} {m_ac : Nat} {m_as : Nat} {m_wo : Nat} {m_ik : Nat} {m_ke : Nat} {m_tr : Nat} {fm : Nat → Int32} (hx : p.tables.exec = Jvm.exec) (hb : c.code = code) (hr : meth.sig.returnType = ret) (hml : c.maxLocals = 4) (hown : s.vm.findClass RL = some m.cls) (hts : ∀ w ∈ wsL_law, w.before #[Value.ref b] s = true) (hX : va_X b 6 xs s s.heap) (hbl : b < s.heap.size) (hlocks : meth.locks = false) (hAd : A = fun q => s.heap.size ≤ q) (hA : ∀ q : Nat, s.heap.size ≤ q → A q) (hbA : ¬ A b) (hsc1 : sc1 = xs 1) (hsc2 : sc2 = xs 2) (hsc3 : sc3 = xs 3) (hsc4 : sc4 = xs 4) (hsc5 : sc5 = xs 5) (hfl : ∀ j : Nat, j < 8 → fl j = -1) (hf0 : fi 0 = some i0) (hf1 : fi 1 = some i1) (hfm : ∀ j : Nat, j < 8 → fm j = -1) (hK : va_K (dC, dI) vwCl [(cI, .int), (cZ, .boolean), (cL, .object RX3), (cJ, .array .int)] s) (hP : va_P (dC, dI) vwCl [(x, .inr (7, [.ref ro, .ref ta, .ref no, .ref ac, .ref im, .ref tr, .ref pl, .ref cs, .ref ak, .int 0, .int 0])), (ro, .inr (5, [.ref it, .ref la, .ref le])), (la, .inl (cI, 8, .inl fl)), (le, .inl (cI, 8, .inl (fun _ => 0))), (it, .inl (cJ, 8, .inr (.inr (.inr (.inr (fun i => if i < 8 then some (it + 1 + i) else none)))))), ((it + 1 + 0), .inl (cI, 40, .inl (fun _ => 0))), ((it + 1 + 1), .inl (cI, 40, .inl (fun _ => 0))), ((it + 1 + 2), .inl (cI, 40, .inl (fun _ => 0))), ((it + 1 + 3), .inl (cI, 40, .inl (fun _ => 0))), ((it + 1 + 4), .inl (cI, 40, .inl (fun _ => 0))), ((it + 1 + 5), .inl (cI, 40, .inl (fun _ => 0))), ((it + 1 + 6), .inl (cI, 40, .inl (fun _ => 0))), ((it + 1 + 7), .inl (cI, 40, .inl (fun _ => 0))), (ta, .inr (6, [.ref bs, .int 0, .ref td, .int 0, .int 0, .int 0])), (bs, .inl (cI, 120, .inl (fun _ => 0))), (td, .inr (3, [.int 0, .int 0, .int 0, .int 0, .int 0, .int 0, .int 0, .int 0, .ref t1, .ref t2, .ref t3, .ref t4, .ref t5])), (no, .inr (3, [.int 0, .int 0, .int 0, .int 0, .int 0, .int 0, .int 0, .int 0, .ref n1, .ref n2, .ref n3, .ref n4, .ref n5])), (ac, .inr (0, [.ref be, .int 0, .int 0])), (im, .inl (cL, 2, .inr (.inr (.inr (.inr fi))))), (i0, .inr (3, [.int 0, .int 0, .int 0, .int 0, .int 0, .int 0, .int 0, .int 0, .ref x1, .ref x2, .ref x3, .ref x4, .ref x5])), (i1, .inr (3, [.int 0, .int 0, .int 0, .int 0, .int 0, .int 0, .int 0, .int 0, .ref y1, .ref y2, .ref y3, .ref y4, .ref y5])), (ak, .inr (1, [.ref tc, .int 0, .int 0, .int 0, .int 0, .int 0])), (mo, .inr (8, [.ref m_la, .ref m_sz, .ref m_it, .int 0, .int 0, .ref m_st, .ref m_mv, .ref m_tp, .int 0, .int 0, .int 0, .int 0, .int 0, .int 0, .int 0, .ref m_rd, .ref m_ac, .int 0, .ref m_as, .ref m_wo, .ref m_ik, .ref m_ke, .ref m_tr, .int 0])), (m_sz, .inl (cI, 8, .inl fm)), (m_st, .inl (cI, 38, .inl (fun _ => 0))), (m_ik, .inl (cZ, 2, .inl (fun _ => 0))), (m_la, .inl (cI, 8, .inl (fun _ => 0))), (m_it, .inl (cI, 320, .inl (fun _ => 0))), (m_tp, .inl (cI, 120, .inl (fun _ => 0))), (m_rd, .inl (cI, 38, .inl (fun _ => 0)))] H) (hD : va_D A [(x, .inr (7, [.ref ro, .ref ta, .ref no, .ref ac, .ref im, .ref tr, .ref pl, .ref cs, .ref ak, .int 0, .int 0])), (ro, .inr (5, [.ref it, .ref la, .ref le])), (la, .inl (cI, 8, .inl fl)), (le, .inl (cI, 8, .inl (fun _ => 0))), (it, .inl (cJ, 8, .inr (.inr (.inr (.inr (fun i => if i < 8 then some (it + 1 + i) else none)))))), ((it + 1 + 0), .inl (cI, 40, .inl (fun _ => 0))), ((it + 1 + 1), .inl (cI, 40, .inl (fun _ => 0))), ((it + 1 + 2), .inl (cI, 40, .inl (fun _ => 0))), ((it + 1 + 3), .inl (cI, 40, .inl (fun _ => 0))), ((it + 1 + 4), .inl (cI, 40, .inl (fun _ => 0))), ((it + 1 + 5), .inl (cI, 40, .inl (fun _ => 0))), ((it + 1 + 6), .inl (cI, 40, .inl (fun _ => 0))), ((it + 1 + 7), .inl (cI, 40, .inl (fun _ => 0))), (ta, .inr (6, [.ref bs, .int 0, .ref td, .int 0, .int 0, .int 0])), (bs, .inl (cI, 120, .inl (fun _ => 0))), (td, .inr (3, [.int 0, .int 0, .int 0, .int 0, .int 0, .int 0, .int 0, .int 0, .ref t1, .ref t2, .ref t3, .ref t4, .ref t5])), (no, .inr (3, [.int 0, .int 0, .int 0, .int 0, .int 0, .int 0, .int 0, .int 0, .ref n1, .ref n2, .ref n3, .ref n4, .ref n5])), (ac, .inr (0, [.ref be, .int 0, .int 0])), (im, .inl (cL, 2, .inr (.inr (.inr (.inr fi))))), (i0, .inr (3, [.int 0, .int 0, .int 0, .int 0, .int 0, .int 0, .int 0, .int 0, .ref x1, .ref x2, .ref x3, .ref x4, .ref x5])), (i1, .inr (3, [.int 0, .int 0, .int 0, .int 0, .int 0, .int 0, .int 0, .int 0, .ref y1, .ref y2, .ref y3, .ref y4, .ref y5])), (ak, .inr (1, [.ref tc, .int 0, .int 0, .int 0, .int 0, .int 0])), (mo, .inr (8, [.ref m_la, .ref m_sz, .ref m_it, .int 0, .int 0, .ref m_st, .ref m_mv, .ref m_tp, .int 0, .int 0, .int 0, .int 0, .int 0, .int 0, .int 0, .ref m_rd, .ref m_ac, .int 0, .ref m_as, .ref m_wo, .ref m_ik, .ref m_ke, .ref m_tr, .int 0])), (m_sz, .inl (cI, 8, .inl fm)), (m_st, .inl (cI, 38, .inl (fun _ => 0))), (m_ik, .inl (cZ, 2, .inl (fun _ => 0))), (m_la, .inl (cI, 8, .inl (fun _ => 0))), (m_it, .inl (cI, 320, .inl (fun _ => 0))), (m_tp, .inl (cI, 120, .inl (fun _ => 0))), (m_rd, .inl (cI, 38, .inl (fun _ => 0)))]) (hS : va_S A s.heap H locs) (hl : lv_has ls 4 [(3, .int 0), (2, .ref mo), (1, .ref x), (0, .ref b)]) : W p l e room_1 s m #[Value.ref b] below meth c H locs 277 3929 (lw_Z below #[Value.ref b] s) (F0 m 1233 ls []) := by
  refine lv_aload_n hx hb dL_law_1233 rfl (lv_at hl 2 rfl) ?_
  refine lv_aload_n hx hb dL_law_1234 rfl (lv_at hl 3 rfl) ?_
  refine lv_iload_n hx hb dL_law_1235 rfl (lv_at hl 0 rfl) ?_
  refine lv_iconst (v := 1) hx hb dL_law_1236 (by decide) ?_
  refine lv_iadd hx hb dL_law_1237 ?_
  refine lv_topi (fun v_1 e_1 => ?_)
  obtain rfl : v_1 = 1 := (e_1).trans (by decide)
  refine va_sld hx hb hX hbl hbA hS (by unfold vp_in; decide) dL_law_1238 ?_
  refine lv_topi (fun v_2 e_2 => ?_)
  obtain rfl : sc1 = v_2 := ((e_2).trans hsc1.symm).symm
  refine lv_aload_n hx hb dL_law_1239 rfl (lv_at hl 3 rfl) ?_
  refine lv_iload_n hx hb dL_law_1240 rfl (lv_at hl 0 rfl) ?_
  refine lv_iconst (v := 2) hx hb dL_law_1241 (by decide) ?_
  refine lv_iadd hx hb dL_law_1242 ?_
  refine lv_topi (fun v_3 e_3 => ?_)
  obtain rfl : v_3 = 2 := (e_3).trans (by decide)
  refine va_sld hx hb hX hbl hbA hS (by unfold vp_in; decide) dL_law_1243 ?_
  refine lv_topi (fun v_4 e_4 => ?_)
  obtain rfl : sc2 = v_4 := ((e_4).trans hsc2.symm).symm
  have hPc_5 := hP.sub (ws' := [(x, .inr (7, [.ref ro, .ref ta, .ref no, .ref ac, .ref im, .ref tr, .ref pl, .ref cs, .ref ak, .int 0, .int 0])), (no, .inr (3, [.int 0, .int 0, .int 0, .int 0, .int 0, .int 0, .int 0, .int 0, .ref n1, .ref n2, .ref n3, .ref n4, .ref n5]))]) [0, 16] rfl
  refine vp_callSi (W.runV (As := [.int sc1, .int sc2]) (rest := []) ⟨hx, hb, hml, hown, hts⟩ (c_X7_as l dC dI cI cZ cL cJ x ro ta no ac im tr pl cs ak n1 n2 n3 n4 n5 sc1 sc2 ) (cwV 2 hts gL_law_X7_as rfl rfl rfl (by decide +kernel) ⟨Nat.le_of_ble_eq_true rfl, Nat.le_of_ble_eq_true rfl⟩) ⟨fun a U g mk q => by obtain ⟨q0, qP, qK⟩ := q; exact ⟨q0, qP, va_K.moved (u := U) (U := U.calling g mk a) (Vm.Alike.refl U.vm) qK⟩, va_recv hK hP (ci := 7) (q0 := 0) rfl rfl, fun U hU hW => ⟨rfl, by rw [hU]; exact hPc_5, va_K.moved hW.alike hK⟩⟩ rfl rfl hl.1 rfl (lv_room (Nat.le_of_ble_eq_true rfl)) dL_law_1244 ⟨Nat.le_of_ble_eq_true rfl, Nat.le_of_ble_eq_true rfl⟩) (fun r_5 h_5 => ?_)
  subst h_5
  refine lv_aload_n hx hb dL_law_1247 rfl (lv_at hl 1 rfl) ?_
  refine lv_aload_n hx hb dL_law_1248 rfl (lv_at hl 3 rfl) ?_
  refine lv_iload_n hx hb dL_law_1249 rfl (lv_at hl 0 rfl) ?_
  refine lv_iconst (v := 1) hx hb dL_law_1250 (by decide) ?_
  refine lv_iadd hx hb dL_law_1251 ?_
  refine lv_topi (fun v_6 e_6 => ?_)
  obtain rfl : v_6 = 1 := (e_6).trans (by decide)
  refine va_sld hx hb hX hbl hbA hS (by unfold vp_in; decide) dL_law_1252 ?_
  refine lv_topi (fun v_7 e_7 => ?_)
  obtain rfl : sc1 = v_7 := ((e_7).trans hsc1.symm).symm
  refine lv_aload_n hx hb dL_law_1253 rfl (lv_at hl 3 rfl) ?_
  refine lv_iload_n hx hb dL_law_1254 rfl (lv_at hl 0 rfl) ?_
  refine lv_iconst (v := 2) hx hb dL_law_1255 (by decide) ?_
  refine lv_iadd hx hb dL_law_1256 ?_
  refine lv_topi (fun v_8 e_8 => ?_)
  obtain rfl : v_8 = 2 := (e_8).trans (by decide)
  refine va_sld hx hb hX hbl hbA hS (by unfold vp_in; decide) dL_law_1257 ?_
  refine lv_topi (fun v_9 e_9 => ?_)
  obtain rfl : sc2 = v_9 := ((e_9).trans hsc2.symm).symm
  have hPc_10 := hP.sub (ws' := [(mo, .inr (8, [.ref m_la, .ref m_sz, .ref m_it, .int 0, .int 0, .ref m_st, .ref m_mv, .ref m_tp, .int 0, .int 0, .int 0, .int 0, .int 0, .int 0, .int 0, .ref m_rd, .ref m_ac, .int 0, .ref m_as, .ref m_wo, .ref m_ik, .ref m_ke, .ref m_tr, .int 0])), (m_st, .inl (cI, 38, .inl (fun _ => 0)))]) [22, 24] rfl
  refine vp_callSi (W.runV (As := [.int sc1, .int sc2]) (rest := [.int (-1000001)]) ⟨hx, hb, hml, hown, hts⟩ (c_X8_as l dC dI cI cZ cL cJ mo m_la m_sz m_it m_st m_mv m_tp m_rd m_ac m_as m_wo m_ik m_ke m_tr sc1 sc2 ) (cwV 2 hts gL_law_X8_as rfl rfl rfl (by decide +kernel) ⟨Nat.le_of_ble_eq_true rfl, Nat.le_of_ble_eq_true rfl⟩) ⟨fun a U g mk q => by obtain ⟨q0, qP, qK⟩ := q; exact ⟨q0, qP, va_K.moved (u := U) (U := U.calling g mk a) (Vm.Alike.refl U.vm) qK⟩, va_recv hK hP (ci := 8) (q0 := 22) rfl rfl, fun U hU hW => ⟨rfl, by rw [hU]; exact hPc_10, va_K.moved hW.alike hK⟩⟩ rfl rfl hl.1 rfl (lv_room (Nat.le_of_ble_eq_true rfl)) dL_law_1258 ⟨Nat.le_of_ble_eq_true rfl, Nat.le_of_ble_eq_true rfl⟩) (fun r_10 h_10 => ?_)
  subst h_10
  refine lv_icmp_eq (tgt := 1358) hx hb dL_law_1261 (by decide) (fun _ => ?_) (fun c_ => absurd (by decide) c_)
  refine lv_iinc (v := 6) (lv' := [(3, .int 6), (2, .ref mo), (1, .ref x), (0, .ref b)]) hx hb dL_law_1358 hl (k := 0) rfl (by decide) (by decide) rfl (fun ls hl => ?_)
  refine lv_goto (tgt := 18) hx hb dL_law_1361 (by decide) ?_
  refine lv_iload_n hx hb dL_law_18 rfl (lv_at hl 0 rfl) ?_
  refine lv_aload_n hx hb dL_law_19 rfl (lv_at hl 3 rfl) ?_
  refine va_slen hx hb hX hbl hbA hS dL_law_20 ?_
  refine lv_topi (fun v_12 e_12 => ?_)
  obtain rfl : v_12 = 6 := (e_12).trans (by decide)
  refine lv_bipush (v := 6) hx hb dL_law_21 (by decide) ?_
  refine lv_isub hx hb dL_law_23 ?_
  refine lv_topi (fun v_13 e_13 => ?_)
  obtain rfl : v_13 = 0 := (e_13).trans (by decide)
  refine lv_icmp_gt (tgt := 1364) hx hb dL_law_24 (by decide) (fun _ => ?_) (fun c_ => absurd (by decide) c_)
  refine lv_iconst (v := 1) hx hb dL_law_1364 (by decide) ?_
  refine va_forget (fun q hq => by have q9 := hS.2.2 q hq; rw [hAd] at q9; exact q9) ?_
  refine W.widen (k := 600000) (n := 7302250) (Nat.le_of_ble_eq_true rfl) (Nat.le_of_ble_eq_true rfl) ?_
  exact lw_ret hx hb hr hlocks dL_law_1365
set_option maxHeartbeats 4000000 in
set_option maxRecDepth 100000 in
theorem lw_c33 {p : Program} {l : Launch} {e : Env} {s : State} {m : MethodId} {below : List Frame} {meth : Method} {c : Code} {b : Nat} {xs : Nat → Int32} {dC : Nat → ClassId} {dI : Nat → Nat → Nat} {cI cZ cL cJ : ClassId} {A : Nat → Prop} {H : Heap} {locs : List Loc} {ls : Array Slot} {sc1 sc2 sc3 sc4 sc5 : Int32} {x mo : Nat} {ro : Nat} {it : Nat} {la : Nat} {le : Nat} {fl : Nat → Int32} {ta : Nat} {bs : Nat} {td : Nat} {t1 : Nat} {t2 : Nat} {t3 : Nat} {t4 : Nat} {t5 : Nat} {no : Nat} {n1 : Nat} {n2 : Nat} {n3 : Nat} {n4 : Nat} {n5 : Nat} {ac : Nat} {be : Nat} {im : Nat} {fi : Nat → Option Nat} {i0 : Nat} {x1 : Nat} {x2 : Nat} {x3 : Nat} {x4 : Nat} {x5 : Nat} {i1 : Nat} {y1 : Nat} {y2 : Nat} {y3 : Nat} {y4 : Nat} {y5 : Nat} {tr : Nat} {pl : Nat} {cs : Nat} {ak : Nat} {tc : Nat} {m_la : Nat} {m_sz : Nat} {m_it : Nat} {m_st : Nat} {m_mv : Nat} {m_tp : Nat} {m_rd : Nat} {m_ac : Nat} {m_as : Nat} {m_wo : Nat} {m_ik : Nat} {m_ke : Nat} {m_tr : Nat} {fm : Nat → Int32} (hx : p.tables.exec = Jvm.exec) (hb : c.code = code) (hr : meth.sig.returnType = ret) (hml : c.maxLocals = 4) (hown : s.vm.findClass RL = some m.cls) (hts : ∀ w ∈ wsL_law, w.before #[Value.ref b] s = true) (hX : va_X b 6 xs s s.heap) (hbl : b < s.heap.size) (hlocks : meth.locks = false) (hAd : A = fun q => s.heap.size ≤ q) (hA : ∀ q : Nat, s.heap.size ≤ q → A q) (hbA : ¬ A b) (hsc1 : sc1 = xs 1) (hsc2 : sc2 = xs 2) (hsc3 : sc3 = xs 3) (hsc4 : sc4 = xs 4) (hsc5 : sc5 = xs 5) (hfl : ∀ j : Nat, j < 8 → fl j = -1) (hf0 : fi 0 = some i0) (hf1 : fi 1 = some i1) (hfm : ∀ j : Nat, j < 8 → fm j = -1) (hK : va_K (dC, dI) vwCl [(cI, .int), (cZ, .boolean), (cL, .object RX3), (cJ, .array .int)] s) (hP : va_P (dC, dI) vwCl [(x, .inr (7, [.ref ro, .ref ta, .ref no, .ref ac, .ref im, .ref tr, .ref pl, .ref cs, .ref ak, .int 0, .int 0])), (ro, .inr (5, [.ref it, .ref la, .ref le])), (la, .inl (cI, 8, .inl fl)), (le, .inl (cI, 8, .inl (fun _ => 0))), (it, .inl (cJ, 8, .inr (.inr (.inr (.inr (fun i => if i < 8 then some (it + 1 + i) else none)))))), ((it + 1 + 0), .inl (cI, 40, .inl (fun _ => 0))), ((it + 1 + 1), .inl (cI, 40, .inl (fun _ => 0))), ((it + 1 + 2), .inl (cI, 40, .inl (fun _ => 0))), ((it + 1 + 3), .inl (cI, 40, .inl (fun _ => 0))), ((it + 1 + 4), .inl (cI, 40, .inl (fun _ => 0))), ((it + 1 + 5), .inl (cI, 40, .inl (fun _ => 0))), ((it + 1 + 6), .inl (cI, 40, .inl (fun _ => 0))), ((it + 1 + 7), .inl (cI, 40, .inl (fun _ => 0))), (ta, .inr (6, [.ref bs, .int 0, .ref td, .int 0, .int 0, .int 0])), (bs, .inl (cI, 120, .inl (fun _ => 0))), (td, .inr (3, [.int 0, .int 0, .int 0, .int 0, .int 0, .int 0, .int 0, .int 0, .ref t1, .ref t2, .ref t3, .ref t4, .ref t5])), (no, .inr (3, [.int 0, .int 0, .int 0, .int 0, .int 0, .int 0, .int 0, .int 0, .ref n1, .ref n2, .ref n3, .ref n4, .ref n5])), (ac, .inr (0, [.ref be, .int 0, .int 0])), (im, .inl (cL, 2, .inr (.inr (.inr (.inr fi))))), (i0, .inr (3, [.int 0, .int 0, .int 0, .int 0, .int 0, .int 0, .int 0, .int 0, .ref x1, .ref x2, .ref x3, .ref x4, .ref x5])), (i1, .inr (3, [.int 0, .int 0, .int 0, .int 0, .int 0, .int 0, .int 0, .int 0, .ref y1, .ref y2, .ref y3, .ref y4, .ref y5])), (ak, .inr (1, [.ref tc, .int 0, .int 0, .int 0, .int 0, .int 0])), (mo, .inr (8, [.ref m_la, .ref m_sz, .ref m_it, .int 0, .int 0, .ref m_st, .ref m_mv, .ref m_tp, .int 0, .int 0, .int 0, .int 0, .int 0, .int 0, .int 0, .ref m_rd, .ref m_ac, .int 0, .ref m_as, .ref m_wo, .ref m_ik, .ref m_ke, .ref m_tr, .int 0])), (m_sz, .inl (cI, 8, .inl fm)), (m_st, .inl (cI, 38, .inl (fun _ => 0))), (m_ik, .inl (cZ, 2, .inl (fun _ => 0))), (m_la, .inl (cI, 8, .inl (fun _ => 0))), (m_it, .inl (cI, 320, .inl (fun _ => 0))), (m_tp, .inl (cI, 120, .inl (fun _ => 0))), (m_rd, .inl (cI, 38, .inl (fun _ => 0)))] H) (hD : va_D A [(x, .inr (7, [.ref ro, .ref ta, .ref no, .ref ac, .ref im, .ref tr, .ref pl, .ref cs, .ref ak, .int 0, .int 0])), (ro, .inr (5, [.ref it, .ref la, .ref le])), (la, .inl (cI, 8, .inl fl)), (le, .inl (cI, 8, .inl (fun _ => 0))), (it, .inl (cJ, 8, .inr (.inr (.inr (.inr (fun i => if i < 8 then some (it + 1 + i) else none)))))), ((it + 1 + 0), .inl (cI, 40, .inl (fun _ => 0))), ((it + 1 + 1), .inl (cI, 40, .inl (fun _ => 0))), ((it + 1 + 2), .inl (cI, 40, .inl (fun _ => 0))), ((it + 1 + 3), .inl (cI, 40, .inl (fun _ => 0))), ((it + 1 + 4), .inl (cI, 40, .inl (fun _ => 0))), ((it + 1 + 5), .inl (cI, 40, .inl (fun _ => 0))), ((it + 1 + 6), .inl (cI, 40, .inl (fun _ => 0))), ((it + 1 + 7), .inl (cI, 40, .inl (fun _ => 0))), (ta, .inr (6, [.ref bs, .int 0, .ref td, .int 0, .int 0, .int 0])), (bs, .inl (cI, 120, .inl (fun _ => 0))), (td, .inr (3, [.int 0, .int 0, .int 0, .int 0, .int 0, .int 0, .int 0, .int 0, .ref t1, .ref t2, .ref t3, .ref t4, .ref t5])), (no, .inr (3, [.int 0, .int 0, .int 0, .int 0, .int 0, .int 0, .int 0, .int 0, .ref n1, .ref n2, .ref n3, .ref n4, .ref n5])), (ac, .inr (0, [.ref be, .int 0, .int 0])), (im, .inl (cL, 2, .inr (.inr (.inr (.inr fi))))), (i0, .inr (3, [.int 0, .int 0, .int 0, .int 0, .int 0, .int 0, .int 0, .int 0, .ref x1, .ref x2, .ref x3, .ref x4, .ref x5])), (i1, .inr (3, [.int 0, .int 0, .int 0, .int 0, .int 0, .int 0, .int 0, .int 0, .ref y1, .ref y2, .ref y3, .ref y4, .ref y5])), (ak, .inr (1, [.ref tc, .int 0, .int 0, .int 0, .int 0, .int 0])), (mo, .inr (8, [.ref m_la, .ref m_sz, .ref m_it, .int 0, .int 0, .ref m_st, .ref m_mv, .ref m_tp, .int 0, .int 0, .int 0, .int 0, .int 0, .int 0, .int 0, .ref m_rd, .ref m_ac, .int 0, .ref m_as, .ref m_wo, .ref m_ik, .ref m_ke, .ref m_tr, .int 0])), (m_sz, .inl (cI, 8, .inl fm)), (m_st, .inl (cI, 38, .inl (fun _ => 0))), (m_ik, .inl (cZ, 2, .inl (fun _ => 0))), (m_la, .inl (cI, 8, .inl (fun _ => 0))), (m_it, .inl (cI, 320, .inl (fun _ => 0))), (m_tp, .inl (cI, 120, .inl (fun _ => 0))), (m_rd, .inl (cI, 38, .inl (fun _ => 0)))]) (hS : va_S A s.heap H locs) (hl : lv_has ls 4 [(3, .int 0), (2, .ref mo), (1, .ref x), (0, .ref b)]) : W p l e room_1 s m #[Value.ref b] below meth c H locs 277 3929 (lw_Z below #[Value.ref b] s) (F0 m 1266 ls []) := by
  refine lv_aload_n hx hb dL_law_1266 rfl (lv_at hl 2 rfl) ?_
  refine lv_aload_n hx hb dL_law_1267 rfl (lv_at hl 3 rfl) ?_
  refine lv_iload_n hx hb dL_law_1268 rfl (lv_at hl 0 rfl) ?_
  refine lv_iconst (v := 1) hx hb dL_law_1269 (by decide) ?_
  refine lv_iadd hx hb dL_law_1270 ?_
  refine lv_topi (fun v_1 e_1 => ?_)
  obtain rfl : v_1 = 1 := (e_1).trans (by decide)
  refine va_sld hx hb hX hbl hbA hS (by unfold vp_in; decide) dL_law_1271 ?_
  refine lv_topi (fun v_2 e_2 => ?_)
  obtain rfl : sc1 = v_2 := ((e_2).trans hsc1.symm).symm
  refine lv_aload_n hx hb dL_law_1272 rfl (lv_at hl 3 rfl) ?_
  refine lv_iload_n hx hb dL_law_1273 rfl (lv_at hl 0 rfl) ?_
  refine lv_iconst (v := 2) hx hb dL_law_1274 (by decide) ?_
  refine lv_iadd hx hb dL_law_1275 ?_
  refine lv_topi (fun v_3 e_3 => ?_)
  obtain rfl : v_3 = 2 := (e_3).trans (by decide)
  refine va_sld hx hb hX hbl hbA hS (by unfold vp_in; decide) dL_law_1276 ?_
  refine lv_topi (fun v_4 e_4 => ?_)
  obtain rfl : sc2 = v_4 := ((e_4).trans hsc2.symm).symm
  have hPc_5 := hP.sub (ws' := [(x, .inr (7, [.ref ro, .ref ta, .ref no, .ref ac, .ref im, .ref tr, .ref pl, .ref cs, .ref ak, .int 0, .int 0])), (no, .inr (3, [.int 0, .int 0, .int 0, .int 0, .int 0, .int 0, .int 0, .int 0, .ref n1, .ref n2, .ref n3, .ref n4, .ref n5]))]) [0, 16] rfl
  refine vp_callSi (W.runV (As := [.int sc1, .int sc2]) (rest := []) ⟨hx, hb, hml, hown, hts⟩ (c_X7_ask l dC dI cI cZ cL cJ x ro ta no ac im tr pl cs ak n1 n2 n3 n4 n5 sc1 sc2 ) (cwV 2 hts gL_law_X7_ask rfl rfl rfl (by decide +kernel) ⟨Nat.le_of_ble_eq_true rfl, Nat.le_of_ble_eq_true rfl⟩) ⟨fun a U g mk q => by obtain ⟨q0, qP, qK⟩ := q; exact ⟨q0, qP, va_K.moved (u := U) (U := U.calling g mk a) (Vm.Alike.refl U.vm) qK⟩, va_recv hK hP (ci := 7) (q0 := 0) rfl rfl, fun U hU hW => ⟨rfl, by rw [hU]; exact hPc_5, va_K.moved hW.alike hK⟩⟩ rfl rfl hl.1 rfl (lv_room (Nat.le_of_ble_eq_true rfl)) dL_law_1277 ⟨Nat.le_of_ble_eq_true rfl, Nat.le_of_ble_eq_true rfl⟩) (fun r_5 h_5 => ?_)
  subst h_5
  refine lv_aload_n hx hb dL_law_1280 rfl (lv_at hl 1 rfl) ?_
  refine lv_aload_n hx hb dL_law_1281 rfl (lv_at hl 3 rfl) ?_
  refine lv_iload_n hx hb dL_law_1282 rfl (lv_at hl 0 rfl) ?_
  refine lv_iconst (v := 1) hx hb dL_law_1283 (by decide) ?_
  refine lv_iadd hx hb dL_law_1284 ?_
  refine lv_topi (fun v_6 e_6 => ?_)
  obtain rfl : v_6 = 1 := (e_6).trans (by decide)
  refine va_sld hx hb hX hbl hbA hS (by unfold vp_in; decide) dL_law_1285 ?_
  refine lv_topi (fun v_7 e_7 => ?_)
  obtain rfl : sc1 = v_7 := ((e_7).trans hsc1.symm).symm
  refine lv_aload_n hx hb dL_law_1286 rfl (lv_at hl 3 rfl) ?_
  refine lv_iload_n hx hb dL_law_1287 rfl (lv_at hl 0 rfl) ?_
  refine lv_iconst (v := 2) hx hb dL_law_1288 (by decide) ?_
  refine lv_iadd hx hb dL_law_1289 ?_
  refine lv_topi (fun v_8 e_8 => ?_)
  obtain rfl : v_8 = 2 := (e_8).trans (by decide)
  refine va_sld hx hb hX hbl hbA hS (by unfold vp_in; decide) dL_law_1290 ?_
  refine lv_topi (fun v_9 e_9 => ?_)
  obtain rfl : sc2 = v_9 := ((e_9).trans hsc2.symm).symm
  have hPc_10 := hP.sub (ws' := [(mo, .inr (8, [.ref m_la, .ref m_sz, .ref m_it, .int 0, .int 0, .ref m_st, .ref m_mv, .ref m_tp, .int 0, .int 0, .int 0, .int 0, .int 0, .int 0, .int 0, .ref m_rd, .ref m_ac, .int 0, .ref m_as, .ref m_wo, .ref m_ik, .ref m_ke, .ref m_tr, .int 0])), (m_st, .inl (cI, 38, .inl (fun _ => 0)))]) [22, 24] rfl
  refine vp_callSi (W.runV (As := [.int sc1, .int sc2]) (rest := [.int (-1000001)]) ⟨hx, hb, hml, hown, hts⟩ (c_X8_ask l dC dI cI cZ cL cJ mo m_la m_sz m_it m_st m_mv m_tp m_rd m_ac m_as m_wo m_ik m_ke m_tr sc1 sc2 ) (cwV 2 hts gL_law_X8_ask rfl rfl rfl (by decide +kernel) ⟨Nat.le_of_ble_eq_true rfl, Nat.le_of_ble_eq_true rfl⟩) ⟨fun a U g mk q => by obtain ⟨q0, qP, qK⟩ := q; exact ⟨q0, qP, va_K.moved (u := U) (U := U.calling g mk a) (Vm.Alike.refl U.vm) qK⟩, va_recv hK hP (ci := 8) (q0 := 22) rfl rfl, fun U hU hW => ⟨rfl, by rw [hU]; exact hPc_10, va_K.moved hW.alike hK⟩⟩ rfl rfl hl.1 rfl (lv_room (Nat.le_of_ble_eq_true rfl)) dL_law_1291 ⟨Nat.le_of_ble_eq_true rfl, Nat.le_of_ble_eq_true rfl⟩) (fun r_10 h_10 => ?_)
  subst h_10
  refine lv_icmp_eq (tgt := 1358) hx hb dL_law_1294 (by decide) (fun _ => ?_) (fun c_ => absurd (by decide) c_)
  refine lv_iinc (v := 6) (lv' := [(3, .int 6), (2, .ref mo), (1, .ref x), (0, .ref b)]) hx hb dL_law_1358 hl (k := 0) rfl (by decide) (by decide) rfl (fun ls hl => ?_)
  refine lv_goto (tgt := 18) hx hb dL_law_1361 (by decide) ?_
  refine lv_iload_n hx hb dL_law_18 rfl (lv_at hl 0 rfl) ?_
  refine lv_aload_n hx hb dL_law_19 rfl (lv_at hl 3 rfl) ?_
  refine va_slen hx hb hX hbl hbA hS dL_law_20 ?_
  refine lv_topi (fun v_12 e_12 => ?_)
  obtain rfl : v_12 = 6 := (e_12).trans (by decide)
  refine lv_bipush (v := 6) hx hb dL_law_21 (by decide) ?_
  refine lv_isub hx hb dL_law_23 ?_
  refine lv_topi (fun v_13 e_13 => ?_)
  obtain rfl : v_13 = 0 := (e_13).trans (by decide)
  refine lv_icmp_gt (tgt := 1364) hx hb dL_law_24 (by decide) (fun _ => ?_) (fun c_ => absurd (by decide) c_)
  refine lv_iconst (v := 1) hx hb dL_law_1364 (by decide) ?_
  refine va_forget (fun q hq => by have q9 := hS.2.2 q hq; rw [hAd] at q9; exact q9) ?_
  refine W.widen (k := 600000) (n := 7302250) (Nat.le_of_ble_eq_true rfl) (Nat.le_of_ble_eq_true rfl) ?_
  exact lw_ret hx hb hr hlocks dL_law_1365
set_option maxHeartbeats 4000000 in
set_option maxRecDepth 100000 in
theorem lw_c34 {p : Program} {l : Launch} {e : Env} {s : State} {m : MethodId} {below : List Frame} {meth : Method} {c : Code} {b : Nat} {xs : Nat → Int32} {dC : Nat → ClassId} {dI : Nat → Nat → Nat} {cI cZ cL cJ : ClassId} {A : Nat → Prop} {H : Heap} {locs : List Loc} {ls : Array Slot} {sc1 sc2 sc3 sc4 sc5 : Int32} {x mo : Nat} {ro : Nat} {it : Nat} {la : Nat} {le : Nat} {fl : Nat → Int32} {ta : Nat} {bs : Nat} {td : Nat} {t1 : Nat} {t2 : Nat} {t3 : Nat} {t4 : Nat} {t5 : Nat} {no : Nat} {n1 : Nat} {n2 : Nat} {n3 : Nat} {n4 : Nat} {n5 : Nat} {ac : Nat} {be : Nat} {im : Nat} {fi : Nat → Option Nat} {i0 : Nat} {x1 : Nat} {x2 : Nat} {x3 : Nat} {x4 : Nat} {x5 : Nat} {i1 : Nat} {y1 : Nat} {y2 : Nat} {y3 : Nat} {y4 : Nat} {y5 : Nat} {tr : Nat} {pl : Nat} {cs : Nat} {ak : Nat} {tc : Nat} {m_la : Nat} {m_sz : Nat} {m_it : Nat} {m_st : Nat} {m_mv : Nat} {m_tp : Nat} {m_rd : Nat} {m_ac : Nat} {m_as : Nat} {m_wo : Nat} {m_ik : Nat} {m_ke : Nat} {m_tr : Nat} {fm : Nat → Int32} (hx : p.tables.exec = Jvm.exec) (hb : c.code = code) (hr : meth.sig.returnType = ret) (hml : c.maxLocals = 4) (hown : s.vm.findClass RL = some m.cls) (hts : ∀ w ∈ wsL_law, w.before #[Value.ref b] s = true) (hX : va_X b 6 xs s s.heap) (hbl : b < s.heap.size) (hlocks : meth.locks = false) (hAd : A = fun q => s.heap.size ≤ q) (hA : ∀ q : Nat, s.heap.size ≤ q → A q) (hbA : ¬ A b) (hsc1 : sc1 = xs 1) (hsc2 : sc2 = xs 2) (hsc3 : sc3 = xs 3) (hsc4 : sc4 = xs 4) (hsc5 : sc5 = xs 5) (hfl : ∀ j : Nat, j < 8 → fl j = -1) (hf0 : fi 0 = some i0) (hf1 : fi 1 = some i1) (hfm : ∀ j : Nat, j < 8 → fm j = -1) (hK : va_K (dC, dI) vwCl [(cI, .int), (cZ, .boolean), (cL, .object RX3), (cJ, .array .int)] s) (hP : va_P (dC, dI) vwCl [(x, .inr (7, [.ref ro, .ref ta, .ref no, .ref ac, .ref im, .ref tr, .ref pl, .ref cs, .ref ak, .int 0, .int 0])), (ro, .inr (5, [.ref it, .ref la, .ref le])), (la, .inl (cI, 8, .inl fl)), (le, .inl (cI, 8, .inl (fun _ => 0))), (it, .inl (cJ, 8, .inr (.inr (.inr (.inr (fun i => if i < 8 then some (it + 1 + i) else none)))))), ((it + 1 + 0), .inl (cI, 40, .inl (fun _ => 0))), ((it + 1 + 1), .inl (cI, 40, .inl (fun _ => 0))), ((it + 1 + 2), .inl (cI, 40, .inl (fun _ => 0))), ((it + 1 + 3), .inl (cI, 40, .inl (fun _ => 0))), ((it + 1 + 4), .inl (cI, 40, .inl (fun _ => 0))), ((it + 1 + 5), .inl (cI, 40, .inl (fun _ => 0))), ((it + 1 + 6), .inl (cI, 40, .inl (fun _ => 0))), ((it + 1 + 7), .inl (cI, 40, .inl (fun _ => 0))), (ta, .inr (6, [.ref bs, .int 0, .ref td, .int 0, .int 0, .int 0])), (bs, .inl (cI, 120, .inl (fun _ => 0))), (td, .inr (3, [.int 0, .int 0, .int 0, .int 0, .int 0, .int 0, .int 0, .int 0, .ref t1, .ref t2, .ref t3, .ref t4, .ref t5])), (no, .inr (3, [.int 0, .int 0, .int 0, .int 0, .int 0, .int 0, .int 0, .int 0, .ref n1, .ref n2, .ref n3, .ref n4, .ref n5])), (ac, .inr (0, [.ref be, .int 0, .int 0])), (im, .inl (cL, 2, .inr (.inr (.inr (.inr fi))))), (i0, .inr (3, [.int 0, .int 0, .int 0, .int 0, .int 0, .int 0, .int 0, .int 0, .ref x1, .ref x2, .ref x3, .ref x4, .ref x5])), (i1, .inr (3, [.int 0, .int 0, .int 0, .int 0, .int 0, .int 0, .int 0, .int 0, .ref y1, .ref y2, .ref y3, .ref y4, .ref y5])), (ak, .inr (1, [.ref tc, .int 0, .int 0, .int 0, .int 0, .int 0])), (mo, .inr (8, [.ref m_la, .ref m_sz, .ref m_it, .int 0, .int 0, .ref m_st, .ref m_mv, .ref m_tp, .int 0, .int 0, .int 0, .int 0, .int 0, .int 0, .int 0, .ref m_rd, .ref m_ac, .int 0, .ref m_as, .ref m_wo, .ref m_ik, .ref m_ke, .ref m_tr, .int 0])), (m_sz, .inl (cI, 8, .inl fm)), (m_st, .inl (cI, 38, .inl (fun _ => 0))), (m_ik, .inl (cZ, 2, .inl (fun _ => 0))), (m_la, .inl (cI, 8, .inl (fun _ => 0))), (m_it, .inl (cI, 320, .inl (fun _ => 0))), (m_tp, .inl (cI, 120, .inl (fun _ => 0))), (m_rd, .inl (cI, 38, .inl (fun _ => 0)))] H) (hD : va_D A [(x, .inr (7, [.ref ro, .ref ta, .ref no, .ref ac, .ref im, .ref tr, .ref pl, .ref cs, .ref ak, .int 0, .int 0])), (ro, .inr (5, [.ref it, .ref la, .ref le])), (la, .inl (cI, 8, .inl fl)), (le, .inl (cI, 8, .inl (fun _ => 0))), (it, .inl (cJ, 8, .inr (.inr (.inr (.inr (fun i => if i < 8 then some (it + 1 + i) else none)))))), ((it + 1 + 0), .inl (cI, 40, .inl (fun _ => 0))), ((it + 1 + 1), .inl (cI, 40, .inl (fun _ => 0))), ((it + 1 + 2), .inl (cI, 40, .inl (fun _ => 0))), ((it + 1 + 3), .inl (cI, 40, .inl (fun _ => 0))), ((it + 1 + 4), .inl (cI, 40, .inl (fun _ => 0))), ((it + 1 + 5), .inl (cI, 40, .inl (fun _ => 0))), ((it + 1 + 6), .inl (cI, 40, .inl (fun _ => 0))), ((it + 1 + 7), .inl (cI, 40, .inl (fun _ => 0))), (ta, .inr (6, [.ref bs, .int 0, .ref td, .int 0, .int 0, .int 0])), (bs, .inl (cI, 120, .inl (fun _ => 0))), (td, .inr (3, [.int 0, .int 0, .int 0, .int 0, .int 0, .int 0, .int 0, .int 0, .ref t1, .ref t2, .ref t3, .ref t4, .ref t5])), (no, .inr (3, [.int 0, .int 0, .int 0, .int 0, .int 0, .int 0, .int 0, .int 0, .ref n1, .ref n2, .ref n3, .ref n4, .ref n5])), (ac, .inr (0, [.ref be, .int 0, .int 0])), (im, .inl (cL, 2, .inr (.inr (.inr (.inr fi))))), (i0, .inr (3, [.int 0, .int 0, .int 0, .int 0, .int 0, .int 0, .int 0, .int 0, .ref x1, .ref x2, .ref x3, .ref x4, .ref x5])), (i1, .inr (3, [.int 0, .int 0, .int 0, .int 0, .int 0, .int 0, .int 0, .int 0, .ref y1, .ref y2, .ref y3, .ref y4, .ref y5])), (ak, .inr (1, [.ref tc, .int 0, .int 0, .int 0, .int 0, .int 0])), (mo, .inr (8, [.ref m_la, .ref m_sz, .ref m_it, .int 0, .int 0, .ref m_st, .ref m_mv, .ref m_tp, .int 0, .int 0, .int 0, .int 0, .int 0, .int 0, .int 0, .ref m_rd, .ref m_ac, .int 0, .ref m_as, .ref m_wo, .ref m_ik, .ref m_ke, .ref m_tr, .int 0])), (m_sz, .inl (cI, 8, .inl fm)), (m_st, .inl (cI, 38, .inl (fun _ => 0))), (m_ik, .inl (cZ, 2, .inl (fun _ => 0))), (m_la, .inl (cI, 8, .inl (fun _ => 0))), (m_it, .inl (cI, 320, .inl (fun _ => 0))), (m_tp, .inl (cI, 120, .inl (fun _ => 0))), (m_rd, .inl (cI, 38, .inl (fun _ => 0)))]) (hS : va_S A s.heap H locs) (hl : lv_has ls 4 [(3, .int 0), (2, .ref mo), (1, .ref x), (0, .ref b)]) : W p l e room_1 s m #[Value.ref b] below meth c H locs 277 3929 (lw_Z below #[Value.ref b] s) (F0 m 1299 ls []) := by
  refine lv_aload_n hx hb dL_law_1299 rfl (lv_at hl 2 rfl) ?_
  refine lv_aload_n hx hb dL_law_1300 rfl (lv_at hl 3 rfl) ?_
  refine lv_iload_n hx hb dL_law_1301 rfl (lv_at hl 0 rfl) ?_
  refine lv_iconst (v := 1) hx hb dL_law_1302 (by decide) ?_
  refine lv_iadd hx hb dL_law_1303 ?_
  refine lv_topi (fun v_1 e_1 => ?_)
  obtain rfl : v_1 = 1 := (e_1).trans (by decide)
  refine va_sld hx hb hX hbl hbA hS (by unfold vp_in; decide) dL_law_1304 ?_
  refine lv_topi (fun v_2 e_2 => ?_)
  obtain rfl : sc1 = v_2 := ((e_2).trans hsc1.symm).symm
  have hPc_3 := hP.sub (ws' := [(x, .inr (7, [.ref ro, .ref ta, .ref no, .ref ac, .ref im, .ref tr, .ref pl, .ref cs, .ref ak, .int 0, .int 0])), (ak, .inr (1, [.ref tc, .int 0, .int 0, .int 0, .int 0, .int 0]))]) [0, 21] rfl
  refine vp_callSi (W.runV (As := [.int sc1]) (rest := []) ⟨hx, hb, hml, hown, hts⟩ (c_X7_trace l dC dI cI cZ cL cJ x ro ta no ac im tr pl cs ak tc sc1 ) (cwV 1 hts gL_law_X7_trace rfl rfl rfl (by decide +kernel) ⟨Nat.le_of_ble_eq_true rfl, Nat.le_of_ble_eq_true rfl⟩) ⟨fun a U g mk q => by obtain ⟨q0, qP, qK⟩ := q; exact ⟨q0, qP, va_K.moved (u := U) (U := U.calling g mk a) (Vm.Alike.refl U.vm) qK⟩, va_recv hK hP (ci := 7) (q0 := 0) rfl rfl, fun U hU hW => ⟨rfl, by rw [hU]; exact hPc_3, va_K.moved hW.alike hK⟩⟩ rfl rfl hl.1 rfl (lv_room (Nat.le_of_ble_eq_true rfl)) dL_law_1305 ⟨Nat.le_of_ble_eq_true rfl, Nat.le_of_ble_eq_true rfl⟩) (fun r_3 h_3 => ?_)
  subst h_3
  refine lv_aload_n hx hb dL_law_1308 rfl (lv_at hl 1 rfl) ?_
  refine lv_aload_n hx hb dL_law_1309 rfl (lv_at hl 3 rfl) ?_
  refine lv_iload_n hx hb dL_law_1310 rfl (lv_at hl 0 rfl) ?_
  refine lv_iconst (v := 1) hx hb dL_law_1311 (by decide) ?_
  refine lv_iadd hx hb dL_law_1312 ?_
  refine lv_topi (fun v_4 e_4 => ?_)
  obtain rfl : v_4 = 1 := (e_4).trans (by decide)
  refine va_sld hx hb hX hbl hbA hS (by unfold vp_in; decide) dL_law_1313 ?_
  refine lv_topi (fun v_5 e_5 => ?_)
  obtain rfl : sc1 = v_5 := ((e_5).trans hsc1.symm).symm
  have hPc_6 := hP.sub (ws' := [(mo, .inr (8, [.ref m_la, .ref m_sz, .ref m_it, .int 0, .int 0, .ref m_st, .ref m_mv, .ref m_tp, .int 0, .int 0, .int 0, .int 0, .int 0, .int 0, .int 0, .ref m_rd, .ref m_ac, .int 0, .ref m_as, .ref m_wo, .ref m_ik, .ref m_ke, .ref m_tr, .int 0]))]) [22] rfl
  refine vp_callSi (W.runV (As := [.int sc1]) (rest := [.int (-1000000)]) ⟨hx, hb, hml, hown, hts⟩ (c_X8_trace l dC dI cI cZ cL cJ mo m_la m_sz m_it m_st m_mv m_tp m_rd m_ac m_as m_wo m_ik m_ke m_tr sc1 ) (cwV 1 hts gL_law_X8_trace rfl rfl rfl (by decide +kernel) ⟨Nat.le_of_ble_eq_true rfl, Nat.le_of_ble_eq_true rfl⟩) ⟨fun a U g mk q => by obtain ⟨q0, qP, qK⟩ := q; exact ⟨q0, qP, va_K.moved (u := U) (U := U.calling g mk a) (Vm.Alike.refl U.vm) qK⟩, va_recv hK hP (ci := 8) (q0 := 22) rfl rfl, fun U hU hW => ⟨rfl, by rw [hU]; exact hPc_6, va_K.moved hW.alike hK⟩⟩ rfl rfl hl.1 rfl (lv_room (Nat.le_of_ble_eq_true rfl)) dL_law_1314 ⟨Nat.le_of_ble_eq_true rfl, Nat.le_of_ble_eq_true rfl⟩) (fun r_6 h_6 => ?_)
  subst h_6
  refine lv_icmp_eq (tgt := 1358) hx hb dL_law_1317 (by decide) (fun _ => ?_) (fun c_ => absurd (by decide) c_)
  refine lv_iinc (v := 6) (lv' := [(3, .int 6), (2, .ref mo), (1, .ref x), (0, .ref b)]) hx hb dL_law_1358 hl (k := 0) rfl (by decide) (by decide) rfl (fun ls hl => ?_)
  refine lv_goto (tgt := 18) hx hb dL_law_1361 (by decide) ?_
  refine lv_iload_n hx hb dL_law_18 rfl (lv_at hl 0 rfl) ?_
  refine lv_aload_n hx hb dL_law_19 rfl (lv_at hl 3 rfl) ?_
  refine va_slen hx hb hX hbl hbA hS dL_law_20 ?_
  refine lv_topi (fun v_8 e_8 => ?_)
  obtain rfl : v_8 = 6 := (e_8).trans (by decide)
  refine lv_bipush (v := 6) hx hb dL_law_21 (by decide) ?_
  refine lv_isub hx hb dL_law_23 ?_
  refine lv_topi (fun v_9 e_9 => ?_)
  obtain rfl : v_9 = 0 := (e_9).trans (by decide)
  refine lv_icmp_gt (tgt := 1364) hx hb dL_law_24 (by decide) (fun _ => ?_) (fun c_ => absurd (by decide) c_)
  refine lv_iconst (v := 1) hx hb dL_law_1364 (by decide) ?_
  refine va_forget (fun q hq => by have q9 := hS.2.2 q hq; rw [hAd] at q9; exact q9) ?_
  refine W.widen (k := 600000) (n := 7302250) (Nat.le_of_ble_eq_true rfl) (Nat.le_of_ble_eq_true rfl) ?_
  exact lw_ret hx hb hr hlocks dL_law_1365
set_option maxHeartbeats 4000000 in
set_option maxRecDepth 100000 in
theorem lw_c35 {p : Program} {l : Launch} {e : Env} {s : State} {m : MethodId} {below : List Frame} {meth : Method} {c : Code} {b : Nat} {xs : Nat → Int32} {dC : Nat → ClassId} {dI : Nat → Nat → Nat} {cI cZ cL cJ : ClassId} {A : Nat → Prop} {H : Heap} {locs : List Loc} {ls : Array Slot} {sc1 sc2 sc3 sc4 sc5 : Int32} {x mo : Nat} {ro : Nat} {it : Nat} {la : Nat} {le : Nat} {fl : Nat → Int32} {ta : Nat} {bs : Nat} {td : Nat} {t1 : Nat} {t2 : Nat} {t3 : Nat} {t4 : Nat} {t5 : Nat} {no : Nat} {n1 : Nat} {n2 : Nat} {n3 : Nat} {n4 : Nat} {n5 : Nat} {ac : Nat} {be : Nat} {im : Nat} {fi : Nat → Option Nat} {i0 : Nat} {x1 : Nat} {x2 : Nat} {x3 : Nat} {x4 : Nat} {x5 : Nat} {i1 : Nat} {y1 : Nat} {y2 : Nat} {y3 : Nat} {y4 : Nat} {y5 : Nat} {tr : Nat} {pl : Nat} {cs : Nat} {ak : Nat} {tc : Nat} {m_la : Nat} {m_sz : Nat} {m_it : Nat} {m_st : Nat} {m_mv : Nat} {m_tp : Nat} {m_rd : Nat} {m_ac : Nat} {m_as : Nat} {m_wo : Nat} {m_ik : Nat} {m_ke : Nat} {m_tr : Nat} {fm : Nat → Int32} (hx : p.tables.exec = Jvm.exec) (hb : c.code = code) (hr : meth.sig.returnType = ret) (hml : c.maxLocals = 4) (hown : s.vm.findClass RL = some m.cls) (hts : ∀ w ∈ wsL_law, w.before #[Value.ref b] s = true) (hX : va_X b 6 xs s s.heap) (hbl : b < s.heap.size) (hlocks : meth.locks = false) (hAd : A = fun q => s.heap.size ≤ q) (hA : ∀ q : Nat, s.heap.size ≤ q → A q) (hbA : ¬ A b) (hsc1 : sc1 = xs 1) (hsc2 : sc2 = xs 2) (hsc3 : sc3 = xs 3) (hsc4 : sc4 = xs 4) (hsc5 : sc5 = xs 5) (hfl : ∀ j : Nat, j < 8 → fl j = -1) (hf0 : fi 0 = some i0) (hf1 : fi 1 = some i1) (hfm : ∀ j : Nat, j < 8 → fm j = -1) (hK : va_K (dC, dI) vwCl [(cI, .int), (cZ, .boolean), (cL, .object RX3), (cJ, .array .int)] s) (hP : va_P (dC, dI) vwCl [(x, .inr (7, [.ref ro, .ref ta, .ref no, .ref ac, .ref im, .ref tr, .ref pl, .ref cs, .ref ak, .int 0, .int 0])), (ro, .inr (5, [.ref it, .ref la, .ref le])), (la, .inl (cI, 8, .inl fl)), (le, .inl (cI, 8, .inl (fun _ => 0))), (it, .inl (cJ, 8, .inr (.inr (.inr (.inr (fun i => if i < 8 then some (it + 1 + i) else none)))))), ((it + 1 + 0), .inl (cI, 40, .inl (fun _ => 0))), ((it + 1 + 1), .inl (cI, 40, .inl (fun _ => 0))), ((it + 1 + 2), .inl (cI, 40, .inl (fun _ => 0))), ((it + 1 + 3), .inl (cI, 40, .inl (fun _ => 0))), ((it + 1 + 4), .inl (cI, 40, .inl (fun _ => 0))), ((it + 1 + 5), .inl (cI, 40, .inl (fun _ => 0))), ((it + 1 + 6), .inl (cI, 40, .inl (fun _ => 0))), ((it + 1 + 7), .inl (cI, 40, .inl (fun _ => 0))), (ta, .inr (6, [.ref bs, .int 0, .ref td, .int 0, .int 0, .int 0])), (bs, .inl (cI, 120, .inl (fun _ => 0))), (td, .inr (3, [.int 0, .int 0, .int 0, .int 0, .int 0, .int 0, .int 0, .int 0, .ref t1, .ref t2, .ref t3, .ref t4, .ref t5])), (no, .inr (3, [.int 0, .int 0, .int 0, .int 0, .int 0, .int 0, .int 0, .int 0, .ref n1, .ref n2, .ref n3, .ref n4, .ref n5])), (ac, .inr (0, [.ref be, .int 0, .int 0])), (im, .inl (cL, 2, .inr (.inr (.inr (.inr fi))))), (i0, .inr (3, [.int 0, .int 0, .int 0, .int 0, .int 0, .int 0, .int 0, .int 0, .ref x1, .ref x2, .ref x3, .ref x4, .ref x5])), (i1, .inr (3, [.int 0, .int 0, .int 0, .int 0, .int 0, .int 0, .int 0, .int 0, .ref y1, .ref y2, .ref y3, .ref y4, .ref y5])), (ak, .inr (1, [.ref tc, .int 0, .int 0, .int 0, .int 0, .int 0])), (mo, .inr (8, [.ref m_la, .ref m_sz, .ref m_it, .int 0, .int 0, .ref m_st, .ref m_mv, .ref m_tp, .int 0, .int 0, .int 0, .int 0, .int 0, .int 0, .int 0, .ref m_rd, .ref m_ac, .int 0, .ref m_as, .ref m_wo, .ref m_ik, .ref m_ke, .ref m_tr, .int 0])), (m_sz, .inl (cI, 8, .inl fm)), (m_st, .inl (cI, 38, .inl (fun _ => 0))), (m_ik, .inl (cZ, 2, .inl (fun _ => 0))), (m_la, .inl (cI, 8, .inl (fun _ => 0))), (m_it, .inl (cI, 320, .inl (fun _ => 0))), (m_tp, .inl (cI, 120, .inl (fun _ => 0))), (m_rd, .inl (cI, 38, .inl (fun _ => 0)))] H) (hD : va_D A [(x, .inr (7, [.ref ro, .ref ta, .ref no, .ref ac, .ref im, .ref tr, .ref pl, .ref cs, .ref ak, .int 0, .int 0])), (ro, .inr (5, [.ref it, .ref la, .ref le])), (la, .inl (cI, 8, .inl fl)), (le, .inl (cI, 8, .inl (fun _ => 0))), (it, .inl (cJ, 8, .inr (.inr (.inr (.inr (fun i => if i < 8 then some (it + 1 + i) else none)))))), ((it + 1 + 0), .inl (cI, 40, .inl (fun _ => 0))), ((it + 1 + 1), .inl (cI, 40, .inl (fun _ => 0))), ((it + 1 + 2), .inl (cI, 40, .inl (fun _ => 0))), ((it + 1 + 3), .inl (cI, 40, .inl (fun _ => 0))), ((it + 1 + 4), .inl (cI, 40, .inl (fun _ => 0))), ((it + 1 + 5), .inl (cI, 40, .inl (fun _ => 0))), ((it + 1 + 6), .inl (cI, 40, .inl (fun _ => 0))), ((it + 1 + 7), .inl (cI, 40, .inl (fun _ => 0))), (ta, .inr (6, [.ref bs, .int 0, .ref td, .int 0, .int 0, .int 0])), (bs, .inl (cI, 120, .inl (fun _ => 0))), (td, .inr (3, [.int 0, .int 0, .int 0, .int 0, .int 0, .int 0, .int 0, .int 0, .ref t1, .ref t2, .ref t3, .ref t4, .ref t5])), (no, .inr (3, [.int 0, .int 0, .int 0, .int 0, .int 0, .int 0, .int 0, .int 0, .ref n1, .ref n2, .ref n3, .ref n4, .ref n5])), (ac, .inr (0, [.ref be, .int 0, .int 0])), (im, .inl (cL, 2, .inr (.inr (.inr (.inr fi))))), (i0, .inr (3, [.int 0, .int 0, .int 0, .int 0, .int 0, .int 0, .int 0, .int 0, .ref x1, .ref x2, .ref x3, .ref x4, .ref x5])), (i1, .inr (3, [.int 0, .int 0, .int 0, .int 0, .int 0, .int 0, .int 0, .int 0, .ref y1, .ref y2, .ref y3, .ref y4, .ref y5])), (ak, .inr (1, [.ref tc, .int 0, .int 0, .int 0, .int 0, .int 0])), (mo, .inr (8, [.ref m_la, .ref m_sz, .ref m_it, .int 0, .int 0, .ref m_st, .ref m_mv, .ref m_tp, .int 0, .int 0, .int 0, .int 0, .int 0, .int 0, .int 0, .ref m_rd, .ref m_ac, .int 0, .ref m_as, .ref m_wo, .ref m_ik, .ref m_ke, .ref m_tr, .int 0])), (m_sz, .inl (cI, 8, .inl fm)), (m_st, .inl (cI, 38, .inl (fun _ => 0))), (m_ik, .inl (cZ, 2, .inl (fun _ => 0))), (m_la, .inl (cI, 8, .inl (fun _ => 0))), (m_it, .inl (cI, 320, .inl (fun _ => 0))), (m_tp, .inl (cI, 120, .inl (fun _ => 0))), (m_rd, .inl (cI, 38, .inl (fun _ => 0)))]) (hS : va_S A s.heap H locs) (hl : lv_has ls 4 [(3, .int 0), (2, .ref mo), (1, .ref x), (0, .ref b)]) : W p l e room_1 s m #[Value.ref b] below meth c H locs 277 3929 (lw_Z below #[Value.ref b] s) (F0 m 1322 ls []) := by
  refine lv_aload_n hx hb dL_law_1322 rfl (lv_at hl 2 rfl) ?_
  refine lv_aload_n hx hb dL_law_1323 rfl (lv_at hl 3 rfl) ?_
  refine lv_iload_n hx hb dL_law_1324 rfl (lv_at hl 0 rfl) ?_
  refine lv_iconst (v := 1) hx hb dL_law_1325 (by decide) ?_
  refine lv_iadd hx hb dL_law_1326 ?_
  refine lv_topi (fun v_1 e_1 => ?_)
  obtain rfl : v_1 = 1 := (e_1).trans (by decide)
  refine va_sld hx hb hX hbl hbA hS (by unfold vp_in; decide) dL_law_1327 ?_
  refine lv_topi (fun v_2 e_2 => ?_)
  obtain rfl : sc1 = v_2 := ((e_2).trans hsc1.symm).symm
  have hPc_3 := hP.sub (ws' := [(x, .inr (7, [.ref ro, .ref ta, .ref no, .ref ac, .ref im, .ref tr, .ref pl, .ref cs, .ref ak, .int 0, .int 0])), (no, .inr (3, [.int 0, .int 0, .int 0, .int 0, .int 0, .int 0, .int 0, .int 0, .ref n1, .ref n2, .ref n3, .ref n4, .ref n5])), (ac, .inr (0, [.ref be, .int 0, .int 0])), (ta, .inr (6, [.ref bs, .int 0, .ref td, .int 0, .int 0, .int 0])), (ro, .inr (5, [.ref it, .ref la, .ref le])), (la, .inl (cI, 8, .inl fl))]) [0, 16, 17, 13, 1, 2] rfl
  refine vp_callSi (W.runV (As := [.int sc1]) (rest := []) ⟨hx, hb, hml, hown, hts⟩ (c_X7_count l dC dI cI cZ cL cJ x ro ta no ac im tr pl cs ak n1 n2 n3 n4 n5 be bs td it la le fl sc1 (hfl)) (cwV 1 hts gL_law_X7_count rfl rfl rfl (by decide +kernel) ⟨Nat.le_of_ble_eq_true rfl, Nat.le_of_ble_eq_true rfl⟩) ⟨fun a U g mk q => by obtain ⟨q0, qP, qK⟩ := q; exact ⟨q0, qP, va_K.moved (u := U) (U := U.calling g mk a) (Vm.Alike.refl U.vm) qK⟩, va_recv hK hP (ci := 7) (q0 := 0) rfl rfl, fun U hU hW => ⟨rfl, by rw [hU]; exact hPc_3, va_K.moved hW.alike hK⟩⟩ rfl rfl hl.1 rfl (lv_room (Nat.le_of_ble_eq_true rfl)) dL_law_1328 ⟨Nat.le_of_ble_eq_true rfl, Nat.le_of_ble_eq_true rfl⟩) (fun r_3 h_3 => ?_)
  refine lv_aload_n hx hb dL_law_1331 rfl (lv_at hl 1 rfl) ?_
  refine lv_aload_n hx hb dL_law_1332 rfl (lv_at hl 3 rfl) ?_
  refine lv_iload_n hx hb dL_law_1333 rfl (lv_at hl 0 rfl) ?_
  refine lv_iconst (v := 1) hx hb dL_law_1334 (by decide) ?_
  refine lv_iadd hx hb dL_law_1335 ?_
  refine lv_topi (fun v_4 e_4 => ?_)
  obtain rfl : v_4 = 1 := (e_4).trans (by decide)
  refine va_sld hx hb hX hbl hbA hS (by unfold vp_in; decide) dL_law_1336 ?_
  refine lv_topi (fun v_5 e_5 => ?_)
  obtain rfl : sc1 = v_5 := ((e_5).trans hsc1.symm).symm
  have hPc_6 := hP.sub (ws' := [(mo, .inr (8, [.ref m_la, .ref m_sz, .ref m_it, .int 0, .int 0, .ref m_st, .ref m_mv, .ref m_tp, .int 0, .int 0, .int 0, .int 0, .int 0, .int 0, .int 0, .ref m_rd, .ref m_ac, .int 0, .ref m_as, .ref m_wo, .ref m_ik, .ref m_ke, .ref m_tr, .int 0])), (m_st, .inl (cI, 38, .inl (fun _ => 0))), (m_sz, .inl (cI, 8, .inl fm))]) [22, 24, 23] rfl
  refine vp_callSi (W.runV (As := [.int sc1]) (rest := [.int r_3]) ⟨hx, hb, hml, hown, hts⟩ (c_X8_count l dC dI cI cZ cL cJ mo m_la m_sz m_it m_st m_mv m_tp m_rd m_ac m_as m_wo m_ik m_ke m_tr fm sc1 (hfm)) (cwV 1 hts gL_law_X8_count rfl rfl rfl (by decide +kernel) ⟨Nat.le_of_ble_eq_true rfl, Nat.le_of_ble_eq_true rfl⟩) ⟨fun a U g mk q => by obtain ⟨q0, qP, qK⟩ := q; exact ⟨q0, qP, va_K.moved (u := U) (U := U.calling g mk a) (Vm.Alike.refl U.vm) qK⟩, va_recv hK hP (ci := 8) (q0 := 22) rfl rfl, fun U hU hW => ⟨rfl, by rw [hU]; exact hPc_6, va_K.moved hW.alike hK⟩⟩ rfl rfl hl.1 rfl (lv_room (Nat.le_of_ble_eq_true rfl)) dL_law_1337 ⟨Nat.le_of_ble_eq_true rfl, Nat.le_of_ble_eq_true rfl⟩) (fun r_6 h_6 => ?_)
  refine lv_icmp_eq (tgt := 1358) hx hb dL_law_1340 (by decide) (fun _ => ?_) (fun c_ => absurd (h_3.trans h_6.symm) c_)
  refine lv_iinc (v := 6) (lv' := [(3, .int 6), (2, .ref mo), (1, .ref x), (0, .ref b)]) hx hb dL_law_1358 hl (k := 0) rfl (by decide) (by decide) rfl (fun ls hl => ?_)
  refine lv_goto (tgt := 18) hx hb dL_law_1361 (by decide) ?_
  refine lv_iload_n hx hb dL_law_18 rfl (lv_at hl 0 rfl) ?_
  refine lv_aload_n hx hb dL_law_19 rfl (lv_at hl 3 rfl) ?_
  refine va_slen hx hb hX hbl hbA hS dL_law_20 ?_
  refine lv_topi (fun v_8 e_8 => ?_)
  obtain rfl : v_8 = 6 := (e_8).trans (by decide)
  refine lv_bipush (v := 6) hx hb dL_law_21 (by decide) ?_
  refine lv_isub hx hb dL_law_23 ?_
  refine lv_topi (fun v_9 e_9 => ?_)
  obtain rfl : v_9 = 0 := (e_9).trans (by decide)
  refine lv_icmp_gt (tgt := 1364) hx hb dL_law_24 (by decide) (fun _ => ?_) (fun c_ => absurd (by decide) c_)
  refine lv_iconst (v := 1) hx hb dL_law_1364 (by decide) ?_
  refine va_forget (fun q hq => by have q9 := hS.2.2 q hq; rw [hAd] at q9; exact q9) ?_
  refine W.widen (k := 600000) (n := 7302250) (Nat.le_of_ble_eq_true rfl) (Nat.le_of_ble_eq_true rfl) ?_
  exact lw_ret hx hb hr hlocks dL_law_1365
set_option maxHeartbeats 4000000 in
set_option maxRecDepth 100000 in
theorem lw_c36 {p : Program} {l : Launch} {e : Env} {s : State} {m : MethodId} {below : List Frame} {meth : Method} {c : Code} {b : Nat} {xs : Nat → Int32} {dC : Nat → ClassId} {dI : Nat → Nat → Nat} {cI cZ cL cJ : ClassId} {A : Nat → Prop} {H : Heap} {locs : List Loc} {ls : Array Slot} {sc1 sc2 sc3 sc4 sc5 : Int32} {x mo : Nat} {ro : Nat} {it : Nat} {la : Nat} {le : Nat} {fl : Nat → Int32} {ta : Nat} {bs : Nat} {td : Nat} {t1 : Nat} {t2 : Nat} {t3 : Nat} {t4 : Nat} {t5 : Nat} {no : Nat} {n1 : Nat} {n2 : Nat} {n3 : Nat} {n4 : Nat} {n5 : Nat} {ac : Nat} {be : Nat} {im : Nat} {fi : Nat → Option Nat} {i0 : Nat} {x1 : Nat} {x2 : Nat} {x3 : Nat} {x4 : Nat} {x5 : Nat} {i1 : Nat} {y1 : Nat} {y2 : Nat} {y3 : Nat} {y4 : Nat} {y5 : Nat} {tr : Nat} {pl : Nat} {cs : Nat} {ak : Nat} {tc : Nat} {m_la : Nat} {m_sz : Nat} {m_it : Nat} {m_st : Nat} {m_mv : Nat} {m_tp : Nat} {m_rd : Nat} {m_ac : Nat} {m_as : Nat} {m_wo : Nat} {m_ik : Nat} {m_ke : Nat} {m_tr : Nat} {fm : Nat → Int32} (hx : p.tables.exec = Jvm.exec) (hb : c.code = code) (hr : meth.sig.returnType = ret) (hml : c.maxLocals = 4) (hown : s.vm.findClass RL = some m.cls) (hts : ∀ w ∈ wsL_law, w.before #[Value.ref b] s = true) (hX : va_X b 6 xs s s.heap) (hbl : b < s.heap.size) (hlocks : meth.locks = false) (hAd : A = fun q => s.heap.size ≤ q) (hA : ∀ q : Nat, s.heap.size ≤ q → A q) (hbA : ¬ A b) (hsc1 : sc1 = xs 1) (hsc2 : sc2 = xs 2) (hsc3 : sc3 = xs 3) (hsc4 : sc4 = xs 4) (hsc5 : sc5 = xs 5) (hfl : ∀ j : Nat, j < 8 → fl j = -1) (hf0 : fi 0 = some i0) (hf1 : fi 1 = some i1) (hfm : ∀ j : Nat, j < 8 → fm j = -1) (hK : va_K (dC, dI) vwCl [(cI, .int), (cZ, .boolean), (cL, .object RX3), (cJ, .array .int)] s) (hP : va_P (dC, dI) vwCl [(x, .inr (7, [.ref ro, .ref ta, .ref no, .ref ac, .ref im, .ref tr, .ref pl, .ref cs, .ref ak, .int 0, .int 0])), (ro, .inr (5, [.ref it, .ref la, .ref le])), (la, .inl (cI, 8, .inl fl)), (le, .inl (cI, 8, .inl (fun _ => 0))), (it, .inl (cJ, 8, .inr (.inr (.inr (.inr (fun i => if i < 8 then some (it + 1 + i) else none)))))), ((it + 1 + 0), .inl (cI, 40, .inl (fun _ => 0))), ((it + 1 + 1), .inl (cI, 40, .inl (fun _ => 0))), ((it + 1 + 2), .inl (cI, 40, .inl (fun _ => 0))), ((it + 1 + 3), .inl (cI, 40, .inl (fun _ => 0))), ((it + 1 + 4), .inl (cI, 40, .inl (fun _ => 0))), ((it + 1 + 5), .inl (cI, 40, .inl (fun _ => 0))), ((it + 1 + 6), .inl (cI, 40, .inl (fun _ => 0))), ((it + 1 + 7), .inl (cI, 40, .inl (fun _ => 0))), (ta, .inr (6, [.ref bs, .int 0, .ref td, .int 0, .int 0, .int 0])), (bs, .inl (cI, 120, .inl (fun _ => 0))), (td, .inr (3, [.int 0, .int 0, .int 0, .int 0, .int 0, .int 0, .int 0, .int 0, .ref t1, .ref t2, .ref t3, .ref t4, .ref t5])), (no, .inr (3, [.int 0, .int 0, .int 0, .int 0, .int 0, .int 0, .int 0, .int 0, .ref n1, .ref n2, .ref n3, .ref n4, .ref n5])), (ac, .inr (0, [.ref be, .int 0, .int 0])), (im, .inl (cL, 2, .inr (.inr (.inr (.inr fi))))), (i0, .inr (3, [.int 0, .int 0, .int 0, .int 0, .int 0, .int 0, .int 0, .int 0, .ref x1, .ref x2, .ref x3, .ref x4, .ref x5])), (i1, .inr (3, [.int 0, .int 0, .int 0, .int 0, .int 0, .int 0, .int 0, .int 0, .ref y1, .ref y2, .ref y3, .ref y4, .ref y5])), (ak, .inr (1, [.ref tc, .int 0, .int 0, .int 0, .int 0, .int 0])), (mo, .inr (8, [.ref m_la, .ref m_sz, .ref m_it, .int 0, .int 0, .ref m_st, .ref m_mv, .ref m_tp, .int 0, .int 0, .int 0, .int 0, .int 0, .int 0, .int 0, .ref m_rd, .ref m_ac, .int 0, .ref m_as, .ref m_wo, .ref m_ik, .ref m_ke, .ref m_tr, .int 0])), (m_sz, .inl (cI, 8, .inl fm)), (m_st, .inl (cI, 38, .inl (fun _ => 0))), (m_ik, .inl (cZ, 2, .inl (fun _ => 0))), (m_la, .inl (cI, 8, .inl (fun _ => 0))), (m_it, .inl (cI, 320, .inl (fun _ => 0))), (m_tp, .inl (cI, 120, .inl (fun _ => 0))), (m_rd, .inl (cI, 38, .inl (fun _ => 0)))] H) (hD : va_D A [(x, .inr (7, [.ref ro, .ref ta, .ref no, .ref ac, .ref im, .ref tr, .ref pl, .ref cs, .ref ak, .int 0, .int 0])), (ro, .inr (5, [.ref it, .ref la, .ref le])), (la, .inl (cI, 8, .inl fl)), (le, .inl (cI, 8, .inl (fun _ => 0))), (it, .inl (cJ, 8, .inr (.inr (.inr (.inr (fun i => if i < 8 then some (it + 1 + i) else none)))))), ((it + 1 + 0), .inl (cI, 40, .inl (fun _ => 0))), ((it + 1 + 1), .inl (cI, 40, .inl (fun _ => 0))), ((it + 1 + 2), .inl (cI, 40, .inl (fun _ => 0))), ((it + 1 + 3), .inl (cI, 40, .inl (fun _ => 0))), ((it + 1 + 4), .inl (cI, 40, .inl (fun _ => 0))), ((it + 1 + 5), .inl (cI, 40, .inl (fun _ => 0))), ((it + 1 + 6), .inl (cI, 40, .inl (fun _ => 0))), ((it + 1 + 7), .inl (cI, 40, .inl (fun _ => 0))), (ta, .inr (6, [.ref bs, .int 0, .ref td, .int 0, .int 0, .int 0])), (bs, .inl (cI, 120, .inl (fun _ => 0))), (td, .inr (3, [.int 0, .int 0, .int 0, .int 0, .int 0, .int 0, .int 0, .int 0, .ref t1, .ref t2, .ref t3, .ref t4, .ref t5])), (no, .inr (3, [.int 0, .int 0, .int 0, .int 0, .int 0, .int 0, .int 0, .int 0, .ref n1, .ref n2, .ref n3, .ref n4, .ref n5])), (ac, .inr (0, [.ref be, .int 0, .int 0])), (im, .inl (cL, 2, .inr (.inr (.inr (.inr fi))))), (i0, .inr (3, [.int 0, .int 0, .int 0, .int 0, .int 0, .int 0, .int 0, .int 0, .ref x1, .ref x2, .ref x3, .ref x4, .ref x5])), (i1, .inr (3, [.int 0, .int 0, .int 0, .int 0, .int 0, .int 0, .int 0, .int 0, .ref y1, .ref y2, .ref y3, .ref y4, .ref y5])), (ak, .inr (1, [.ref tc, .int 0, .int 0, .int 0, .int 0, .int 0])), (mo, .inr (8, [.ref m_la, .ref m_sz, .ref m_it, .int 0, .int 0, .ref m_st, .ref m_mv, .ref m_tp, .int 0, .int 0, .int 0, .int 0, .int 0, .int 0, .int 0, .ref m_rd, .ref m_ac, .int 0, .ref m_as, .ref m_wo, .ref m_ik, .ref m_ke, .ref m_tr, .int 0])), (m_sz, .inl (cI, 8, .inl fm)), (m_st, .inl (cI, 38, .inl (fun _ => 0))), (m_ik, .inl (cZ, 2, .inl (fun _ => 0))), (m_la, .inl (cI, 8, .inl (fun _ => 0))), (m_it, .inl (cI, 320, .inl (fun _ => 0))), (m_tp, .inl (cI, 120, .inl (fun _ => 0))), (m_rd, .inl (cI, 38, .inl (fun _ => 0)))]) (hS : va_S A s.heap H locs) (hl : lv_has ls 4 [(3, .int 0), (2, .ref mo), (1, .ref x), (0, .ref b)]) : W p l e room_1 s m #[Value.ref b] below meth c H locs 277 3929 (lw_Z below #[Value.ref b] s) (F0 m 1345 ls []) := by
  refine lv_aload_n hx hb dL_law_1345 rfl (lv_at hl 2 rfl) ?_
  have hPc_1 := hP.sub (ws' := [(x, .inr (7, [.ref ro, .ref ta, .ref no, .ref ac, .ref im, .ref tr, .ref pl, .ref cs, .ref ak, .int 0, .int 0]))]) [0] rfl
  refine vp_callSi (W.runV (As := []) (rest := []) ⟨hx, hb, hml, hown, hts⟩ (c_X7_status l dC dI cI cZ cL cJ x ro ta no ac im tr pl cs ak ) (cwV 0 hts gL_law_X7_status rfl rfl rfl (by decide +kernel) ⟨Nat.le_of_ble_eq_true rfl, Nat.le_of_ble_eq_true rfl⟩) ⟨fun a U g mk q => by obtain ⟨q0, qP, qK⟩ := q; exact ⟨q0, qP, va_K.moved (u := U) (U := U.calling g mk a) (Vm.Alike.refl U.vm) qK⟩, va_recv hK hP (ci := 7) (q0 := 0) rfl rfl, fun U hU hW => ⟨rfl, by rw [hU]; exact hPc_1, va_K.moved hW.alike hK⟩⟩ rfl rfl hl.1 rfl (lv_room (Nat.le_of_ble_eq_true rfl)) dL_law_1346 ⟨Nat.le_of_ble_eq_true rfl, Nat.le_of_ble_eq_true rfl⟩) (fun r_1 h_1 => ?_)
  subst h_1
  refine lv_aload_n hx hb dL_law_1349 rfl (lv_at hl 1 rfl) ?_
  have hPc_2 := hP.sub (ws' := [(mo, .inr (8, [.ref m_la, .ref m_sz, .ref m_it, .int 0, .int 0, .ref m_st, .ref m_mv, .ref m_tp, .int 0, .int 0, .int 0, .int 0, .int 0, .int 0, .int 0, .ref m_rd, .ref m_ac, .int 0, .ref m_as, .ref m_wo, .ref m_ik, .ref m_ke, .ref m_tr, .int 0]))]) [22] rfl
  refine vp_callSi (W.runV (As := []) (rest := [.int 0]) ⟨hx, hb, hml, hown, hts⟩ (c_X8_status l dC dI cI cZ cL cJ mo m_la m_sz m_it m_st m_mv m_tp m_rd m_ac m_as m_wo m_ik m_ke m_tr ) (cwV 0 hts gL_law_X8_status rfl rfl rfl (by decide +kernel) ⟨Nat.le_of_ble_eq_true rfl, Nat.le_of_ble_eq_true rfl⟩) ⟨fun a U g mk q => by obtain ⟨q0, qP, qK⟩ := q; exact ⟨q0, qP, va_K.moved (u := U) (U := U.calling g mk a) (Vm.Alike.refl U.vm) qK⟩, va_recv hK hP (ci := 8) (q0 := 22) rfl rfl, fun U hU hW => ⟨rfl, by rw [hU]; exact hPc_2, va_K.moved hW.alike hK⟩⟩ rfl rfl hl.1 rfl (lv_room (Nat.le_of_ble_eq_true rfl)) dL_law_1350 ⟨Nat.le_of_ble_eq_true rfl, Nat.le_of_ble_eq_true rfl⟩) (fun r_2 h_2 => ?_)
  subst h_2
  refine lv_icmp_eq (tgt := 1358) hx hb dL_law_1353 (by decide) (fun _ => ?_) (fun c_ => absurd (by decide) c_)
  refine lv_iinc (v := 6) (lv' := [(3, .int 6), (2, .ref mo), (1, .ref x), (0, .ref b)]) hx hb dL_law_1358 hl (k := 0) rfl (by decide) (by decide) rfl (fun ls hl => ?_)
  refine lv_goto (tgt := 18) hx hb dL_law_1361 (by decide) ?_
  refine lv_iload_n hx hb dL_law_18 rfl (lv_at hl 0 rfl) ?_
  refine lv_aload_n hx hb dL_law_19 rfl (lv_at hl 3 rfl) ?_
  refine va_slen hx hb hX hbl hbA hS dL_law_20 ?_
  refine lv_topi (fun v_4 e_4 => ?_)
  obtain rfl : v_4 = 6 := (e_4).trans (by decide)
  refine lv_bipush (v := 6) hx hb dL_law_21 (by decide) ?_
  refine lv_isub hx hb dL_law_23 ?_
  refine lv_topi (fun v_5 e_5 => ?_)
  obtain rfl : v_5 = 0 := (e_5).trans (by decide)
  refine lv_icmp_gt (tgt := 1364) hx hb dL_law_24 (by decide) (fun _ => ?_) (fun c_ => absurd (by decide) c_)
  refine lv_iconst (v := 1) hx hb dL_law_1364 (by decide) ?_
  refine va_forget (fun q hq => by have q9 := hS.2.2 q hq; rw [hAd] at q9; exact q9) ?_
  refine W.widen (k := 600000) (n := 7302250) (Nat.le_of_ble_eq_true rfl) (Nat.le_of_ble_eq_true rfl) ?_
  exact lw_ret hx hb hr hlocks dL_law_1365
set_option maxHeartbeats 4000000 in
set_option maxRecDepth 100000 in
theorem lw_cd {p : Program} {l : Launch} {e : Env} {s : State} {m : MethodId} {below : List Frame} {meth : Method} {c : Code} {b : Nat} {xs : Nat → Int32} {dC : Nat → ClassId} {dI : Nat → Nat → Nat} {cI cZ cL cJ : ClassId} {A : Nat → Prop} {H : Heap} {locs : List Loc} {ls : Array Slot} {sc1 sc2 sc3 sc4 sc5 : Int32} {x mo : Nat} {ro : Nat} {it : Nat} {la : Nat} {le : Nat} {fl : Nat → Int32} {ta : Nat} {bs : Nat} {td : Nat} {t1 : Nat} {t2 : Nat} {t3 : Nat} {t4 : Nat} {t5 : Nat} {no : Nat} {n1 : Nat} {n2 : Nat} {n3 : Nat} {n4 : Nat} {n5 : Nat} {ac : Nat} {be : Nat} {im : Nat} {fi : Nat → Option Nat} {i0 : Nat} {x1 : Nat} {x2 : Nat} {x3 : Nat} {x4 : Nat} {x5 : Nat} {i1 : Nat} {y1 : Nat} {y2 : Nat} {y3 : Nat} {y4 : Nat} {y5 : Nat} {tr : Nat} {pl : Nat} {cs : Nat} {ak : Nat} {tc : Nat} {m_la : Nat} {m_sz : Nat} {m_it : Nat} {m_st : Nat} {m_mv : Nat} {m_tp : Nat} {m_rd : Nat} {m_ac : Nat} {m_as : Nat} {m_wo : Nat} {m_ik : Nat} {m_ke : Nat} {m_tr : Nat} {fm : Nat → Int32} (hx : p.tables.exec = Jvm.exec) (hb : c.code = code) (hr : meth.sig.returnType = ret) (hml : c.maxLocals = 4) (hown : s.vm.findClass RL = some m.cls) (hts : ∀ w ∈ wsL_law, w.before #[Value.ref b] s = true) (hX : va_X b 6 xs s s.heap) (hbl : b < s.heap.size) (hlocks : meth.locks = false) (hAd : A = fun q => s.heap.size ≤ q) (hA : ∀ q : Nat, s.heap.size ≤ q → A q) (hbA : ¬ A b) (hsc1 : sc1 = xs 1) (hsc2 : sc2 = xs 2) (hsc3 : sc3 = xs 3) (hsc4 : sc4 = xs 4) (hsc5 : sc5 = xs 5) (hfl : ∀ j : Nat, j < 8 → fl j = -1) (hf0 : fi 0 = some i0) (hf1 : fi 1 = some i1) (hfm : ∀ j : Nat, j < 8 → fm j = -1) (hK : va_K (dC, dI) vwCl [(cI, .int), (cZ, .boolean), (cL, .object RX3), (cJ, .array .int)] s) (hP : va_P (dC, dI) vwCl [(x, .inr (7, [.ref ro, .ref ta, .ref no, .ref ac, .ref im, .ref tr, .ref pl, .ref cs, .ref ak, .int 0, .int 0])), (ro, .inr (5, [.ref it, .ref la, .ref le])), (la, .inl (cI, 8, .inl fl)), (le, .inl (cI, 8, .inl (fun _ => 0))), (it, .inl (cJ, 8, .inr (.inr (.inr (.inr (fun i => if i < 8 then some (it + 1 + i) else none)))))), ((it + 1 + 0), .inl (cI, 40, .inl (fun _ => 0))), ((it + 1 + 1), .inl (cI, 40, .inl (fun _ => 0))), ((it + 1 + 2), .inl (cI, 40, .inl (fun _ => 0))), ((it + 1 + 3), .inl (cI, 40, .inl (fun _ => 0))), ((it + 1 + 4), .inl (cI, 40, .inl (fun _ => 0))), ((it + 1 + 5), .inl (cI, 40, .inl (fun _ => 0))), ((it + 1 + 6), .inl (cI, 40, .inl (fun _ => 0))), ((it + 1 + 7), .inl (cI, 40, .inl (fun _ => 0))), (ta, .inr (6, [.ref bs, .int 0, .ref td, .int 0, .int 0, .int 0])), (bs, .inl (cI, 120, .inl (fun _ => 0))), (td, .inr (3, [.int 0, .int 0, .int 0, .int 0, .int 0, .int 0, .int 0, .int 0, .ref t1, .ref t2, .ref t3, .ref t4, .ref t5])), (no, .inr (3, [.int 0, .int 0, .int 0, .int 0, .int 0, .int 0, .int 0, .int 0, .ref n1, .ref n2, .ref n3, .ref n4, .ref n5])), (ac, .inr (0, [.ref be, .int 0, .int 0])), (im, .inl (cL, 2, .inr (.inr (.inr (.inr fi))))), (i0, .inr (3, [.int 0, .int 0, .int 0, .int 0, .int 0, .int 0, .int 0, .int 0, .ref x1, .ref x2, .ref x3, .ref x4, .ref x5])), (i1, .inr (3, [.int 0, .int 0, .int 0, .int 0, .int 0, .int 0, .int 0, .int 0, .ref y1, .ref y2, .ref y3, .ref y4, .ref y5])), (ak, .inr (1, [.ref tc, .int 0, .int 0, .int 0, .int 0, .int 0])), (mo, .inr (8, [.ref m_la, .ref m_sz, .ref m_it, .int 0, .int 0, .ref m_st, .ref m_mv, .ref m_tp, .int 0, .int 0, .int 0, .int 0, .int 0, .int 0, .int 0, .ref m_rd, .ref m_ac, .int 0, .ref m_as, .ref m_wo, .ref m_ik, .ref m_ke, .ref m_tr, .int 0])), (m_sz, .inl (cI, 8, .inl fm)), (m_st, .inl (cI, 38, .inl (fun _ => 0))), (m_ik, .inl (cZ, 2, .inl (fun _ => 0))), (m_la, .inl (cI, 8, .inl (fun _ => 0))), (m_it, .inl (cI, 320, .inl (fun _ => 0))), (m_tp, .inl (cI, 120, .inl (fun _ => 0))), (m_rd, .inl (cI, 38, .inl (fun _ => 0)))] H) (hD : va_D A [(x, .inr (7, [.ref ro, .ref ta, .ref no, .ref ac, .ref im, .ref tr, .ref pl, .ref cs, .ref ak, .int 0, .int 0])), (ro, .inr (5, [.ref it, .ref la, .ref le])), (la, .inl (cI, 8, .inl fl)), (le, .inl (cI, 8, .inl (fun _ => 0))), (it, .inl (cJ, 8, .inr (.inr (.inr (.inr (fun i => if i < 8 then some (it + 1 + i) else none)))))), ((it + 1 + 0), .inl (cI, 40, .inl (fun _ => 0))), ((it + 1 + 1), .inl (cI, 40, .inl (fun _ => 0))), ((it + 1 + 2), .inl (cI, 40, .inl (fun _ => 0))), ((it + 1 + 3), .inl (cI, 40, .inl (fun _ => 0))), ((it + 1 + 4), .inl (cI, 40, .inl (fun _ => 0))), ((it + 1 + 5), .inl (cI, 40, .inl (fun _ => 0))), ((it + 1 + 6), .inl (cI, 40, .inl (fun _ => 0))), ((it + 1 + 7), .inl (cI, 40, .inl (fun _ => 0))), (ta, .inr (6, [.ref bs, .int 0, .ref td, .int 0, .int 0, .int 0])), (bs, .inl (cI, 120, .inl (fun _ => 0))), (td, .inr (3, [.int 0, .int 0, .int 0, .int 0, .int 0, .int 0, .int 0, .int 0, .ref t1, .ref t2, .ref t3, .ref t4, .ref t5])), (no, .inr (3, [.int 0, .int 0, .int 0, .int 0, .int 0, .int 0, .int 0, .int 0, .ref n1, .ref n2, .ref n3, .ref n4, .ref n5])), (ac, .inr (0, [.ref be, .int 0, .int 0])), (im, .inl (cL, 2, .inr (.inr (.inr (.inr fi))))), (i0, .inr (3, [.int 0, .int 0, .int 0, .int 0, .int 0, .int 0, .int 0, .int 0, .ref x1, .ref x2, .ref x3, .ref x4, .ref x5])), (i1, .inr (3, [.int 0, .int 0, .int 0, .int 0, .int 0, .int 0, .int 0, .int 0, .ref y1, .ref y2, .ref y3, .ref y4, .ref y5])), (ak, .inr (1, [.ref tc, .int 0, .int 0, .int 0, .int 0, .int 0])), (mo, .inr (8, [.ref m_la, .ref m_sz, .ref m_it, .int 0, .int 0, .ref m_st, .ref m_mv, .ref m_tp, .int 0, .int 0, .int 0, .int 0, .int 0, .int 0, .int 0, .ref m_rd, .ref m_ac, .int 0, .ref m_as, .ref m_wo, .ref m_ik, .ref m_ke, .ref m_tr, .int 0])), (m_sz, .inl (cI, 8, .inl fm)), (m_st, .inl (cI, 38, .inl (fun _ => 0))), (m_ik, .inl (cZ, 2, .inl (fun _ => 0))), (m_la, .inl (cI, 8, .inl (fun _ => 0))), (m_it, .inl (cI, 320, .inl (fun _ => 0))), (m_tp, .inl (cI, 120, .inl (fun _ => 0))), (m_rd, .inl (cI, 38, .inl (fun _ => 0)))]) (hS : va_S A s.heap H locs) (hl : lv_has ls 4 [(3, .int 0), (2, .ref mo), (1, .ref x), (0, .ref b)]) : W p l e room_1 s m #[Value.ref b] below meth c H locs 277 3929 (lw_Z below #[Value.ref b] s) (F0 m 1358 ls []) := by
  refine lv_iinc (v := 6) (lv' := [(3, .int 6), (2, .ref mo), (1, .ref x), (0, .ref b)]) hx hb dL_law_1358 hl (k := 0) rfl (by decide) (by decide) rfl (fun ls hl => ?_)
  refine lv_goto (tgt := 18) hx hb dL_law_1361 (by decide) ?_
  refine lv_iload_n hx hb dL_law_18 rfl (lv_at hl 0 rfl) ?_
  refine lv_aload_n hx hb dL_law_19 rfl (lv_at hl 3 rfl) ?_
  refine va_slen hx hb hX hbl hbA hS dL_law_20 ?_
  refine lv_topi (fun v_1 e_1 => ?_)
  obtain rfl : v_1 = 6 := (e_1).trans (by decide)
  refine lv_bipush (v := 6) hx hb dL_law_21 (by decide) ?_
  refine lv_isub hx hb dL_law_23 ?_
  refine lv_topi (fun v_2 e_2 => ?_)
  obtain rfl : v_2 = 0 := (e_2).trans (by decide)
  refine lv_icmp_gt (tgt := 1364) hx hb dL_law_24 (by decide) (fun _ => ?_) (fun c_ => absurd (by decide) c_)
  refine lv_iconst (v := 1) hx hb dL_law_1364 (by decide) ?_
  refine va_forget (fun q hq => by have q9 := hS.2.2 q hq; rw [hAd] at q9; exact q9) ?_
  refine W.widen (k := 600000) (n := 7302250) (Nat.le_of_ble_eq_true rfl) (Nat.le_of_ble_eq_true rfl) ?_
  exact lw_ret hx hb hr hlocks dL_law_1365
