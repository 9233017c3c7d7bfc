set_option maxHeartbeats 4000000 in
set_option maxRecDepth 100000 in
theorem lw_c13 {p : Program} {l : Launch} {e : Env} {s : State} {m : MethodId} {below : List Frame} {meth : Method} {c : Code} {b : Nat} {xs : Nat → Int32} {dC : Nat → ClassId} {dI : Nat → Nat → Nat} {cI cZ cL cJ : ClassId} {A : Nat → Prop} {H : Heap} {locs : List Loc} {ls : Array Slot} {sc1 sc2 sc3 sc4 sc5 : Int32} {x mo : Nat} {ro : Nat} {it : Nat} {la : Nat} {le : Nat} {fl : Nat → Int32} {ta : Nat} {bs : Nat} {td : Nat} {t1 : Nat} {t2 : Nat} {t3 : Nat} {t4 : Nat} {t5 : Nat} {no : Nat} {n1 : Nat} {n2 : Nat} {n3 : Nat} {n4 : Nat} {n5 : Nat} {ac : Nat} {be : Nat} {im : Nat} {fi : Nat → Option Nat} {i0 : Nat} {x1 : Nat} {x2 : Nat} {x3 : Nat} {x4 : Nat} {x5 : Nat} {i1 : Nat} {y1 : Nat} {y2 : Nat} {y3 : Nat} {y4 : Nat} {y5 : Nat} {tr : Nat} {pl : Nat} {cs : Nat} {ak : Nat} {tc : Nat} {m_la : Nat} {m_sz : Nat} {m_it : Nat} {m_st : Nat} {m_mv : Nat} {m_tp : Nat} {m_rd : Nat} {m_ac : Nat} {m_as : Nat} {m_wo : Nat} {m_ik : Nat} {m_ke : Nat} {m_tr : Nat} {fm : Nat → Int32} (hx : p.tables.exec = Jvm.exec) (hb : c.code = code) (hr : meth.sig.returnType = ret) (hml : c.maxLocals = 4) (hown : s.vm.findClass RL = some m.cls) (hts : ∀ w ∈ wsL_law, w.before #[Value.ref b] s = true) (hX : va_X b 6 xs s s.heap) (hbl : b < s.heap.size) (hlocks : meth.locks = false) (hAd : A = fun q => s.heap.size ≤ q) (hA : ∀ q : Nat, s.heap.size ≤ q → A q) (hbA : ¬ A b) (hsc1 : sc1 = xs 1) (hsc2 : sc2 = xs 2) (hsc3 : sc3 = xs 3) (hsc4 : sc4 = xs 4) (hsc5 : sc5 = xs 5) (hfl : ∀ j : Nat, j < 8 → fl j = -1) (hf0 : fi 0 = some i0) (hf1 : fi 1 = some i1) (hfm : ∀ j : Nat, j < 8 → fm j = -1) (hK : va_K (dC, dI) vwCl [(cI, .int), (cZ, .boolean), (cL, .object RX3), (cJ, .array .int)] s) (hP : va_P (dC, dI) vwCl [(x, .inr (7, [.ref ro, .ref ta, .ref no, .ref ac, .ref im, .ref tr, .ref pl, .ref cs, .ref ak, .int 0, .int 0])), (ro, .inr (5, [.ref it, .ref la, .ref le])), (la, .inl (cI, 8, .inl fl)), (le, .inl (cI, 8, .inl (fun _ => 0))), (it, .inl (cJ, 8, .inr (.inr (.inr (.inr (fun i => if i < 8 then some (it + 1 + i) else none)))))), ((it + 1 + 0), .inl (cI, 40, .inl (fun _ => 0))), ((it + 1 + 1), .inl (cI, 40, .inl (fun _ => 0))), ((it + 1 + 2), .inl (cI, 40, .inl (fun _ => 0))), ((it + 1 + 3), .inl (cI, 40, .inl (fun _ => 0))), ((it + 1 + 4), .inl (cI, 40, .inl (fun _ => 0))), ((it + 1 + 5), .inl (cI, 40, .inl (fun _ => 0))), ((it + 1 + 6), .inl (cI, 40, .inl (fun _ => 0))), ((it + 1 + 7), .inl (cI, 40, .inl (fun _ => 0))), (ta, .inr (6, [.ref bs, .int 0, .ref td, .int 0, .int 0, .int 0])), (bs, .inl (cI, 120, .inl (fun _ => 0))), (td, .inr (3, [.int 0, .int 0, .int 0, .int 0, .int 0, .int 0, .int 0, .int 0, .ref t1, .ref t2, .ref t3, .ref t4, .ref t5])), (no, .inr (3, [.int 0, .int 0, .int 0, .int 0, .int 0, .int 0, .int 0, .int 0, .ref n1, .ref n2, .ref n3, .ref n4, .ref n5])), (ac, .inr (0, [.ref be, .int 0, .int 0])), (im, .inl (cL, 2, .inr (.inr (.inr (.inr fi))))), (i0, .inr (3, [.int 0, .int 0, .int 0, .int 0, .int 0, .int 0, .int 0, .int 0, .ref x1, .ref x2, .ref x3, .ref x4, .ref x5])), (i1, .inr (3, [.int 0, .int 0, .int 0, .int 0, .int 0, .int 0, .int 0, .int 0, .ref y1, .ref y2, .ref y3, .ref y4, .ref y5])), (ak, .inr (1, [.ref tc, .int 0, .int 0, .int 0, .int 0, .int 0])), (mo, .inr (8, [.ref m_la, .ref m_sz, .ref m_it, .int 0, .int 0, .ref m_st, .ref m_mv, .ref m_tp, .int 0, .int 0, .int 0, .int 0, .int 0, .int 0, .int 0, .ref m_rd, .ref m_ac, .int 0, .ref m_as, .ref m_wo, .ref m_ik, .ref m_ke, .ref m_tr, .int 0])), (m_sz, .inl (cI, 8, .inl fm)), (m_st, .inl (cI, 38, .inl (fun _ => 0))), (m_ik, .inl (cZ, 2, .inl (fun _ => 0))), (m_la, .inl (cI, 8, .inl (fun _ => 0))), (m_it, .inl (cI, 320, .inl (fun _ => 0))), (m_tp, .inl (cI, 120, .inl (fun _ => 0))), (m_rd, .inl (cI, 38, .inl (fun _ => 0)))] H) (hD : va_D A [(x, .inr (7, [.ref ro, .ref ta, .ref no, .ref ac, .ref im, .ref tr, .ref pl, .ref cs, .ref ak, .int 0, .int 0])), (ro, .inr (5, [.ref it, .ref la, .ref le])), (la, .inl (cI, 8, .inl fl)), (le, .inl (cI, 8, .inl (fun _ => 0))), (it, .inl (cJ, 8, .inr (.inr (.inr (.inr (fun i => if i < 8 then some (it + 1 + i) else none)))))), ((it + 1 + 0), .inl (cI, 40, .inl (fun _ => 0))), ((it + 1 + 1), .inl (cI, 40, .inl (fun _ => 0))), ((it + 1 + 2), .inl (cI, 40, .inl (fun _ => 0))), ((it + 1 + 3), .inl (cI, 40, .inl (fun _ => 0))), ((it + 1 + 4), .inl (cI, 40, .inl (fun _ => 0))), ((it + 1 + 5), .inl (cI, 40, .inl (fun _ => 0))), ((it + 1 + 6), .inl (cI, 40, .inl (fun _ => 0))), ((it + 1 + 7), .inl (cI, 40, .inl (fun _ => 0))), (ta, .inr (6, [.ref bs, .int 0, .ref td, .int 0, .int 0, .int 0])), (bs, .inl (cI, 120, .inl (fun _ => 0))), (td, .inr (3, [.int 0, .int 0, .int 0, .int 0, .int 0, .int 0, .int 0, .int 0, .ref t1, .ref t2, .ref t3, .ref t4, .ref t5])), (no, .inr (3, [.int 0, .int 0, .int 0, .int 0, .int 0, .int 0, .int 0, .int 0, .ref n1, .ref n2, .ref n3, .ref n4, .ref n5])), (ac, .inr (0, [.ref be, .int 0, .int 0])), (im, .inl (cL, 2, .inr (.inr (.inr (.inr fi))))), (i0, .inr (3, [.int 0, .int 0, .int 0, .int 0, .int 0, .int 0, .int 0, .int 0, .ref x1, .ref x2, .ref x3, .ref x4, .ref x5])), (i1, .inr (3, [.int 0, .int 0, .int 0, .int 0, .int 0, .int 0, .int 0, .int 0, .ref y1, .ref y2, .ref y3, .ref y4, .ref y5])), (ak, .inr (1, [.ref tc, .int 0, .int 0, .int 0, .int 0, .int 0])), (mo, .inr (8, [.ref m_la, .ref m_sz, .ref m_it, .int 0, .int 0, .ref m_st, .ref m_mv, .ref m_tp, .int 0, .int 0, .int 0, .int 0, .int 0, .int 0, .int 0, .ref m_rd, .ref m_ac, .int 0, .ref m_as, .ref m_wo, .ref m_ik, .ref m_ke, .ref m_tr, .int 0])), (m_sz, .inl (cI, 8, .inl fm)), (m_st, .inl (cI, 38, .inl (fun _ => 0))), (m_ik, .inl (cZ, 2, .inl (fun _ => 0))), (m_la, .inl (cI, 8, .inl (fun _ => 0))), (m_it, .inl (cI, 320, .inl (fun _ => 0))), (m_tp, .inl (cI, 120, .inl (fun _ => 0))), (m_rd, .inl (cI, 38, .inl (fun _ => 0)))]) (hS : va_S A s.heap H locs) (hl : lv_has ls 4 [(3, .int 0), (2, .ref mo), (1, .ref x), (0, .ref b)]) : W p l e room_1 s m #[Value.ref b] below meth c H locs 277 3929 (lw_Z below #[Value.ref b] s) (F0 m 565 ls []) := by
  refine lv_aload_n hx hb dL_law_565 rfl (lv_at hl 2 rfl) ?_
  refine lv_aload_n hx hb dL_law_566 rfl (lv_at hl 3 rfl) ?_
  refine lv_iload_n hx hb dL_law_567 rfl (lv_at hl 0 rfl) ?_
  refine lv_iconst (v := 1) hx hb dL_law_568 (by decide) ?_
  refine lv_iadd hx hb dL_law_569 ?_
  refine lv_topi (fun v_1 e_1 => ?_)
  obtain rfl : v_1 = 1 := (e_1).trans (by decide)
  refine va_sld hx hb hX hbl hbA hS (by unfold vp_in; decide) dL_law_570 ?_
  refine lv_topi (fun v_2 e_2 => ?_)
  obtain rfl : sc1 = v_2 := ((e_2).trans hsc1.symm).symm
  refine lv_aload_n hx hb dL_law_571 rfl (lv_at hl 3 rfl) ?_
  refine lv_iload_n hx hb dL_law_572 rfl (lv_at hl 0 rfl) ?_
  refine lv_iconst (v := 2) hx hb dL_law_573 (by decide) ?_
  refine lv_iadd hx hb dL_law_574 ?_
  refine lv_topi (fun v_3 e_3 => ?_)
  obtain rfl : v_3 = 2 := (e_3).trans (by decide)
  refine va_sld hx hb hX hbl hbA hS (by unfold vp_in; decide) dL_law_575 ?_
  refine lv_topi (fun v_4 e_4 => ?_)
  obtain rfl : sc2 = v_4 := ((e_4).trans hsc2.symm).symm
  have hPc_5 := hP.sub (ws' := [(x, .inr (7, [.ref ro, .ref ta, .ref no, .ref ac, .ref im, .ref tr, .ref pl, .ref cs, .ref ak, .int 0, .int 0])), (no, .inr (3, [.int 0, .int 0, .int 0, .int 0, .int 0, .int 0, .int 0, .int 0, .ref n1, .ref n2, .ref n3, .ref n4, .ref n5]))]) [0, 16] rfl
  refine vp_callSi (W.runV (As := [.int sc1, .int sc2]) (rest := []) ⟨hx, hb, hml, hown, hts⟩ (c_X7_sound l dC dI cI cZ cL cJ x ro ta no ac im tr pl cs ak n1 n2 n3 n4 n5 sc1 sc2 ) (cwV 2 hts gL_law_X7_sound rfl rfl rfl (by decide +kernel) ⟨Nat.le_of_ble_eq_true rfl, Nat.le_of_ble_eq_true rfl⟩) ⟨fun a U g mk q => by obtain ⟨q0, qP, qK⟩ := q; exact ⟨q0, qP, va_K.moved (u := U) (U := U.calling g mk a) (Vm.Alike.refl U.vm) qK⟩, va_recv hK hP (ci := 7) (q0 := 0) rfl rfl, fun U hU hW => ⟨rfl, by rw [hU]; exact hPc_5, va_K.moved hW.alike hK⟩⟩ rfl rfl hl.1 rfl (lv_room (Nat.le_of_ble_eq_true rfl)) dL_law_576 ⟨Nat.le_of_ble_eq_true rfl, Nat.le_of_ble_eq_true rfl⟩) (fun r_5 h_5 => ?_)
  subst h_5
  refine lv_aload_n hx hb dL_law_579 rfl (lv_at hl 1 rfl) ?_
  refine lv_aload_n hx hb dL_law_580 rfl (lv_at hl 3 rfl) ?_
  refine lv_iload_n hx hb dL_law_581 rfl (lv_at hl 0 rfl) ?_
  refine lv_iconst (v := 1) hx hb dL_law_582 (by decide) ?_
  refine lv_iadd hx hb dL_law_583 ?_
  refine lv_topi (fun v_6 e_6 => ?_)
  obtain rfl : v_6 = 1 := (e_6).trans (by decide)
  refine va_sld hx hb hX hbl hbA hS (by unfold vp_in; decide) dL_law_584 ?_
  refine lv_topi (fun v_7 e_7 => ?_)
  obtain rfl : sc1 = v_7 := ((e_7).trans hsc1.symm).symm
  refine lv_aload_n hx hb dL_law_585 rfl (lv_at hl 3 rfl) ?_
  refine lv_iload_n hx hb dL_law_586 rfl (lv_at hl 0 rfl) ?_
  refine lv_iconst (v := 2) hx hb dL_law_587 (by decide) ?_
  refine lv_iadd hx hb dL_law_588 ?_
  refine lv_topi (fun v_8 e_8 => ?_)
  obtain rfl : v_8 = 2 := (e_8).trans (by decide)
  refine va_sld hx hb hX hbl hbA hS (by unfold vp_in; decide) dL_law_589 ?_
  refine lv_topi (fun v_9 e_9 => ?_)
  obtain rfl : sc2 = v_9 := ((e_9).trans hsc2.symm).symm
  have hPc_10 := hP.sub (ws' := [(mo, .inr (8, [.ref m_la, .ref m_sz, .ref m_it, .int 0, .int 0, .ref m_st, .ref m_mv, .ref m_tp, .int 0, .int 0, .int 0, .int 0, .int 0, .int 0, .int 0, .ref m_rd, .ref m_ac, .int 0, .ref m_as, .ref m_wo, .ref m_ik, .ref m_ke, .ref m_tr, .int 0])), (m_st, .inl (cI, 38, .inl (fun _ => 0)))]) [22, 24] rfl
  refine vp_callSi (W.runV (As := [.int sc1, .int sc2]) (rest := [.int (-1000001)]) ⟨hx, hb, hml, hown, hts⟩ (c_X8_sound l dC dI cI cZ cL cJ mo m_la m_sz m_it m_st m_mv m_tp m_rd m_ac m_as m_wo m_ik m_ke m_tr sc1 sc2 ) (cwV 2 hts gL_law_X8_sound rfl rfl rfl (by decide +kernel) ⟨Nat.le_of_ble_eq_true rfl, Nat.le_of_ble_eq_true rfl⟩) ⟨fun a U g mk q => by obtain ⟨q0, qP, qK⟩ := q; exact ⟨q0, qP, va_K.moved (u := U) (U := U.calling g mk a) (Vm.Alike.refl U.vm) qK⟩, va_recv hK hP (ci := 8) (q0 := 22) rfl rfl, fun U hU hW => ⟨rfl, by rw [hU]; exact hPc_10, va_K.moved hW.alike hK⟩⟩ rfl rfl hl.1 rfl (lv_room (Nat.le_of_ble_eq_true rfl)) dL_law_590 ⟨Nat.le_of_ble_eq_true rfl, Nat.le_of_ble_eq_true rfl⟩) (fun r_10 h_10 => ?_)
  subst h_10
  refine lv_icmp_eq (tgt := 1358) hx hb dL_law_593 (by decide) (fun _ => ?_) (fun c_ => absurd (by decide) c_)
  refine lv_iinc (v := 6) (lv' := [(3, .int 6), (2, .ref mo), (1, .ref x), (0, .ref b)]) hx hb dL_law_1358 hl (k := 0) rfl (by decide) (by decide) rfl (fun ls hl => ?_)
  refine lv_goto (tgt := 18) hx hb dL_law_1361 (by decide) ?_
  refine lv_iload_n hx hb dL_law_18 rfl (lv_at hl 0 rfl) ?_
  refine lv_aload_n hx hb dL_law_19 rfl (lv_at hl 3 rfl) ?_
  refine va_slen hx hb hX hbl hbA hS dL_law_20 ?_
  refine lv_topi (fun v_12 e_12 => ?_)
  obtain rfl : v_12 = 6 := (e_12).trans (by decide)
  refine lv_bipush (v := 6) hx hb dL_law_21 (by decide) ?_
  refine lv_isub hx hb dL_law_23 ?_
  refine lv_topi (fun v_13 e_13 => ?_)
  obtain rfl : v_13 = 0 := (e_13).trans (by decide)
  refine lv_icmp_gt (tgt := 1364) hx hb dL_law_24 (by decide) (fun _ => ?_) (fun c_ => absurd (by decide) c_)
  refine lv_iconst (v := 1) hx hb dL_law_1364 (by decide) ?_
  refine va_forget (fun q hq => by have q9 := hS.2.2 q hq; rw [hAd] at q9; exact q9) ?_
  refine W.widen (k := 600000) (n := 7302250) (Nat.le_of_ble_eq_true rfl) (Nat.le_of_ble_eq_true rfl) ?_
  exact lw_ret hx hb hr hlocks dL_law_1365
set_option maxHeartbeats 4000000 in
set_option maxRecDepth 100000 in
theorem lw_c14 {p : Program} {l : Launch} {e : Env} {s : State} {m : MethodId} {below : List Frame} {meth : Method} {c : Code} {b : Nat} {xs : Nat → Int32} {dC : Nat → ClassId} {dI : Nat → Nat → Nat} {cI cZ cL cJ : ClassId} {A : Nat → Prop} {H : Heap} {locs : List Loc} {ls : Array Slot} {sc1 sc2 sc3 sc4 sc5 : Int32} {x mo : Nat} {ro : Nat} {it : Nat} {la : Nat} {le : Nat} {fl : Nat → Int32} {ta : Nat} {bs : Nat} {td : Nat} {t1 : Nat} {t2 : Nat} {t3 : Nat} {t4 : Nat} {t5 : Nat} {no : Nat} {n1 : Nat} {n2 : Nat} {n3 : Nat} {n4 : Nat} {n5 : Nat} {ac : Nat} {be : Nat} {im : Nat} {fi : Nat → Option Nat} {i0 : Nat} {x1 : Nat} {x2 : Nat} {x3 : Nat} {x4 : Nat} {x5 : Nat} {i1 : Nat} {y1 : Nat} {y2 : Nat} {y3 : Nat} {y4 : Nat} {y5 : Nat} {tr : Nat} {pl : Nat} {cs : Nat} {ak : Nat} {tc : Nat} {m_la : Nat} {m_sz : Nat} {m_it : Nat} {m_st : Nat} {m_mv : Nat} {m_tp : Nat} {m_rd : Nat} {m_ac : Nat} {m_as : Nat} {m_wo : Nat} {m_ik : Nat} {m_ke : Nat} {m_tr : Nat} {fm : Nat → Int32} (hx : p.tables.exec = Jvm.exec) (hb : c.code = code) (hr : meth.sig.returnType = ret) (hml : c.maxLocals = 4) (hown : s.vm.findClass RL = some m.cls) (hts : ∀ w ∈ wsL_law, w.before #[Value.ref b] s = true) (hX : va_X b 6 xs s s.heap) (hbl : b < s.heap.size) (hlocks : meth.locks = false) (hAd : A = fun q => s.heap.size ≤ q) (hA : ∀ q : Nat, s.heap.size ≤ q → A q) (hbA : ¬ A b) (hsc1 : sc1 = xs 1) (hsc2 : sc2 = xs 2) (hsc3 : sc3 = xs 3) (hsc4 : sc4 = xs 4) (hsc5 : sc5 = xs 5) (hfl : ∀ j : Nat, j < 8 → fl j = -1) (hf0 : fi 0 = some i0) (hf1 : fi 1 = some i1) (hfm : ∀ j : Nat, j < 8 → fm j = -1) (hK : va_K (dC, dI) vwCl [(cI, .int), (cZ, .boolean), (cL, .object RX3), (cJ, .array .int)] s) (hP : va_P (dC, dI) vwCl [(x, .inr (7, [.ref ro, .ref ta, .ref no, .ref ac, .ref im, .ref tr, .ref pl, .ref cs, .ref ak, .int 0, .int 0])), (ro, .inr (5, [.ref it, .ref la, .ref le])), (la, .inl (cI, 8, .inl fl)), (le, .inl (cI, 8, .inl (fun _ => 0))), (it, .inl (cJ, 8, .inr (.inr (.inr (.inr (fun i => if i < 8 then some (it + 1 + i) else none)))))), ((it + 1 + 0), .inl (cI, 40, .inl (fun _ => 0))), ((it + 1 + 1), .inl (cI, 40, .inl (fun _ => 0))), ((it + 1 + 2), .inl (cI, 40, .inl (fun _ => 0))), ((it + 1 + 3), .inl (cI, 40, .inl (fun _ => 0))), ((it + 1 + 4), .inl (cI, 40, .inl (fun _ => 0))), ((it + 1 + 5), .inl (cI, 40, .inl (fun _ => 0))), ((it + 1 + 6), .inl (cI, 40, .inl (fun _ => 0))), ((it + 1 + 7), .inl (cI, 40, .inl (fun _ => 0))), (ta, .inr (6, [.ref bs, .int 0, .ref td, .int 0, .int 0, .int 0])), (bs, .inl (cI, 120, .inl (fun _ => 0))), (td, .inr (3, [.int 0, .int 0, .int 0, .int 0, .int 0, .int 0, .int 0, .int 0, .ref t1, .ref t2, .ref t3, .ref t4, .ref t5])), (no, .inr (3, [.int 0, .int 0, .int 0, .int 0, .int 0, .int 0, .int 0, .int 0, .ref n1, .ref n2, .ref n3, .ref n4, .ref n5])), (ac, .inr (0, [.ref be, .int 0, .int 0])), (im, .inl (cL, 2, .inr (.inr (.inr (.inr fi))))), (i0, .inr (3, [.int 0, .int 0, .int 0, .int 0, .int 0, .int 0, .int 0, .int 0, .ref x1, .ref x2, .ref x3, .ref x4, .ref x5])), (i1, .inr (3, [.int 0, .int 0, .int 0, .int 0, .int 0, .int 0, .int 0, .int 0, .ref y1, .ref y2, .ref y3, .ref y4, .ref y5])), (ak, .inr (1, [.ref tc, .int 0, .int 0, .int 0, .int 0, .int 0])), (mo, .inr (8, [.ref m_la, .ref m_sz, .ref m_it, .int 0, .int 0, .ref m_st, .ref m_mv, .ref m_tp, .int 0, .int 0, .int 0, .int 0, .int 0, .int 0, .int 0, .ref m_rd, .ref m_ac, .int 0, .ref m_as, .ref m_wo, .ref m_ik, .ref m_ke, .ref m_tr, .int 0])), (m_sz, .inl (cI, 8, .inl fm)), (m_st, .inl (cI, 38, .inl (fun _ => 0))), (m_ik, .inl (cZ, 2, .inl (fun _ => 0))), (m_la, .inl (cI, 8, .inl (fun _ => 0))), (m_it, .inl (cI, 320, .inl (fun _ => 0))), (m_tp, .inl (cI, 120, .inl (fun _ => 0))), (m_rd, .inl (cI, 38, .inl (fun _ => 0)))] H) (hD : va_D A [(x, .inr (7, [.ref ro, .ref ta, .ref no, .ref ac, .ref im, .ref tr, .ref pl, .ref cs, .ref ak, .int 0, .int 0])), (ro, .inr (5, [.ref it, .ref la, .ref le])), (la, .inl (cI, 8, .inl fl)), (le, .inl (cI, 8, .inl (fun _ => 0))), (it, .inl (cJ, 8, .inr (.inr (.inr (.inr (fun i => if i < 8 then some (it + 1 + i) else none)))))), ((it + 1 + 0), .inl (cI, 40, .inl (fun _ => 0))), ((it + 1 + 1), .inl (cI, 40, .inl (fun _ => 0))), ((it + 1 + 2), .inl (cI, 40, .inl (fun _ => 0))), ((it + 1 + 3), .inl (cI, 40, .inl (fun _ => 0))), ((it + 1 + 4), .inl (cI, 40, .inl (fun _ => 0))), ((it + 1 + 5), .inl (cI, 40, .inl (fun _ => 0))), ((it + 1 + 6), .inl (cI, 40, .inl (fun _ => 0))), ((it + 1 + 7), .inl (cI, 40, .inl (fun _ => 0))), (ta, .inr (6, [.ref bs, .int 0, .ref td, .int 0, .int 0, .int 0])), (bs, .inl (cI, 120, .inl (fun _ => 0))), (td, .inr (3, [.int 0, .int 0, .int 0, .int 0, .int 0, .int 0, .int 0, .int 0, .ref t1, .ref t2, .ref t3, .ref t4, .ref t5])), (no, .inr (3, [.int 0, .int 0, .int 0, .int 0, .int 0, .int 0, .int 0, .int 0, .ref n1, .ref n2, .ref n3, .ref n4, .ref n5])), (ac, .inr (0, [.ref be, .int 0, .int 0])), (im, .inl (cL, 2, .inr (.inr (.inr (.inr fi))))), (i0, .inr (3, [.int 0, .int 0, .int 0, .int 0, .int 0, .int 0, .int 0, .int 0, .ref x1, .ref x2, .ref x3, .ref x4, .ref x5])), (i1, .inr (3, [.int 0, .int 0, .int 0, .int 0, .int 0, .int 0, .int 0, .int 0, .ref y1, .ref y2, .ref y3, .ref y4, .ref y5])), (ak, .inr (1, [.ref tc, .int 0, .int 0, .int 0, .int 0, .int 0])), (mo, .inr (8, [.ref m_la, .ref m_sz, .ref m_it, .int 0, .int 0, .ref m_st, .ref m_mv, .ref m_tp, .int 0, .int 0, .int 0, .int 0, .int 0, .int 0, .int 0, .ref m_rd, .ref m_ac, .int 0, .ref m_as, .ref m_wo, .ref m_ik, .ref m_ke, .ref m_tr, .int 0])), (m_sz, .inl (cI, 8, .inl fm)), (m_st, .inl (cI, 38, .inl (fun _ => 0))), (m_ik, .inl (cZ, 2, .inl (fun _ => 0))), (m_la, .inl (cI, 8, .inl (fun _ => 0))), (m_it, .inl (cI, 320, .inl (fun _ => 0))), (m_tp, .inl (cI, 120, .inl (fun _ => 0))), (m_rd, .inl (cI, 38, .inl (fun _ => 0)))]) (hS : va_S A s.heap H locs) (hl : lv_has ls 4 [(3, .int 0), (2, .ref mo), (1, .ref x), (0, .ref b)]) : W p l e room_1 s m #[Value.ref b] below meth c H locs 277 3929 (lw_Z below #[Value.ref b] s) (F0 m 598 ls []) := by
  refine lv_aload_n hx hb dL_law_598 rfl (lv_at hl 2 rfl) ?_
  refine lv_aload_n hx hb dL_law_599 rfl (lv_at hl 3 rfl) ?_
  refine lv_iload_n hx hb dL_law_600 rfl (lv_at hl 0 rfl) ?_
  refine lv_iconst (v := 1) hx hb dL_law_601 (by decide) ?_
  refine lv_iadd hx hb dL_law_602 ?_
  refine lv_topi (fun v_1 e_1 => ?_)
  obtain rfl : v_1 = 1 := (e_1).trans (by decide)
  refine va_sld hx hb hX hbl hbA hS (by unfold vp_in; decide) dL_law_603 ?_
  refine lv_topi (fun v_2 e_2 => ?_)
  obtain rfl : sc1 = v_2 := ((e_2).trans hsc1.symm).symm
  have hPc_3 := hP.sub (ws' := [(x, .inr (7, [.ref ro, .ref ta, .ref no, .ref ac, .ref im, .ref tr, .ref pl, .ref cs, .ref ak, .int 0, .int 0])), (no, .inr (3, [.int 0, .int 0, .int 0, .int 0, .int 0, .int 0, .int 0, .int 0, .ref n1, .ref n2, .ref n3, .ref n4, .ref n5]))]) [0, 16] rfl
  refine vp_callSi (W.runV (As := [.int sc1]) (rest := []) ⟨hx, hb, hml, hown, hts⟩ (c_X7_stand l dC dI cI cZ cL cJ x ro ta no ac im tr pl cs ak n1 n2 n3 n4 n5 sc1 ) (cwV 1 hts gL_law_X7_stand rfl rfl rfl (by decide +kernel) ⟨Nat.le_of_ble_eq_true rfl, Nat.le_of_ble_eq_true rfl⟩) ⟨fun a U g mk q => by obtain ⟨q0, qP, qK⟩ := q; exact ⟨q0, qP, va_K.moved (u := U) (U := U.calling g mk a) (Vm.Alike.refl U.vm) qK⟩, va_recv hK hP (ci := 7) (q0 := 0) rfl rfl, fun U hU hW => ⟨rfl, by rw [hU]; exact hPc_3, va_K.moved hW.alike hK⟩⟩ rfl rfl hl.1 rfl (lv_room (Nat.le_of_ble_eq_true rfl)) dL_law_604 ⟨Nat.le_of_ble_eq_true rfl, Nat.le_of_ble_eq_true rfl⟩) (fun r_3 h_3 => ?_)
  subst h_3
  refine lv_aload_n hx hb dL_law_607 rfl (lv_at hl 1 rfl) ?_
  refine lv_aload_n hx hb dL_law_608 rfl (lv_at hl 3 rfl) ?_
  refine lv_iload_n hx hb dL_law_609 rfl (lv_at hl 0 rfl) ?_
  refine lv_iconst (v := 1) hx hb dL_law_610 (by decide) ?_
  refine lv_iadd hx hb dL_law_611 ?_
  refine lv_topi (fun v_4 e_4 => ?_)
  obtain rfl : v_4 = 1 := (e_4).trans (by decide)
  refine va_sld hx hb hX hbl hbA hS (by unfold vp_in; decide) dL_law_612 ?_
  refine lv_topi (fun v_5 e_5 => ?_)
  obtain rfl : sc1 = v_5 := ((e_5).trans hsc1.symm).symm
  have hPc_6 := hP.sub (ws' := [(mo, .inr (8, [.ref m_la, .ref m_sz, .ref m_it, .int 0, .int 0, .ref m_st, .ref m_mv, .ref m_tp, .int 0, .int 0, .int 0, .int 0, .int 0, .int 0, .int 0, .ref m_rd, .ref m_ac, .int 0, .ref m_as, .ref m_wo, .ref m_ik, .ref m_ke, .ref m_tr, .int 0]))]) [22] rfl
  refine vp_callSi (W.runV (As := [.int sc1]) (rest := [.int (-1000002)]) ⟨hx, hb, hml, hown, hts⟩ (c_X8_stand l dC dI cI cZ cL cJ mo m_la m_sz m_it m_st m_mv m_tp m_rd m_ac m_as m_wo m_ik m_ke m_tr sc1 ) (cwV 1 hts gL_law_X8_stand rfl rfl rfl (by decide +kernel) ⟨Nat.le_of_ble_eq_true rfl, Nat.le_of_ble_eq_true rfl⟩) ⟨fun a U g mk q => by obtain ⟨q0, qP, qK⟩ := q; exact ⟨q0, qP, va_K.moved (u := U) (U := U.calling g mk a) (Vm.Alike.refl U.vm) qK⟩, va_recv hK hP (ci := 8) (q0 := 22) rfl rfl, fun U hU hW => ⟨rfl, by rw [hU]; exact hPc_6, va_K.moved hW.alike hK⟩⟩ rfl rfl hl.1 rfl (lv_room (Nat.le_of_ble_eq_true rfl)) dL_law_613 ⟨Nat.le_of_ble_eq_true rfl, Nat.le_of_ble_eq_true rfl⟩) (fun r_6 h_6 => ?_)
  subst h_6
  refine lv_icmp_eq (tgt := 1358) hx hb dL_law_616 (by decide) (fun _ => ?_) (fun c_ => absurd (by decide) c_)
  refine lv_iinc (v := 6) (lv' := [(3, .int 6), (2, .ref mo), (1, .ref x), (0, .ref b)]) hx hb dL_law_1358 hl (k := 0) rfl (by decide) (by decide) rfl (fun ls hl => ?_)
  refine lv_goto (tgt := 18) hx hb dL_law_1361 (by decide) ?_
  refine lv_iload_n hx hb dL_law_18 rfl (lv_at hl 0 rfl) ?_
  refine lv_aload_n hx hb dL_law_19 rfl (lv_at hl 3 rfl) ?_
  refine va_slen hx hb hX hbl hbA hS dL_law_20 ?_
  refine lv_topi (fun v_8 e_8 => ?_)
  obtain rfl : v_8 = 6 := (e_8).trans (by decide)
  refine lv_bipush (v := 6) hx hb dL_law_21 (by decide) ?_
  refine lv_isub hx hb dL_law_23 ?_
  refine lv_topi (fun v_9 e_9 => ?_)
  obtain rfl : v_9 = 0 := (e_9).trans (by decide)
  refine lv_icmp_gt (tgt := 1364) hx hb dL_law_24 (by decide) (fun _ => ?_) (fun c_ => absurd (by decide) c_)
  refine lv_iconst (v := 1) hx hb dL_law_1364 (by decide) ?_
  refine va_forget (fun q hq => by have q9 := hS.2.2 q hq; rw [hAd] at q9; exact q9) ?_
  refine W.widen (k := 600000) (n := 7302250) (Nat.le_of_ble_eq_true rfl) (Nat.le_of_ble_eq_true rfl) ?_
  exact lw_ret hx hb hr hlocks dL_law_1365
set_option maxHeartbeats 4000000 in
set_option maxRecDepth 100000 in
theorem lw_c15 {p : Program} {l : Launch} {e : Env} {s : State} {m : MethodId} {below : List Frame} {meth : Method} {c : Code} {b : Nat} {xs : Nat → Int32} {dC : Nat → ClassId} {dI : Nat → Nat → Nat} {cI cZ cL cJ : ClassId} {A : Nat → Prop} {H : Heap} {locs : List Loc} {ls : Array Slot} {sc1 sc2 sc3 sc4 sc5 : Int32} {x mo : Nat} {ro : Nat} {it : Nat} {la : Nat} {le : Nat} {fl : Nat → Int32} {ta : Nat} {bs : Nat} {td : Nat} {t1 : Nat} {t2 : Nat} {t3 : Nat} {t4 : Nat} {t5 : Nat} {no : Nat} {n1 : Nat} {n2 : Nat} {n3 : Nat} {n4 : Nat} {n5 : Nat} {ac : Nat} {be : Nat} {im : Nat} {fi : Nat → Option Nat} {i0 : Nat} {x1 : Nat} {x2 : Nat} {x3 : Nat} {x4 : Nat} {x5 : Nat} {i1 : Nat} {y1 : Nat} {y2 : Nat} {y3 : Nat} {y4 : Nat} {y5 : Nat} {tr : Nat} {pl : Nat} {cs : Nat} {ak : Nat} {tc : Nat} {m_la : Nat} {m_sz : Nat} {m_it : Nat} {m_st : Nat} {m_mv : Nat} {m_tp : Nat} {m_rd : Nat} {m_ac : Nat} {m_as : Nat} {m_wo : Nat} {m_ik : Nat} {m_ke : Nat} {m_tr : Nat} {fm : Nat → Int32} (hx : p.tables.exec = Jvm.exec) (hb : c.code = code) (hr : meth.sig.returnType = ret) (hml : c.maxLocals = 4) (hown : s.vm.findClass RL = some m.cls) (hts : ∀ w ∈ wsL_law, w.before #[Value.ref b] s = true) (hX : va_X b 6 xs s s.heap) (hbl : b < s.heap.size) (hlocks : meth.locks = false) (hAd : A = fun q => s.heap.size ≤ q) (hA : ∀ q : Nat, s.heap.size ≤ q → A q) (hbA : ¬ A b) (hsc1 : sc1 = xs 1) (hsc2 : sc2 = xs 2) (hsc3 : sc3 = xs 3) (hsc4 : sc4 = xs 4) (hsc5 : sc5 = xs 5) (hfl : ∀ j : Nat, j < 8 → fl j = -1) (hf0 : fi 0 = some i0) (hf1 : fi 1 = some i1) (hfm : ∀ j : Nat, j < 8 → fm j = -1) (hK : va_K (dC, dI) vwCl [(cI, .int), (cZ, .boolean), (cL, .object RX3), (cJ, .array .int)] s) (hP : va_P (dC, dI) vwCl [(x, .inr (7, [.ref ro, .ref ta, .ref no, .ref ac, .ref im, .ref tr, .ref pl, .ref cs, .ref ak, .int 0, .int 0])), (ro, .inr (5, [.ref it, .ref la, .ref le])), (la, .inl (cI, 8, .inl fl)), (le, .inl (cI, 8, .inl (fun _ => 0))), (it, .inl (cJ, 8, .inr (.inr (.inr (.inr (fun i => if i < 8 then some (it + 1 + i) else none)))))), ((it + 1 + 0), .inl (cI, 40, .inl (fun _ => 0))), ((it + 1 + 1), .inl (cI, 40, .inl (fun _ => 0))), ((it + 1 + 2), .inl (cI, 40, .inl (fun _ => 0))), ((it + 1 + 3), .inl (cI, 40, .inl (fun _ => 0))), ((it + 1 + 4), .inl (cI, 40, .inl (fun _ => 0))), ((it + 1 + 5), .inl (cI, 40, .inl (fun _ => 0))), ((it + 1 + 6), .inl (cI, 40, .inl (fun _ => 0))), ((it + 1 + 7), .inl (cI, 40, .inl (fun _ => 0))), (ta, .inr (6, [.ref bs, .int 0, .ref td, .int 0, .int 0, .int 0])), (bs, .inl (cI, 120, .inl (fun _ => 0))), (td, .inr (3, [.int 0, .int 0, .int 0, .int 0, .int 0, .int 0, .int 0, .int 0, .ref t1, .ref t2, .ref t3, .ref t4, .ref t5])), (no, .inr (3, [.int 0, .int 0, .int 0, .int 0, .int 0, .int 0, .int 0, .int 0, .ref n1, .ref n2, .ref n3, .ref n4, .ref n5])), (ac, .inr (0, [.ref be, .int 0, .int 0])), (im, .inl (cL, 2, .inr (.inr (.inr (.inr fi))))), (i0, .inr (3, [.int 0, .int 0, .int 0, .int 0, .int 0, .int 0, .int 0, .int 0, .ref x1, .ref x2, .ref x3, .ref x4, .ref x5])), (i1, .inr (3, [.int 0, .int 0, .int 0, .int 0, .int 0, .int 0, .int 0, .int 0, .ref y1, .ref y2, .ref y3, .ref y4, .ref y5])), (ak, .inr (1, [.ref tc, .int 0, .int 0, .int 0, .int 0, .int 0])), (mo, .inr (8, [.ref m_la, .ref m_sz, .ref m_it, .int 0, .int 0, .ref m_st, .ref m_mv, .ref m_tp, .int 0, .int 0, .int 0, .int 0, .int 0, .int 0, .int 0, .ref m_rd, .ref m_ac, .int 0, .ref m_as, .ref m_wo, .ref m_ik, .ref m_ke, .ref m_tr, .int 0])), (m_sz, .inl (cI, 8, .inl fm)), (m_st, .inl (cI, 38, .inl (fun _ => 0))), (m_ik, .inl (cZ, 2, .inl (fun _ => 0))), (m_la, .inl (cI, 8, .inl (fun _ => 0))), (m_it, .inl (cI, 320, .inl (fun _ => 0))), (m_tp, .inl (cI, 120, .inl (fun _ => 0))), (m_rd, .inl (cI, 38, .inl (fun _ => 0)))] H) (hD : va_D A [(x, .inr (7, [.ref ro, .ref ta, .ref no, .ref ac, .ref im, .ref tr, .ref pl, .ref cs, .ref ak, .int 0, .int 0])), (ro, .inr (5, [.ref it, .ref la, .ref le])), (la, .inl (cI, 8, .inl fl)), (le, .inl (cI, 8, .inl (fun _ => 0))), (it, .inl (cJ, 8, .inr (.inr (.inr (.inr (fun i => if i < 8 then some (it + 1 + i) else none)))))), ((it + 1 + 0), .inl (cI, 40, .inl (fun _ => 0))), ((it + 1 + 1), .inl (cI, 40, .inl (fun _ => 0))), ((it + 1 + 2), .inl (cI, 40, .inl (fun _ => 0))), ((it + 1 + 3), .inl (cI, 40, .inl (fun _ => 0))), ((it + 1 + 4), .inl (cI, 40, .inl (fun _ => 0))), ((it + 1 + 5), .inl (cI, 40, .inl (fun _ => 0))), ((it + 1 + 6), .inl (cI, 40, .inl (fun _ => 0))), ((it + 1 + 7), .inl (cI, 40, .inl (fun _ => 0))), (ta, .inr (6, [.ref bs, .int 0, .ref td, .int 0, .int 0, .int 0])), (bs, .inl (cI, 120, .inl (fun _ => 0))), (td, .inr (3, [.int 0, .int 0, .int 0, .int 0, .int 0, .int 0, .int 0, .int 0, .ref t1, .ref t2, .ref t3, .ref t4, .ref t5])), (no, .inr (3, [.int 0, .int 0, .int 0, .int 0, .int 0, .int 0, .int 0, .int 0, .ref n1, .ref n2, .ref n3, .ref n4, .ref n5])), (ac, .inr (0, [.ref be, .int 0, .int 0])), (im, .inl (cL, 2, .inr (.inr (.inr (.inr fi))))), (i0, .inr (3, [.int 0, .int 0, .int 0, .int 0, .int 0, .int 0, .int 0, .int 0, .ref x1, .ref x2, .ref x3, .ref x4, .ref x5])), (i1, .inr (3, [.int 0, .int 0, .int 0, .int 0, .int 0, .int 0, .int 0, .int 0, .ref y1, .ref y2, .ref y3, .ref y4, .ref y5])), (ak, .inr (1, [.ref tc, .int 0, .int 0, .int 0, .int 0, .int 0])), (mo, .inr (8, [.ref m_la, .ref m_sz, .ref m_it, .int 0, .int 0, .ref m_st, .ref m_mv, .ref m_tp, .int 0, .int 0, .int 0, .int 0, .int 0, .int 0, .int 0, .ref m_rd, .ref m_ac, .int 0, .ref m_as, .ref m_wo, .ref m_ik, .ref m_ke, .ref m_tr, .int 0])), (m_sz, .inl (cI, 8, .inl fm)), (m_st, .inl (cI, 38, .inl (fun _ => 0))), (m_ik, .inl (cZ, 2, .inl (fun _ => 0))), (m_la, .inl (cI, 8, .inl (fun _ => 0))), (m_it, .inl (cI, 320, .inl (fun _ => 0))), (m_tp, .inl (cI, 120, .inl (fun _ => 0))), (m_rd, .inl (cI, 38, .inl (fun _ => 0)))]) (hS : va_S A s.heap H locs) (hl : lv_has ls 4 [(3, .int 0), (2, .ref mo), (1, .ref x), (0, .ref b)]) : W p l e room_1 s m #[Value.ref b] below meth c H locs 277 3929 (lw_Z below #[Value.ref b] s) (F0 m 621 ls []) := by
  refine lv_aload_n hx hb dL_law_621 rfl (lv_at hl 2 rfl) ?_
  refine lv_aload_n hx hb dL_law_622 rfl (lv_at hl 3 rfl) ?_
  refine lv_iload_n hx hb dL_law_623 rfl (lv_at hl 0 rfl) ?_
  refine lv_iconst (v := 1) hx hb dL_law_624 (by decide) ?_
  refine lv_iadd hx hb dL_law_625 ?_
  refine lv_topi (fun v_1 e_1 => ?_)
  obtain rfl : v_1 = 1 := (e_1).trans (by decide)
  refine va_sld hx hb hX hbl hbA hS (by unfold vp_in; decide) dL_law_626 ?_
  refine lv_topi (fun v_2 e_2 => ?_)
  obtain rfl : sc1 = v_2 := ((e_2).trans hsc1.symm).symm
  have hPc_3 := hP.sub (ws' := [(x, .inr (7, [.ref ro, .ref ta, .ref no, .ref ac, .ref im, .ref tr, .ref pl, .ref cs, .ref ak, .int 0, .int 0])), (no, .inr (3, [.int 0, .int 0, .int 0, .int 0, .int 0, .int 0, .int 0, .int 0, .ref n1, .ref n2, .ref n3, .ref n4, .ref n5]))]) [0, 16] rfl
  refine vp_callSi (W.runV (As := [.int sc1]) (rest := []) ⟨hx, hb, hml, hown, hts⟩ (c_X7_gust l dC dI cI cZ cL cJ x ro ta no ac im tr pl cs ak n1 n2 n3 n4 n5 sc1 ) (cwV 1 hts gL_law_X7_gust rfl rfl rfl (by decide +kernel) ⟨Nat.le_of_ble_eq_true rfl, Nat.le_of_ble_eq_true rfl⟩) ⟨fun a U g mk q => by obtain ⟨q0, qP, qK⟩ := q; exact ⟨q0, qP, va_K.moved (u := U) (U := U.calling g mk a) (Vm.Alike.refl U.vm) qK⟩, va_recv hK hP (ci := 7) (q0 := 0) rfl rfl, fun U hU hW => ⟨rfl, by rw [hU]; exact hPc_3, va_K.moved hW.alike hK⟩⟩ rfl rfl hl.1 rfl (lv_room (Nat.le_of_ble_eq_true rfl)) dL_law_627 ⟨Nat.le_of_ble_eq_true rfl, Nat.le_of_ble_eq_true rfl⟩) (fun r_3 h_3 => ?_)
  subst h_3
  refine lv_aload_n hx hb dL_law_630 rfl (lv_at hl 1 rfl) ?_
  refine lv_aload_n hx hb dL_law_631 rfl (lv_at hl 3 rfl) ?_
  refine lv_iload_n hx hb dL_law_632 rfl (lv_at hl 0 rfl) ?_
  refine lv_iconst (v := 1) hx hb dL_law_633 (by decide) ?_
  refine lv_iadd hx hb dL_law_634 ?_
  refine lv_topi (fun v_4 e_4 => ?_)
  obtain rfl : v_4 = 1 := (e_4).trans (by decide)
  refine va_sld hx hb hX hbl hbA hS (by unfold vp_in; decide) dL_law_635 ?_
  refine lv_topi (fun v_5 e_5 => ?_)
  obtain rfl : sc1 = v_5 := ((e_5).trans hsc1.symm).symm
  have hPc_6 := hP.sub (ws' := [(mo, .inr (8, [.ref m_la, .ref m_sz, .ref m_it, .int 0, .int 0, .ref m_st, .ref m_mv, .ref m_tp, .int 0, .int 0, .int 0, .int 0, .int 0, .int 0, .int 0, .ref m_rd, .ref m_ac, .int 0, .ref m_as, .ref m_wo, .ref m_ik, .ref m_ke, .ref m_tr, .int 0]))]) [22] rfl
  refine vp_callSi (W.runV (As := [.int sc1]) (rest := [.int (-1000002)]) ⟨hx, hb, hml, hown, hts⟩ (c_X8_gust l dC dI cI cZ cL cJ mo m_la m_sz m_it m_st m_mv m_tp m_rd m_ac m_as m_wo m_ik m_ke m_tr sc1 ) (cwV 1 hts gL_law_X8_gust rfl rfl rfl (by decide +kernel) ⟨Nat.le_of_ble_eq_true rfl, Nat.le_of_ble_eq_true rfl⟩) ⟨fun a U g mk q => by obtain ⟨q0, qP, qK⟩ := q; exact ⟨q0, qP, va_K.moved (u := U) (U := U.calling g mk a) (Vm.Alike.refl U.vm) qK⟩, va_recv hK hP (ci := 8) (q0 := 22) rfl rfl, fun U hU hW => ⟨rfl, by rw [hU]; exact hPc_6, va_K.moved hW.alike hK⟩⟩ rfl rfl hl.1 rfl (lv_room (Nat.le_of_ble_eq_true rfl)) dL_law_636 ⟨Nat.le_of_ble_eq_true rfl, Nat.le_of_ble_eq_true rfl⟩) (fun r_6 h_6 => ?_)
  subst h_6
  refine lv_icmp_eq (tgt := 1358) hx hb dL_law_639 (by decide) (fun _ => ?_) (fun c_ => absurd (by decide) c_)
  refine lv_iinc (v := 6) (lv' := [(3, .int 6), (2, .ref mo), (1, .ref x), (0, .ref b)]) hx hb dL_law_1358 hl (k := 0) rfl (by decide) (by decide) rfl (fun ls hl => ?_)
  refine lv_goto (tgt := 18) hx hb dL_law_1361 (by decide) ?_
  refine lv_iload_n hx hb dL_law_18 rfl (lv_at hl 0 rfl) ?_
  refine lv_aload_n hx hb dL_law_19 rfl (lv_at hl 3 rfl) ?_
  refine va_slen hx hb hX hbl hbA hS dL_law_20 ?_
  refine lv_topi (fun v_8 e_8 => ?_)
  obtain rfl : v_8 = 6 := (e_8).trans (by decide)
  refine lv_bipush (v := 6) hx hb dL_law_21 (by decide) ?_
  refine lv_isub hx hb dL_law_23 ?_
  refine lv_topi (fun v_9 e_9 => ?_)
  obtain rfl : v_9 = 0 := (e_9).trans (by decide)
  refine lv_icmp_gt (tgt := 1364) hx hb dL_law_24 (by decide) (fun _ => ?_) (fun c_ => absurd (by decide) c_)
  refine lv_iconst (v := 1) hx hb dL_law_1364 (by decide) ?_
  refine va_forget (fun q hq => by have q9 := hS.2.2 q hq; rw [hAd] at q9; exact q9) ?_
  refine W.widen (k := 600000) (n := 7302250) (Nat.le_of_ble_eq_true rfl) (Nat.le_of_ble_eq_true rfl) ?_
  exact lw_ret hx hb hr hlocks dL_law_1365
set_option maxHeartbeats 4000000 in
set_option maxRecDepth 100000 in
theorem lw_c16 {p : Program} {l : Launch} {e : Env} {s : State} {m : MethodId} {below : List Frame} {meth : Method} {c : Code} {b : Nat} {xs : Nat → Int32} {dC : Nat → ClassId} {dI : Nat → Nat → Nat} {cI cZ cL cJ : ClassId} {A : Nat → Prop} {H : Heap} {locs : List Loc} {ls : Array Slot} {sc1 sc2 sc3 sc4 sc5 : Int32} {x mo : Nat} {ro : Nat} {it : Nat} {la : Nat} {le : Nat} {fl : Nat → Int32} {ta : Nat} {bs : Nat} {td : Nat} {t1 : Nat} {t2 : Nat} {t3 : Nat} {t4 : Nat} {t5 : Nat} {no : Nat} {n1 : Nat} {n2 : Nat} {n3 : Nat} {n4 : Nat} {n5 : Nat} {ac : Nat} {be : Nat} {im : Nat} {fi : Nat → Option Nat} {i0 : Nat} {x1 : Nat} {x2 : Nat} {x3 : Nat} {x4 : Nat} {x5 : Nat} {i1 : Nat} {y1 : Nat} {y2 : Nat} {y3 : Nat} {y4 : Nat} {y5 : Nat} {tr : Nat} {pl : Nat} {cs : Nat} {ak : Nat} {tc : Nat} {m_la : Nat} {m_sz : Nat} {m_it : Nat} {m_st : Nat} {m_mv : Nat} {m_tp : Nat} {m_rd : Nat} {m_ac : Nat} {m_as : Nat} {m_wo : Nat} {m_ik : Nat} {m_ke : Nat} {m_tr : Nat} {fm : Nat → Int32} (hx : p.tables.exec = Jvm.exec) (hb : c.code = code) (hr : meth.sig.returnType = ret) (hml : c.maxLocals = 4) (hown : s.vm.findClass RL = some m.cls) (hts : ∀ w ∈ wsL_law, w.before #[Value.ref b] s = true) (hX : va_X b 6 xs s s.heap) (hbl : b < s.heap.size) (hlocks : meth.locks = false) (hAd : A = fun q => s.heap.size ≤ q) (hA : ∀ q : Nat, s.heap.size ≤ q → A q) (hbA : ¬ A b) (hsc1 : sc1 = xs 1) (hsc2 : sc2 = xs 2) (hsc3 : sc3 = xs 3) (hsc4 : sc4 = xs 4) (hsc5 : sc5 = xs 5) (hfl : ∀ j : Nat, j < 8 → fl j = -1) (hf0 : fi 0 = some i0) (hf1 : fi 1 = some i1) (hfm : ∀ j : Nat, j < 8 → fm j = -1) (hK : va_K (dC, dI) vwCl [(cI, .int), (cZ, .boolean), (cL, .object RX3), (cJ, .array .int)] s) (hP : va_P (dC, dI) vwCl [(x, .inr (7, [.ref ro, .ref ta, .ref no, .ref ac, .ref im, .ref tr, .ref pl, .ref cs, .ref ak, .int 0, .int 0])), (ro, .inr (5, [.ref it, .ref la, .ref le])), (la, .inl (cI, 8, .inl fl)), (le, .inl (cI, 8, .inl (fun _ => 0))), (it, .inl (cJ, 8, .inr (.inr (.inr (.inr (fun i => if i < 8 then some (it + 1 + i) else none)))))), ((it + 1 + 0), .inl (cI, 40, .inl (fun _ => 0))), ((it + 1 + 1), .inl (cI, 40, .inl (fun _ => 0))), ((it + 1 + 2), .inl (cI, 40, .inl (fun _ => 0))), ((it + 1 + 3), .inl (cI, 40, .inl (fun _ => 0))), ((it + 1 + 4), .inl (cI, 40, .inl (fun _ => 0))), ((it + 1 + 5), .inl (cI, 40, .inl (fun _ => 0))), ((it + 1 + 6), .inl (cI, 40, .inl (fun _ => 0))), ((it + 1 + 7), .inl (cI, 40, .inl (fun _ => 0))), (ta, .inr (6, [.ref bs, .int 0, .ref td, .int 0, .int 0, .int 0])), (bs, .inl (cI, 120, .inl (fun _ => 0))), (td, .inr (3, [.int 0, .int 0, .int 0, .int 0, .int 0, .int 0, .int 0, .int 0, .ref t1, .ref t2, .ref t3, .ref t4, .ref t5])), (no, .inr (3, [.int 0, .int 0, .int 0, .int 0, .int 0, .int 0, .int 0, .int 0, .ref n1, .ref n2, .ref n3, .ref n4, .ref n5])), (ac, .inr (0, [.ref be, .int 0, .int 0])), (im, .inl (cL, 2, .inr (.inr (.inr (.inr fi))))), (i0, .inr (3, [.int 0, .int 0, .int 0, .int 0, .int 0, .int 0, .int 0, .int 0, .ref x1, .ref x2, .ref x3, .ref x4, .ref x5])), (i1, .inr (3, [.int 0, .int 0, .int 0, .int 0, .int 0, .int 0, .int 0, .int 0, .ref y1, .ref y2, .ref y3, .ref y4, .ref y5])), (ak, .inr (1, [.ref tc, .int 0, .int 0, .int 0, .int 0, .int 0])), (mo, .inr (8, [.ref m_la, .ref m_sz, .ref m_it, .int 0, .int 0, .ref m_st, .ref m_mv, .ref m_tp, .int 0, .int 0, .int 0, .int 0, .int 0, .int 0, .int 0, .ref m_rd, .ref m_ac, .int 0, .ref m_as, .ref m_wo, .ref m_ik, .ref m_ke, .ref m_tr, .int 0])), (m_sz, .inl (cI, 8, .inl fm)), (m_st, .inl (cI, 38, .inl (fun _ => 0))), (m_ik, .inl (cZ, 2, .inl (fun _ => 0))), (m_la, .inl (cI, 8, .inl (fun _ => 0))), (m_it, .inl (cI, 320, .inl (fun _ => 0))), (m_tp, .inl (cI, 120, .inl (fun _ => 0))), (m_rd, .inl (cI, 38, .inl (fun _ => 0)))] H) (hD : va_D A [(x, .inr (7, [.ref ro, .ref ta, .ref no, .ref ac, .ref im, .ref tr, .ref pl, .ref cs, .ref ak, .int 0, .int 0])), (ro, .inr (5, [.ref it, .ref la, .ref le])), (la, .inl (cI, 8, .inl fl)), (le, .inl (cI, 8, .inl (fun _ => 0))), (it, .inl (cJ, 8, .inr (.inr (.inr (.inr (fun i => if i < 8 then some (it + 1 + i) else none)))))), ((it + 1 + 0), .inl (cI, 40, .inl (fun _ => 0))), ((it + 1 + 1), .inl (cI, 40, .inl (fun _ => 0))), ((it + 1 + 2), .inl (cI, 40, .inl (fun _ => 0))), ((it + 1 + 3), .inl (cI, 40, .inl (fun _ => 0))), ((it + 1 + 4), .inl (cI, 40, .inl (fun _ => 0))), ((it + 1 + 5), .inl (cI, 40, .inl (fun _ => 0))), ((it + 1 + 6), .inl (cI, 40, .inl (fun _ => 0))), ((it + 1 + 7), .inl (cI, 40, .inl (fun _ => 0))), (ta, .inr (6, [.ref bs, .int 0, .ref td, .int 0, .int 0, .int 0])), (bs, .inl (cI, 120, .inl (fun _ => 0))), (td, .inr (3, [.int 0, .int 0, .int 0, .int 0, .int 0, .int 0, .int 0, .int 0, .ref t1, .ref t2, .ref t3, .ref t4, .ref t5])), (no, .inr (3, [.int 0, .int 0, .int 0, .int 0, .int 0, .int 0, .int 0, .int 0, .ref n1, .ref n2, .ref n3, .ref n4, .ref n5])), (ac, .inr (0, [.ref be, .int 0, .int 0])), (im, .inl (cL, 2, .inr (.inr (.inr (.inr fi))))), (i0, .inr (3, [.int 0, .int 0, .int 0, .int 0, .int 0, .int 0, .int 0, .int 0, .ref x1, .ref x2, .ref x3, .ref x4, .ref x5])), (i1, .inr (3, [.int 0, .int 0, .int 0, .int 0, .int 0, .int 0, .int 0, .int 0, .ref y1, .ref y2, .ref y3, .ref y4, .ref y5])), (ak, .inr (1, [.ref tc, .int 0, .int 0, .int 0, .int 0, .int 0])), (mo, .inr (8, [.ref m_la, .ref m_sz, .ref m_it, .int 0, .int 0, .ref m_st, .ref m_mv, .ref m_tp, .int 0, .int 0, .int 0, .int 0, .int 0, .int 0, .int 0, .ref m_rd, .ref m_ac, .int 0, .ref m_as, .ref m_wo, .ref m_ik, .ref m_ke, .ref m_tr, .int 0])), (m_sz, .inl (cI, 8, .inl fm)), (m_st, .inl (cI, 38, .inl (fun _ => 0))), (m_ik, .inl (cZ, 2, .inl (fun _ => 0))), (m_la, .inl (cI, 8, .inl (fun _ => 0))), (m_it, .inl (cI, 320, .inl (fun _ => 0))), (m_tp, .inl (cI, 120, .inl (fun _ => 0))), (m_rd, .inl (cI, 38, .inl (fun _ => 0)))]) (hS : va_S A s.heap H locs) (hl : lv_has ls 4 [(3, .int 0), (2, .ref mo), (1, .ref x), (0, .ref b)]) : W p l e room_1 s m #[Value.ref b] below meth c H locs 277 3929 (lw_Z below #[Value.ref b] s) (F0 m 644 ls []) := by
  refine lv_aload_n hx hb dL_law_644 rfl (lv_at hl 2 rfl) ?_
  refine lv_aload_n hx hb dL_law_645 rfl (lv_at hl 3 rfl) ?_
  refine lv_iload_n hx hb dL_law_646 rfl (lv_at hl 0 rfl) ?_
  refine lv_iconst (v := 1) hx hb dL_law_647 (by decide) ?_
  refine lv_iadd hx hb dL_law_648 ?_
  refine lv_topi (fun v_1 e_1 => ?_)
  obtain rfl : v_1 = 1 := (e_1).trans (by decide)
  refine va_sld hx hb hX hbl hbA hS (by unfold vp_in; decide) dL_law_649 ?_
  refine lv_topi (fun v_2 e_2 => ?_)
  obtain rfl : sc1 = v_2 := ((e_2).trans hsc1.symm).symm
  refine lv_aload_n hx hb dL_law_650 rfl (lv_at hl 3 rfl) ?_
  refine lv_iload_n hx hb dL_law_651 rfl (lv_at hl 0 rfl) ?_
  refine lv_iconst (v := 2) hx hb dL_law_652 (by decide) ?_
  refine lv_iadd hx hb dL_law_653 ?_
  refine lv_topi (fun v_3 e_3 => ?_)
  obtain rfl : v_3 = 2 := (e_3).trans (by decide)
  refine va_sld hx hb hX hbl hbA hS (by unfold vp_in; decide) dL_law_654 ?_
  refine lv_topi (fun v_4 e_4 => ?_)
  obtain rfl : sc2 = v_4 := ((e_4).trans hsc2.symm).symm
  refine lv_aload_n hx hb dL_law_655 rfl (lv_at hl 3 rfl) ?_
  refine lv_iload_n hx hb dL_law_656 rfl (lv_at hl 0 rfl) ?_
  refine lv_iconst (v := 3) hx hb dL_law_657 (by decide) ?_
  refine lv_iadd hx hb dL_law_658 ?_
  refine lv_topi (fun v_5 e_5 => ?_)
  obtain rfl : v_5 = 3 := (e_5).trans (by decide)
  refine va_sld hx hb hX hbl hbA hS (by unfold vp_in; decide) dL_law_659 ?_
  refine lv_topi (fun v_6 e_6 => ?_)
  obtain rfl : sc3 = v_6 := ((e_6).trans hsc3.symm).symm
  have hPc_7 := hP.sub (ws' := [(x, .inr (7, [.ref ro, .ref ta, .ref no, .ref ac, .ref im, .ref tr, .ref pl, .ref cs, .ref ak, .int 0, .int 0])), (no, .inr (3, [.int 0, .int 0, .int 0, .int 0, .int 0, .int 0, .int 0, .int 0, .ref n1, .ref n2, .ref n3, .ref n4, .ref n5]))]) [0, 16] rfl
  refine vp_callSi (W.runV (As := [.int sc1, .int sc2, .int sc3]) (rest := []) ⟨hx, hb, hml, hown, hts⟩ (c_X7_ahead l dC dI cI cZ cL cJ x ro ta no ac im tr pl cs ak n1 n2 n3 n4 n5 sc1 sc2 sc3 ) (cwV 3 hts gL_law_X7_ahead rfl rfl rfl (by decide +kernel) ⟨Nat.le_of_ble_eq_true rfl, Nat.le_of_ble_eq_true rfl⟩) ⟨fun a U g mk q => by obtain ⟨q0, qP, qK⟩ := q; exact ⟨q0, qP, va_K.moved (u := U) (U := U.calling g mk a) (Vm.Alike.refl U.vm) qK⟩, va_recv hK hP (ci := 7) (q0 := 0) rfl rfl, fun U hU hW => ⟨rfl, by rw [hU]; exact hPc_7, va_K.moved hW.alike hK⟩⟩ rfl rfl hl.1 rfl (lv_room (Nat.le_of_ble_eq_true rfl)) dL_law_660 ⟨Nat.le_of_ble_eq_true rfl, Nat.le_of_ble_eq_true rfl⟩) (fun r_7 h_7 => ?_)
  subst h_7
  refine lv_aload_n hx hb dL_law_663 rfl (lv_at hl 1 rfl) ?_
  refine lv_aload_n hx hb dL_law_664 rfl (lv_at hl 3 rfl) ?_
  refine lv_iload_n hx hb dL_law_665 rfl (lv_at hl 0 rfl) ?_
  refine lv_iconst (v := 1) hx hb dL_law_666 (by decide) ?_
  refine lv_iadd hx hb dL_law_667 ?_
  refine lv_topi (fun v_8 e_8 => ?_)
  obtain rfl : v_8 = 1 := (e_8).trans (by decide)
  refine va_sld hx hb hX hbl hbA hS (by unfold vp_in; decide) dL_law_668 ?_
  refine lv_topi (fun v_9 e_9 => ?_)
  obtain rfl : sc1 = v_9 := ((e_9).trans hsc1.symm).symm
  refine lv_aload_n hx hb dL_law_669 rfl (lv_at hl 3 rfl) ?_
  refine lv_iload_n hx hb dL_law_670 rfl (lv_at hl 0 rfl) ?_
  refine lv_iconst (v := 2) hx hb dL_law_671 (by decide) ?_
  refine lv_iadd hx hb dL_law_672 ?_
  refine lv_topi (fun v_10 e_10 => ?_)
  obtain rfl : v_10 = 2 := (e_10).trans (by decide)
  refine va_sld hx hb hX hbl hbA hS (by unfold vp_in; decide) dL_law_673 ?_
  refine lv_topi (fun v_11 e_11 => ?_)
  obtain rfl : sc2 = v_11 := ((e_11).trans hsc2.symm).symm
  refine lv_aload_n hx hb dL_law_674 rfl (lv_at hl 3 rfl) ?_
  refine lv_iload_n hx hb dL_law_675 rfl (lv_at hl 0 rfl) ?_
  refine lv_iconst (v := 3) hx hb dL_law_676 (by decide) ?_
  refine lv_iadd hx hb dL_law_677 ?_
  refine lv_topi (fun v_12 e_12 => ?_)
  obtain rfl : v_12 = 3 := (e_12).trans (by decide)
  refine va_sld hx hb hX hbl hbA hS (by unfold vp_in; decide) dL_law_678 ?_
  refine lv_topi (fun v_13 e_13 => ?_)
  obtain rfl : sc3 = v_13 := ((e_13).trans hsc3.symm).symm
  have hPc_14 := hP.sub (ws' := [(mo, .inr (8, [.ref m_la, .ref m_sz, .ref m_it, .int 0, .int 0, .ref m_st, .ref m_mv, .ref m_tp, .int 0, .int 0, .int 0, .int 0, .int 0, .int 0, .int 0, .ref m_rd, .ref m_ac, .int 0, .ref m_as, .ref m_wo, .ref m_ik, .ref m_ke, .ref m_tr, .int 0])), (m_st, .inl (cI, 38, .inl (fun _ => 0)))]) [22, 24] rfl
  refine vp_callSi (W.runV (As := [.int sc1, .int sc2, .int sc3]) (rest := [.int (-1000001)]) ⟨hx, hb, hml, hown, hts⟩ (c_X8_ahead l dC dI cI cZ cL cJ mo m_la m_sz m_it m_st m_mv m_tp m_rd m_ac m_as m_wo m_ik m_ke m_tr sc1 sc2 sc3 ) (cwV 3 hts gL_law_X8_ahead rfl rfl rfl (by decide +kernel) ⟨Nat.le_of_ble_eq_true rfl, Nat.le_of_ble_eq_true rfl⟩) ⟨fun a U g mk q => by obtain ⟨q0, qP, qK⟩ := q; exact ⟨q0, qP, va_K.moved (u := U) (U := U.calling g mk a) (Vm.Alike.refl U.vm) qK⟩, va_recv hK hP (ci := 8) (q0 := 22) rfl rfl, fun U hU hW => ⟨rfl, by rw [hU]; exact hPc_14, va_K.moved hW.alike hK⟩⟩ rfl rfl hl.1 rfl (lv_room (Nat.le_of_ble_eq_true rfl)) dL_law_679 ⟨Nat.le_of_ble_eq_true rfl, Nat.le_of_ble_eq_true rfl⟩) (fun r_14 h_14 => ?_)
  subst h_14
  refine lv_icmp_eq (tgt := 1358) hx hb dL_law_682 (by decide) (fun _ => ?_) (fun c_ => absurd (by decide) c_)
  refine lv_iinc (v := 6) (lv' := [(3, .int 6), (2, .ref mo), (1, .ref x), (0, .ref b)]) hx hb dL_law_1358 hl (k := 0) rfl (by decide) (by decide) rfl (fun ls hl => ?_)
  refine lv_goto (tgt := 18) hx hb dL_law_1361 (by decide) ?_
  refine lv_iload_n hx hb dL_law_18 rfl (lv_at hl 0 rfl) ?_
  refine lv_aload_n hx hb dL_law_19 rfl (lv_at hl 3 rfl) ?_
  refine va_slen hx hb hX hbl hbA hS dL_law_20 ?_
  refine lv_topi (fun v_16 e_16 => ?_)
  obtain rfl : v_16 = 6 := (e_16).trans (by decide)
  refine lv_bipush (v := 6) hx hb dL_law_21 (by decide) ?_
  refine lv_isub hx hb dL_law_23 ?_
  refine lv_topi (fun v_17 e_17 => ?_)
  obtain rfl : v_17 = 0 := (e_17).trans (by decide)
  refine lv_icmp_gt (tgt := 1364) hx hb dL_law_24 (by decide) (fun _ => ?_) (fun c_ => absurd (by decide) c_)
  refine lv_iconst (v := 1) hx hb dL_law_1364 (by decide) ?_
  refine va_forget (fun q hq => by have q9 := hS.2.2 q hq; rw [hAd] at q9; exact q9) ?_
  refine W.widen (k := 600000) (n := 7302250) (Nat.le_of_ble_eq_true rfl) (Nat.le_of_ble_eq_true rfl) ?_
  exact lw_ret hx hb hr hlocks dL_law_1365
set_option maxHeartbeats 4000000 in
set_option maxRecDepth 100000 in
theorem lw_c17 {p : Program} {l : Launch} {e : Env} {s : State} {m : MethodId} {below : List Frame} {meth : Method} {c : Code} {b : Nat} {xs : Nat → Int32} {dC : Nat → ClassId} {dI : Nat → Nat → Nat} {cI cZ cL cJ : ClassId} {A : Nat → Prop} {H : Heap} {locs : List Loc} {ls : Array Slot} {sc1 sc2 sc3 sc4 sc5 : Int32} {x mo : Nat} {ro : Nat} {it : Nat} {la : Nat} {le : Nat} {fl : Nat → Int32} {ta : Nat} {bs : Nat} {td : Nat} {t1 : Nat} {t2 : Nat} {t3 : Nat} {t4 : Nat} {t5 : Nat} {no : Nat} {n1 : Nat} {n2 : Nat} {n3 : Nat} {n4 : Nat} {n5 : Nat} {ac : Nat} {be : Nat} {im : Nat} {fi : Nat → Option Nat} {i0 : Nat} {x1 : Nat} {x2 : Nat} {x3 : Nat} {x4 : Nat} {x5 : Nat} {i1 : Nat} {y1 : Nat} {y2 : Nat} {y3 : Nat} {y4 : Nat} {y5 : Nat} {tr : Nat} {pl : Nat} {cs : Nat} {ak : Nat} {tc : Nat} {m_la : Nat} {m_sz : Nat} {m_it : Nat} {m_st : Nat} {m_mv : Nat} {m_tp : Nat} {m_rd : Nat} {m_ac : Nat} {m_as : Nat} {m_wo : Nat} {m_ik : Nat} {m_ke : Nat} {m_tr : Nat} {fm : Nat → Int32} (hx : p.tables.exec = Jvm.exec) (hb : c.code = code) (hr : meth.sig.returnType = ret) (hml : c.maxLocals = 4) (hown : s.vm.findClass RL = some m.cls) (hts : ∀ w ∈ wsL_law, w.before #[Value.ref b] s = true) (hX : va_X b 6 xs s s.heap) (hbl : b < s.heap.size) (hlocks : meth.locks = false) (hAd : A = fun q => s.heap.size ≤ q) (hA : ∀ q : Nat, s.heap.size ≤ q → A q) (hbA : ¬ A b) (hsc1 : sc1 = xs 1) (hsc2 : sc2 = xs 2) (hsc3 : sc3 = xs 3) (hsc4 : sc4 = xs 4) (hsc5 : sc5 = xs 5) (hfl : ∀ j : Nat, j < 8 → fl j = -1) (hf0 : fi 0 = some i0) (hf1 : fi 1 = some i1) (hfm : ∀ j : Nat, j < 8 → fm j = -1) (hK : va_K (dC, dI) vwCl [(cI, .int), (cZ, .boolean), (cL, .object RX3), (cJ, .array .int)] s) (hP : va_P (dC, dI) vwCl [(x, .inr (7, [.ref ro, .ref ta, .ref no, .ref ac, .ref im, .ref tr, .ref pl, .ref cs, .ref ak, .int 0, .int 0])), (ro, .inr (5, [.ref it, .ref la, .ref le])), (la, .inl (cI, 8, .inl fl)), (le, .inl (cI, 8, .inl (fun _ => 0))), (it, .inl (cJ, 8, .inr (.inr (.inr (.inr (fun i => if i < 8 then some (it + 1 + i) else none)))))), ((it + 1 + 0), .inl (cI, 40, .inl (fun _ => 0))), ((it + 1 + 1), .inl (cI, 40, .inl (fun _ => 0))), ((it + 1 + 2), .inl (cI, 40, .inl (fun _ => 0))), ((it + 1 + 3), .inl (cI, 40, .inl (fun _ => 0))), ((it + 1 + 4), .inl (cI, 40, .inl (fun _ => 0))), ((it + 1 + 5), .inl (cI, 40, .inl (fun _ => 0))), ((it + 1 + 6), .inl (cI, 40, .inl (fun _ => 0))), ((it + 1 + 7), .inl (cI, 40, .inl (fun _ => 0))), (ta, .inr (6, [.ref bs, .int 0, .ref td, .int 0, .int 0, .int 0])), (bs, .inl (cI, 120, .inl (fun _ => 0))), (td, .inr (3, [.int 0, .int 0, .int 0, .int 0, .int 0, .int 0, .int 0, .int 0, .ref t1, .ref t2, .ref t3, .ref t4, .ref t5])), (no, .inr (3, [.int 0, .int 0, .int 0, .int 0, .int 0, .int 0, .int 0, .int 0, .ref n1, .ref n2, .ref n3, .ref n4, .ref n5])), (ac, .inr (0, [.ref be, .int 0, .int 0])), (im, .inl (cL, 2, .inr (.inr (.inr (.inr fi))))), (i0, .inr (3, [.int 0, .int 0, .int 0, .int 0, .int 0, .int 0, .int 0, .int 0, .ref x1, .ref x2, .ref x3, .ref x4, .ref x5])), (i1, .inr (3, [.int 0, .int 0, .int 0, .int 0, .int 0, .int 0, .int 0, .int 0, .ref y1, .ref y2, .ref y3, .ref y4, .ref y5])), (ak, .inr (1, [.ref tc, .int 0, .int 0, .int 0, .int 0, .int 0])), (mo, .inr (8, [.ref m_la, .ref m_sz, .ref m_it, .int 0, .int 0, .ref m_st, .ref m_mv, .ref m_tp, .int 0, .int 0, .int 0, .int 0, .int 0, .int 0, .int 0, .ref m_rd, .ref m_ac, .int 0, .ref m_as, .ref m_wo, .ref m_ik, .ref m_ke, .ref m_tr, .int 0])), (m_sz, .inl (cI, 8, .inl fm)), (m_st, .inl (cI, 38, .inl (fun _ => 0))), (m_ik, .inl (cZ, 2, .inl (fun _ => 0))), (m_la, .inl (cI, 8, .inl (fun _ => 0))), (m_it, .inl (cI, 320, .inl (fun _ => 0))), (m_tp, .inl (cI, 120, .inl (fun _ => 0))), (m_rd, .inl (cI, 38, .inl (fun _ => 0)))] H) (hD : va_D A [(x, .inr (7, [.ref ro, .ref ta, .ref no, .ref ac, .ref im, .ref tr, .ref pl, .ref cs, .ref ak, .int 0, .int 0])), (ro, .inr (5, [.ref it, .ref la, .ref le])), (la, .inl (cI, 8, .inl fl)), (le, .inl (cI, 8, .inl (fun _ => 0))), (it, .inl (cJ, 8, .inr (.inr (.inr (.inr (fun i => if i < 8 then some (it + 1 + i) else none)))))), ((it + 1 + 0), .inl (cI, 40, .inl (fun _ => 0))), ((it + 1 + 1), .inl (cI, 40, .inl (fun _ => 0))), ((it + 1 + 2), .inl (cI, 40, .inl (fun _ => 0))), ((it + 1 + 3), .inl (cI, 40, .inl (fun _ => 0))), ((it + 1 + 4), .inl (cI, 40, .inl (fun _ => 0))), ((it + 1 + 5), .inl (cI, 40, .inl (fun _ => 0))), ((it + 1 + 6), .inl (cI, 40, .inl (fun _ => 0))), ((it + 1 + 7), .inl (cI, 40, .inl (fun _ => 0))), (ta, .inr (6, [.ref bs, .int 0, .ref td, .int 0, .int 0, .int 0])), (bs, .inl (cI, 120, .inl (fun _ => 0))), (td, .inr (3, [.int 0, .int 0, .int 0, .int 0, .int 0, .int 0, .int 0, .int 0, .ref t1, .ref t2, .ref t3, .ref t4, .ref t5])), (no, .inr (3, [.int 0, .int 0, .int 0, .int 0, .int 0, .int 0, .int 0, .int 0, .ref n1, .ref n2, .ref n3, .ref n4, .ref n5])), (ac, .inr (0, [.ref be, .int 0, .int 0])), (im, .inl (cL, 2, .inr (.inr (.inr (.inr fi))))), (i0, .inr (3, [.int 0, .int 0, .int 0, .int 0, .int 0, .int 0, .int 0, .int 0, .ref x1, .ref x2, .ref x3, .ref x4, .ref x5])), (i1, .inr (3, [.int 0, .int 0, .int 0, .int 0, .int 0, .int 0, .int 0, .int 0, .ref y1, .ref y2, .ref y3, .ref y4, .ref y5])), (ak, .inr (1, [.ref tc, .int 0, .int 0, .int 0, .int 0, .int 0])), (mo, .inr (8, [.ref m_la, .ref m_sz, .ref m_it, .int 0, .int 0, .ref m_st, .ref m_mv, .ref m_tp, .int 0, .int 0, .int 0, .int 0, .int 0, .int 0, .int 0, .ref m_rd, .ref m_ac, .int 0, .ref m_as, .ref m_wo, .ref m_ik, .ref m_ke, .ref m_tr, .int 0])), (m_sz, .inl (cI, 8, .inl fm)), (m_st, .inl (cI, 38, .inl (fun _ => 0))), (m_ik, .inl (cZ, 2, .inl (fun _ => 0))), (m_la, .inl (cI, 8, .inl (fun _ => 0))), (m_it, .inl (cI, 320, .inl (fun _ => 0))), (m_tp, .inl (cI, 120, .inl (fun _ => 0))), (m_rd, .inl (cI, 38, .inl (fun _ => 0)))]) (hS : va_S A s.heap H locs) (hl : lv_has ls 4 [(3, .int 0), (2, .ref mo), (1, .ref x), (0, .ref b)]) : W p l e room_1 s m #[Value.ref b] below meth c H locs 277 3929 (lw_Z below #[Value.ref b] s) (F0 m 687 ls []) := by
  refine lv_aload_n hx hb dL_law_687 rfl (lv_at hl 2 rfl) ?_
  refine lv_aload_n hx hb dL_law_688 rfl (lv_at hl 3 rfl) ?_
  refine lv_iload_n hx hb dL_law_689 rfl (lv_at hl 0 rfl) ?_
  refine lv_iconst (v := 1) hx hb dL_law_690 (by decide) ?_
  refine lv_iadd hx hb dL_law_691 ?_
  refine lv_topi (fun v_1 e_1 => ?_)
  obtain rfl : v_1 = 1 := (e_1).trans (by decide)
  refine va_sld hx hb hX hbl hbA hS (by unfold vp_in; decide) dL_law_692 ?_
  refine lv_topi (fun v_2 e_2 => ?_)
  obtain rfl : sc1 = v_2 := ((e_2).trans hsc1.symm).symm
  have hPc_3 := hP.sub (ws' := [(x, .inr (7, [.ref ro, .ref ta, .ref no, .ref ac, .ref im, .ref tr, .ref pl, .ref cs, .ref ak, .int 0, .int 0])), (no, .inr (3, [.int 0, .int 0, .int 0, .int 0, .int 0, .int 0, .int 0, .int 0, .ref n1, .ref n2, .ref n3, .ref n4, .ref n5]))]) [0, 16] rfl
  refine vp_callSi (W.runV (As := [.int sc1]) (rest := []) ⟨hx, hb, hml, hown, hts⟩ (c_X7_meal l dC dI cI cZ cL cJ x ro ta no ac im tr pl cs ak n1 n2 n3 n4 n5 sc1 ) (cwV 1 hts gL_law_X7_meal rfl rfl rfl (by decide +kernel) ⟨Nat.le_of_ble_eq_true rfl, Nat.le_of_ble_eq_true rfl⟩) ⟨fun a U g mk q => by obtain ⟨q0, qP, qK⟩ := q; exact ⟨q0, qP, va_K.moved (u := U) (U := U.calling g mk a) (Vm.Alike.refl U.vm) qK⟩, va_recv hK hP (ci := 7) (q0 := 0) rfl rfl, fun U hU hW => ⟨rfl, by rw [hU]; exact hPc_3, va_K.moved hW.alike hK⟩⟩ rfl rfl hl.1 rfl (lv_room (Nat.le_of_ble_eq_true rfl)) dL_law_693 ⟨Nat.le_of_ble_eq_true rfl, Nat.le_of_ble_eq_true rfl⟩) (fun r_3 h_3 => ?_)
  subst h_3
  refine lv_aload_n hx hb dL_law_696 rfl (lv_at hl 1 rfl) ?_
  refine lv_aload_n hx hb dL_law_697 rfl (lv_at hl 3 rfl) ?_
  refine lv_iload_n hx hb dL_law_698 rfl (lv_at hl 0 rfl) ?_
  refine lv_iconst (v := 1) hx hb dL_law_699 (by decide) ?_
  refine lv_iadd hx hb dL_law_700 ?_
  refine lv_topi (fun v_4 e_4 => ?_)
  obtain rfl : v_4 = 1 := (e_4).trans (by decide)
  refine va_sld hx hb hX hbl hbA hS (by unfold vp_in; decide) dL_law_701 ?_
  refine lv_topi (fun v_5 e_5 => ?_)
  obtain rfl : sc1 = v_5 := ((e_5).trans hsc1.symm).symm
  have hPc_6 := hP.sub (ws' := [(mo, .inr (8, [.ref m_la, .ref m_sz, .ref m_it, .int 0, .int 0, .ref m_st, .ref m_mv, .ref m_tp, .int 0, .int 0, .int 0, .int 0, .int 0, .int 0, .int 0, .ref m_rd, .ref m_ac, .int 0, .ref m_as, .ref m_wo, .ref m_ik, .ref m_ke, .ref m_tr, .int 0]))]) [22] rfl
  refine vp_callSi (W.runV (As := [.int sc1]) (rest := [.int (-1000002)]) ⟨hx, hb, hml, hown, hts⟩ (c_X8_meal l dC dI cI cZ cL cJ mo m_la m_sz m_it m_st m_mv m_tp m_rd m_ac m_as m_wo m_ik m_ke m_tr sc1 ) (cwV 1 hts gL_law_X8_meal rfl rfl rfl (by decide +kernel) ⟨Nat.le_of_ble_eq_true rfl, Nat.le_of_ble_eq_true rfl⟩) ⟨fun a U g mk q => by obtain ⟨q0, qP, qK⟩ := q; exact ⟨q0, qP, va_K.moved (u := U) (U := U.calling g mk a) (Vm.Alike.refl U.vm) qK⟩, va_recv hK hP (ci := 8) (q0 := 22) rfl rfl, fun U hU hW => ⟨rfl, by rw [hU]; exact hPc_6, va_K.moved hW.alike hK⟩⟩ rfl rfl hl.1 rfl (lv_room (Nat.le_of_ble_eq_true rfl)) dL_law_702 ⟨Nat.le_of_ble_eq_true rfl, Nat.le_of_ble_eq_true rfl⟩) (fun r_6 h_6 => ?_)
  subst h_6
  refine lv_icmp_eq (tgt := 1358) hx hb dL_law_705 (by decide) (fun _ => ?_) (fun c_ => absurd (by decide) c_)
  refine lv_iinc (v := 6) (lv' := [(3, .int 6), (2, .ref mo), (1, .ref x), (0, .ref b)]) hx hb dL_law_1358 hl (k := 0) rfl (by decide) (by decide) rfl (fun ls hl => ?_)
  refine lv_goto (tgt := 18) hx hb dL_law_1361 (by decide) ?_
  refine lv_iload_n hx hb dL_law_18 rfl (lv_at hl 0 rfl) ?_
  refine lv_aload_n hx hb dL_law_19 rfl (lv_at hl 3 rfl) ?_
  refine va_slen hx hb hX hbl hbA hS dL_law_20 ?_
  refine lv_topi (fun v_8 e_8 => ?_)
  obtain rfl : v_8 = 6 := (e_8).trans (by decide)
  refine lv_bipush (v := 6) hx hb dL_law_21 (by decide) ?_
  refine lv_isub hx hb dL_law_23 ?_
  refine lv_topi (fun v_9 e_9 => ?_)
  obtain rfl : v_9 = 0 := (e_9).trans (by decide)
  refine lv_icmp_gt (tgt := 1364) hx hb dL_law_24 (by decide) (fun _ => ?_) (fun c_ => absurd (by decide) c_)
  refine lv_iconst (v := 1) hx hb dL_law_1364 (by decide) ?_
  refine va_forget (fun q hq => by have q9 := hS.2.2 q hq; rw [hAd] at q9; exact q9) ?_
  refine W.widen (k := 600000) (n := 7302250) (Nat.le_of_ble_eq_true rfl) (Nat.le_of_ble_eq_true rfl) ?_
  exact lw_ret hx hb hr hlocks dL_law_1365
set_option maxHeartbeats 4000000 in
set_option maxRecDepth 100000 in
theorem lw_c18 {p : Program} {l : Launch} {e : Env} {s : State} {m : MethodId} {below : List Frame} {meth : Method} {c : Code} {b : Nat} {xs : Nat → Int32} {dC : Nat → ClassId} {dI : Nat → Nat → Nat} {cI cZ cL cJ : ClassId} {A : Nat → Prop} {H : Heap} {locs : List Loc} {ls : Array Slot} {sc1 sc2 sc3 sc4 sc5 : Int32} {x mo : Nat} {ro : Nat} {it : Nat} {la : Nat} {le : Nat} {fl : Nat → Int32} {ta : Nat} {bs : Nat} {td : Nat} {t1 : Nat} {t2 : Nat} {t3 : Nat} {t4 : Nat} {t5 : Nat} {no : Nat} {n1 : Nat} {n2 : Nat} {n3 : Nat} {n4 : Nat} {n5 : Nat} {ac : Nat} {be : Nat} {im : Nat} {fi : Nat → Option Nat} {i0 : Nat} {x1 : Nat} {x2 : Nat} {x3 : Nat} {x4 : Nat} {x5 : Nat} {i1 : Nat} {y1 : Nat} {y2 : Nat} {y3 : Nat} {y4 : Nat} {y5 : Nat} {tr : Nat} {pl : Nat} {cs : Nat} {ak : Nat} {tc : Nat} {m_la : Nat} {m_sz : Nat} {m_it : Nat} {m_st : Nat} {m_mv : Nat} {m_tp : Nat} {m_rd : Nat} {m_ac : Nat} {m_as : Nat} {m_wo : Nat} {m_ik : Nat} {m_ke : Nat} {m_tr : Nat} {fm : Nat → Int32} (hx : p.tables.exec = Jvm.exec) (hb : c.code = code) (hr : meth.sig.returnType = ret) (hml : c.maxLocals = 4) (hown : s.vm.findClass RL = some m.cls) (hts : ∀ w ∈ wsL_law, w.before #[Value.ref b] s = true) (hX : va_X b 6 xs s s.heap) (hbl : b < s.heap.size) (hlocks : meth.locks = false) (hAd : A = fun q => s.heap.size ≤ q) (hA : ∀ q : Nat, s.heap.size ≤ q → A q) (hbA : ¬ A b) (hsc1 : sc1 = xs 1) (hsc2 : sc2 = xs 2) (hsc3 : sc3 = xs 3) (hsc4 : sc4 = xs 4) (hsc5 : sc5 = xs 5) (hfl : ∀ j : Nat, j < 8 → fl j = -1) (hf0 : fi 0 = some i0) (hf1 : fi 1 = some i1) (hfm : ∀ j : Nat, j < 8 → fm j = -1) (hK : va_K (dC, dI) vwCl [(cI, .int), (cZ, .boolean), (cL, .object RX3), (cJ, .array .int)] s) (hP : va_P (dC, dI) vwCl [(x, .inr (7, [.ref ro, .ref ta, .ref no, .ref ac, .ref im, .ref tr, .ref pl, .ref cs, .ref ak, .int 0, .int 0])), (ro, .inr (5, [.ref it, .ref la, .ref le])), (la, .inl (cI, 8, .inl fl)), (le, .inl (cI, 8, .inl (fun _ => 0))), (it, .inl (cJ, 8, .inr (.inr (.inr (.inr (fun i => if i < 8 then some (it + 1 + i) else none)))))), ((it + 1 + 0), .inl (cI, 40, .inl (fun _ => 0))), ((it + 1 + 1), .inl (cI, 40, .inl (fun _ => 0))), ((it + 1 + 2), .inl (cI, 40, .inl (fun _ => 0))), ((it + 1 + 3), .inl (cI, 40, .inl (fun _ => 0))), ((it + 1 + 4), .inl (cI, 40, .inl (fun _ => 0))), ((it + 1 + 5), .inl (cI, 40, .inl (fun _ => 0))), ((it + 1 + 6), .inl (cI, 40, .inl (fun _ => 0))), ((it + 1 + 7), .inl (cI, 40, .inl (fun _ => 0))), (ta, .inr (6, [.ref bs, .int 0, .ref td, .int 0, .int 0, .int 0])), (bs, .inl (cI, 120, .inl (fun _ => 0))), (td, .inr (3, [.int 0, .int 0, .int 0, .int 0, .int 0, .int 0, .int 0, .int 0, .ref t1, .ref t2, .ref t3, .ref t4, .ref t5])), (no, .inr (3, [.int 0, .int 0, .int 0, .int 0, .int 0, .int 0, .int 0, .int 0, .ref n1, .ref n2, .ref n3, .ref n4, .ref n5])), (ac, .inr (0, [.ref be, .int 0, .int 0])), (im, .inl (cL, 2, .inr (.inr (.inr (.inr fi))))), (i0, .inr (3, [.int 0, .int 0, .int 0, .int 0, .int 0, .int 0, .int 0, .int 0, .ref x1, .ref x2, .ref x3, .ref x4, .ref x5])), (i1, .inr (3, [.int 0, .int 0, .int 0, .int 0, .int 0, .int 0, .int 0, .int 0, .ref y1, .ref y2, .ref y3, .ref y4, .ref y5])), (ak, .inr (1, [.ref tc, .int 0, .int 0, .int 0, .int 0, .int 0])), (mo, .inr (8, [.ref m_la, .ref m_sz, .ref m_it, .int 0, .int 0, .ref m_st, .ref m_mv, .ref m_tp, .int 0, .int 0, .int 0, .int 0, .int 0, .int 0, .int 0, .ref m_rd, .ref m_ac, .int 0, .ref m_as, .ref m_wo, .ref m_ik, .ref m_ke, .ref m_tr, .int 0])), (m_sz, .inl (cI, 8, .inl fm)), (m_st, .inl (cI, 38, .inl (fun _ => 0))), (m_ik, .inl (cZ, 2, .inl (fun _ => 0))), (m_la, .inl (cI, 8, .inl (fun _ => 0))), (m_it, .inl (cI, 320, .inl (fun _ => 0))), (m_tp, .inl (cI, 120, .inl (fun _ => 0))), (m_rd, .inl (cI, 38, .inl (fun _ => 0)))] H) (hD : va_D A [(x, .inr (7, [.ref ro, .ref ta, .ref no, .ref ac, .ref im, .ref tr, .ref pl, .ref cs, .ref ak, .int 0, .int 0])), (ro, .inr (5, [.ref it, .ref la, .ref le])), (la, .inl (cI, 8, .inl fl)), (le, .inl (cI, 8, .inl (fun _ => 0))), (it, .inl (cJ, 8, .inr (.inr (.inr (.inr (fun i => if i < 8 then some (it + 1 + i) else none)))))), ((it + 1 + 0), .inl (cI, 40, .inl (fun _ => 0))), ((it + 1 + 1), .inl (cI, 40, .inl (fun _ => 0))), ((it + 1 + 2), .inl (cI, 40, .inl (fun _ => 0))), ((it + 1 + 3), .inl (cI, 40, .inl (fun _ => 0))), ((it + 1 + 4), .inl (cI, 40, .inl (fun _ => 0))), ((it + 1 + 5), .inl (cI, 40, .inl (fun _ => 0))), ((it + 1 + 6), .inl (cI, 40, .inl (fun _ => 0))), ((it + 1 + 7), .inl (cI, 40, .inl (fun _ => 0))), (ta, .inr (6, [.ref bs, .int 0, .ref td, .int 0, .int 0, .int 0])), (bs, .inl (cI, 120, .inl (fun _ => 0))), (td, .inr (3, [.int 0, .int 0, .int 0, .int 0, .int 0, .int 0, .int 0, .int 0, .ref t1, .ref t2, .ref t3, .ref t4, .ref t5])), (no, .inr (3, [.int 0, .int 0, .int 0, .int 0, .int 0, .int 0, .int 0, .int 0, .ref n1, .ref n2, .ref n3, .ref n4, .ref n5])), (ac, .inr (0, [.ref be, .int 0, .int 0])), (im, .inl (cL, 2, .inr (.inr (.inr (.inr fi))))), (i0, .inr (3, [.int 0, .int 0, .int 0, .int 0, .int 0, .int 0, .int 0, .int 0, .ref x1, .ref x2, .ref x3, .ref x4, .ref x5])), (i1, .inr (3, [.int 0, .int 0, .int 0, .int 0, .int 0, .int 0, .int 0, .int 0, .ref y1, .ref y2, .ref y3, .ref y4, .ref y5])), (ak, .inr (1, [.ref tc, .int 0, .int 0, .int 0, .int 0, .int 0])), (mo, .inr (8, [.ref m_la, .ref m_sz, .ref m_it, .int 0, .int 0, .ref m_st, .ref m_mv, .ref m_tp, .int 0, .int 0, .int 0, .int 0, .int 0, .int 0, .int 0, .ref m_rd, .ref m_ac, .int 0, .ref m_as, .ref m_wo, .ref m_ik, .ref m_ke, .ref m_tr, .int 0])), (m_sz, .inl (cI, 8, .inl fm)), (m_st, .inl (cI, 38, .inl (fun _ => 0))), (m_ik, .inl (cZ, 2, .inl (fun _ => 0))), (m_la, .inl (cI, 8, .inl (fun _ => 0))), (m_it, .inl (cI, 320, .inl (fun _ => 0))), (m_tp, .inl (cI, 120, .inl (fun _ => 0))), (m_rd, .inl (cI, 38, .inl (fun _ => 0)))]) (hS : va_S A s.heap H locs) (hl : lv_has ls 4 [(3, .int 0), (2, .ref mo), (1, .ref x), (0, .ref b)]) : W p l e room_1 s m #[Value.ref b] below meth c H locs 277 3929 (lw_Z below #[Value.ref b] s) (F0 m 710 ls []) := by
  refine lv_aload_n hx hb dL_law_710 rfl (lv_at hl 2 rfl) ?_
  refine lv_aload_n hx hb dL_law_711 rfl (lv_at hl 3 rfl) ?_
  refine lv_iload_n hx hb dL_law_712 rfl (lv_at hl 0 rfl) ?_
  refine lv_iconst (v := 1) hx hb dL_law_713 (by decide) ?_
  refine lv_iadd hx hb dL_law_714 ?_
  refine lv_topi (fun v_1 e_1 => ?_)
  obtain rfl : v_1 = 1 := (e_1).trans (by decide)
  refine va_sld hx hb hX hbl hbA hS (by unfold vp_in; decide) dL_law_715 ?_
  refine lv_topi (fun v_2 e_2 => ?_)
  obtain rfl : sc1 = v_2 := ((e_2).trans hsc1.symm).symm
  refine lv_aload_n hx hb dL_law_716 rfl (lv_at hl 3 rfl) ?_
  refine lv_iload_n hx hb dL_law_717 rfl (lv_at hl 0 rfl) ?_
  refine lv_iconst (v := 2) hx hb dL_law_718 (by decide) ?_
  refine lv_iadd hx hb dL_law_719 ?_
  refine lv_topi (fun v_3 e_3 => ?_)
  obtain rfl : v_3 = 2 := (e_3).trans (by decide)
  refine va_sld hx hb hX hbl hbA hS (by unfold vp_in; decide) dL_law_720 ?_
  refine lv_topi (fun v_4 e_4 => ?_)
  obtain rfl : sc2 = v_4 := ((e_4).trans hsc2.symm).symm
  have hPc_5 := hP.sub (ws' := [(x, .inr (7, [.ref ro, .ref ta, .ref no, .ref ac, .ref im, .ref tr, .ref pl, .ref cs, .ref ak, .int 0, .int 0])), (no, .inr (3, [.int 0, .int 0, .int 0, .int 0, .int 0, .int 0, .int 0, .int 0, .ref n1, .ref n2, .ref n3, .ref n4, .ref n5]))]) [0, 16] rfl
  refine vp_callSi (W.runV (As := [.int sc1, .int sc2]) (rest := []) ⟨hx, hb, hml, hown, hts⟩ (c_X7_when l dC dI cI cZ cL cJ x ro ta no ac im tr pl cs ak n1 n2 n3 n4 n5 sc1 sc2 ) (cwV 2 hts gL_law_X7_when rfl rfl rfl (by decide +kernel) ⟨Nat.le_of_ble_eq_true rfl, Nat.le_of_ble_eq_true rfl⟩) ⟨fun a U g mk q => by obtain ⟨q0, qP, qK⟩ := q; exact ⟨q0, qP, va_K.moved (u := U) (U := U.calling g mk a) (Vm.Alike.refl U.vm) qK⟩, va_recv hK hP (ci := 7) (q0 := 0) rfl rfl, fun U hU hW => ⟨rfl, by rw [hU]; exact hPc_5, va_K.moved hW.alike hK⟩⟩ rfl rfl hl.1 rfl (lv_room (Nat.le_of_ble_eq_true rfl)) dL_law_721 ⟨Nat.le_of_ble_eq_true rfl, Nat.le_of_ble_eq_true rfl⟩) (fun r_5 h_5 => ?_)
  subst h_5
  refine lv_aload_n hx hb dL_law_724 rfl (lv_at hl 1 rfl) ?_
  refine lv_aload_n hx hb dL_law_725 rfl (lv_at hl 3 rfl) ?_
  refine lv_iload_n hx hb dL_law_726 rfl (lv_at hl 0 rfl) ?_
  refine lv_iconst (v := 1) hx hb dL_law_727 (by decide) ?_
  refine lv_iadd hx hb dL_law_728 ?_
  refine lv_topi (fun v_6 e_6 => ?_)
  obtain rfl : v_6 = 1 := (e_6).trans (by decide)
  refine va_sld hx hb hX hbl hbA hS (by unfold vp_in; decide) dL_law_729 ?_
  refine lv_topi (fun v_7 e_7 => ?_)
  obtain rfl : sc1 = v_7 := ((e_7).trans hsc1.symm).symm
  refine lv_aload_n hx hb dL_law_730 rfl (lv_at hl 3 rfl) ?_
  refine lv_iload_n hx hb dL_law_731 rfl (lv_at hl 0 rfl) ?_
  refine lv_iconst (v := 2) hx hb dL_law_732 (by decide) ?_
  refine lv_iadd hx hb dL_law_733 ?_
  refine lv_topi (fun v_8 e_8 => ?_)
  obtain rfl : v_8 = 2 := (e_8).trans (by decide)
  refine va_sld hx hb hX hbl hbA hS (by unfold vp_in; decide) dL_law_734 ?_
  refine lv_topi (fun v_9 e_9 => ?_)
  obtain rfl : sc2 = v_9 := ((e_9).trans hsc2.symm).symm
  have hPc_10 := hP.sub (ws' := [(mo, .inr (8, [.ref m_la, .ref m_sz, .ref m_it, .int 0, .int 0, .ref m_st, .ref m_mv, .ref m_tp, .int 0, .int 0, .int 0, .int 0, .int 0, .int 0, .int 0, .ref m_rd, .ref m_ac, .int 0, .ref m_as, .ref m_wo, .ref m_ik, .ref m_ke, .ref m_tr, .int 0])), (m_st, .inl (cI, 38, .inl (fun _ => 0)))]) [22, 24] rfl
  refine vp_callSi (W.runV (As := [.int sc1, .int sc2]) (rest := [.int (-1000001)]) ⟨hx, hb, hml, hown, hts⟩ (c_X8_when l dC dI cI cZ cL cJ mo m_la m_sz m_it m_st m_mv m_tp m_rd m_ac m_as m_wo m_ik m_ke m_tr sc1 sc2 ) (cwV 2 hts gL_law_X8_when rfl rfl rfl (by decide +kernel) ⟨Nat.le_of_ble_eq_true rfl, Nat.le_of_ble_eq_true rfl⟩) ⟨fun a U g mk q => by obtain ⟨q0, qP, qK⟩ := q; exact ⟨q0, qP, va_K.moved (u := U) (U := U.calling g mk a) (Vm.Alike.refl U.vm) qK⟩, va_recv hK hP (ci := 8) (q0 := 22) rfl rfl, fun U hU hW => ⟨rfl, by rw [hU]; exact hPc_10, va_K.moved hW.alike hK⟩⟩ rfl rfl hl.1 rfl (lv_room (Nat.le_of_ble_eq_true rfl)) dL_law_735 ⟨Nat.le_of_ble_eq_true rfl, Nat.le_of_ble_eq_true rfl⟩) (fun r_10 h_10 => ?_)
  subst h_10
  refine lv_icmp_eq (tgt := 1358) hx hb dL_law_738 (by decide) (fun _ => ?_) (fun c_ => absurd (by decide) c_)
  refine lv_iinc (v := 6) (lv' := [(3, .int 6), (2, .ref mo), (1, .ref x), (0, .ref b)]) hx hb dL_law_1358 hl (k := 0) rfl (by decide) (by decide) rfl (fun ls hl => ?_)
  refine lv_goto (tgt := 18) hx hb dL_law_1361 (by decide) ?_
  refine lv_iload_n hx hb dL_law_18 rfl (lv_at hl 0 rfl) ?_
  refine lv_aload_n hx hb dL_law_19 rfl (lv_at hl 3 rfl) ?_
  refine va_slen hx hb hX hbl hbA hS dL_law_20 ?_
  refine lv_topi (fun v_12 e_12 => ?_)
  obtain rfl : v_12 = 6 := (e_12).trans (by decide)
  refine lv_bipush (v := 6) hx hb dL_law_21 (by decide) ?_
  refine lv_isub hx hb dL_law_23 ?_
  refine lv_topi (fun v_13 e_13 => ?_)
  obtain rfl : v_13 = 0 := (e_13).trans (by decide)
  refine lv_icmp_gt (tgt := 1364) hx hb dL_law_24 (by decide) (fun _ => ?_) (fun c_ => absurd (by decide) c_)
  refine lv_iconst (v := 1) hx hb dL_law_1364 (by decide) ?_
  refine va_forget (fun q hq => by have q9 := hS.2.2 q hq; rw [hAd] at q9; exact q9) ?_
  refine W.widen (k := 600000) (n := 7302250) (Nat.le_of_ble_eq_true rfl) (Nat.le_of_ble_eq_true rfl) ?_
  exact lw_ret hx hb hr hlocks dL_law_1365
set_option maxHeartbeats 4000000 in
set_option maxRecDepth 100000 in
theorem lw_c19 {p : Program} {l : Launch} {e : Env} {s : State} {m : MethodId} {below : List Frame} {meth : Method} {c : Code} {b : Nat} {xs : Nat → Int32} {dC : Nat → ClassId} {dI : Nat → Nat → Nat} {cI cZ cL cJ : ClassId} {A : Nat → Prop} {H : Heap} {locs : List Loc} {ls : Array Slot} {sc1 sc2 sc3 sc4 sc5 : Int32} {x mo : Nat} {ro : Nat} {it : Nat} {la : Nat} {le : Nat} {fl : Nat → Int32} {ta : Nat} {bs : Nat} {td : Nat} {t1 : Nat} {t2 : Nat} {t3 : Nat} {t4 : Nat} {t5 : Nat} {no : Nat} {n1 : Nat} {n2 : Nat} {n3 : Nat} {n4 : Nat} {n5 : Nat} {ac : Nat} {be : Nat} {im : Nat} {fi : Nat → Option Nat} {i0 : Nat} {x1 : Nat} {x2 : Nat} {x3 : Nat} {x4 : Nat} {x5 : Nat} {i1 : Nat} {y1 : Nat} {y2 : Nat} {y3 : Nat} {y4 : Nat} {y5 : Nat} {tr : Nat} {pl : Nat} {cs : Nat} {ak : Nat} {tc : Nat} {m_la : Nat} {m_sz : Nat} {m_it : Nat} {m_st : Nat} {m_mv : Nat} {m_tp : Nat} {m_rd : Nat} {m_ac : Nat} {m_as : Nat} {m_wo : Nat} {m_ik : Nat} {m_ke : Nat} {m_tr : Nat} {fm : Nat → Int32} (hx : p.tables.exec = Jvm.exec) (hb : c.code = code) (hr : meth.sig.returnType = ret) (hml : c.maxLocals = 4) (hown : s.vm.findClass RL = some m.cls) (hts : ∀ w ∈ wsL_law, w.before #[Value.ref b] s = true) (hX : va_X b 6 xs s s.heap) (hbl : b < s.heap.size) (hlocks : meth.locks = false) (hAd : A = fun q => s.heap.size ≤ q) (hA : ∀ q : Nat, s.heap.size ≤ q → A q) (hbA : ¬ A b) (hsc1 : sc1 = xs 1) (hsc2 : sc2 = xs 2) (hsc3 : sc3 = xs 3) (hsc4 : sc4 = xs 4) (hsc5 : sc5 = xs 5) (hfl : ∀ j : Nat, j < 8 → fl j = -1) (hf0 : fi 0 = some i0) (hf1 : fi 1 = some i1) (hfm : ∀ j : Nat, j < 8 → fm j = -1) (hK : va_K (dC, dI) vwCl [(cI, .int), (cZ, .boolean), (cL, .object RX3), (cJ, .array .int)] s) (hP : va_P (dC, dI) vwCl [(x, .inr (7, [.ref ro, .ref ta, .ref no, .ref ac, .ref im, .ref tr, .ref pl, .ref cs, .ref ak, .int 0, .int 0])), (ro, .inr (5, [.ref it, .ref la, .ref le])), (la, .inl (cI, 8, .inl fl)), (le, .inl (cI, 8, .inl (fun _ => 0))), (it, .inl (cJ, 8, .inr (.inr (.inr (.inr (fun i => if i < 8 then some (it + 1 + i) else none)))))), ((it + 1 + 0), .inl (cI, 40, .inl (fun _ => 0))), ((it + 1 + 1), .inl (cI, 40, .inl (fun _ => 0))), ((it + 1 + 2), .inl (cI, 40, .inl (fun _ => 0))), ((it + 1 + 3), .inl (cI, 40, .inl (fun _ => 0))), ((it + 1 + 4), .inl (cI, 40, .inl (fun _ => 0))), ((it + 1 + 5), .inl (cI, 40, .inl (fun _ => 0))), ((it + 1 + 6), .inl (cI, 40, .inl (fun _ => 0))), ((it + 1 + 7), .inl (cI, 40, .inl (fun _ => 0))), (ta, .inr (6, [.ref bs, .int 0, .ref td, .int 0, .int 0, .int 0])), (bs, .inl (cI, 120, .inl (fun _ => 0))), (td, .inr (3, [.int 0, .int 0, .int 0, .int 0, .int 0, .int 0, .int 0, .int 0, .ref t1, .ref t2, .ref t3, .ref t4, .ref t5])), (no, .inr (3, [.int 0, .int 0, .int 0, .int 0, .int 0, .int 0, .int 0, .int 0, .ref n1, .ref n2, .ref n3, .ref n4, .ref n5])), (ac, .inr (0, [.ref be, .int 0, .int 0])), (im, .inl (cL, 2, .inr (.inr (.inr (.inr fi))))), (i0, .inr (3, [.int 0, .int 0, .int 0, .int 0, .int 0, .int 0, .int 0, .int 0, .ref x1, .ref x2, .ref x3, .ref x4, .ref x5])), (i1, .inr (3, [.int 0, .int 0, .int 0, .int 0, .int 0, .int 0, .int 0, .int 0, .ref y1, .ref y2, .ref y3, .ref y4, .ref y5])), (ak, .inr (1, [.ref tc, .int 0, .int 0, .int 0, .int 0, .int 0])), (mo, .inr (8, [.ref m_la, .ref m_sz, .ref m_it, .int 0, .int 0, .ref m_st, .ref m_mv, .ref m_tp, .int 0, .int 0, .int 0, .int 0, .int 0, .int 0, .int 0, .ref m_rd, .ref m_ac, .int 0, .ref m_as, .ref m_wo, .ref m_ik, .ref m_ke, .ref m_tr, .int 0])), (m_sz, .inl (cI, 8, .inl fm)), (m_st, .inl (cI, 38, .inl (fun _ => 0))), (m_ik, .inl (cZ, 2, .inl (fun _ => 0))), (m_la, .inl (cI, 8, .inl (fun _ => 0))), (m_it, .inl (cI, 320, .inl (fun _ => 0))), (m_tp, .inl (cI, 120, .inl (fun _ => 0))), (m_rd, .inl (cI, 38, .inl (fun _ => 0)))] H) (hD : va_D A [(x, .inr (7, [.ref ro, .ref ta, .ref no, .ref ac, .ref im, .ref tr, .ref pl, .ref cs, .ref ak, .int 0, .int 0])), (ro, .inr (5, [.ref it, .ref la, .ref le])), (la, .inl (cI, 8, .inl fl)), (le, .inl (cI, 8, .inl (fun _ => 0))), (it, .inl (cJ, 8, .inr (.inr (.inr (.inr (fun i => if i < 8 then some (it + 1 + i) else none)))))), ((it + 1 + 0), .inl (cI, 40, .inl (fun _ => 0))), ((it + 1 + 1), .inl (cI, 40, .inl (fun _ => 0))), ((it + 1 + 2), .inl (cI, 40, .inl (fun _ => 0))), ((it + 1 + 3), .inl (cI, 40, .inl (fun _ => 0))), ((it + 1 + 4), .inl (cI, 40, .inl (fun _ => 0))), ((it + 1 + 5), .inl (cI, 40, .inl (fun _ => 0))), ((it + 1 + 6), .inl (cI, 40, .inl (fun _ => 0))), ((it + 1 + 7), .inl (cI, 40, .inl (fun _ => 0))), (ta, .inr (6, [.ref bs, .int 0, .ref td, .int 0, .int 0, .int 0])), (bs, .inl (cI, 120, .inl (fun _ => 0))), (td, .inr (3, [.int 0, .int 0, .int 0, .int 0, .int 0, .int 0, .int 0, .int 0, .ref t1, .ref t2, .ref t3, .ref t4, .ref t5])), (no, .inr (3, [.int 0, .int 0, .int 0, .int 0, .int 0, .int 0, .int 0, .int 0, .ref n1, .ref n2, .ref n3, .ref n4, .ref n5])), (ac, .inr (0, [.ref be, .int 0, .int 0])), (im, .inl (cL, 2, .inr (.inr (.inr (.inr fi))))), (i0, .inr (3, [.int 0, .int 0, .int 0, .int 0, .int 0, .int 0, .int 0, .int 0, .ref x1, .ref x2, .ref x3, .ref x4, .ref x5])), (i1, .inr (3, [.int 0, .int 0, .int 0, .int 0, .int 0, .int 0, .int 0, .int 0, .ref y1, .ref y2, .ref y3, .ref y4, .ref y5])), (ak, .inr (1, [.ref tc, .int 0, .int 0, .int 0, .int 0, .int 0])), (mo, .inr (8, [.ref m_la, .ref m_sz, .ref m_it, .int 0, .int 0, .ref m_st, .ref m_mv, .ref m_tp, .int 0, .int 0, .int 0, .int 0, .int 0, .int 0, .int 0, .ref m_rd, .ref m_ac, .int 0, .ref m_as, .ref m_wo, .ref m_ik, .ref m_ke, .ref m_tr, .int 0])), (m_sz, .inl (cI, 8, .inl fm)), (m_st, .inl (cI, 38, .inl (fun _ => 0))), (m_ik, .inl (cZ, 2, .inl (fun _ => 0))), (m_la, .inl (cI, 8, .inl (fun _ => 0))), (m_it, .inl (cI, 320, .inl (fun _ => 0))), (m_tp, .inl (cI, 120, .inl (fun _ => 0))), (m_rd, .inl (cI, 38, .inl (fun _ => 0)))]) (hS : va_S A s.heap H locs) (hl : lv_has ls 4 [(3, .int 0), (2, .ref mo), (1, .ref x), (0, .ref b)]) : W p l e room_1 s m #[Value.ref b] below meth c H locs 277 3929 (lw_Z below #[Value.ref b] s) (F0 m 743 ls []) := by
  refine lv_aload_n hx hb dL_law_743 rfl (lv_at hl 2 rfl) ?_
  refine lv_aload_n hx hb dL_law_744 rfl (lv_at hl 3 rfl) ?_
  refine lv_iload_n hx hb dL_law_745 rfl (lv_at hl 0 rfl) ?_
  refine lv_iconst (v := 1) hx hb dL_law_746 (by decide) ?_
  refine lv_iadd hx hb dL_law_747 ?_
  refine lv_topi (fun v_1 e_1 => ?_)
  obtain rfl : v_1 = 1 := (e_1).trans (by decide)
  refine va_sld hx hb hX hbl hbA hS (by unfold vp_in; decide) dL_law_748 ?_
  refine lv_topi (fun v_2 e_2 => ?_)
  obtain rfl : sc1 = v_2 := ((e_2).trans hsc1.symm).symm
  refine lv_aload_n hx hb dL_law_749 rfl (lv_at hl 3 rfl) ?_
  refine lv_iload_n hx hb dL_law_750 rfl (lv_at hl 0 rfl) ?_
  refine lv_iconst (v := 2) hx hb dL_law_751 (by decide) ?_
  refine lv_iadd hx hb dL_law_752 ?_
  refine lv_topi (fun v_3 e_3 => ?_)
  obtain rfl : v_3 = 2 := (e_3).trans (by decide)
  refine va_sld hx hb hX hbl hbA hS (by unfold vp_in; decide) dL_law_753 ?_
  refine lv_topi (fun v_4 e_4 => ?_)
  obtain rfl : sc2 = v_4 := ((e_4).trans hsc2.symm).symm
  have hPc_5 := hP.sub (ws' := [(x, .inr (7, [.ref ro, .ref ta, .ref no, .ref ac, .ref im, .ref tr, .ref pl, .ref cs, .ref ak, .int 0, .int 0])), (no, .inr (3, [.int 0, .int 0, .int 0, .int 0, .int 0, .int 0, .int 0, .int 0, .ref n1, .ref n2, .ref n3, .ref n4, .ref n5]))]) [0, 16] rfl
  refine vp_callSi (W.runV (As := [.int sc1, .int sc2]) (rest := []) ⟨hx, hb, hml, hown, hts⟩ (c_X7_caps l dC dI cI cZ cL cJ x ro ta no ac im tr pl cs ak n1 n2 n3 n4 n5 sc1 sc2 ) (cwV 2 hts gL_law_X7_caps rfl rfl rfl (by decide +kernel) ⟨Nat.le_of_ble_eq_true rfl, Nat.le_of_ble_eq_true rfl⟩) ⟨fun a U g mk q => by obtain ⟨q0, qP, qK⟩ := q; exact ⟨q0, qP, va_K.moved (u := U) (U := U.calling g mk a) (Vm.Alike.refl U.vm) qK⟩, va_recv hK hP (ci := 7) (q0 := 0) rfl rfl, fun U hU hW => ⟨rfl, by rw [hU]; exact hPc_5, va_K.moved hW.alike hK⟩⟩ rfl rfl hl.1 rfl (lv_room (Nat.le_of_ble_eq_true rfl)) dL_law_754 ⟨Nat.le_of_ble_eq_true rfl, Nat.le_of_ble_eq_true rfl⟩) (fun r_5 h_5 => ?_)
  subst h_5
  refine lv_aload_n hx hb dL_law_757 rfl (lv_at hl 1 rfl) ?_
  refine lv_aload_n hx hb dL_law_758 rfl (lv_at hl 3 rfl) ?_
  refine lv_iload_n hx hb dL_law_759 rfl (lv_at hl 0 rfl) ?_
  refine lv_iconst (v := 1) hx hb dL_law_760 (by decide) ?_
  refine lv_iadd hx hb dL_law_761 ?_
  refine lv_topi (fun v_6 e_6 => ?_)
  obtain rfl : v_6 = 1 := (e_6).trans (by decide)
  refine va_sld hx hb hX hbl hbA hS (by unfold vp_in; decide) dL_law_762 ?_
  refine lv_topi (fun v_7 e_7 => ?_)
  obtain rfl : sc1 = v_7 := ((e_7).trans hsc1.symm).symm
  refine lv_aload_n hx hb dL_law_763 rfl (lv_at hl 3 rfl) ?_
  refine lv_iload_n hx hb dL_law_764 rfl (lv_at hl 0 rfl) ?_
  refine lv_iconst (v := 2) hx hb dL_law_765 (by decide) ?_
  refine lv_iadd hx hb dL_law_766 ?_
  refine lv_topi (fun v_8 e_8 => ?_)
  obtain rfl : v_8 = 2 := (e_8).trans (by decide)
  refine va_sld hx hb hX hbl hbA hS (by unfold vp_in; decide) dL_law_767 ?_
  refine lv_topi (fun v_9 e_9 => ?_)
  obtain rfl : sc2 = v_9 := ((e_9).trans hsc2.symm).symm
  have hPc_10 := hP.sub (ws' := [(mo, .inr (8, [.ref m_la, .ref m_sz, .ref m_it, .int 0, .int 0, .ref m_st, .ref m_mv, .ref m_tp, .int 0, .int 0, .int 0, .int 0, .int 0, .int 0, .int 0, .ref m_rd, .ref m_ac, .int 0, .ref m_as, .ref m_wo, .ref m_ik, .ref m_ke, .ref m_tr, .int 0]))]) [22] rfl
  refine vp_callSi (W.runV (As := [.int sc1, .int sc2]) (rest := [.int (-1000002)]) ⟨hx, hb, hml, hown, hts⟩ (c_X8_caps l dC dI cI cZ cL cJ mo m_la m_sz m_it m_st m_mv m_tp m_rd m_ac m_as m_wo m_ik m_ke m_tr sc1 sc2 ) (cwV 2 hts gL_law_X8_caps rfl rfl rfl (by decide +kernel) ⟨Nat.le_of_ble_eq_true rfl, Nat.le_of_ble_eq_true rfl⟩) ⟨fun a U g mk q => by obtain ⟨q0, qP, qK⟩ := q; exact ⟨q0, qP, va_K.moved (u := U) (U := U.calling g mk a) (Vm.Alike.refl U.vm) qK⟩, va_recv hK hP (ci := 8) (q0 := 22) rfl rfl, fun U hU hW => ⟨rfl, by rw [hU]; exact hPc_10, va_K.moved hW.alike hK⟩⟩ rfl rfl hl.1 rfl (lv_room (Nat.le_of_ble_eq_true rfl)) dL_law_768 ⟨Nat.le_of_ble_eq_true rfl, Nat.le_of_ble_eq_true rfl⟩) (fun r_10 h_10 => ?_)
  subst h_10
  refine lv_icmp_eq (tgt := 1358) hx hb dL_law_771 (by decide) (fun _ => ?_) (fun c_ => absurd (by decide) c_)
  refine lv_iinc (v := 6) (lv' := [(3, .int 6), (2, .ref mo), (1, .ref x), (0, .ref b)]) hx hb dL_law_1358 hl (k := 0) rfl (by decide) (by decide) rfl (fun ls hl => ?_)
  refine lv_goto (tgt := 18) hx hb dL_law_1361 (by decide) ?_
  refine lv_iload_n hx hb dL_law_18 rfl (lv_at hl 0 rfl) ?_
  refine lv_aload_n hx hb dL_law_19 rfl (lv_at hl 3 rfl) ?_
  refine va_slen hx hb hX hbl hbA hS dL_law_20 ?_
  refine lv_topi (fun v_12 e_12 => ?_)
  obtain rfl : v_12 = 6 := (e_12).trans (by decide)
  refine lv_bipush (v := 6) hx hb dL_law_21 (by decide) ?_
  refine lv_isub hx hb dL_law_23 ?_
  refine lv_topi (fun v_13 e_13 => ?_)
  obtain rfl : v_13 = 0 := (e_13).trans (by decide)
  refine lv_icmp_gt (tgt := 1364) hx hb dL_law_24 (by decide) (fun _ => ?_) (fun c_ => absurd (by decide) c_)
  refine lv_iconst (v := 1) hx hb dL_law_1364 (by decide) ?_
  refine va_forget (fun q hq => by have q9 := hS.2.2 q hq; rw [hAd] at q9; exact q9) ?_
  refine W.widen (k := 600000) (n := 7302250) (Nat.le_of_ble_eq_true rfl) (Nat.le_of_ble_eq_true rfl) ?_
  exact lw_ret hx hb hr hlocks dL_law_1365
set_option maxHeartbeats 4000000 in
set_option maxRecDepth 100000 in
theorem lw_c20 {p : Program} {l : Launch} {e : Env} {s : State} {m : MethodId} {below : List Frame} {meth : Method} {c : Code} {b : Nat} {xs : Nat → Int32} {dC : Nat → ClassId} {dI : Nat → Nat → Nat} {cI cZ cL cJ : ClassId} {A : Nat → Prop} {H : Heap} {locs : List Loc} {ls : Array Slot} {sc1 sc2 sc3 sc4 sc5 : Int32} {x mo : Nat} {ro : Nat} {it : Nat} {la : Nat} {le : Nat} {fl : Nat → Int32} {ta : Nat} {bs : Nat} {td : Nat} {t1 : Nat} {t2 : Nat} {t3 : Nat} {t4 : Nat} {t5 : Nat} {no : Nat} {n1 : Nat} {n2 : Nat} {n3 : Nat} {n4 : Nat} {n5 : Nat} {ac : Nat} {be : Nat} {im : Nat} {fi : Nat → Option Nat} {i0 : Nat} {x1 : Nat} {x2 : Nat} {x3 : Nat} {x4 : Nat} {x5 : Nat} {i1 : Nat} {y1 : Nat} {y2 : Nat} {y3 : Nat} {y4 : Nat} {y5 : Nat} {tr : Nat} {pl : Nat} {cs : Nat} {ak : Nat} {tc : Nat} {m_la : Nat} {m_sz : Nat} {m_it : Nat} {m_st : Nat} {m_mv : Nat} {m_tp : Nat} {m_rd : Nat} {m_ac : Nat} {m_as : Nat} {m_wo : Nat} {m_ik : Nat} {m_ke : Nat} {m_tr : Nat} {fm : Nat → Int32} (hx : p.tables.exec = Jvm.exec) (hb : c.code = code) (hr : meth.sig.returnType = ret) (hml : c.maxLocals = 4) (hown : s.vm.findClass RL = some m.cls) (hts : ∀ w ∈ wsL_law, w.before #[Value.ref b] s = true) (hX : va_X b 6 xs s s.heap) (hbl : b < s.heap.size) (hlocks : meth.locks = false) (hAd : A = fun q => s.heap.size ≤ q) (hA : ∀ q : Nat, s.heap.size ≤ q → A q) (hbA : ¬ A b) (hsc1 : sc1 = xs 1) (hsc2 : sc2 = xs 2) (hsc3 : sc3 = xs 3) (hsc4 : sc4 = xs 4) (hsc5 : sc5 = xs 5) (hfl : ∀ j : Nat, j < 8 → fl j = -1) (hf0 : fi 0 = some i0) (hf1 : fi 1 = some i1) (hfm : ∀ j : Nat, j < 8 → fm j = -1) (hK : va_K (dC, dI) vwCl [(cI, .int), (cZ, .boolean), (cL, .object RX3), (cJ, .array .int)] s) (hP : va_P (dC, dI) vwCl [(x, .inr (7, [.ref ro, .ref ta, .ref no, .ref ac, .ref im, .ref tr, .ref pl, .ref cs, .ref ak, .int 0, .int 0])), (ro, .inr (5, [.ref it, .ref la, .ref le])), (la, .inl (cI, 8, .inl fl)), (le, .inl (cI, 8, .inl (fun _ => 0))), (it, .inl (cJ, 8, .inr (.inr (.inr (.inr (fun i => if i < 8 then some (it + 1 + i) else none)))))), ((it + 1 + 0), .inl (cI, 40, .inl (fun _ => 0))), ((it + 1 + 1), .inl (cI, 40, .inl (fun _ => 0))), ((it + 1 + 2), .inl (cI, 40, .inl (fun _ => 0))), ((it + 1 + 3), .inl (cI, 40, .inl (fun _ => 0))), ((it + 1 + 4), .inl (cI, 40, .inl (fun _ => 0))), ((it + 1 + 5), .inl (cI, 40, .inl (fun _ => 0))), ((it + 1 + 6), .inl (cI, 40, .inl (fun _ => 0))), ((it + 1 + 7), .inl (cI, 40, .inl (fun _ => 0))), (ta, .inr (6, [.ref bs, .int 0, .ref td, .int 0, .int 0, .int 0])), (bs, .inl (cI, 120, .inl (fun _ => 0))), (td, .inr (3, [.int 0, .int 0, .int 0, .int 0, .int 0, .int 0, .int 0, .int 0, .ref t1, .ref t2, .ref t3, .ref t4, .ref t5])), (no, .inr (3, [.int 0, .int 0, .int 0, .int 0, .int 0, .int 0, .int 0, .int 0, .ref n1, .ref n2, .ref n3, .ref n4, .ref n5])), (ac, .inr (0, [.ref be, .int 0, .int 0])), (im, .inl (cL, 2, .inr (.inr (.inr (.inr fi))))), (i0, .inr (3, [.int 0, .int 0, .int 0, .int 0, .int 0, .int 0, .int 0, .int 0, .ref x1, .ref x2, .ref x3, .ref x4, .ref x5])), (i1, .inr (3, [.int 0, .int 0, .int 0, .int 0, .int 0, .int 0, .int 0, .int 0, .ref y1, .ref y2, .ref y3, .ref y4, .ref y5])), (ak, .inr (1, [.ref tc, .int 0, .int 0, .int 0, .int 0, .int 0])), (mo, .inr (8, [.ref m_la, .ref m_sz, .ref m_it, .int 0, .int 0, .ref m_st, .ref m_mv, .ref m_tp, .int 0, .int 0, .int 0, .int 0, .int 0, .int 0, .int 0, .ref m_rd, .ref m_ac, .int 0, .ref m_as, .ref m_wo, .ref m_ik, .ref m_ke, .ref m_tr, .int 0])), (m_sz, .inl (cI, 8, .inl fm)), (m_st, .inl (cI, 38, .inl (fun _ => 0))), (m_ik, .inl (cZ, 2, .inl (fun _ => 0))), (m_la, .inl (cI, 8, .inl (fun _ => 0))), (m_it, .inl (cI, 320, .inl (fun _ => 0))), (m_tp, .inl (cI, 120, .inl (fun _ => 0))), (m_rd, .inl (cI, 38, .inl (fun _ => 0)))] H) (hD : va_D A [(x, .inr (7, [.ref ro, .ref ta, .ref no, .ref ac, .ref im, .ref tr, .ref pl, .ref cs, .ref ak, .int 0, .int 0])), (ro, .inr (5, [.ref it, .ref la, .ref le])), (la, .inl (cI, 8, .inl fl)), (le, .inl (cI, 8, .inl (fun _ => 0))), (it, .inl (cJ, 8, .inr (.inr (.inr (.inr (fun i => if i < 8 then some (it + 1 + i) else none)))))), ((it + 1 + 0), .inl (cI, 40, .inl (fun _ => 0))), ((it + 1 + 1), .inl (cI, 40, .inl (fun _ => 0))), ((it + 1 + 2), .inl (cI, 40, .inl (fun _ => 0))), ((it + 1 + 3), .inl (cI, 40, .inl (fun _ => 0))), ((it + 1 + 4), .inl (cI, 40, .inl (fun _ => 0))), ((it + 1 + 5), .inl (cI, 40, .inl (fun _ => 0))), ((it + 1 + 6), .inl (cI, 40, .inl (fun _ => 0))), ((it + 1 + 7), .inl (cI, 40, .inl (fun _ => 0))), (ta, .inr (6, [.ref bs, .int 0, .ref td, .int 0, .int 0, .int 0])), (bs, .inl (cI, 120, .inl (fun _ => 0))), (td, .inr (3, [.int 0, .int 0, .int 0, .int 0, .int 0, .int 0, .int 0, .int 0, .ref t1, .ref t2, .ref t3, .ref t4, .ref t5])), (no, .inr (3, [.int 0, .int 0, .int 0, .int 0, .int 0, .int 0, .int 0, .int 0, .ref n1, .ref n2, .ref n3, .ref n4, .ref n5])), (ac, .inr (0, [.ref be, .int 0, .int 0])), (im, .inl (cL, 2, .inr (.inr (.inr (.inr fi))))), (i0, .inr (3, [.int 0, .int 0, .int 0, .int 0, .int 0, .int 0, .int 0, .int 0, .ref x1, .ref x2, .ref x3, .ref x4, .ref x5])), (i1, .inr (3, [.int 0, .int 0, .int 0, .int 0, .int 0, .int 0, .int 0, .int 0, .ref y1, .ref y2, .ref y3, .ref y4, .ref y5])), (ak, .inr (1, [.ref tc, .int 0, .int 0, .int 0, .int 0, .int 0])), (mo, .inr (8, [.ref m_la, .ref m_sz, .ref m_it, .int 0, .int 0, .ref m_st, .ref m_mv, .ref m_tp, .int 0, .int 0, .int 0, .int 0, .int 0, .int 0, .int 0, .ref m_rd, .ref m_ac, .int 0, .ref m_as, .ref m_wo, .ref m_ik, .ref m_ke, .ref m_tr, .int 0])), (m_sz, .inl (cI, 8, .inl fm)), (m_st, .inl (cI, 38, .inl (fun _ => 0))), (m_ik, .inl (cZ, 2, .inl (fun _ => 0))), (m_la, .inl (cI, 8, .inl (fun _ => 0))), (m_it, .inl (cI, 320, .inl (fun _ => 0))), (m_tp, .inl (cI, 120, .inl (fun _ => 0))), (m_rd, .inl (cI, 38, .inl (fun _ => 0)))]) (hS : va_S A s.heap H locs) (hl : lv_has ls 4 [(3, .int 0), (2, .ref mo), (1, .ref x), (0, .ref b)]) : W p l e room_1 s m #[Value.ref b] below meth c H locs 277 3929 (lw_Z below #[Value.ref b] s) (F0 m 776 ls []) := by
  refine lv_aload_n hx hb dL_law_776 rfl (lv_at hl 2 rfl) ?_
  refine lv_aload_n hx hb dL_law_777 rfl (lv_at hl 3 rfl) ?_
  refine lv_iload_n hx hb dL_law_778 rfl (lv_at hl 0 rfl) ?_
  refine lv_iconst (v := 1) hx hb dL_law_779 (by decide) ?_
  refine lv_iadd hx hb dL_law_780 ?_
  refine lv_topi (fun v_1 e_1 => ?_)
  obtain rfl : v_1 = 1 := (e_1).trans (by decide)
  refine va_sld hx hb hX hbl hbA hS (by unfold vp_in; decide) dL_law_781 ?_
  refine lv_topi (fun v_2 e_2 => ?_)
  obtain rfl : sc1 = v_2 := ((e_2).trans hsc1.symm).symm
  refine lv_aload_n hx hb dL_law_782 rfl (lv_at hl 3 rfl) ?_
  refine lv_iload_n hx hb dL_law_783 rfl (lv_at hl 0 rfl) ?_
  refine lv_iconst (v := 2) hx hb dL_law_784 (by decide) ?_
  refine lv_iadd hx hb dL_law_785 ?_
  refine lv_topi (fun v_3 e_3 => ?_)
  obtain rfl : v_3 = 2 := (e_3).trans (by decide)
  refine va_sld hx hb hX hbl hbA hS (by unfold vp_in; decide) dL_law_786 ?_
  refine lv_topi (fun v_4 e_4 => ?_)
  obtain rfl : sc2 = v_4 := ((e_4).trans hsc2.symm).symm
  have hPc_5 := hP.sub (ws' := [(x, .inr (7, [.ref ro, .ref ta, .ref no, .ref ac, .ref im, .ref tr, .ref pl, .ref cs, .ref ak, .int 0, .int 0])), (no, .inr (3, [.int 0, .int 0, .int 0, .int 0, .int 0, .int 0, .int 0, .int 0, .ref n1, .ref n2, .ref n3, .ref n4, .ref n5]))]) [0, 16] rfl
  refine vp_callSi (W.runV (As := [.int sc1, .int sc2]) (rest := []) ⟨hx, hb, hml, hown, hts⟩ (c_X7_had l dC dI cI cZ cL cJ x ro ta no ac im tr pl cs ak n1 n2 n3 n4 n5 sc1 sc2 ) (cwV 2 hts gL_law_X7_had rfl rfl rfl (by decide +kernel) ⟨Nat.le_of_ble_eq_true rfl, Nat.le_of_ble_eq_true rfl⟩) ⟨fun a U g mk q => by obtain ⟨q0, qP, qK⟩ := q; exact ⟨q0, qP, va_K.moved (u := U) (U := U.calling g mk a) (Vm.Alike.refl U.vm) qK⟩, va_recv hK hP (ci := 7) (q0 := 0) rfl rfl, fun U hU hW => ⟨rfl, by rw [hU]; exact hPc_5, va_K.moved hW.alike hK⟩⟩ rfl rfl hl.1 rfl (lv_room (Nat.le_of_ble_eq_true rfl)) dL_law_787 ⟨Nat.le_of_ble_eq_true rfl, Nat.le_of_ble_eq_true rfl⟩) (fun r_5 h_5 => ?_)
  subst h_5
  refine lv_aload_n hx hb dL_law_790 rfl (lv_at hl 1 rfl) ?_
  refine lv_aload_n hx hb dL_law_791 rfl (lv_at hl 3 rfl) ?_
  refine lv_iload_n hx hb dL_law_792 rfl (lv_at hl 0 rfl) ?_
  refine lv_iconst (v := 1) hx hb dL_law_793 (by decide) ?_
  refine lv_iadd hx hb dL_law_794 ?_
  refine lv_topi (fun v_6 e_6 => ?_)
  obtain rfl : v_6 = 1 := (e_6).trans (by decide)
  refine va_sld hx hb hX hbl hbA hS (by unfold vp_in; decide) dL_law_795 ?_
  refine lv_topi (fun v_7 e_7 => ?_)
  obtain rfl : sc1 = v_7 := ((e_7).trans hsc1.symm).symm
  refine lv_aload_n hx hb dL_law_796 rfl (lv_at hl 3 rfl) ?_
  refine lv_iload_n hx hb dL_law_797 rfl (lv_at hl 0 rfl) ?_
  refine lv_iconst (v := 2) hx hb dL_law_798 (by decide) ?_
  refine lv_iadd hx hb dL_law_799 ?_
  refine lv_topi (fun v_8 e_8 => ?_)
  obtain rfl : v_8 = 2 := (e_8).trans (by decide)
  refine va_sld hx hb hX hbl hbA hS (by unfold vp_in; decide) dL_law_800 ?_
  refine lv_topi (fun v_9 e_9 => ?_)
  obtain rfl : sc2 = v_9 := ((e_9).trans hsc2.symm).symm
  have hPc_10 := hP.sub (ws' := [(mo, .inr (8, [.ref m_la, .ref m_sz, .ref m_it, .int 0, .int 0, .ref m_st, .ref m_mv, .ref m_tp, .int 0, .int 0, .int 0, .int 0, .int 0, .int 0, .int 0, .ref m_rd, .ref m_ac, .int 0, .ref m_as, .ref m_wo, .ref m_ik, .ref m_ke, .ref m_tr, .int 0]))]) [22] rfl
  refine vp_callSi (W.runV (As := [.int sc1, .int sc2]) (rest := [.int (-1000002)]) ⟨hx, hb, hml, hown, hts⟩ (c_X8_had l dC dI cI cZ cL cJ mo m_la m_sz m_it m_st m_mv m_tp m_rd m_ac m_as m_wo m_ik m_ke m_tr sc1 sc2 ) (cwV 2 hts gL_law_X8_had rfl rfl rfl (by decide +kernel) ⟨Nat.le_of_ble_eq_true rfl, Nat.le_of_ble_eq_true rfl⟩) ⟨fun a U g mk q => by obtain ⟨q0, qP, qK⟩ := q; exact ⟨q0, qP, va_K.moved (u := U) (U := U.calling g mk a) (Vm.Alike.refl U.vm) qK⟩, va_recv hK hP (ci := 8) (q0 := 22) rfl rfl, fun U hU hW => ⟨rfl, by rw [hU]; exact hPc_10, va_K.moved hW.alike hK⟩⟩ rfl rfl hl.1 rfl (lv_room (Nat.le_of_ble_eq_true rfl)) dL_law_801 ⟨Nat.le_of_ble_eq_true rfl, Nat.le_of_ble_eq_true rfl⟩) (fun r_10 h_10 => ?_)
  subst h_10
  refine lv_icmp_eq (tgt := 1358) hx hb dL_law_804 (by decide) (fun _ => ?_) (fun c_ => absurd (by decide) c_)
  refine lv_iinc (v := 6) (lv' := [(3, .int 6), (2, .ref mo), (1, .ref x), (0, .ref b)]) hx hb dL_law_1358 hl (k := 0) rfl (by decide) (by decide) rfl (fun ls hl => ?_)
  refine lv_goto (tgt := 18) hx hb dL_law_1361 (by decide) ?_
  refine lv_iload_n hx hb dL_law_18 rfl (lv_at hl 0 rfl) ?_
  refine lv_aload_n hx hb dL_law_19 rfl (lv_at hl 3 rfl) ?_
  refine va_slen hx hb hX hbl hbA hS dL_law_20 ?_
  refine lv_topi (fun v_12 e_12 => ?_)
  obtain rfl : v_12 = 6 := (e_12).trans (by decide)
  refine lv_bipush (v := 6) hx hb dL_law_21 (by decide) ?_
  refine lv_isub hx hb dL_law_23 ?_
  refine lv_topi (fun v_13 e_13 => ?_)
  obtain rfl : v_13 = 0 := (e_13).trans (by decide)
  refine lv_icmp_gt (tgt := 1364) hx hb dL_law_24 (by decide) (fun _ => ?_) (fun c_ => absurd (by decide) c_)
  refine lv_iconst (v := 1) hx hb dL_law_1364 (by decide) ?_
  refine va_forget (fun q hq => by have q9 := hS.2.2 q hq; rw [hAd] at q9; exact q9) ?_
  refine W.widen (k := 600000) (n := 7302250) (Nat.le_of_ble_eq_true rfl) (Nat.le_of_ble_eq_true rfl) ?_
  exact lw_ret hx hb hr hlocks dL_law_1365
set_option maxHeartbeats 4000000 in
set_option maxRecDepth 100000 in
theorem lw_c21 {p : Program} {l : Launch} {e : Env} {s : State} {m : MethodId} {below : List Frame} {meth : Method} {c : Code} {b : Nat} {xs : Nat → Int32} {dC : Nat → ClassId} {dI : Nat → Nat → Nat} {cI cZ cL cJ : ClassId} {A : Nat → Prop} {H : Heap} {locs : List Loc} {ls : Array Slot} {sc1 sc2 sc3 sc4 sc5 : Int32} {x mo : Nat} {ro : Nat} {it : Nat} {la : Nat} {le : Nat} {fl : Nat → Int32} {ta : Nat} {bs : Nat} {td : Nat} {t1 : Nat} {t2 : Nat} {t3 : Nat} {t4 : Nat} {t5 : Nat} {no : Nat} {n1 : Nat} {n2 : Nat} {n3 : Nat} {n4 : Nat} {n5 : Nat} {ac : Nat} {be : Nat} {im : Nat} {fi : Nat → Option Nat} {i0 : Nat} {x1 : Nat} {x2 : Nat} {x3 : Nat} {x4 : Nat} {x5 : Nat} {i1 : Nat} {y1 : Nat} {y2 : Nat} {y3 : Nat} {y4 : Nat} {y5 : Nat} {tr : Nat} {pl : Nat} {cs : Nat} {ak : Nat} {tc : Nat} {m_la : Nat} {m_sz : Nat} {m_it : Nat} {m_st : Nat} {m_mv : Nat} {m_tp : Nat} {m_rd : Nat} {m_ac : Nat} {m_as : Nat} {m_wo : Nat} {m_ik : Nat} {m_ke : Nat} {m_tr : Nat} {fm : Nat → Int32} (hx : p.tables.exec = Jvm.exec) (hb : c.code = code) (hr : meth.sig.returnType = ret) (hml : c.maxLocals = 4) (hown : s.vm.findClass RL = some m.cls) (hts : ∀ w ∈ wsL_law, w.before #[Value.ref b] s = true) (hX : va_X b 6 xs s s.heap) (hbl : b < s.heap.size) (hlocks : meth.locks = false) (hAd : A = fun q => s.heap.size ≤ q) (hA : ∀ q : Nat, s.heap.size ≤ q → A q) (hbA : ¬ A b) (hsc1 : sc1 = xs 1) (hsc2 : sc2 = xs 2) (hsc3 : sc3 = xs 3) (hsc4 : sc4 = xs 4) (hsc5 : sc5 = xs 5) (hfl : ∀ j : Nat, j < 8 → fl j = -1) (hf0 : fi 0 = some i0) (hf1 : fi 1 = some i1) (hfm : ∀ j : Nat, j < 8 → fm j = -1) (hK : va_K (dC, dI) vwCl [(cI, .int), (cZ, .boolean), (cL, .object RX3), (cJ, .array .int)] s) (hP : va_P (dC, dI) vwCl [(x, .inr (7, [.ref ro, .ref ta, .ref no, .ref ac, .ref im, .ref tr, .ref pl, .ref cs, .ref ak, .int 0, .int 0])), (ro, .inr (5, [.ref it, .ref la, .ref le])), (la, .inl (cI, 8, .inl fl)), (le, .inl (cI, 8, .inl (fun _ => 0))), (it, .inl (cJ, 8, .inr (.inr (.inr (.inr (fun i => if i < 8 then some (it + 1 + i) else none)))))), ((it + 1 + 0), .inl (cI, 40, .inl (fun _ => 0))), ((it + 1 + 1), .inl (cI, 40, .inl (fun _ => 0))), ((it + 1 + 2), .inl (cI, 40, .inl (fun _ => 0))), ((it + 1 + 3), .inl (cI, 40, .inl (fun _ => 0))), ((it + 1 + 4), .inl (cI, 40, .inl (fun _ => 0))), ((it + 1 + 5), .inl (cI, 40, .inl (fun _ => 0))), ((it + 1 + 6), .inl (cI, 40, .inl (fun _ => 0))), ((it + 1 + 7), .inl (cI, 40, .inl (fun _ => 0))), (ta, .inr (6, [.ref bs, .int 0, .ref td, .int 0, .int 0, .int 0])), (bs, .inl (cI, 120, .inl (fun _ => 0))), (td, .inr (3, [.int 0, .int 0, .int 0, .int 0, .int 0, .int 0, .int 0, .int 0, .ref t1, .ref t2, .ref t3, .ref t4, .ref t5])), (no, .inr (3, [.int 0, .int 0, .int 0, .int 0, .int 0, .int 0, .int 0, .int 0, .ref n1, .ref n2, .ref n3, .ref n4, .ref n5])), (ac, .inr (0, [.ref be, .int 0, .int 0])), (im, .inl (cL, 2, .inr (.inr (.inr (.inr fi))))), (i0, .inr (3, [.int 0, .int 0, .int 0, .int 0, .int 0, .int 0, .int 0, .int 0, .ref x1, .ref x2, .ref x3, .ref x4, .ref x5])), (i1, .inr (3, [.int 0, .int 0, .int 0, .int 0, .int 0, .int 0, .int 0, .int 0, .ref y1, .ref y2, .ref y3, .ref y4, .ref y5])), (ak, .inr (1, [.ref tc, .int 0, .int 0, .int 0, .int 0, .int 0])), (mo, .inr (8, [.ref m_la, .ref m_sz, .ref m_it, .int 0, .int 0, .ref m_st, .ref m_mv, .ref m_tp, .int 0, .int 0, .int 0, .int 0, .int 0, .int 0, .int 0, .ref m_rd, .ref m_ac, .int 0, .ref m_as, .ref m_wo, .ref m_ik, .ref m_ke, .ref m_tr, .int 0])), (m_sz, .inl (cI, 8, .inl fm)), (m_st, .inl (cI, 38, .inl (fun _ => 0))), (m_ik, .inl (cZ, 2, .inl (fun _ => 0))), (m_la, .inl (cI, 8, .inl (fun _ => 0))), (m_it, .inl (cI, 320, .inl (fun _ => 0))), (m_tp, .inl (cI, 120, .inl (fun _ => 0))), (m_rd, .inl (cI, 38, .inl (fun _ => 0)))] H) (hD : va_D A [(x, .inr (7, [.ref ro, .ref ta, .ref no, .ref ac, .ref im, .ref tr, .ref pl, .ref cs, .ref ak, .int 0, .int 0])), (ro, .inr (5, [.ref it, .ref la, .ref le])), (la, .inl (cI, 8, .inl fl)), (le, .inl (cI, 8, .inl (fun _ => 0))), (it, .inl (cJ, 8, .inr (.inr (.inr (.inr (fun i => if i < 8 then some (it + 1 + i) else none)))))), ((it + 1 + 0), .inl (cI, 40, .inl (fun _ => 0))), ((it + 1 + 1), .inl (cI, 40, .inl (fun _ => 0))), ((it + 1 + 2), .inl (cI, 40, .inl (fun _ => 0))), ((it + 1 + 3), .inl (cI, 40, .inl (fun _ => 0))), ((it + 1 + 4), .inl (cI, 40, .inl (fun _ => 0))), ((it + 1 + 5), .inl (cI, 40, .inl (fun _ => 0))), ((it + 1 + 6), .inl (cI, 40, .inl (fun _ => 0))), ((it + 1 + 7), .inl (cI, 40, .inl (fun _ => 0))), (ta, .inr (6, [.ref bs, .int 0, .ref td, .int 0, .int 0, .int 0])), (bs, .inl (cI, 120, .inl (fun _ => 0))), (td, .inr (3, [.int 0, .int 0, .int 0, .int 0, .int 0, .int 0, .int 0, .int 0, .ref t1, .ref t2, .ref t3, .ref t4, .ref t5])), (no, .inr (3, [.int 0, .int 0, .int 0, .int 0, .int 0, .int 0, .int 0, .int 0, .ref n1, .ref n2, .ref n3, .ref n4, .ref n5])), (ac, .inr (0, [.ref be, .int 0, .int 0])), (im, .inl (cL, 2, .inr (.inr (.inr (.inr fi))))), (i0, .inr (3, [.int 0, .int 0, .int 0, .int 0, .int 0, .int 0, .int 0, .int 0, .ref x1, .ref x2, .ref x3, .ref x4, .ref x5])), (i1, .inr (3, [.int 0, .int 0, .int 0, .int 0, .int 0, .int 0, .int 0, .int 0, .ref y1, .ref y2, .ref y3, .ref y4, .ref y5])), (ak, .inr (1, [.ref tc, .int 0, .int 0, .int 0, .int 0, .int 0])), (mo, .inr (8, [.ref m_la, .ref m_sz, .ref m_it, .int 0, .int 0, .ref m_st, .ref m_mv, .ref m_tp, .int 0, .int 0, .int 0, .int 0, .int 0, .int 0, .int 0, .ref m_rd, .ref m_ac, .int 0, .ref m_as, .ref m_wo, .ref m_ik, .ref m_ke, .ref m_tr, .int 0])), (m_sz, .inl (cI, 8, .inl fm)), (m_st, .inl (cI, 38, .inl (fun _ => 0))), (m_ik, .inl (cZ, 2, .inl (fun _ => 0))), (m_la, .inl (cI, 8, .inl (fun _ => 0))), (m_it, .inl (cI, 320, .inl (fun _ => 0))), (m_tp, .inl (cI, 120, .inl (fun _ => 0))), (m_rd, .inl (cI, 38, .inl (fun _ => 0)))]) (hS : va_S A s.heap H locs) (hl : lv_has ls 4 [(3, .int 0), (2, .ref mo), (1, .ref x), (0, .ref b)]) : W p l e room_1 s m #[Value.ref b] below meth c H locs 277 3929 (lw_Z below #[Value.ref b] s) (F0 m 809 ls []) := by
  refine lv_aload_n hx hb dL_law_809 rfl (lv_at hl 2 rfl) ?_
  refine lv_aload_n hx hb dL_law_810 rfl (lv_at hl 3 rfl) ?_
  refine lv_iload_n hx hb dL_law_811 rfl (lv_at hl 0 rfl) ?_
  refine lv_iconst (v := 1) hx hb dL_law_812 (by decide) ?_
  refine lv_iadd hx hb dL_law_813 ?_
  refine lv_topi (fun v_1 e_1 => ?_)
  obtain rfl : v_1 = 1 := (e_1).trans (by decide)
  refine va_sld hx hb hX hbl hbA hS (by unfold vp_in; decide) dL_law_814 ?_
  refine lv_topi (fun v_2 e_2 => ?_)
  obtain rfl : sc1 = v_2 := ((e_2).trans hsc1.symm).symm
  refine lv_aload_n hx hb dL_law_815 rfl (lv_at hl 3 rfl) ?_
  refine lv_iload_n hx hb dL_law_816 rfl (lv_at hl 0 rfl) ?_
  refine lv_iconst (v := 2) hx hb dL_law_817 (by decide) ?_
  refine lv_iadd hx hb dL_law_818 ?_
  refine lv_topi (fun v_3 e_3 => ?_)
  obtain rfl : v_3 = 2 := (e_3).trans (by decide)
  refine va_sld hx hb hX hbl hbA hS (by unfold vp_in; decide) dL_law_819 ?_
  refine lv_topi (fun v_4 e_4 => ?_)
  obtain rfl : sc2 = v_4 := ((e_4).trans hsc2.symm).symm
  have hPc_5 := hP.sub (ws' := [(x, .inr (7, [.ref ro, .ref ta, .ref no, .ref ac, .ref im, .ref tr, .ref pl, .ref cs, .ref ak, .int 0, .int 0])), (no, .inr (3, [.int 0, .int 0, .int 0, .int 0, .int 0, .int 0, .int 0, .int 0, .ref n1, .ref n2, .ref n3, .ref n4, .ref n5]))]) [0, 16] rfl
  refine vp_callSi (W.runV (As := [.int sc1, .int sc2]) (rest := []) ⟨hx, hb, hml, hown, hts⟩ (c_X7_site l dC dI cI cZ cL cJ x ro ta no ac im tr pl cs ak n1 n2 n3 n4 n5 sc1 sc2 ) (cwV 2 hts gL_law_X7_site rfl rfl rfl (by decide +kernel) ⟨Nat.le_of_ble_eq_true rfl, Nat.le_of_ble_eq_true rfl⟩) ⟨fun a U g mk q => by obtain ⟨q0, qP, qK⟩ := q; exact ⟨q0, qP, va_K.moved (u := U) (U := U.calling g mk a) (Vm.Alike.refl U.vm) qK⟩, va_recv hK hP (ci := 7) (q0 := 0) rfl rfl, fun U hU hW => ⟨rfl, by rw [hU]; exact hPc_5, va_K.moved hW.alike hK⟩⟩ rfl rfl hl.1 rfl (lv_room (Nat.le_of_ble_eq_true rfl)) dL_law_820 ⟨Nat.le_of_ble_eq_true rfl, Nat.le_of_ble_eq_true rfl⟩) (fun r_5 h_5 => ?_)
  subst h_5
  refine lv_aload_n hx hb dL_law_823 rfl (lv_at hl 1 rfl) ?_
  refine lv_aload_n hx hb dL_law_824 rfl (lv_at hl 3 rfl) ?_
  refine lv_iload_n hx hb dL_law_825 rfl (lv_at hl 0 rfl) ?_
  refine lv_iconst (v := 1) hx hb dL_law_826 (by decide) ?_
  refine lv_iadd hx hb dL_law_827 ?_
  refine lv_topi (fun v_6 e_6 => ?_)
  obtain rfl : v_6 = 1 := (e_6).trans (by decide)
  refine va_sld hx hb hX hbl hbA hS (by unfold vp_in; decide) dL_law_828 ?_
  refine lv_topi (fun v_7 e_7 => ?_)
  obtain rfl : sc1 = v_7 := ((e_7).trans hsc1.symm).symm
  refine lv_aload_n hx hb dL_law_829 rfl (lv_at hl 3 rfl) ?_
  refine lv_iload_n hx hb dL_law_830 rfl (lv_at hl 0 rfl) ?_
  refine lv_iconst (v := 2) hx hb dL_law_831 (by decide) ?_
  refine lv_iadd hx hb dL_law_832 ?_
  refine lv_topi (fun v_8 e_8 => ?_)
  obtain rfl : v_8 = 2 := (e_8).trans (by decide)
  refine va_sld hx hb hX hbl hbA hS (by unfold vp_in; decide) dL_law_833 ?_
  refine lv_topi (fun v_9 e_9 => ?_)
  obtain rfl : sc2 = v_9 := ((e_9).trans hsc2.symm).symm
  have hPc_10 := hP.sub (ws' := [(mo, .inr (8, [.ref m_la, .ref m_sz, .ref m_it, .int 0, .int 0, .ref m_st, .ref m_mv, .ref m_tp, .int 0, .int 0, .int 0, .int 0, .int 0, .int 0, .int 0, .ref m_rd, .ref m_ac, .int 0, .ref m_as, .ref m_wo, .ref m_ik, .ref m_ke, .ref m_tr, .int 0]))]) [22] rfl
  refine vp_callSi (W.runV (As := [.int sc1, .int sc2]) (rest := [.int (-1000002)]) ⟨hx, hb, hml, hown, hts⟩ (c_X8_site l dC dI cI cZ cL cJ mo m_la m_sz m_it m_st m_mv m_tp m_rd m_ac m_as m_wo m_ik m_ke m_tr sc1 sc2 ) (cwV 2 hts gL_law_X8_site rfl rfl rfl (by decide +kernel) ⟨Nat.le_of_ble_eq_true rfl, Nat.le_of_ble_eq_true rfl⟩) ⟨fun a U g mk q => by obtain ⟨q0, qP, qK⟩ := q; exact ⟨q0, qP, va_K.moved (u := U) (U := U.calling g mk a) (Vm.Alike.refl U.vm) qK⟩, va_recv hK hP (ci := 8) (q0 := 22) rfl rfl, fun U hU hW => ⟨rfl, by rw [hU]; exact hPc_10, va_K.moved hW.alike hK⟩⟩ rfl rfl hl.1 rfl (lv_room (Nat.le_of_ble_eq_true rfl)) dL_law_834 ⟨Nat.le_of_ble_eq_true rfl, Nat.le_of_ble_eq_true rfl⟩) (fun r_10 h_10 => ?_)
  subst h_10
  refine lv_icmp_eq (tgt := 1358) hx hb dL_law_837 (by decide) (fun _ => ?_) (fun c_ => absurd (by decide) c_)
  refine lv_iinc (v := 6) (lv' := [(3, .int 6), (2, .ref mo), (1, .ref x), (0, .ref b)]) hx hb dL_law_1358 hl (k := 0) rfl (by decide) (by decide) rfl (fun ls hl => ?_)
  refine lv_goto (tgt := 18) hx hb dL_law_1361 (by decide) ?_
  refine lv_iload_n hx hb dL_law_18 rfl (lv_at hl 0 rfl) ?_
  refine lv_aload_n hx hb dL_law_19 rfl (lv_at hl 3 rfl) ?_
  refine va_slen hx hb hX hbl hbA hS dL_law_20 ?_
  refine lv_topi (fun v_12 e_12 => ?_)
  obtain rfl : v_12 = 6 := (e_12).trans (by decide)
  refine lv_bipush (v := 6) hx hb dL_law_21 (by decide) ?_
  refine lv_isub hx hb dL_law_23 ?_
  refine lv_topi (fun v_13 e_13 => ?_)
  obtain rfl : v_13 = 0 := (e_13).trans (by decide)
  refine lv_icmp_gt (tgt := 1364) hx hb dL_law_24 (by decide) (fun _ => ?_) (fun c_ => absurd (by decide) c_)
  refine lv_iconst (v := 1) hx hb dL_law_1364 (by decide) ?_
  refine va_forget (fun q hq => by have q9 := hS.2.2 q hq; rw [hAd] at q9; exact q9) ?_
  refine W.widen (k := 600000) (n := 7302250) (Nat.le_of_ble_eq_true rfl) (Nat.le_of_ble_eq_true rfl) ?_
  exact lw_ret hx hb hr hlocks dL_law_1365
set_option maxHeartbeats 4000000 in
set_option maxRecDepth 100000 in
theorem lw_c22 {p : Program} {l : Launch} {e : Env} {s : State} {m : MethodId} {below : List Frame} {meth : Method} {c : Code} {b : Nat} {xs : Nat → Int32} {dC : Nat → ClassId} {dI : Nat → Nat → Nat} {cI cZ cL cJ : ClassId} {A : Nat → Prop} {H : Heap} {locs : List Loc} {ls : Array Slot} {sc1 sc2 sc3 sc4 sc5 : Int32} {x mo : Nat} {ro : Nat} {it : Nat} {la : Nat} {le : Nat} {fl : Nat → Int32} {ta : Nat} {bs : Nat} {td : Nat} {t1 : Nat} {t2 : Nat} {t3 : Nat} {t4 : Nat} {t5 : Nat} {no : Nat} {n1 : Nat} {n2 : Nat} {n3 : Nat} {n4 : Nat} {n5 : Nat} {ac : Nat} {be : Nat} {im : Nat} {fi : Nat → Option Nat} {i0 : Nat} {x1 : Nat} {x2 : Nat} {x3 : Nat} {x4 : Nat} {x5 : Nat} {i1 : Nat} {y1 : Nat} {y2 : Nat} {y3 : Nat} {y4 : Nat} {y5 : Nat} {tr : Nat} {pl : Nat} {cs : Nat} {ak : Nat} {tc : Nat} {m_la : Nat} {m_sz : Nat} {m_it : Nat} {m_st : Nat} {m_mv : Nat} {m_tp : Nat} {m_rd : Nat} {m_ac : Nat} {m_as : Nat} {m_wo : Nat} {m_ik : Nat} {m_ke : Nat} {m_tr : Nat} {fm : Nat → Int32} (hx : p.tables.exec = Jvm.exec) (hb : c.code = code) (hr : meth.sig.returnType = ret) (hml : c.maxLocals = 4) (hown : s.vm.findClass RL = some m.cls) (hts : ∀ w ∈ wsL_law, w.before #[Value.ref b] s = true) (hX : va_X b 6 xs s s.heap) (hbl : b < s.heap.size) (hlocks : meth.locks = false) (hAd : A = fun q => s.heap.size ≤ q) (hA : ∀ q : Nat, s.heap.size ≤ q → A q) (hbA : ¬ A b) (hsc1 : sc1 = xs 1) (hsc2 : sc2 = xs 2) (hsc3 : sc3 = xs 3) (hsc4 : sc4 = xs 4) (hsc5 : sc5 = xs 5) (hfl : ∀ j : Nat, j < 8 → fl j = -1) (hf0 : fi 0 = some i0) (hf1 : fi 1 = some i1) (hfm : ∀ j : Nat, j < 8 → fm j = -1) (hK : va_K (dC, dI) vwCl [(cI, .int), (cZ, .boolean), (cL, .object RX3), (cJ, .array .int)] s) (hP : va_P (dC, dI) vwCl [(x, .inr (7, [.ref ro, .ref ta, .ref no, .ref ac, .ref im, .ref tr, .ref pl, .ref cs, .ref ak, .int 0, .int 0])), (ro, .inr (5, [.ref it, .ref la, .ref le])), (la, .inl (cI, 8, .inl fl)), (le, .inl (cI, 8, .inl (fun _ => 0))), (it, .inl (cJ, 8, .inr (.inr (.inr (.inr (fun i => if i < 8 then some (it + 1 + i) else none)))))), ((it + 1 + 0), .inl (cI, 40, .inl (fun _ => 0))), ((it + 1 + 1), .inl (cI, 40, .inl (fun _ => 0))), ((it + 1 + 2), .inl (cI, 40, .inl (fun _ => 0))), ((it + 1 + 3), .inl (cI, 40, .inl (fun _ => 0))), ((it + 1 + 4), .inl (cI, 40, .inl (fun _ => 0))), ((it + 1 + 5), .inl (cI, 40, .inl (fun _ => 0))), ((it + 1 + 6), .inl (cI, 40, .inl (fun _ => 0))), ((it + 1 + 7), .inl (cI, 40, .inl (fun _ => 0))), (ta, .inr (6, [.ref bs, .int 0, .ref td, .int 0, .int 0, .int 0])), (bs, .inl (cI, 120, .inl (fun _ => 0))), (td, .inr (3, [.int 0, .int 0, .int 0, .int 0, .int 0, .int 0, .int 0, .int 0, .ref t1, .ref t2, .ref t3, .ref t4, .ref t5])), (no, .inr (3, [.int 0, .int 0, .int 0, .int 0, .int 0, .int 0, .int 0, .int 0, .ref n1, .ref n2, .ref n3, .ref n4, .ref n5])), (ac, .inr (0, [.ref be, .int 0, .int 0])), (im, .inl (cL, 2, .inr (.inr (.inr (.inr fi))))), (i0, .inr (3, [.int 0, .int 0, .int 0, .int 0, .int 0, .int 0, .int 0, .int 0, .ref x1, .ref x2, .ref x3, .ref x4, .ref x5])), (i1, .inr (3, [.int 0, .int 0, .int 0, .int 0, .int 0, .int 0, .int 0, .int 0, .ref y1, .ref y2, .ref y3, .ref y4, .ref y5])), (ak, .inr (1, [.ref tc, .int 0, .int 0, .int 0, .int 0, .int 0])), (mo, .inr (8, [.ref m_la, .ref m_sz, .ref m_it, .int 0, .int 0, .ref m_st, .ref m_mv, .ref m_tp, .int 0, .int 0, .int 0, .int 0, .int 0, .int 0, .int 0, .ref m_rd, .ref m_ac, .int 0, .ref m_as, .ref m_wo, .ref m_ik, .ref m_ke, .ref m_tr, .int 0])), (m_sz, .inl (cI, 8, .inl fm)), (m_st, .inl (cI, 38, .inl (fun _ => 0))), (m_ik, .inl (cZ, 2, .inl (fun _ => 0))), (m_la, .inl (cI, 8, .inl (fun _ => 0))), (m_it, .inl (cI, 320, .inl (fun _ => 0))), (m_tp, .inl (cI, 120, .inl (fun _ => 0))), (m_rd, .inl (cI, 38, .inl (fun _ => 0)))] H) (hD : va_D A [(x, .inr (7, [.ref ro, .ref ta, .ref no, .ref ac, .ref im, .ref tr, .ref pl, .ref cs, .ref ak, .int 0, .int 0])), (ro, .inr (5, [.ref it, .ref la, .ref le])), (la, .inl (cI, 8, .inl fl)), (le, .inl (cI, 8, .inl (fun _ => 0))), (it, .inl (cJ, 8, .inr (.inr (.inr (.inr (fun i => if i < 8 then some (it + 1 + i) else none)))))), ((it + 1 + 0), .inl (cI, 40, .inl (fun _ => 0))), ((it + 1 + 1), .inl (cI, 40, .inl (fun _ => 0))), ((it + 1 + 2), .inl (cI, 40, .inl (fun _ => 0))), ((it + 1 + 3), .inl (cI, 40, .inl (fun _ => 0))), ((it + 1 + 4), .inl (cI, 40, .inl (fun _ => 0))), ((it + 1 + 5), .inl (cI, 40, .inl (fun _ => 0))), ((it + 1 + 6), .inl (cI, 40, .inl (fun _ => 0))), ((it + 1 + 7), .inl (cI, 40, .inl (fun _ => 0))), (ta, .inr (6, [.ref bs, .int 0, .ref td, .int 0, .int 0, .int 0])), (bs, .inl (cI, 120, .inl (fun _ => 0))), (td, .inr (3, [.int 0, .int 0, .int 0, .int 0, .int 0, .int 0, .int 0, .int 0, .ref t1, .ref t2, .ref t3, .ref t4, .ref t5])), (no, .inr (3, [.int 0, .int 0, .int 0, .int 0, .int 0, .int 0, .int 0, .int 0, .ref n1, .ref n2, .ref n3, .ref n4, .ref n5])), (ac, .inr (0, [.ref be, .int 0, .int 0])), (im, .inl (cL, 2, .inr (.inr (.inr (.inr fi))))), (i0, .inr (3, [.int 0, .int 0, .int 0, .int 0, .int 0, .int 0, .int 0, .int 0, .ref x1, .ref x2, .ref x3, .ref x4, .ref x5])), (i1, .inr (3, [.int 0, .int 0, .int 0, .int 0, .int 0, .int 0, .int 0, .int 0, .ref y1, .ref y2, .ref y3, .ref y4, .ref y5])), (ak, .inr (1, [.ref tc, .int 0, .int 0, .int 0, .int 0, .int 0])), (mo, .inr (8, [.ref m_la, .ref m_sz, .ref m_it, .int 0, .int 0, .ref m_st, .ref m_mv, .ref m_tp, .int 0, .int 0, .int 0, .int 0, .int 0, .int 0, .int 0, .ref m_rd, .ref m_ac, .int 0, .ref m_as, .ref m_wo, .ref m_ik, .ref m_ke, .ref m_tr, .int 0])), (m_sz, .inl (cI, 8, .inl fm)), (m_st, .inl (cI, 38, .inl (fun _ => 0))), (m_ik, .inl (cZ, 2, .inl (fun _ => 0))), (m_la, .inl (cI, 8, .inl (fun _ => 0))), (m_it, .inl (cI, 320, .inl (fun _ => 0))), (m_tp, .inl (cI, 120, .inl (fun _ => 0))), (m_rd, .inl (cI, 38, .inl (fun _ => 0)))]) (hS : va_S A s.heap H locs) (hl : lv_has ls 4 [(3, .int 0), (2, .ref mo), (1, .ref x), (0, .ref b)]) : W p l e room_1 s m #[Value.ref b] below meth c H locs 277 3929 (lw_Z below #[Value.ref b] s) (F0 m 842 ls []) := by
  refine lv_aload_n hx hb dL_law_842 rfl (lv_at hl 2 rfl) ?_
  refine lv_aload_n hx hb dL_law_843 rfl (lv_at hl 3 rfl) ?_
  refine lv_iload_n hx hb dL_law_844 rfl (lv_at hl 0 rfl) ?_
  refine lv_iconst (v := 1) hx hb dL_law_845 (by decide) ?_
  refine lv_iadd hx hb dL_law_846 ?_
  refine lv_topi (fun v_1 e_1 => ?_)
  obtain rfl : v_1 = 1 := (e_1).trans (by decide)
  refine va_sld hx hb hX hbl hbA hS (by unfold vp_in; decide) dL_law_847 ?_
  refine lv_topi (fun v_2 e_2 => ?_)
  obtain rfl : sc1 = v_2 := ((e_2).trans hsc1.symm).symm
  refine lv_aload_n hx hb dL_law_848 rfl (lv_at hl 3 rfl) ?_
  refine lv_iload_n hx hb dL_law_849 rfl (lv_at hl 0 rfl) ?_
  refine lv_iconst (v := 2) hx hb dL_law_850 (by decide) ?_
  refine lv_iadd hx hb dL_law_851 ?_
  refine lv_topi (fun v_3 e_3 => ?_)
  obtain rfl : v_3 = 2 := (e_3).trans (by decide)
  refine va_sld hx hb hX hbl hbA hS (by unfold vp_in; decide) dL_law_852 ?_
  refine lv_topi (fun v_4 e_4 => ?_)
  obtain rfl : sc2 = v_4 := ((e_4).trans hsc2.symm).symm
  have hPc_5 := hP.sub (ws' := [(x, .inr (7, [.ref ro, .ref ta, .ref no, .ref ac, .ref im, .ref tr, .ref pl, .ref cs, .ref ak, .int 0, .int 0])), (no, .inr (3, [.int 0, .int 0, .int 0, .int 0, .int 0, .int 0, .int 0, .int 0, .ref n1, .ref n2, .ref n3, .ref n4, .ref n5]))]) [0, 16] rfl
  refine vp_callSi (W.runV (As := [.int sc1, .int sc2]) (rest := []) ⟨hx, hb, hml, hown, hts⟩ (c_X7_sack l dC dI cI cZ cL cJ x ro ta no ac im tr pl cs ak n1 n2 n3 n4 n5 sc1 sc2 ) (cwV 2 hts gL_law_X7_sack rfl rfl rfl (by decide +kernel) ⟨Nat.le_of_ble_eq_true rfl, Nat.le_of_ble_eq_true rfl⟩) ⟨fun a U g mk q => by obtain ⟨q0, qP, qK⟩ := q; exact ⟨q0, qP, va_K.moved (u := U) (U := U.calling g mk a) (Vm.Alike.refl U.vm) qK⟩, va_recv hK hP (ci := 7) (q0 := 0) rfl rfl, fun U hU hW => ⟨rfl, by rw [hU]; exact hPc_5, va_K.moved hW.alike hK⟩⟩ rfl rfl hl.1 rfl (lv_room (Nat.le_of_ble_eq_true rfl)) dL_law_853 ⟨Nat.le_of_ble_eq_true rfl, Nat.le_of_ble_eq_true rfl⟩) (fun r_5 h_5 => ?_)
  subst h_5
  refine lv_aload_n hx hb dL_law_856 rfl (lv_at hl 1 rfl) ?_
  refine lv_aload_n hx hb dL_law_857 rfl (lv_at hl 3 rfl) ?_
  refine lv_iload_n hx hb dL_law_858 rfl (lv_at hl 0 rfl) ?_
  refine lv_iconst (v := 1) hx hb dL_law_859 (by decide) ?_
  refine lv_iadd hx hb dL_law_860 ?_
  refine lv_topi (fun v_6 e_6 => ?_)
  obtain rfl : v_6 = 1 := (e_6).trans (by decide)
  refine va_sld hx hb hX hbl hbA hS (by unfold vp_in; decide) dL_law_861 ?_
  refine lv_topi (fun v_7 e_7 => ?_)
  obtain rfl : sc1 = v_7 := ((e_7).trans hsc1.symm).symm
  refine lv_aload_n hx hb dL_law_862 rfl (lv_at hl 3 rfl) ?_
  refine lv_iload_n hx hb dL_law_863 rfl (lv_at hl 0 rfl) ?_
  refine lv_iconst (v := 2) hx hb dL_law_864 (by decide) ?_
  refine lv_iadd hx hb dL_law_865 ?_
  refine lv_topi (fun v_8 e_8 => ?_)
  obtain rfl : v_8 = 2 := (e_8).trans (by decide)
  refine va_sld hx hb hX hbl hbA hS (by unfold vp_in; decide) dL_law_866 ?_
  refine lv_topi (fun v_9 e_9 => ?_)
  obtain rfl : sc2 = v_9 := ((e_9).trans hsc2.symm).symm
  have hPc_10 := hP.sub (ws' := [(mo, .inr (8, [.ref m_la, .ref m_sz, .ref m_it, .int 0, .int 0, .ref m_st, .ref m_mv, .ref m_tp, .int 0, .int 0, .int 0, .int 0, .int 0, .int 0, .int 0, .ref m_rd, .ref m_ac, .int 0, .ref m_as, .ref m_wo, .ref m_ik, .ref m_ke, .ref m_tr, .int 0]))]) [22] rfl
  refine vp_callSi (W.runV (As := [.int sc1, .int sc2]) (rest := [.int (-1000002)]) ⟨hx, hb, hml, hown, hts⟩ (c_X8_sack l dC dI cI cZ cL cJ mo m_la m_sz m_it m_st m_mv m_tp m_rd m_ac m_as m_wo m_ik m_ke m_tr sc1 sc2 ) (cwV 2 hts gL_law_X8_sack rfl rfl rfl (by decide +kernel) ⟨Nat.le_of_ble_eq_true rfl, Nat.le_of_ble_eq_true rfl⟩) ⟨fun a U g mk q => by obtain ⟨q0, qP, qK⟩ := q; exact ⟨q0, qP, va_K.moved (u := U) (U := U.calling g mk a) (Vm.Alike.refl U.vm) qK⟩, va_recv hK hP (ci := 8) (q0 := 22) rfl rfl, fun U hU hW => ⟨rfl, by rw [hU]; exact hPc_10, va_K.moved hW.alike hK⟩⟩ rfl rfl hl.1 rfl (lv_room (Nat.le_of_ble_eq_true rfl)) dL_law_867 ⟨Nat.le_of_ble_eq_true rfl, Nat.le_of_ble_eq_true rfl⟩) (fun r_10 h_10 => ?_)
  subst h_10
  refine lv_icmp_eq (tgt := 1358) hx hb dL_law_870 (by decide) (fun _ => ?_) (fun c_ => absurd (by decide) c_)
  refine lv_iinc (v := 6) (lv' := [(3, .int 6), (2, .ref mo), (1, .ref x), (0, .ref b)]) hx hb dL_law_1358 hl (k := 0) rfl (by decide) (by decide) rfl (fun ls hl => ?_)
  refine lv_goto (tgt := 18) hx hb dL_law_1361 (by decide) ?_
  refine lv_iload_n hx hb dL_law_18 rfl (lv_at hl 0 rfl) ?_
  refine lv_aload_n hx hb dL_law_19 rfl (lv_at hl 3 rfl) ?_
  refine va_slen hx hb hX hbl hbA hS dL_law_20 ?_
  refine lv_topi (fun v_12 e_12 => ?_)
  obtain rfl : v_12 = 6 := (e_12).trans (by decide)
  refine lv_bipush (v := 6) hx hb dL_law_21 (by decide) ?_
  refine lv_isub hx hb dL_law_23 ?_
  refine lv_topi (fun v_13 e_13 => ?_)
  obtain rfl : v_13 = 0 := (e_13).trans (by decide)
  refine lv_icmp_gt (tgt := 1364) hx hb dL_law_24 (by decide) (fun _ => ?_) (fun c_ => absurd (by decide) c_)
  refine lv_iconst (v := 1) hx hb dL_law_1364 (by decide) ?_
  refine va_forget (fun q hq => by have q9 := hS.2.2 q hq; rw [hAd] at q9; exact q9) ?_
  refine W.widen (k := 600000) (n := 7302250) (Nat.le_of_ble_eq_true rfl) (Nat.le_of_ble_eq_true rfl) ?_
  exact lw_ret hx hb hr hlocks dL_law_1365
set_option maxHeartbeats 4000000 in
set_option maxRecDepth 100000 in
theorem lw_c23 {p : Program} {l : Launch} {e : Env} {s : State} {m : MethodId} {below : List Frame} {meth : Method} {c : Code} {b : Nat} {xs : Nat → Int32} {dC : Nat → ClassId} {dI : Nat → Nat → Nat} {cI cZ cL cJ : ClassId} {A : Nat → Prop} {H : Heap} {locs : List Loc} {ls : Array Slot} {sc1 sc2 sc3 sc4 sc5 : Int32} {x mo : Nat} {ro : Nat} {it : Nat} {la : Nat} {le : Nat} {fl : Nat → Int32} {ta : Nat} {bs : Nat} {td : Nat} {t1 : Nat} {t2 : Nat} {t3 : Nat} {t4 : Nat} {t5 : Nat} {no : Nat} {n1 : Nat} {n2 : Nat} {n3 : Nat} {n4 : Nat} {n5 : Nat} {ac : Nat} {be : Nat} {im : Nat} {fi : Nat → Option Nat} {i0 : Nat} {x1 : Nat} {x2 : Nat} {x3 : Nat} {x4 : Nat} {x5 : Nat} {i1 : Nat} {y1 : Nat} {y2 : Nat} {y3 : Nat} {y4 : Nat} {y5 : Nat} {tr : Nat} {pl : Nat} {cs : Nat} {ak : Nat} {tc : Nat} {m_la : Nat} {m_sz : Nat} {m_it : Nat} {m_st : Nat} {m_mv : Nat} {m_tp : Nat} {m_rd : Nat} {m_ac : Nat} {m_as : Nat} {m_wo : Nat} {m_ik : Nat} {m_ke : Nat} {m_tr : Nat} {fm : Nat → Int32} (hx : p.tables.exec = Jvm.exec) (hb : c.code = code) (hr : meth.sig.returnType = ret) (hml : c.maxLocals = 4) (hown : s.vm.findClass RL = some m.cls) (hts : ∀ w ∈ wsL_law, w.before #[Value.ref b] s = true) (hX : va_X b 6 xs s s.heap) (hbl : b < s.heap.size) (hlocks : meth.locks = false) (hAd : A = fun q => s.heap.size ≤ q) (hA : ∀ q : Nat, s.heap.size ≤ q → A q) (hbA : ¬ A b) (hsc1 : sc1 = xs 1) (hsc2 : sc2 = xs 2) (hsc3 : sc3 = xs 3) (hsc4 : sc4 = xs 4) (hsc5 : sc5 = xs 5) (hfl : ∀ j : Nat, j < 8 → fl j = -1) (hf0 : fi 0 = some i0) (hf1 : fi 1 = some i1) (hfm : ∀ j : Nat, j < 8 → fm j = -1) (hK : va_K (dC, dI) vwCl [(cI, .int), (cZ, .boolean), (cL, .object RX3), (cJ, .array .int)] s) (hP : va_P (dC, dI) vwCl [(x, .inr (7, [.ref ro, .ref ta, .ref no, .ref ac, .ref im, .ref tr, .ref pl, .ref cs, .ref ak, .int 0, .int 0])), (ro, .inr (5, [.ref it, .ref la, .ref le])), (la, .inl (cI, 8, .inl fl)), (le, .inl (cI, 8, .inl (fun _ => 0))), (it, .inl (cJ, 8, .inr (.inr (.inr (.inr (fun i => if i < 8 then some (it + 1 + i) else none)))))), ((it + 1 + 0), .inl (cI, 40, .inl (fun _ => 0))), ((it + 1 + 1), .inl (cI, 40, .inl (fun _ => 0))), ((it + 1 + 2), .inl (cI, 40, .inl (fun _ => 0))), ((it + 1 + 3), .inl (cI, 40, .inl (fun _ => 0))), ((it + 1 + 4), .inl (cI, 40, .inl (fun _ => 0))), ((it + 1 + 5), .inl (cI, 40, .inl (fun _ => 0))), ((it + 1 + 6), .inl (cI, 40, .inl (fun _ => 0))), ((it + 1 + 7), .inl (cI, 40, .inl (fun _ => 0))), (ta, .inr (6, [.ref bs, .int 0, .ref td, .int 0, .int 0, .int 0])), (bs, .inl (cI, 120, .inl (fun _ => 0))), (td, .inr (3, [.int 0, .int 0, .int 0, .int 0, .int 0, .int 0, .int 0, .int 0, .ref t1, .ref t2, .ref t3, .ref t4, .ref t5])), (no, .inr (3, [.int 0, .int 0, .int 0, .int 0, .int 0, .int 0, .int 0, .int 0, .ref n1, .ref n2, .ref n3, .ref n4, .ref n5])), (ac, .inr (0, [.ref be, .int 0, .int 0])), (im, .inl (cL, 2, .inr (.inr (.inr (.inr fi))))), (i0, .inr (3, [.int 0, .int 0, .int 0, .int 0, .int 0, .int 0, .int 0, .int 0, .ref x1, .ref x2, .ref x3, .ref x4, .ref x5])), (i1, .inr (3, [.int 0, .int 0, .int 0, .int 0, .int 0, .int 0, .int 0, .int 0, .ref y1, .ref y2, .ref y3, .ref y4, .ref y5])), (ak, .inr (1, [.ref tc, .int 0, .int 0, .int 0, .int 0, .int 0])), (mo, .inr (8, [.ref m_la, .ref m_sz, .ref m_it, .int 0, .int 0, .ref m_st, .ref m_mv, .ref m_tp, .int 0, .int 0, .int 0, .int 0, .int 0, .int 0, .int 0, .ref m_rd, .ref m_ac, .int 0, .ref m_as, .ref m_wo, .ref m_ik, .ref m_ke, .ref m_tr, .int 0])), (m_sz, .inl (cI, 8, .inl fm)), (m_st, .inl (cI, 38, .inl (fun _ => 0))), (m_ik, .inl (cZ, 2, .inl (fun _ => 0))), (m_la, .inl (cI, 8, .inl (fun _ => 0))), (m_it, .inl (cI, 320, .inl (fun _ => 0))), (m_tp, .inl (cI, 120, .inl (fun _ => 0))), (m_rd, .inl (cI, 38, .inl (fun _ => 0)))] H) (hD : va_D A [(x, .inr (7, [.ref ro, .ref ta, .ref no, .ref ac, .ref im, .ref tr, .ref pl, .ref cs, .ref ak, .int 0, .int 0])), (ro, .inr (5, [.ref it, .ref la, .ref le])), (la, .inl (cI, 8, .inl fl)), (le, .inl (cI, 8, .inl (fun _ => 0))), (it, .inl (cJ, 8, .inr (.inr (.inr (.inr (fun i => if i < 8 then some (it + 1 + i) else none)))))), ((it + 1 + 0), .inl (cI, 40, .inl (fun _ => 0))), ((it + 1 + 1), .inl (cI, 40, .inl (fun _ => 0))), ((it + 1 + 2), .inl (cI, 40, .inl (fun _ => 0))), ((it + 1 + 3), .inl (cI, 40, .inl (fun _ => 0))), ((it + 1 + 4), .inl (cI, 40, .inl (fun _ => 0))), ((it + 1 + 5), .inl (cI, 40, .inl (fun _ => 0))), ((it + 1 + 6), .inl (cI, 40, .inl (fun _ => 0))), ((it + 1 + 7), .inl (cI, 40, .inl (fun _ => 0))), (ta, .inr (6, [.ref bs, .int 0, .ref td, .int 0, .int 0, .int 0])), (bs, .inl (cI, 120, .inl (fun _ => 0))), (td, .inr (3, [.int 0, .int 0, .int 0, .int 0, .int 0, .int 0, .int 0, .int 0, .ref t1, .ref t2, .ref t3, .ref t4, .ref t5])), (no, .inr (3, [.int 0, .int 0, .int 0, .int 0, .int 0, .int 0, .int 0, .int 0, .ref n1, .ref n2, .ref n3, .ref n4, .ref n5])), (ac, .inr (0, [.ref be, .int 0, .int 0])), (im, .inl (cL, 2, .inr (.inr (.inr (.inr fi))))), (i0, .inr (3, [.int 0, .int 0, .int 0, .int 0, .int 0, .int 0, .int 0, .int 0, .ref x1, .ref x2, .ref x3, .ref x4, .ref x5])), (i1, .inr (3, [.int 0, .int 0, .int 0, .int 0, .int 0, .int 0, .int 0, .int 0, .ref y1, .ref y2, .ref y3, .ref y4, .ref y5])), (ak, .inr (1, [.ref tc, .int 0, .int 0, .int 0, .int 0, .int 0])), (mo, .inr (8, [.ref m_la, .ref m_sz, .ref m_it, .int 0, .int 0, .ref m_st, .ref m_mv, .ref m_tp, .int 0, .int 0, .int 0, .int 0, .int 0, .int 0, .int 0, .ref m_rd, .ref m_ac, .int 0, .ref m_as, .ref m_wo, .ref m_ik, .ref m_ke, .ref m_tr, .int 0])), (m_sz, .inl (cI, 8, .inl fm)), (m_st, .inl (cI, 38, .inl (fun _ => 0))), (m_ik, .inl (cZ, 2, .inl (fun _ => 0))), (m_la, .inl (cI, 8, .inl (fun _ => 0))), (m_it, .inl (cI, 320, .inl (fun _ => 0))), (m_tp, .inl (cI, 120, .inl (fun _ => 0))), (m_rd, .inl (cI, 38, .inl (fun _ => 0)))]) (hS : va_S A s.heap H locs) (hl : lv_has ls 4 [(3, .int 0), (2, .ref mo), (1, .ref x), (0, .ref b)]) : W p l e room_1 s m #[Value.ref b] below meth c H locs 277 3929 (lw_Z below #[Value.ref b] s) (F0 m 875 ls []) := by
  refine lv_aload_n hx hb dL_law_875 rfl (lv_at hl 2 rfl) ?_
  refine lv_aload_n hx hb dL_law_876 rfl (lv_at hl 3 rfl) ?_
  refine lv_iload_n hx hb dL_law_877 rfl (lv_at hl 0 rfl) ?_
  refine lv_iconst (v := 1) hx hb dL_law_878 (by decide) ?_
  refine lv_iadd hx hb dL_law_879 ?_
  refine lv_topi (fun v_1 e_1 => ?_)
  obtain rfl : v_1 = 1 := (e_1).trans (by decide)
  refine va_sld hx hb hX hbl hbA hS (by unfold vp_in; decide) dL_law_880 ?_
  refine lv_topi (fun v_2 e_2 => ?_)
  obtain rfl : sc1 = v_2 := ((e_2).trans hsc1.symm).symm
  refine lv_aload_n hx hb dL_law_881 rfl (lv_at hl 3 rfl) ?_
  refine lv_iload_n hx hb dL_law_882 rfl (lv_at hl 0 rfl) ?_
  refine lv_iconst (v := 2) hx hb dL_law_883 (by decide) ?_
  refine lv_iadd hx hb dL_law_884 ?_
  refine lv_topi (fun v_3 e_3 => ?_)
  obtain rfl : v_3 = 2 := (e_3).trans (by decide)
  refine va_sld hx hb hX hbl hbA hS (by unfold vp_in; decide) dL_law_885 ?_
  refine lv_topi (fun v_4 e_4 => ?_)
  obtain rfl : sc2 = v_4 := ((e_4).trans hsc2.symm).symm
  have hPc_5 := hP.sub (ws' := [(x, .inr (7, [.ref ro, .ref ta, .ref no, .ref ac, .ref im, .ref tr, .ref pl, .ref cs, .ref ak, .int 0, .int 0])), (no, .inr (3, [.int 0, .int 0, .int 0, .int 0, .int 0, .int 0, .int 0, .int 0, .ref n1, .ref n2, .ref n3, .ref n4, .ref n5]))]) [0, 16] rfl
  refine vp_callSi (W.runV (As := [.int sc1, .int sc2]) (rest := []) ⟨hx, hb, hml, hown, hts⟩ (c_X7_share l dC dI cI cZ cL cJ x ro ta no ac im tr pl cs ak n1 n2 n3 n4 n5 sc1 sc2 ) (cwV 2 hts gL_law_X7_share rfl rfl rfl (by decide +kernel) ⟨Nat.le_of_ble_eq_true rfl, Nat.le_of_ble_eq_true rfl⟩) ⟨fun a U g mk q => by obtain ⟨q0, qP, qK⟩ := q; exact ⟨q0, qP, va_K.moved (u := U) (U := U.calling g mk a) (Vm.Alike.refl U.vm) qK⟩, va_recv hK hP (ci := 7) (q0 := 0) rfl rfl, fun U hU hW => ⟨rfl, by rw [hU]; exact hPc_5, va_K.moved hW.alike hK⟩⟩ rfl rfl hl.1 rfl (lv_room (Nat.le_of_ble_eq_true rfl)) dL_law_886 ⟨Nat.le_of_ble_eq_true rfl, Nat.le_of_ble_eq_true rfl⟩) (fun r_5 h_5 => ?_)
  subst h_5
  refine lv_aload_n hx hb dL_law_889 rfl (lv_at hl 1 rfl) ?_
  refine lv_aload_n hx hb dL_law_890 rfl (lv_at hl 3 rfl) ?_
  refine lv_iload_n hx hb dL_law_891 rfl (lv_at hl 0 rfl) ?_
  refine lv_iconst (v := 1) hx hb dL_law_892 (by decide) ?_
  refine lv_iadd hx hb dL_law_893 ?_
  refine lv_topi (fun v_6 e_6 => ?_)
  obtain rfl : v_6 = 1 := (e_6).trans (by decide)
  refine va_sld hx hb hX hbl hbA hS (by unfold vp_in; decide) dL_law_894 ?_
  refine lv_topi (fun v_7 e_7 => ?_)
  obtain rfl : sc1 = v_7 := ((e_7).trans hsc1.symm).symm
  refine lv_aload_n hx hb dL_law_895 rfl (lv_at hl 3 rfl) ?_
  refine lv_iload_n hx hb dL_law_896 rfl (lv_at hl 0 rfl) ?_
  refine lv_iconst (v := 2) hx hb dL_law_897 (by decide) ?_
  refine lv_iadd hx hb dL_law_898 ?_
  refine lv_topi (fun v_8 e_8 => ?_)
  obtain rfl : v_8 = 2 := (e_8).trans (by decide)
  refine va_sld hx hb hX hbl hbA hS (by unfold vp_in; decide) dL_law_899 ?_
  refine lv_topi (fun v_9 e_9 => ?_)
  obtain rfl : sc2 = v_9 := ((e_9).trans hsc2.symm).symm
  have hPc_10 := hP.sub (ws' := [(mo, .inr (8, [.ref m_la, .ref m_sz, .ref m_it, .int 0, .int 0, .ref m_st, .ref m_mv, .ref m_tp, .int 0, .int 0, .int 0, .int 0, .int 0, .int 0, .int 0, .ref m_rd, .ref m_ac, .int 0, .ref m_as, .ref m_wo, .ref m_ik, .ref m_ke, .ref m_tr, .int 0])), (m_st, .inl (cI, 38, .inl (fun _ => 0)))]) [22, 24] rfl
  refine vp_callSi (W.runV (As := [.int sc1, .int sc2]) (rest := [.int (-1000001)]) ⟨hx, hb, hml, hown, hts⟩ (c_X8_share l dC dI cI cZ cL cJ mo m_la m_sz m_it m_st m_mv m_tp m_rd m_ac m_as m_wo m_ik m_ke m_tr sc1 sc2 ) (cwV 2 hts gL_law_X8_share rfl rfl rfl (by decide +kernel) ⟨Nat.le_of_ble_eq_true rfl, Nat.le_of_ble_eq_true rfl⟩) ⟨fun a U g mk q => by obtain ⟨q0, qP, qK⟩ := q; exact ⟨q0, qP, va_K.moved (u := U) (U := U.calling g mk a) (Vm.Alike.refl U.vm) qK⟩, va_recv hK hP (ci := 8) (q0 := 22) rfl rfl, fun U hU hW => ⟨rfl, by rw [hU]; exact hPc_10, va_K.moved hW.alike hK⟩⟩ rfl rfl hl.1 rfl (lv_room (Nat.le_of_ble_eq_true rfl)) dL_law_900 ⟨Nat.le_of_ble_eq_true rfl, Nat.le_of_ble_eq_true rfl⟩) (fun r_10 h_10 => ?_)
  subst h_10
  refine lv_icmp_eq (tgt := 1358) hx hb dL_law_903 (by decide) (fun _ => ?_) (fun c_ => absurd (by decide) c_)
  refine lv_iinc (v := 6) (lv' := [(3, .int 6), (2, .ref mo), (1, .ref x), (0, .ref b)]) hx hb dL_law_1358 hl (k := 0) rfl (by decide) (by decide) rfl (fun ls hl => ?_)
  refine lv_goto (tgt := 18) hx hb dL_law_1361 (by decide) ?_
  refine lv_iload_n hx hb dL_law_18 rfl (lv_at hl 0 rfl) ?_
  refine lv_aload_n hx hb dL_law_19 rfl (lv_at hl 3 rfl) ?_
  refine va_slen hx hb hX hbl hbA hS dL_law_20 ?_
  refine lv_topi (fun v_12 e_12 => ?_)
  obtain rfl : v_12 = 6 := (e_12).trans (by decide)
  refine lv_bipush (v := 6) hx hb dL_law_21 (by decide) ?_
  refine lv_isub hx hb dL_law_23 ?_
  refine lv_topi (fun v_13 e_13 => ?_)
  obtain rfl : v_13 = 0 := (e_13).trans (by decide)
  refine lv_icmp_gt (tgt := 1364) hx hb dL_law_24 (by decide) (fun _ => ?_) (fun c_ => absurd (by decide) c_)
  refine lv_iconst (v := 1) hx hb dL_law_1364 (by decide) ?_
  refine va_forget (fun q hq => by have q9 := hS.2.2 q hq; rw [hAd] at q9; exact q9) ?_
  refine W.widen (k := 600000) (n := 7302250) (Nat.le_of_ble_eq_true rfl) (Nat.le_of_ble_eq_true rfl) ?_
  exact lw_ret hx hb hr hlocks dL_law_1365
set_option maxHeartbeats 4000000 in
set_option maxRecDepth 100000 in
theorem lw_c24 {p : Program} {l : Launch} {e : Env} {s : State} {m : MethodId} {below : List Frame} {meth : Method} {c : Code} {b : Nat} {xs : Nat → Int32} {dC : Nat → ClassId} {dI : Nat → Nat → Nat} {cI cZ cL cJ : ClassId} {A : Nat → Prop} {H : Heap} {locs : List Loc} {ls : Array Slot} {sc1 sc2 sc3 sc4 sc5 : Int32} {x mo : Nat} {ro : Nat} {it : Nat} {la : Nat} {le : Nat} {fl : Nat → Int32} {ta : Nat} {bs : Nat} {td : Nat} {t1 : Nat} {t2 : Nat} {t3 : Nat} {t4 : Nat} {t5 : Nat} {no : Nat} {n1 : Nat} {n2 : Nat} {n3 : Nat} {n4 : Nat} {n5 : Nat} {ac : Nat} {be : Nat} {im : Nat} {fi : Nat → Option Nat} {i0 : Nat} {x1 : Nat} {x2 : Nat} {x3 : Nat} {x4 : Nat} {x5 : Nat} {i1 : Nat} {y1 : Nat} {y2 : Nat} {y3 : Nat} {y4 : Nat} {y5 : Nat} {tr : Nat} {pl : Nat} {cs : Nat} {ak : Nat} {tc : Nat} {m_la : Nat} {m_sz : Nat} {m_it : Nat} {m_st : Nat} {m_mv : Nat} {m_tp : Nat} {m_rd : Nat} {m_ac : Nat} {m_as : Nat} {m_wo : Nat} {m_ik : Nat} {m_ke : Nat} {m_tr : Nat} {fm : Nat → Int32} (hx : p.tables.exec = Jvm.exec) (hb : c.code = code) (hr : meth.sig.returnType = ret) (hml : c.maxLocals = 4) (hown : s.vm.findClass RL = some m.cls) (hts : ∀ w ∈ wsL_law, w.before #[Value.ref b] s = true) (hX : va_X b 6 xs s s.heap) (hbl : b < s.heap.size) (hlocks : meth.locks = false) (hAd : A = fun q => s.heap.size ≤ q) (hA : ∀ q : Nat, s.heap.size ≤ q → A q) (hbA : ¬ A b) (hsc1 : sc1 = xs 1) (hsc2 : sc2 = xs 2) (hsc3 : sc3 = xs 3) (hsc4 : sc4 = xs 4) (hsc5 : sc5 = xs 5) (hfl : ∀ j : Nat, j < 8 → fl j = -1) (hf0 : fi 0 = some i0) (hf1 : fi 1 = some i1) (hfm : ∀ j : Nat, j < 8 → fm j = -1) (hK : va_K (dC, dI) vwCl [(cI, .int), (cZ, .boolean), (cL, .object RX3), (cJ, .array .int)] s) (hP : va_P (dC, dI) vwCl [(x, .inr (7, [.ref ro, .ref ta, .ref no, .ref ac, .ref im, .ref tr, .ref pl, .ref cs, .ref ak, .int 0, .int 0])), (ro, .inr (5, [.ref it, .ref la, .ref le])), (la, .inl (cI, 8, .inl fl)), (le, .inl (cI, 8, .inl (fun _ => 0))), (it, .inl (cJ, 8, .inr (.inr (.inr (.inr (fun i => if i < 8 then some (it + 1 + i) else none)))))), ((it + 1 + 0), .inl (cI, 40, .inl (fun _ => 0))), ((it + 1 + 1), .inl (cI, 40, .inl (fun _ => 0))), ((it + 1 + 2), .inl (cI, 40, .inl (fun _ => 0))), ((it + 1 + 3), .inl (cI, 40, .inl (fun _ => 0))), ((it + 1 + 4), .inl (cI, 40, .inl (fun _ => 0))), ((it + 1 + 5), .inl (cI, 40, .inl (fun _ => 0))), ((it + 1 + 6), .inl (cI, 40, .inl (fun _ => 0))), ((it + 1 + 7), .inl (cI, 40, .inl (fun _ => 0))), (ta, .inr (6, [.ref bs, .int 0, .ref td, .int 0, .int 0, .int 0])), (bs, .inl (cI, 120, .inl (fun _ => 0))), (td, .inr (3, [.int 0, .int 0, .int 0, .int 0, .int 0, .int 0, .int 0, .int 0, .ref t1, .ref t2, .ref t3, .ref t4, .ref t5])), (no, .inr (3, [.int 0, .int 0, .int 0, .int 0, .int 0, .int 0, .int 0, .int 0, .ref n1, .ref n2, .ref n3, .ref n4, .ref n5])), (ac, .inr (0, [.ref be, .int 0, .int 0])), (im, .inl (cL, 2, .inr (.inr (.inr (.inr fi))))), (i0, .inr (3, [.int 0, .int 0, .int 0, .int 0, .int 0, .int 0, .int 0, .int 0, .ref x1, .ref x2, .ref x3, .ref x4, .ref x5])), (i1, .inr (3, [.int 0, .int 0, .int 0, .int 0, .int 0, .int 0, .int 0, .int 0, .ref y1, .ref y2, .ref y3, .ref y4, .ref y5])), (ak, .inr (1, [.ref tc, .int 0, .int 0, .int 0, .int 0, .int 0])), (mo, .inr (8, [.ref m_la, .ref m_sz, .ref m_it, .int 0, .int 0, .ref m_st, .ref m_mv, .ref m_tp, .int 0, .int 0, .int 0, .int 0, .int 0, .int 0, .int 0, .ref m_rd, .ref m_ac, .int 0, .ref m_as, .ref m_wo, .ref m_ik, .ref m_ke, .ref m_tr, .int 0])), (m_sz, .inl (cI, 8, .inl fm)), (m_st, .inl (cI, 38, .inl (fun _ => 0))), (m_ik, .inl (cZ, 2, .inl (fun _ => 0))), (m_la, .inl (cI, 8, .inl (fun _ => 0))), (m_it, .inl (cI, 320, .inl (fun _ => 0))), (m_tp, .inl (cI, 120, .inl (fun _ => 0))), (m_rd, .inl (cI, 38, .inl (fun _ => 0)))] H) (hD : va_D A [(x, .inr (7, [.ref ro, .ref ta, .ref no, .ref ac, .ref im, .ref tr, .ref pl, .ref cs, .ref ak, .int 0, .int 0])), (ro, .inr (5, [.ref it, .ref la, .ref le])), (la, .inl (cI, 8, .inl fl)), (le, .inl (cI, 8, .inl (fun _ => 0))), (it, .inl (cJ, 8, .inr (.inr (.inr (.inr (fun i => if i < 8 then some (it + 1 + i) else none)))))), ((it + 1 + 0), .inl (cI, 40, .inl (fun _ => 0))), ((it + 1 + 1), .inl (cI, 40, .inl (fun _ => 0))), ((it + 1 + 2), .inl (cI, 40, .inl (fun _ => 0))), ((it + 1 + 3), .inl (cI, 40, .inl (fun _ => 0))), ((it + 1 + 4), .inl (cI, 40, .inl (fun _ => 0))), ((it + 1 + 5), .inl (cI, 40, .inl (fun _ => 0))), ((it + 1 + 6), .inl (cI, 40, .inl (fun _ => 0))), ((it + 1 + 7), .inl (cI, 40, .inl (fun _ => 0))), (ta, .inr (6, [.ref bs, .int 0, .ref td, .int 0, .int 0, .int 0])), (bs, .inl (cI, 120, .inl (fun _ => 0))), (td, .inr (3, [.int 0, .int 0, .int 0, .int 0, .int 0, .int 0, .int 0, .int 0, .ref t1, .ref t2, .ref t3, .ref t4, .ref t5])), (no, .inr (3, [.int 0, .int 0, .int 0, .int 0, .int 0, .int 0, .int 0, .int 0, .ref n1, .ref n2, .ref n3, .ref n4, .ref n5])), (ac, .inr (0, [.ref be, .int 0, .int 0])), (im, .inl (cL, 2, .inr (.inr (.inr (.inr fi))))), (i0, .inr (3, [.int 0, .int 0, .int 0, .int 0, .int 0, .int 0, .int 0, .int 0, .ref x1, .ref x2, .ref x3, .ref x4, .ref x5])), (i1, .inr (3, [.int 0, .int 0, .int 0, .int 0, .int 0, .int 0, .int 0, .int 0, .ref y1, .ref y2, .ref y3, .ref y4, .ref y5])), (ak, .inr (1, [.ref tc, .int 0, .int 0, .int 0, .int 0, .int 0])), (mo, .inr (8, [.ref m_la, .ref m_sz, .ref m_it, .int 0, .int 0, .ref m_st, .ref m_mv, .ref m_tp, .int 0, .int 0, .int 0, .int 0, .int 0, .int 0, .int 0, .ref m_rd, .ref m_ac, .int 0, .ref m_as, .ref m_wo, .ref m_ik, .ref m_ke, .ref m_tr, .int 0])), (m_sz, .inl (cI, 8, .inl fm)), (m_st, .inl (cI, 38, .inl (fun _ => 0))), (m_ik, .inl (cZ, 2, .inl (fun _ => 0))), (m_la, .inl (cI, 8, .inl (fun _ => 0))), (m_it, .inl (cI, 320, .inl (fun _ => 0))), (m_tp, .inl (cI, 120, .inl (fun _ => 0))), (m_rd, .inl (cI, 38, .inl (fun _ => 0)))]) (hS : va_S A s.heap H locs) (hl : lv_has ls 4 [(3, .int 0), (2, .ref mo), (1, .ref x), (0, .ref b)]) : W p l e room_1 s m #[Value.ref b] below meth c H locs 277 3929 (lw_Z below #[Value.ref b] s) (F0 m 908 ls []) := by
  refine lv_aload_n hx hb dL_law_908 rfl (lv_at hl 2 rfl) ?_
  refine lv_aload_n hx hb dL_law_909 rfl (lv_at hl 3 rfl) ?_
  refine lv_iload_n hx hb dL_law_910 rfl (lv_at hl 0 rfl) ?_
  refine lv_iconst (v := 1) hx hb dL_law_911 (by decide) ?_
  refine lv_iadd hx hb dL_law_912 ?_
  refine lv_topi (fun v_1 e_1 => ?_)
  obtain rfl : v_1 = 1 := (e_1).trans (by decide)
  refine va_sld hx hb hX hbl hbA hS (by unfold vp_in; decide) dL_law_913 ?_
  refine lv_topi (fun v_2 e_2 => ?_)
  obtain rfl : sc1 = v_2 := ((e_2).trans hsc1.symm).symm
  refine lv_aload_n hx hb dL_law_914 rfl (lv_at hl 3 rfl) ?_
  refine lv_iload_n hx hb dL_law_915 rfl (lv_at hl 0 rfl) ?_
  refine lv_iconst (v := 2) hx hb dL_law_916 (by decide) ?_
  refine lv_iadd hx hb dL_law_917 ?_
  refine lv_topi (fun v_3 e_3 => ?_)
  obtain rfl : v_3 = 2 := (e_3).trans (by decide)
  refine va_sld hx hb hX hbl hbA hS (by unfold vp_in; decide) dL_law_918 ?_
  refine lv_topi (fun v_4 e_4 => ?_)
  obtain rfl : sc2 = v_4 := ((e_4).trans hsc2.symm).symm
  have hPc_5 := hP.sub (ws' := [(x, .inr (7, [.ref ro, .ref ta, .ref no, .ref ac, .ref im, .ref tr, .ref pl, .ref cs, .ref ak, .int 0, .int 0])), (no, .inr (3, [.int 0, .int 0, .int 0, .int 0, .int 0, .int 0, .int 0, .int 0, .ref n1, .ref n2, .ref n3, .ref n4, .ref n5]))]) [0, 16] rfl
  refine vp_callSi (W.runV (As := [.int sc1, .int sc2]) (rest := []) ⟨hx, hb, hml, hown, hts⟩ (c_X7_byTurns l dC dI cI cZ cL cJ x ro ta no ac im tr pl cs ak n1 n2 n3 n4 n5 sc1 sc2 ) (cwV 2 hts gL_law_X7_byTurns rfl rfl rfl (by decide +kernel) ⟨Nat.le_of_ble_eq_true rfl, Nat.le_of_ble_eq_true rfl⟩) ⟨fun a U g mk q => by obtain ⟨q0, qP, qK⟩ := q; exact ⟨q0, qP, va_K.moved (u := U) (U := U.calling g mk a) (Vm.Alike.refl U.vm) qK⟩, va_recv hK hP (ci := 7) (q0 := 0) rfl rfl, fun U hU hW => ⟨rfl, by rw [hU]; exact hPc_5, va_K.moved hW.alike hK⟩⟩ rfl rfl hl.1 rfl (lv_room (Nat.le_of_ble_eq_true rfl)) dL_law_919 ⟨Nat.le_of_ble_eq_true rfl, Nat.le_of_ble_eq_true rfl⟩) (fun r_5 h_5 => ?_)
  subst h_5
  refine lv_aload_n hx hb dL_law_922 rfl (lv_at hl 1 rfl) ?_
  refine lv_aload_n hx hb dL_law_923 rfl (lv_at hl 3 rfl) ?_
  refine lv_iload_n hx hb dL_law_924 rfl (lv_at hl 0 rfl) ?_
  refine lv_iconst (v := 1) hx hb dL_law_925 (by decide) ?_
  refine lv_iadd hx hb dL_law_926 ?_
  refine lv_topi (fun v_6 e_6 => ?_)
  obtain rfl : v_6 = 1 := (e_6).trans (by decide)
  refine va_sld hx hb hX hbl hbA hS (by unfold vp_in; decide) dL_law_927 ?_
  refine lv_topi (fun v_7 e_7 => ?_)
  obtain rfl : sc1 = v_7 := ((e_7).trans hsc1.symm).symm
  refine lv_aload_n hx hb dL_law_928 rfl (lv_at hl 3 rfl) ?_
  refine lv_iload_n hx hb dL_law_929 rfl (lv_at hl 0 rfl) ?_
  refine lv_iconst (v := 2) hx hb dL_law_930 (by decide) ?_
  refine lv_iadd hx hb dL_law_931 ?_
  refine lv_topi (fun v_8 e_8 => ?_)
  obtain rfl : v_8 = 2 := (e_8).trans (by decide)
  refine va_sld hx hb hX hbl hbA hS (by unfold vp_in; decide) dL_law_932 ?_
  refine lv_topi (fun v_9 e_9 => ?_)
  obtain rfl : sc2 = v_9 := ((e_9).trans hsc2.symm).symm
  have hPc_10 := hP.sub (ws' := [(mo, .inr (8, [.ref m_la, .ref m_sz, .ref m_it, .int 0, .int 0, .ref m_st, .ref m_mv, .ref m_tp, .int 0, .int 0, .int 0, .int 0, .int 0, .int 0, .int 0, .ref m_rd, .ref m_ac, .int 0, .ref m_as, .ref m_wo, .ref m_ik, .ref m_ke, .ref m_tr, .int 0]))]) [22] rfl
  refine vp_callSi (W.runV (As := [.int sc1, .int sc2]) (rest := [.int (-1000002)]) ⟨hx, hb, hml, hown, hts⟩ (c_X8_byTurns l dC dI cI cZ cL cJ mo m_la m_sz m_it m_st m_mv m_tp m_rd m_ac m_as m_wo m_ik m_ke m_tr sc1 sc2 ) (cwV 2 hts gL_law_X8_byTurns rfl rfl rfl (by decide +kernel) ⟨Nat.le_of_ble_eq_true rfl, Nat.le_of_ble_eq_true rfl⟩) ⟨fun a U g mk q => by obtain ⟨q0, qP, qK⟩ := q; exact ⟨q0, qP, va_K.moved (u := U) (U := U.calling g mk a) (Vm.Alike.refl U.vm) qK⟩, va_recv hK hP (ci := 8) (q0 := 22) rfl rfl, fun U hU hW => ⟨rfl, by rw [hU]; exact hPc_10, va_K.moved hW.alike hK⟩⟩ rfl rfl hl.1 rfl (lv_room (Nat.le_of_ble_eq_true rfl)) dL_law_933 ⟨Nat.le_of_ble_eq_true rfl, Nat.le_of_ble_eq_true rfl⟩) (fun r_10 h_10 => ?_)
  subst h_10
  refine lv_icmp_eq (tgt := 1358) hx hb dL_law_936 (by decide) (fun _ => ?_) (fun c_ => absurd (by decide) c_)
  refine lv_iinc (v := 6) (lv' := [(3, .int 6), (2, .ref mo), (1, .ref x), (0, .ref b)]) hx hb dL_law_1358 hl (k := 0) rfl (by decide) (by decide) rfl (fun ls hl => ?_)
  refine lv_goto (tgt := 18) hx hb dL_law_1361 (by decide) ?_
  refine lv_iload_n hx hb dL_law_18 rfl (lv_at hl 0 rfl) ?_
  refine lv_aload_n hx hb dL_law_19 rfl (lv_at hl 3 rfl) ?_
  refine va_slen hx hb hX hbl hbA hS dL_law_20 ?_
  refine lv_topi (fun v_12 e_12 => ?_)
  obtain rfl : v_12 = 6 := (e_12).trans (by decide)
  refine lv_bipush (v := 6) hx hb dL_law_21 (by decide) ?_
  refine lv_isub hx hb dL_law_23 ?_
  refine lv_topi (fun v_13 e_13 => ?_)
  obtain rfl : v_13 = 0 := (e_13).trans (by decide)
  refine lv_icmp_gt (tgt := 1364) hx hb dL_law_24 (by decide) (fun _ => ?_) (fun c_ => absurd (by decide) c_)
  refine lv_iconst (v := 1) hx hb dL_law_1364 (by decide) ?_
  refine va_forget (fun q hq => by have q9 := hS.2.2 q hq; rw [hAd] at q9; exact q9) ?_
  refine W.widen (k := 600000) (n := 7302250) (Nat.le_of_ble_eq_true rfl) (Nat.le_of_ble_eq_true rfl) ?_
  exact lw_ret hx hb hr hlocks dL_law_1365
set_option maxHeartbeats 4000000 in
set_option maxRecDepth 100000 in
theorem lw_c25 {p : Program} {l : Launch} {e : Env} {s : State} {m : MethodId} {below : List Frame} {meth : Method} {c : Code} {b : Nat} {xs : Nat → Int32} {dC : Nat → ClassId} {dI : Nat → Nat → Nat} {cI cZ cL cJ : ClassId} {A : Nat → Prop} {H : Heap} {locs : List Loc} {ls : Array Slot} {sc1 sc2 sc3 sc4 sc5 : Int32} {x mo : Nat} {ro : Nat} {it : Nat} {la : Nat} {le : Nat} {fl : Nat → Int32} {ta : Nat} {bs : Nat} {td : Nat} {t1 : Nat} {t2 : Nat} {t3 : Nat} {t4 : Nat} {t5 : Nat} {no : Nat} {n1 : Nat} {n2 : Nat} {n3 : Nat} {n4 : Nat} {n5 : Nat} {ac : Nat} {be : Nat} {im : Nat} {fi : Nat → Option Nat} {i0 : Nat} {x1 : Nat} {x2 : Nat} {x3 : Nat} {x4 : Nat} {x5 : Nat} {i1 : Nat} {y1 : Nat} {y2 : Nat} {y3 : Nat} {y4 : Nat} {y5 : Nat} {tr : Nat} {pl : Nat} {cs : Nat} {ak : Nat} {tc : Nat} {m_la : Nat} {m_sz : Nat} {m_it : Nat} {m_st : Nat} {m_mv : Nat} {m_tp : Nat} {m_rd : Nat} {m_ac : Nat} {m_as : Nat} {m_wo : Nat} {m_ik : Nat} {m_ke : Nat} {m_tr : Nat} {fm : Nat → Int32} (hx : p.tables.exec = Jvm.exec) (hb : c.code = code) (hr : meth.sig.returnType = ret) (hml : c.maxLocals = 4) (hown : s.vm.findClass RL = some m.cls) (hts : ∀ w ∈ wsL_law, w.before #[Value.ref b] s = true) (hX : va_X b 6 xs s s.heap) (hbl : b < s.heap.size) (hlocks : meth.locks = false) (hAd : A = fun q => s.heap.size ≤ q) (hA : ∀ q : Nat, s.heap.size ≤ q → A q) (hbA : ¬ A b) (hsc1 : sc1 = xs 1) (hsc2 : sc2 = xs 2) (hsc3 : sc3 = xs 3) (hsc4 : sc4 = xs 4) (hsc5 : sc5 = xs 5) (hfl : ∀ j : Nat, j < 8 → fl j = -1) (hf0 : fi 0 = some i0) (hf1 : fi 1 = some i1) (hfm : ∀ j : Nat, j < 8 → fm j = -1) (hK : va_K (dC, dI) vwCl [(cI, .int), (cZ, .boolean), (cL, .object RX3), (cJ, .array .int)] s) (hP : va_P (dC, dI) vwCl [(x, .inr (7, [.ref ro, .ref ta, .ref no, .ref ac, .ref im, .ref tr, .ref pl, .ref cs, .ref ak, .int 0, .int 0])), (ro, .inr (5, [.ref it, .ref la, .ref le])), (la, .inl (cI, 8, .inl fl)), (le, .inl (cI, 8, .inl (fun _ => 0))), (it, .inl (cJ, 8, .inr (.inr (.inr (.inr (fun i => if i < 8 then some (it + 1 + i) else none)))))), ((it + 1 + 0), .inl (cI, 40, .inl (fun _ => 0))), ((it + 1 + 1), .inl (cI, 40, .inl (fun _ => 0))), ((it + 1 + 2), .inl (cI, 40, .inl (fun _ => 0))), ((it + 1 + 3), .inl (cI, 40, .inl (fun _ => 0))), ((it + 1 + 4), .inl (cI, 40, .inl (fun _ => 0))), ((it + 1 + 5), .inl (cI, 40, .inl (fun _ => 0))), ((it + 1 + 6), .inl (cI, 40, .inl (fun _ => 0))), ((it + 1 + 7), .inl (cI, 40, .inl (fun _ => 0))), (ta, .inr (6, [.ref bs, .int 0, .ref td, .int 0, .int 0, .int 0])), (bs, .inl (cI, 120, .inl (fun _ => 0))), (td, .inr (3, [.int 0, .int 0, .int 0, .int 0, .int 0, .int 0, .int 0, .int 0, .ref t1, .ref t2, .ref t3, .ref t4, .ref t5])), (no, .inr (3, [.int 0, .int 0, .int 0, .int 0, .int 0, .int 0, .int 0, .int 0, .ref n1, .ref n2, .ref n3, .ref n4, .ref n5])), (ac, .inr (0, [.ref be, .int 0, .int 0])), (im, .inl (cL, 2, .inr (.inr (.inr (.inr fi))))), (i0, .inr (3, [.int 0, .int 0, .int 0, .int 0, .int 0, .int 0, .int 0, .int 0, .ref x1, .ref x2, .ref x3, .ref x4, .ref x5])), (i1, .inr (3, [.int 0, .int 0, .int 0, .int 0, .int 0, .int 0, .int 0, .int 0, .ref y1, .ref y2, .ref y3, .ref y4, .ref y5])), (ak, .inr (1, [.ref tc, .int 0, .int 0, .int 0, .int 0, .int 0])), (mo, .inr (8, [.ref m_la, .ref m_sz, .ref m_it, .int 0, .int 0, .ref m_st, .ref m_mv, .ref m_tp, .int 0, .int 0, .int 0, .int 0, .int 0, .int 0, .int 0, .ref m_rd, .ref m_ac, .int 0, .ref m_as, .ref m_wo, .ref m_ik, .ref m_ke, .ref m_tr, .int 0])), (m_sz, .inl (cI, 8, .inl fm)), (m_st, .inl (cI, 38, .inl (fun _ => 0))), (m_ik, .inl (cZ, 2, .inl (fun _ => 0))), (m_la, .inl (cI, 8, .inl (fun _ => 0))), (m_it, .inl (cI, 320, .inl (fun _ => 0))), (m_tp, .inl (cI, 120, .inl (fun _ => 0))), (m_rd, .inl (cI, 38, .inl (fun _ => 0)))] H) (hD : va_D A [(x, .inr (7, [.ref ro, .ref ta, .ref no, .ref ac, .ref im, .ref tr, .ref pl, .ref cs, .ref ak, .int 0, .int 0])), (ro, .inr (5, [.ref it, .ref la, .ref le])), (la, .inl (cI, 8, .inl fl)), (le, .inl (cI, 8, .inl (fun _ => 0))), (it, .inl (cJ, 8, .inr (.inr (.inr (.inr (fun i => if i < 8 then some (it + 1 + i) else none)))))), ((it + 1 + 0), .inl (cI, 40, .inl (fun _ => 0))), ((it + 1 + 1), .inl (cI, 40, .inl (fun _ => 0))), ((it + 1 + 2), .inl (cI, 40, .inl (fun _ => 0))), ((it + 1 + 3), .inl (cI, 40, .inl (fun _ => 0))), ((it + 1 + 4), .inl (cI, 40, .inl (fun _ => 0))), ((it + 1 + 5), .inl (cI, 40, .inl (fun _ => 0))), ((it + 1 + 6), .inl (cI, 40, .inl (fun _ => 0))), ((it + 1 + 7), .inl (cI, 40, .inl (fun _ => 0))), (ta, .inr (6, [.ref bs, .int 0, .ref td, .int 0, .int 0, .int 0])), (bs, .inl (cI, 120, .inl (fun _ => 0))), (td, .inr (3, [.int 0, .int 0, .int 0, .int 0, .int 0, .int 0, .int 0, .int 0, .ref t1, .ref t2, .ref t3, .ref t4, .ref t5])), (no, .inr (3, [.int 0, .int 0, .int 0, .int 0, .int 0, .int 0, .int 0, .int 0, .ref n1, .ref n2, .ref n3, .ref n4, .ref n5])), (ac, .inr (0, [.ref be, .int 0, .int 0])), (im, .inl (cL, 2, .inr (.inr (.inr (.inr fi))))), (i0, .inr (3, [.int 0, .int 0, .int 0, .int 0, .int 0, .int 0, .int 0, .int 0, .ref x1, .ref x2, .ref x3, .ref x4, .ref x5])), (i1, .inr (3, [.int 0, .int 0, .int 0, .int 0, .int 0, .int 0, .int 0, .int 0, .ref y1, .ref y2, .ref y3, .ref y4, .ref y5])), (ak, .inr (1, [.ref tc, .int 0, .int 0, .int 0, .int 0, .int 0])), (mo, .inr (8, [.ref m_la, .ref m_sz, .ref m_it, .int 0, .int 0, .ref m_st, .ref m_mv, .ref m_tp, .int 0, .int 0, .int 0, .int 0, .int 0, .int 0, .int 0, .ref m_rd, .ref m_ac, .int 0, .ref m_as, .ref m_wo, .ref m_ik, .ref m_ke, .ref m_tr, .int 0])), (m_sz, .inl (cI, 8, .inl fm)), (m_st, .inl (cI, 38, .inl (fun _ => 0))), (m_ik, .inl (cZ, 2, .inl (fun _ => 0))), (m_la, .inl (cI, 8, .inl (fun _ => 0))), (m_it, .inl (cI, 320, .inl (fun _ => 0))), (m_tp, .inl (cI, 120, .inl (fun _ => 0))), (m_rd, .inl (cI, 38, .inl (fun _ => 0)))]) (hS : va_S A s.heap H locs) (hl : lv_has ls 4 [(3, .int 0), (2, .ref mo), (1, .ref x), (0, .ref b)]) : W p l e room_1 s m #[Value.ref b] below meth c H locs 277 3929 (lw_Z below #[Value.ref b] s) (F0 m 941 ls []) := by
  refine lv_aload_n hx hb dL_law_941 rfl (lv_at hl 2 rfl) ?_
  refine lv_aload_n hx hb dL_law_942 rfl (lv_at hl 3 rfl) ?_
  refine lv_iload_n hx hb dL_law_943 rfl (lv_at hl 0 rfl) ?_
  refine lv_iconst (v := 1) hx hb dL_law_944 (by decide) ?_
  refine lv_iadd hx hb dL_law_945 ?_
  refine lv_topi (fun v_1 e_1 => ?_)
  obtain rfl : v_1 = 1 := (e_1).trans (by decide)
  refine va_sld hx hb hX hbl hbA hS (by unfold vp_in; decide) dL_law_946 ?_
  refine lv_topi (fun v_2 e_2 => ?_)
  obtain rfl : sc1 = v_2 := ((e_2).trans hsc1.symm).symm
  refine lv_aload_n hx hb dL_law_947 rfl (lv_at hl 3 rfl) ?_
  refine lv_iload_n hx hb dL_law_948 rfl (lv_at hl 0 rfl) ?_
  refine lv_iconst (v := 2) hx hb dL_law_949 (by decide) ?_
  refine lv_iadd hx hb dL_law_950 ?_
  refine lv_topi (fun v_3 e_3 => ?_)
  obtain rfl : v_3 = 2 := (e_3).trans (by decide)
  refine va_sld hx hb hX hbl hbA hS (by unfold vp_in; decide) dL_law_951 ?_
  refine lv_topi (fun v_4 e_4 => ?_)
  obtain rfl : sc2 = v_4 := ((e_4).trans hsc2.symm).symm
  refine lv_aload_n hx hb dL_law_952 rfl (lv_at hl 3 rfl) ?_
  refine lv_iload_n hx hb dL_law_953 rfl (lv_at hl 0 rfl) ?_
  refine lv_iconst (v := 3) hx hb dL_law_954 (by decide) ?_
  refine lv_iadd hx hb dL_law_955 ?_
  refine lv_topi (fun v_5 e_5 => ?_)
  obtain rfl : v_5 = 3 := (e_5).trans (by decide)
  refine va_sld hx hb hX hbl hbA hS (by unfold vp_in; decide) dL_law_956 ?_
  refine lv_topi (fun v_6 e_6 => ?_)
  obtain rfl : sc3 = v_6 := ((e_6).trans hsc3.symm).symm
  refine lv_aload_n hx hb dL_law_957 rfl (lv_at hl 3 rfl) ?_
  refine lv_iload_n hx hb dL_law_958 rfl (lv_at hl 0 rfl) ?_
  refine lv_iconst (v := 4) hx hb dL_law_959 (by decide) ?_
  refine lv_iadd hx hb dL_law_960 ?_
  refine lv_topi (fun v_7 e_7 => ?_)
  obtain rfl : v_7 = 4 := (e_7).trans (by decide)
  refine va_sld hx hb hX hbl hbA hS (by unfold vp_in; decide) dL_law_961 ?_
  refine lv_topi (fun v_8 e_8 => ?_)
  obtain rfl : sc4 = v_8 := ((e_8).trans hsc4.symm).symm
  refine lv_aload_n hx hb dL_law_962 rfl (lv_at hl 3 rfl) ?_
  refine lv_iload_n hx hb dL_law_963 rfl (lv_at hl 0 rfl) ?_
  refine lv_iconst (v := 5) hx hb dL_law_964 (by decide) ?_
  refine lv_iadd hx hb dL_law_965 ?_
  refine lv_topi (fun v_9 e_9 => ?_)
  obtain rfl : v_9 = 5 := (e_9).trans (by decide)
  refine va_sld hx hb hX hbl hbA hS (by unfold vp_in; decide) dL_law_966 ?_
  refine lv_topi (fun v_10 e_10 => ?_)
  obtain rfl : sc5 = v_10 := ((e_10).trans hsc5.symm).symm
  have hPc_11 := hP.sub (ws' := [(x, .inr (7, [.ref ro, .ref ta, .ref no, .ref ac, .ref im, .ref tr, .ref pl, .ref cs, .ref ak, .int 0, .int 0])), (no, .inr (3, [.int 0, .int 0, .int 0, .int 0, .int 0, .int 0, .int 0, .int 0, .ref n1, .ref n2, .ref n3, .ref n4, .ref n5]))]) [0, 16] rfl
  refine vp_callSi (W.runV (As := [.int sc1, .int sc2, .int sc3, .int sc4, .int sc5]) (rest := []) ⟨hx, hb, hml, hown, hts⟩ (c_X7_who l dC dI cI cZ cL cJ x ro ta no ac im tr pl cs ak n1 n2 n3 n4 n5 sc1 sc2 sc3 sc4 sc5 ) (cwV 5 hts gL_law_X7_who rfl rfl rfl (by decide +kernel) ⟨Nat.le_of_ble_eq_true rfl, Nat.le_of_ble_eq_true rfl⟩) ⟨fun a U g mk q => by obtain ⟨q0, qP, qK⟩ := q; exact ⟨q0, qP, va_K.moved (u := U) (U := U.calling g mk a) (Vm.Alike.refl U.vm) qK⟩, va_recv hK hP (ci := 7) (q0 := 0) rfl rfl, fun U hU hW => ⟨rfl, by rw [hU]; exact hPc_11, va_K.moved hW.alike hK⟩⟩ rfl rfl hl.1 rfl (lv_room (Nat.le_of_ble_eq_true rfl)) dL_law_967 ⟨Nat.le_of_ble_eq_true rfl, Nat.le_of_ble_eq_true rfl⟩) (fun r_11 h_11 => ?_)
  subst h_11
  refine lv_aload_n hx hb dL_law_970 rfl (lv_at hl 1 rfl) ?_
  refine lv_aload_n hx hb dL_law_971 rfl (lv_at hl 3 rfl) ?_
  refine lv_iload_n hx hb dL_law_972 rfl (lv_at hl 0 rfl) ?_
  refine lv_iconst (v := 1) hx hb dL_law_973 (by decide) ?_
  refine lv_iadd hx hb dL_law_974 ?_
  refine lv_topi (fun v_12 e_12 => ?_)
  obtain rfl : v_12 = 1 := (e_12).trans (by decide)
  refine va_sld hx hb hX hbl hbA hS (by unfold vp_in; decide) dL_law_975 ?_
  refine lv_topi (fun v_13 e_13 => ?_)
  obtain rfl : sc1 = v_13 := ((e_13).trans hsc1.symm).symm
  refine lv_aload_n hx hb dL_law_976 rfl (lv_at hl 3 rfl) ?_
  refine lv_iload_n hx hb dL_law_977 rfl (lv_at hl 0 rfl) ?_
  refine lv_iconst (v := 2) hx hb dL_law_978 (by decide) ?_
  refine lv_iadd hx hb dL_law_979 ?_
  refine lv_topi (fun v_14 e_14 => ?_)
  obtain rfl : v_14 = 2 := (e_14).trans (by decide)
  refine va_sld hx hb hX hbl hbA hS (by unfold vp_in; decide) dL_law_980 ?_
  refine lv_topi (fun v_15 e_15 => ?_)
  obtain rfl : sc2 = v_15 := ((e_15).trans hsc2.symm).symm
  refine lv_aload_n hx hb dL_law_981 rfl (lv_at hl 3 rfl) ?_
  refine lv_iload_n hx hb dL_law_982 rfl (lv_at hl 0 rfl) ?_
  refine lv_iconst (v := 3) hx hb dL_law_983 (by decide) ?_
  refine lv_iadd hx hb dL_law_984 ?_
  refine lv_topi (fun v_16 e_16 => ?_)
  obtain rfl : v_16 = 3 := (e_16).trans (by decide)
  refine va_sld hx hb hX hbl hbA hS (by unfold vp_in; decide) dL_law_985 ?_
  refine lv_topi (fun v_17 e_17 => ?_)
  obtain rfl : sc3 = v_17 := ((e_17).trans hsc3.symm).symm
  refine lv_aload_n hx hb dL_law_986 rfl (lv_at hl 3 rfl) ?_
  refine lv_iload_n hx hb dL_law_987 rfl (lv_at hl 0 rfl) ?_
  refine lv_iconst (v := 4) hx hb dL_law_988 (by decide) ?_
  refine lv_iadd hx hb dL_law_989 ?_
  refine lv_topi (fun v_18 e_18 => ?_)
  obtain rfl : v_18 = 4 := (e_18).trans (by decide)
  refine va_sld hx hb hX hbl hbA hS (by unfold vp_in; decide) dL_law_990 ?_
  refine lv_topi (fun v_19 e_19 => ?_)
  obtain rfl : sc4 = v_19 := ((e_19).trans hsc4.symm).symm
  refine lv_aload_n hx hb dL_law_991 rfl (lv_at hl 3 rfl) ?_
  refine lv_iload_n hx hb dL_law_992 rfl (lv_at hl 0 rfl) ?_
  refine lv_iconst (v := 5) hx hb dL_law_993 (by decide) ?_
  refine lv_iadd hx hb dL_law_994 ?_
  refine lv_topi (fun v_20 e_20 => ?_)
  obtain rfl : v_20 = 5 := (e_20).trans (by decide)
  refine va_sld hx hb hX hbl hbA hS (by unfold vp_in; decide) dL_law_995 ?_
  refine lv_topi (fun v_21 e_21 => ?_)
  obtain rfl : sc5 = v_21 := ((e_21).trans hsc5.symm).symm
  have hPc_22 := hP.sub (ws' := [(mo, .inr (8, [.ref m_la, .ref m_sz, .ref m_it, .int 0, .int 0, .ref m_st, .ref m_mv, .ref m_tp, .int 0, .int 0, .int 0, .int 0, .int 0, .int 0, .int 0, .ref m_rd, .ref m_ac, .int 0, .ref m_as, .ref m_wo, .ref m_ik, .ref m_ke, .ref m_tr, .int 0])), (m_st, .inl (cI, 38, .inl (fun _ => 0)))]) [22, 24] rfl
  refine vp_callSi (W.runV (As := [.int sc1, .int sc2, .int sc3, .int sc4, .int sc5]) (rest := [.int (-1000001)]) ⟨hx, hb, hml, hown, hts⟩ (c_X8_who l dC dI cI cZ cL cJ mo m_la m_sz m_it m_st m_mv m_tp m_rd m_ac m_as m_wo m_ik m_ke m_tr sc1 sc2 sc3 sc4 sc5 ) (cwV 5 hts gL_law_X8_who rfl rfl rfl (by decide +kernel) ⟨Nat.le_of_ble_eq_true rfl, Nat.le_of_ble_eq_true rfl⟩) ⟨fun a U g mk q => by obtain ⟨q0, qP, qK⟩ := q; exact ⟨q0, qP, va_K.moved (u := U) (U := U.calling g mk a) (Vm.Alike.refl U.vm) qK⟩, va_recv hK hP (ci := 8) (q0 := 22) rfl rfl, fun U hU hW => ⟨rfl, by rw [hU]; exact hPc_22, va_K.moved hW.alike hK⟩⟩ rfl rfl hl.1 rfl (lv_room (Nat.le_of_ble_eq_true rfl)) dL_law_996 ⟨Nat.le_of_ble_eq_true rfl, Nat.le_of_ble_eq_true rfl⟩) (fun r_22 h_22 => ?_)
  subst h_22
  refine lv_icmp_eq (tgt := 1358) hx hb dL_law_999 (by decide) (fun _ => ?_) (fun c_ => absurd (by decide) c_)
  refine lv_iinc (v := 6) (lv' := [(3, .int 6), (2, .ref mo), (1, .ref x), (0, .ref b)]) hx hb dL_law_1358 hl (k := 0) rfl (by decide) (by decide) rfl (fun ls hl => ?_)
  refine lv_goto (tgt := 18) hx hb dL_law_1361 (by decide) ?_
  refine lv_iload_n hx hb dL_law_18 rfl (lv_at hl 0 rfl) ?_
  refine lv_aload_n hx hb dL_law_19 rfl (lv_at hl 3 rfl) ?_
  refine va_slen hx hb hX hbl hbA hS dL_law_20 ?_
  refine lv_topi (fun v_24 e_24 => ?_)
  obtain rfl : v_24 = 6 := (e_24).trans (by decide)
  refine lv_bipush (v := 6) hx hb dL_law_21 (by decide) ?_
  refine lv_isub hx hb dL_law_23 ?_
  refine lv_topi (fun v_25 e_25 => ?_)
  obtain rfl : v_25 = 0 := (e_25).trans (by decide)
  refine lv_icmp_gt (tgt := 1364) hx hb dL_law_24 (by decide) (fun _ => ?_) (fun c_ => absurd (by decide) c_)
  refine lv_iconst (v := 1) hx hb dL_law_1364 (by decide) ?_
  refine va_forget (fun q hq => by have q9 := hS.2.2 q hq; rw [hAd] at q9; exact q9) ?_
  refine W.widen (k := 600000) (n := 7302250) (Nat.le_of_ble_eq_true rfl) (Nat.le_of_ble_eq_true rfl) ?_
  exact lw_ret hx hb hr hlocks dL_law_1365
