set_option maxHeartbeats 4000000 in
set_option maxRecDepth 100000 in
theorem r_X8_lacks (l : Launch) (dC : Nat → ClassId) (dI : Nat → Nat → Nat) (cI cZ cL cJ : ClassId) (sz : Nat) (mo : Nat) (m_la : Nat) (m_sz : Nat) (m_it : Nat) (m_st : Nat) (m_mv : Nat) (m_tp : Nat) (m_rd : Nat) (m_ac : Nat) (m_as : Nat) (m_wo : Nat) (m_ik : Nat) (m_ke : Nat) (m_tr : Nat) (ms : Int32) (mt : Int32) (ml : Int32) (mk : Int32) (mv : Int32) (mb : Int32) (mw : Int32) (mz : Nat) (mp : Nat) (ma : Nat) (mx : Nat) (fz : Nat → Int32) (j : Nat) (b : Nat) (a0 : Int32) (hsz9 : ∀ j : Nat, j < 8 → fz j = -1 ∨ ∃ q : Nat, q ≤ 40 ∧ fz j = nI q) (hj : j < 8) (hb12 : b ≤ 12) : Met l yX8_lacks wsX8_lacks ({ frames := 1, cells := 0, slots := 0, locals := 25 }) (va_Pc [.ref mo, .int (nI j), .int a0, .int (nI b)] (fun U => U.heap.size = sz ∧ va_P (dC, dI) vwCl [(xo_8_rrriirrriiiiiiirrirrrrri mo m_la m_sz m_it ms mt m_st m_mv m_tp (nI mz) ml (nI mp) mk mv mb mw m_rd m_ac (nI ma) m_as m_wo m_ik m_ke m_tr (nI mx)), (xI m_sz cI 8 fz)] U.heap ∧ va_K (dC, dI) vwCl [(cI, .int), (cZ, .boolean), (cL, .object RX3), (cJ, .array .int)] U ∧ va_D (fun _ => True) [(xo_8_rrriirrriiiiiiirrirrrrri mo m_la m_sz m_it ms mt m_st m_mv m_tp (nI mz) ml (nI mp) mk mv mb mw m_rd m_ac (nI ma) m_as m_wo m_ik m_ke m_tr (nI mx)), (xI m_sz cI 8 fz)])) (va_Qi (fun r (_ : Unit) => (r = 0 ∧ hpF a0 (nI b)) ∨ (¬ 0 ≤ r)) (fun (_ : Unit) t => ∃ (msn : Int32), va_P (dC, dI) vwCl [(xo_8_rrriirrriiiiiiirrirrrrri mo m_la m_sz m_it msn mt m_st m_mv m_tp (nI mz) ml (nI mp) mk mv mb mw m_rd m_ac (nI ma) m_as m_wo m_ik m_ke m_tr (nI mx)), (xI m_sz cI 8 fz)] t.heap ∧ va_D (va_A [(xo_8_rrriirrriiiiiiirrirrrrri mo m_la m_sz m_it ms mt m_st m_mv m_tp (nI mz) ml (nI mp) mk mv mb mw m_rd m_ac (nI ma) m_as m_wo m_ik m_ke m_tr (nI mx)), (xI m_sz cI 8 fz)] sz) [(xo_8_rrriirrriiiiiiirrirrrrri mo m_la m_sz m_it msn mt m_st m_mv m_tp (nI mz) ml (nI mp) mk mv mb mw m_rd m_ac (nI ma) m_as m_wo m_ik m_ke m_tr (nI mx)), (xI m_sz cI 8 fz)]) (va_A [(xo_8_rrriirrriiiiiiirrirrrrri mo m_la m_sz m_it ms mt m_st m_mv m_tp (nI mz) ml (nI mp) mk mv mb mw m_rd m_ac (nI ma) m_as m_wo m_ik m_ke m_tr (nI mx)), (xI m_sz cI 8 fz)] sz)) 0 0 (va_A [(xo_8_rrriirrriiiiiiirrirrrrri mo m_la m_sz m_it ms mt m_st m_mv m_tp (nI mz) ml (nI mp) mk mv mb mw m_rd m_ac (nI ma) m_as m_wo m_ik m_ke m_tr (nI mx)), (xI m_sz cI 8 fz)] sz) := by
  refine Met.ofW (cc := cX8_lacks) (maxL := 4) (ret := (some .int)) (by decide) rfl ?_
  intro p e s m args below meth c s₁ B hml hv
  obtain ⟨rfl, hsz, hP, hK, hD0⟩ := hv
  have hx := B.exec
  have hb := B.bytes
  have hr := B.returns
  have hts := atoms_spec (ws := wsX8_lacks) B.pre
  have hown : s.vm.findClass RX8 = some m.cls := findClass_of_methodNamed B.named
  have hlocks := B.notSynchronized
  subst hsz
  have hD := hD0.self (sz := s.heap.size)
  generalize hAe : va_A [(xo_8_rrriirrriiiiiiirrirrrrri mo m_la m_sz m_it ms mt m_st m_mv m_tp (nI mz) ml (nI mp) mk mv mb mw m_rd m_ac (nI ma) m_as m_wo m_ik m_ke m_tr (nI mx)), (xI m_sz cI 8 fz)] s.heap.size = A at hD ⊢
  have hA : ∀ q : Nat, s.heap.size ≤ q → A q := fun q h => by rw [← hAe]; exact Or.inr h
  have hS : va_S A s.heap s.heap [] := va_S.rf
  have hP : va_P (dC, dI) vwCl [(xo_8_rrriirrriiiiiiirrirrrrri mo m_la m_sz m_it ms mt m_st m_mv m_tp (nI mz) ml (nI mp) mk mv mb mw m_rd m_ac (nI ma) m_as m_wo m_ik m_ke m_tr (nI mx)), (xI m_sz cI 8 fz)] s.heap := hP
  have hl := lv_entry ([.ref mo, .int (nI j), .int a0, .int (nI b)]) (n := 4) (Nat.le_of_ble_eq_true rfl)
  rw [lg_entry_eq]
  generalize (lg_sl ([.ref mo, .int (nI j), .int a0, .int (nI b)]) ++ List.replicate (4 - (lg_sl ([.ref mo, .int (nI j), .int a0, .int (nI b)])).length) Slot.unset).toArray = ls at hl ⊢
  have hl : lv_has ls 4 [(0, .ref mo), (1, .int (nI j)), (2, .int a0), (3, .int (nI b))] := hl
  refine lv_aload_n hx hb dX8_lacks_0 rfl (lv_at hl 0 rfl) ?_
  refine va_get (D := (dC, dI)) (ci := 8) (v := .ref m_sz) (C := RX8) (T := TX8) (N := 24) hx hb hts i_X8_lacks_X8 hown hK hP 0 rfl rfl 1 (by decide) (hts _ mx_X8_lacks_1) (fun _ h9 => h9) rfl dX8_lacks_1 ?_
  refine lv_iload_n hx hb dX8_lacks_4 rfl (lv_at hl 1 rfl) ?_
  refine va_iald hx hb hK hP 1 0 rfl rfl (vp_in_nI (by omega) (by omega)) dX8_lacks_5 ?_
  refine lv_topi (fun v_1 e_1 => ?_)
  rw [nI_clamp (by omega)] at e_1
  rcases hsz9 j (by omega) with hs_1 | ⟨q_1, hq_1, hs_1⟩
  · obtain rfl : v_1 = -1 := e_1.trans hs_1
    refine lv_if_ge (tgt := 15) hx hb dX8_lacks_6 (by decide) (fun c_ => absurd c_ (by decide)) (fun _ => ?_)
    refine lv_aload_n hx hb dX8_lacks_9 rfl (lv_at hl 0 rfl) ?_
    refine lv_iconst (v := 1) hx hb dX8_lacks_10 (by decide) ?_
    have hc_3 := cutW (wc := [(xo_8_rrriirrriiiiiiirrirrrrri mo m_la m_sz m_it ms mt m_st m_mv m_tp (nI mz) ml (nI mp) mk mv mb mw m_rd m_ac (nI ma) m_as m_wo m_ik m_ke m_tr (nI mx))]) hP hD hS hA [0] (by decide +kernel) rfl
    refine va_calli (va_runV (As := [.int 1]) (rest := []) ⟨hx, hb, hml, hown, hts⟩ (r_X8_find l dC dI cI cZ cL cJ s.heap.size mo m_la m_sz m_it m_st m_mv m_tp m_rd m_ac m_as m_wo m_ik m_ke m_tr ms mt ml mk mv mb mw mz mp ma mx 1 ) (cwV 1 hts gX8_lacks_X8_find rfl rfl rfl (by decide +kernel) ⟨Nat.le_of_ble_eq_true rfl, Nat.le_of_ble_eq_true rfl⟩) (pvW 8 0 hK hP rfl rfl hc_3) rfl rfl hl.1 rfl (lv_room (Nat.le_of_ble_eq_true rfl)) dX8_lacks_11 ⟨Nat.le_of_ble_eq_true rfl, Nat.le_of_ble_eq_true rfl⟩) hS (fun q _ h => hc_3.2.2 q h) hc_3.2.2 (fun r_3 u_3 t_3 H1 locs ht hvm h_3 hB hz1 hk1 hS => ?_)
    refine xl_1_3 hB (fun msn_3 hP1 hD1 hF_3_0 => ?_)
    clear hB
    rw [ht] at hP1
    obtain ⟨hP, hD⟩ := va_join (wr := [(xI m_sz cI 8 fz)]) (w1 := [(xo_8_rrriirrriiiiiiirrirrrrri mo m_la m_sz m_it msn_3 mt m_st m_mv m_tp (nI mz) ml (nI mp) mk mv mb mw m_rd m_ac (nI ma) m_as m_wo m_ik m_ke m_tr (nI mx))]) hP hD [0] [1] rfl rfl (by decide +kernel) (by decide +kernel) hk1 hc_3.2.2 hP1 hD1
    generalize H1 = H at hP hS ⊢
    have hP : va_P (dC, dI) vwCl [(xI m_sz cI 8 fz), (xo_8_rrriirrriiiiiiirrirrrrri mo m_la m_sz m_it msn_3 mt m_st m_mv m_tp (nI mz) ml (nI mp) mk mv mb mw m_rd m_ac (nI ma) m_as m_wo m_ik m_ke m_tr (nI mx))] H := hP
    have hD := dto hP hD
    have hX9 := cut2 (wc := [(xo_8_rrriirrriiiiiiirrirrrrri mo m_la m_sz m_it msn_3 mt m_st m_mv m_tp (nI mz) ml (nI mp) mk mv mb mw m_rd m_ac (nI ma) m_as m_wo m_ik m_ke m_tr (nI mx)), (xI m_sz cI 8 fz)]) hP hD [1, 0] (by decide +kernel) rfl
    exact W.iret (v := r_3) hx hb hr (fun t ht hW => ⟨⟨r_3, (), rfl, Or.inr (by rw [h_3]; decide), ⟨msn_3, va_Ht ht hX9.1, hX9.2⟩⟩, hS.F ht⟩) hS.2.2 dX8_lacks_14
  · obtain rfl : v_1 = nI q_1 := e_1.trans hs_1
    refine lv_if_ge (tgt := 15) hx hb dX8_lacks_6 (by decide) (fun _ => ?_) (fun c_ => absurd ((nI_leI (a := 0) (b := q_1) (by omega) (by omega)).mpr (by omega)) c_)
    refine lv_iload_n hx hb dX8_lacks_15 rfl (lv_at hl 2 rfl) ?_
    refine lv_i2l hx hb dX8_lacks_16 rfl ?_
    refine lv_lconst (v := 0) hx hb dX8_lacks_17 (by decide) ?_
    refine lv_aload_n hx hb dX8_lacks_18 rfl (lv_at hl 0 rfl) ?_
    refine va_get (D := (dC, dI)) (ci := 8) (v := .ref m_sz) (C := RX8) (T := TX8) (N := 24) hx hb hts i_X8_lacks_X8 hown hK hP 0 rfl rfl 1 (by decide) (hts _ mx_X8_lacks_1) (fun _ h9 => h9) rfl dX8_lacks_19 ?_
    refine lv_iload_n hx hb dX8_lacks_22 rfl (lv_at hl 1 rfl) ?_
    refine va_iald hx hb hK hP 1 0 rfl rfl (vp_in_nI (by omega) (by omega)) dX8_lacks_23 ?_
    refine lv_topi (fun v_5 e_5 => ?_)
    obtain rfl : v_5 = (nI q_1) := e_5.trans (by rw [nI_clamp (by omega)]; exact hs_1)
    refine lv_iload_n hx hb dX8_lacks_24 rfl (lv_at hl 3 rfl) ?_
    refine lv_isub hx hb dX8_lacks_25 ?_
    refine lv_topi (fun v_6 e_6 => ?_)
    refine lv_i2l hx hb dX8_lacks_26 rfl ?_
    have hPc_7 := hP.sub (ws' := []) [] rfl
    refine vp_callSi (W.runS (As := [.long (a0).toInt64, .long 0, .long (v_6).toInt64]) (rest := []) ⟨hx, hb, hml, hown, hts⟩ (r_X8_in l dC dI cI cZ cL cJ ((a0).toInt64) 0 ((v_6).toInt64) ) (va_cwS 3 hts gX8_lacks_X8_in rfl rfl rfl (by decide +kernel) ⟨Nat.le_of_ble_eq_true rfl, Nat.le_of_ble_eq_true rfl⟩) (psP hK hPc_7) rfl rfl hl.1 rfl (lv_room (Nat.le_of_ble_eq_true rfl)) dX8_lacks_27 ⟨Nat.le_of_ble_eq_true rfl, Nat.le_of_ble_eq_true rfl⟩) (fun r_7 h_7 => ?_)
    rcases h_7 with ⟨h_7, f_7_0_0⟩ | ⟨h_7, f_7_1_0⟩
    · subst h_7
      refine lv_if_eq (tgt := 37) hx hb dX8_lacks_30 (by decide) (fun _ => ?_) (fun c_ => absurd (by decide) c_)
      refine lv_aload_n hx hb dX8_lacks_37 rfl (lv_at hl 0 rfl) ?_
      refine lv_iconst (v := 2) hx hb dX8_lacks_38 (by decide) ?_
      have hc_9 := cutW (wc := [(xo_8_rrriirrriiiiiiirrirrrrri mo m_la m_sz m_it ms mt m_st m_mv m_tp (nI mz) ml (nI mp) mk mv mb mw m_rd m_ac (nI ma) m_as m_wo m_ik m_ke m_tr (nI mx))]) hP hD hS hA [0] (by decide +kernel) rfl
      refine va_calli (va_runV (As := [.int 2]) (rest := []) ⟨hx, hb, hml, hown, hts⟩ (r_X8_find l dC dI cI cZ cL cJ s.heap.size mo m_la m_sz m_it m_st m_mv m_tp m_rd m_ac m_as m_wo m_ik m_ke m_tr ms mt ml mk mv mb mw mz mp ma mx 2 ) (cwV 1 hts gX8_lacks_X8_find rfl rfl rfl (by decide +kernel) ⟨Nat.le_of_ble_eq_true rfl, Nat.le_of_ble_eq_true rfl⟩) (pvW 8 0 hK hP rfl rfl hc_9) rfl rfl hl.1 rfl (lv_room (Nat.le_of_ble_eq_true rfl)) dX8_lacks_39 ⟨Nat.le_of_ble_eq_true rfl, Nat.le_of_ble_eq_true rfl⟩) hS (fun q _ h => hc_9.2.2 q h) hc_9.2.2 (fun r_9 u_9 t_9 H1 locs ht hvm h_9 hB hz1 hk1 hS => ?_)
      refine xl_1_3 hB (fun msn_9 hP1 hD1 hF_9_0 => ?_)
      clear hB
      rw [ht] at hP1
      obtain ⟨hP, hD⟩ := va_join (wr := [(xI m_sz cI 8 fz)]) (w1 := [(xo_8_rrriirrriiiiiiirrirrrrri mo m_la m_sz m_it msn_9 mt m_st m_mv m_tp (nI mz) ml (nI mp) mk mv mb mw m_rd m_ac (nI ma) m_as m_wo m_ik m_ke m_tr (nI mx))]) hP hD [0] [1] rfl rfl (by decide +kernel) (by decide +kernel) hk1 hc_9.2.2 hP1 hD1
      generalize H1 = H at hP hS ⊢
      have hP : va_P (dC, dI) vwCl [(xI m_sz cI 8 fz), (xo_8_rrriirrriiiiiiirrirrrrri mo m_la m_sz m_it msn_9 mt m_st m_mv m_tp (nI mz) ml (nI mp) mk mv mb mw m_rd m_ac (nI ma) m_as m_wo m_ik m_ke m_tr (nI mx))] H := hP
      have hD := dto hP hD
      have hX9 := cut2 (wc := [(xo_8_rrriirrriiiiiiirrirrrrri mo m_la m_sz m_it msn_9 mt m_st m_mv m_tp (nI mz) ml (nI mp) mk mv mb mw m_rd m_ac (nI ma) m_as m_wo m_ik m_ke m_tr (nI mx)), (xI m_sz cI 8 fz)]) hP hD [1, 0] (by decide +kernel) rfl
      exact W.iret (v := r_9) hx hb hr (fun t ht hW => ⟨⟨r_9, (), rfl, Or.inr (by rw [h_9]; decide), ⟨msn_9, va_Ht ht hX9.1, hX9.2⟩⟩, hS.F ht⟩) hS.2.2 dX8_lacks_42
    · subst h_7
      have hd_7 := dif_in (q := q_1) (b := b) (by omega) (by omega) e_6 f_7_1_0
      refine lv_if_eq (tgt := 37) hx hb dX8_lacks_30 (by decide) (fun c_ => absurd c_ (by decide)) (fun _ => ?_)
      refine lv_iconst (v := 0) hx hb dX8_lacks_33 (by decide) ?_
      refine lv_goto (tgt := 42) hx hb dX8_lacks_34 (by decide) ?_
      have hX9 := cut2 (wc := [(xo_8_rrriirrriiiiiiirrirrrrri mo m_la m_sz m_it ms mt m_st m_mv m_tp (nI mz) ml (nI mp) mk mv mb mw m_rd m_ac (nI ma) m_as m_wo m_ik m_ke m_tr (nI mx)), (xI m_sz cI 8 fz)]) hP hD [0, 1] (by decide +kernel) rfl
      exact W.iret (v := 0) hx hb hr (fun t ht hW => ⟨⟨0, (), rfl, Or.inl ⟨rfl, hd_7⟩, ⟨ms, va_Ht ht hX9.1, hX9.2⟩⟩, hS.F ht⟩) hS.2.2 dX8_lacks_42
set_option maxHeartbeats 4000000 in
set_option maxRecDepth 100000 in
theorem r_X8_isSo (l : Launch) (dC : Nat → ClassId) (dI : Nat → Nat → Nat) (cI cZ cL cJ : ClassId) (sz : Nat) (mo : Nat) (m_la : Nat) (m_sz : Nat) (m_it : Nat) (m_st : Nat) (m_mv : Nat) (m_tp : Nat) (m_rd : Nat) (m_ac : Nat) (m_as : Nat) (m_wo : Nat) (m_ik : Nat) (m_ke : Nat) (m_tr : Nat) (ms : Int32) (mt : Int32) (ml : Int32) (mk : Int32) (mv : Int32) (mb : Int32) (mw : Int32) (mz : Nat) (mp : Nat) (ma : Nat) (mx : Nat) (fs : Nat → Int32) (w9 : Nat) (k9 : Nat) (h9 : Nat) (fa : Nat → Int32) (fi_ : Nat → Int32) (i : Nat) (a : Nat) (b : Nat) (hM : okM fs w9 k9 h9) (hw1 : 1 ≤ w9) (hh9 : h9 < 1000000000) (hi : i < 6) (hab : a + b ≤ 320) : Met l yX8_isSo wsX8_isSo ({ frames := 4, cells := 0, slots := 0, locals := 95 }) (va_Pc [.ref mo, .int (nI i), .int (nI a), .int (nI b)] (fun U => U.heap.size = sz ∧ va_P (dC, dI) vwCl [(xo_8_rrriirrriiiiiiirrirrrrri mo m_la m_sz m_it ms mt m_st m_mv m_tp (nI mz) ml (nI mp) mk mv mb mw m_rd m_ac (nI ma) m_as m_wo m_ik m_ke m_tr (nI mx)), (xI m_st cI 38 fs), (xI m_as cI 38 fa), (xI m_it cI 320 fi_)] U.heap ∧ va_K (dC, dI) vwCl [(cI, .int), (cZ, .boolean), (cL, .object RX3), (cJ, .array .int)] U ∧ va_D (fun _ => True) [(xo_8_rrriirrriiiiiiirrirrrrri mo m_la m_sz m_it ms mt m_st m_mv m_tp (nI mz) ml (nI mp) mk mv mb mw m_rd m_ac (nI ma) m_as m_wo m_ik m_ke m_tr (nI mx)), (xI m_st cI 38 fs), (xI m_as cI 38 fa), (xI m_it cI 320 fi_)])) (va_Qi (fun r (_ : Unit) => True) (fun (_ : Unit) t => ∃ (fsn : Nat → Int32), va_P (dC, dI) vwCl [(xo_8_rrriirrriiiiiiirrirrrrri mo m_la m_sz m_it ms mt m_st m_mv m_tp (nI mz) ml (nI mp) mk mv mb mw m_rd m_ac (nI ma) m_as m_wo m_ik m_ke m_tr (nI mx)), (xI m_st cI 38 fsn), (xI m_as cI 38 fa), (xI m_it cI 320 fi_)] t.heap ∧ va_D (va_A [(xo_8_rrriirrriiiiiiirrirrrrri mo m_la m_sz m_it ms mt m_st m_mv m_tp (nI mz) ml (nI mp) mk mv mb mw m_rd m_ac (nI ma) m_as m_wo m_ik m_ke m_tr (nI mx)), (xI m_st cI 38 fs), (xI m_as cI 38 fa), (xI m_it cI 320 fi_)] sz) [(xo_8_rrriirrriiiiiiirrirrrrri mo m_la m_sz m_it ms mt m_st m_mv m_tp (nI mz) ml (nI mp) mk mv mb mw m_rd m_ac (nI ma) m_as m_wo m_ik m_ke m_tr (nI mx)), (xI m_st cI 38 fsn), (xI m_as cI 38 fa), (xI m_it cI 320 fi_)] ∧ (∀ j : Nat, j < 38 → fsn j = fa j)) (va_A [(xo_8_rrriirrriiiiiiirrirrrrri mo m_la m_sz m_it ms mt m_st m_mv m_tp (nI mz) ml (nI mp) mk mv mb mw m_rd m_ac (nI ma) m_as m_wo m_ik m_ke m_tr (nI mx)), (xI m_st cI 38 fs), (xI m_as cI 38 fa), (xI m_it cI 320 fi_)] sz)) 0 0 (va_A [(xo_8_rrriirrriiiiiiirrirrrrri mo m_la m_sz m_it ms mt m_st m_mv m_tp (nI mz) ml (nI mp) mk mv mb mw m_rd m_ac (nI ma) m_as m_wo m_ik m_ke m_tr (nI mx)), (xI m_st cI 38 fs), (xI m_as cI 38 fa), (xI m_it cI 320 fi_)] sz) := by
  refine Met.ofW (cc := cX8_isSo) (maxL := 7) (ret := (some .boolean)) (by decide) rfl ?_
  intro p e s m args below meth c s₁ B hml hv
  obtain ⟨rfl, hsz, hP, hK, hD0⟩ := hv
  have hx := B.exec
  have hb := B.bytes
  have hr := B.returns
  have hts := atoms_spec (ws := wsX8_isSo) B.pre
  have hown : s.vm.findClass RX8 = some m.cls := findClass_of_methodNamed B.named
  have hlocks := B.notSynchronized
  subst hsz
  have hD := hD0.self (sz := s.heap.size)
  generalize hAe : va_A [(xo_8_rrriirrriiiiiiirrirrrrri mo m_la m_sz m_it ms mt m_st m_mv m_tp (nI mz) ml (nI mp) mk mv mb mw m_rd m_ac (nI ma) m_as m_wo m_ik m_ke m_tr (nI mx)), (xI m_st cI 38 fs), (xI m_as cI 38 fa), (xI m_it cI 320 fi_)] s.heap.size = A at hD ⊢
  have hA : ∀ q : Nat, s.heap.size ≤ q → A q := fun q h => by rw [← hAe]; exact Or.inr h
  have hS : va_S A s.heap s.heap [] := va_S.rf
  have hP : va_P (dC, dI) vwCl [(xo_8_rrriirrriiiiiiirrirrrrri mo m_la m_sz m_it ms mt m_st m_mv m_tp (nI mz) ml (nI mp) mk mv mb mw m_rd m_ac (nI ma) m_as m_wo m_ik m_ke m_tr (nI mx)), (xI m_st cI 38 fs), (xI m_as cI 38 fa), (xI m_it cI 320 fi_)] s.heap := hP
  have hl := lv_entry ([.ref mo, .int (nI i), .int (nI a), .int (nI b)]) (n := 7) (Nat.le_of_ble_eq_true rfl)
  rw [lg_entry_eq]
  generalize (lg_sl ([.ref mo, .int (nI i), .int (nI a), .int (nI b)]) ++ List.replicate (7 - (lg_sl ([.ref mo, .int (nI i), .int (nI a), .int (nI b)])).length) Slot.unset).toArray = ls at hl ⊢
  have hl : lv_has ls 7 [(0, .ref mo), (1, .int (nI i)), (2, .int (nI a)), (3, .int (nI b))] := hl
  have hk6 := hM.2.2.2.2.1
  have hw6 := hM.2.2.2.1
  refine lv_iconst (v := 1) hx hb dX8_isSo_0 (by decide) ?_
  refine lv_istore (lv' := [(4, .int 1), (0, .ref mo), (1, .int (nI i)), (2, .int (nI a)), (3, .int (nI b))]) hx hb dX8_isSo_1 hl (by decide) rfl (fun ls hl => ?_)
  refine lv_iconst (v := 0) hx hb dX8_isSo_3 (by decide) ?_
  refine lv_istore (lv' := [(5, .int 0), (4, .int 1), (0, .ref mo), (1, .int (nI i)), (2, .int (nI a)), (3, .int (nI b))]) hx hb dX8_isSo_4 hl (by decide) rfl (fun ls hl => ?_)
  refine lp_go (σ := (Nat) × (Nat → Int32)) (fun ii (st : (Nat) × (Nat → Int32)) H locs ls => match st with | (w_17, w_18) => lv_has ls 7 [(5, .int (nI ii)), (4, .int (nI w_17)), (0, .ref mo), (1, .int (nI i)), (2, .int (nI a)), (3, .int (nI b))] ∧ va_P (dC, dI) vwCl [(xo_8_rrriirrriiiiiiirrirrrrri mo m_la m_sz m_it ms mt m_st m_mv m_tp (nI mz) ml (nI mp) mk mv mb mw m_rd m_ac (nI ma) m_as m_wo m_ik m_ke m_tr (nI mx)), (xI m_st cI 38 w_18), (xI m_as cI 38 fa), (xI m_it cI 320 fi_)] H ∧ va_D A [(xo_8_rrriirrriiiiiiirrirrrrri mo m_la m_sz m_it ms mt m_st m_mv m_tp (nI mz) ml (nI mp) mk mv mb mw m_rd m_ac (nI ma) m_as m_wo m_ik m_ke m_tr (nI mx)), (xI m_st cI 38 w_18), (xI m_as cI 38 fa), (xI m_it cI 320 fi_)] ∧ va_S A s.heap H locs ∧ okM w_18 w9 k9 (h9 + ii) ∧ w_17 ≤ 1) b ?_ ?_ 0 (by omega) (1, fs) ⟨lv_sub hl [0, 1, 2, 3, 4, 5] rfl, hP.sub (ws' := [(xo_8_rrriirrriiiiiiirrirrrrri mo m_la m_sz m_it ms mt m_st m_mv m_tp (nI mz) ml (nI mp) mk mv mb mw m_rd m_ac (nI ma) m_as m_wo m_ik m_ke m_tr (nI mx)), (xI m_st cI 38 fs), (xI m_as cI 38 fa), (xI m_it cI 320 fi_)]) [0, 1, 2, 3] rfl, hD.sub (ws' := [(xo_8_rrriirrriiiiiiirrirrrrri mo m_la m_sz m_it ms mt m_st m_mv m_tp (nI mz) ml (nI mp) mk mv mb mw m_rd m_ac (nI ma) m_as m_wo m_ik m_ke m_tr (nI mx)), (xI m_st cI 38 fs), (xI m_as cI 38 fa), (xI m_it cI 320 fi_)]) [0, 1, 2, 3] (by decide +kernel) rfl, hS, hM, (by omega)⟩
  · rintro ii ⟨w_17, w_18⟩ H locs ls hii ⟨hl, hP, hD, hS, hMl, hnb_w_17⟩ ih
    refine lv_iload hx hb dX8_isSo_6 (lv_at hl 0 rfl) ?_
    refine lv_iload_n hx hb dX8_isSo_8 rfl (lv_at hl 5 rfl) ?_
    refine lv_icmp_ge (tgt := 77) hx hb dX8_isSo_9 (by decide) (fun c_ => absurd c_ (fun q_ => absurd ((nI_leI (a := b) (b := ii) (by omega) (by omega)).mp q_) (by omega))) (fun _ => ?_)
    refine lv_aload_n hx hb dX8_isSo_12 rfl (lv_at hl 2 rfl) ?_
    have hc_38 := cutW (wc := [(xo_8_rrriirrriiiiiiirrirrrrri mo m_la m_sz m_it ms mt m_st m_mv m_tp (nI mz) ml (nI mp) mk mv mb mw m_rd m_ac (nI ma) m_as m_wo m_ik m_ke m_tr (nI mx)), (xI m_st cI 38 w_18)]) hP hD hS hA [0, 1] (by decide +kernel) rfl
    refine va_calli (va_runV (As := []) (rest := []) ⟨hx, hb, hml, hown, hts⟩ (r_X8_oneHour l dC dI cI cZ cL cJ H.size mo m_la m_sz m_it m_st m_mv m_tp m_rd m_ac m_as m_wo m_ik m_ke m_tr ms mt ml mk mv mb mw mz mp ma mx w_18 w9 k9 (h9 + ii) (hMl) (by omega) (by omega)) (cwV 0 hts gX8_isSo_X8_oneHour rfl rfl rfl (by decide +kernel) ⟨Nat.le_of_ble_eq_true rfl, Nat.le_of_ble_eq_true rfl⟩) (pvW 8 0 hK hP rfl rfl hc_38) rfl rfl hl.1 rfl (lv_room (Nat.le_of_ble_eq_true rfl)) dX8_isSo_13 ⟨Nat.le_of_ble_eq_true rfl, Nat.le_of_ble_eq_true rfl⟩) hS (fun q _ h => hc_38.2.2 q h) hc_38.2.2 (fun r_38 u_38 t_38 H1 locs ht hvm h_38 hB hz1 hk1 hS => ?_)
    refine xl_1_4 hB (fun fsn_38 hP1 hD1 hF_38_0 hF_38_1 => ?_)
    clear hB
    rw [ht] at hP1
    obtain ⟨hP, hD⟩ := va_join (wr := [(xI m_as cI 38 fa), (xI m_it cI 320 fi_)]) (w1 := [(xo_8_rrriirrriiiiiiirrirrrrri mo m_la m_sz m_it ms mt m_st m_mv m_tp (nI mz) ml (nI mp) mk mv mb mw m_rd m_ac (nI ma) m_as m_wo m_ik m_ke m_tr (nI mx)), (xI m_st cI 38 fsn_38)]) hP hD [0, 1] [2, 3] rfl rfl (by decide +kernel) (by decide +kernel) hk1 hc_38.2.2 hP1 hD1
    generalize H1 = H at hP hS ⊢
    have hP : va_P (dC, dI) vwCl [(xI m_as cI 38 fa), (xI m_it cI 320 fi_), (xo_8_rrriirrriiiiiiirrirrrrri mo m_la m_sz m_it ms mt m_st m_mv m_tp (nI mz) ml (nI mp) mk mv mb mw m_rd m_ac (nI ma) m_as m_wo m_ik m_ke m_tr (nI mx)), (xI m_st cI 38 fsn_38)] H := hP
    have hD := dto hP hD
    refine lv_pop hx hb dX8_isSo_16 rfl ?_
    refine lv_aload_n hx hb dX8_isSo_17 rfl (lv_at hl 2 rfl) ?_
    refine va_get (D := (dC, dI)) (ci := 8) (v := .ref m_st) (C := RX8) (T := TX8) (N := 24) hx hb hts i_X8_isSo_X8 hown hK hP 2 rfl rfl 5 (by decide) (hts _ mx_X8_isSo_1) (fun _ h9 => h9) rfl dX8_isSo_18 ?_
    refine lv_bipush (v := 26) hx hb dX8_isSo_21 (by decide) ?_
    refine lv_iload_n hx hb dX8_isSo_23 rfl (lv_at hl 3 rfl) ?_
    refine lv_iadd hx hb dX8_isSo_24 ?_
    refine lv_topi (fun v_39 e_39 => ?_)
    obtain rfl : v_39 = (nI (26 + i)) := (e_39).trans (nI_add 26 i)
    refine va_iald hx hb hK hP 3 0 rfl rfl (vp_in_nI (by omega) (by omega)) dX8_isSo_25 ?_
    refine lv_topi (fun v_40 e_40 => ?_)
    refine jn (σ := (Int32)) (fun (st : (Int32)) H locs g => match st with | w_44 => ∃ ls : Array Slot, g = F0 m 43 ls [.int w_44] ∧ lv_has ls 7 [(5, .int (nI ii)), (4, .int (nI w_17)), (0, .ref mo), (1, .int (nI i)), (2, .int (nI a)), (3, .int (nI b))] ∧ va_P (dC, dI) vwCl [(xI m_as cI 38 fa), (xI m_it cI 320 fi_), (xo_8_rrriirrriiiiiiirrirrrrri mo m_la m_sz m_it ms mt m_st m_mv m_tp (nI mz) ml (nI mp) mk mv mb mw m_rd m_ac (nI ma) m_as m_wo m_ik m_ke m_tr (nI mx)), (xI m_st cI 38 fsn_38)] H ∧ va_D A [(xI m_as cI 38 fa), (xI m_it cI 320 fi_), (xo_8_rrriirrriiiiiiirrirrrrri mo m_la m_sz m_it ms mt m_st m_mv m_tp (nI mz) ml (nI mp) mk mv mb mw m_rd m_ac (nI ma) m_as m_wo m_ik m_ke m_tr (nI mx)), (xI m_st cI 38 fsn_38)] ∧ va_S A s.heap H locs ∧ okM fsn_38 w9 k9 ((h9 + ii) + 1)) ?_ ?_
    · rintro w_44 H locs _ ⟨ls, rfl, hl, hP, hD, hS, hMl⟩
      refine lv_istore (lv' := [(6, .int w_44), (5, .int (nI ii)), (4, .int (nI w_17)), (0, .ref mo), (1, .int (nI i)), (2, .int (nI a)), (3, .int (nI b))]) hx hb dX8_isSo_43 hl (by decide) rfl (fun ls hl => ?_)
      refine lv_iload hx hb dX8_isSo_45 (lv_at hl 2 rfl) ?_
      refine lv_if_eq (tgt := 68) hx hb dX8_isSo_47 (by decide) (fun c_46 => ?_) (fun c_46 => ?_)
      · have c_46 : w_17 = 0 := (nI_eq (a := w_17) (b := 0) (by omega) (by omega)).mp c_46
        refine lv_iconst (v := 0) hx hb dX8_isSo_68 (by decide) ?_
        refine lv_istore (lv' := [(4, .int 0), (6, .int w_44), (5, .int (nI ii)), (0, .ref mo), (1, .int (nI i)), (2, .int (nI a)), (3, .int (nI b))]) hx hb dX8_isSo_69 hl (by decide) rfl (fun ls hl => ?_)
        refine lv_iinc (v := (nI (ii + 1))) (lv' := [(5, .int (nI (ii + 1))), (4, .int 0), (6, .int w_44), (0, .ref mo), (1, .int (nI i)), (2, .int (nI a)), (3, .int (nI b))]) hx hb dX8_isSo_71 hl (k := 2) rfl (nI_add ii 1) (by decide) rfl (fun ls hl => ?_)
        refine lv_goto (tgt := 6) hx hb dX8_isSo_74 (by decide) ?_
        exact ih (0, fsn_38) _ _ _ ⟨lv_sub hl [0, 1, 3, 4, 5, 6] rfl, hP.sub (ws' := [(xo_8_rrriirrriiiiiiirrirrrrri mo m_la m_sz m_it ms mt m_st m_mv m_tp (nI mz) ml (nI mp) mk mv mb mw m_rd m_ac (nI ma) m_as m_wo m_ik m_ke m_tr (nI mx)), (xI m_st cI 38 fsn_38), (xI m_as cI 38 fa), (xI m_it cI 320 fi_)]) [2, 3, 0, 1] rfl, hD.sub (ws' := [(xo_8_rrriirrriiiiiiirrirrrrri mo m_la m_sz m_it ms mt m_st m_mv m_tp (nI mz) ml (nI mp) mk mv mb mw m_rd m_ac (nI ma) m_as m_wo m_ik m_ke m_tr (nI mx)), (xI m_st cI 38 fsn_38), (xI m_as cI 38 fa), (xI m_it cI 320 fi_)]) [2, 3, 0, 1] (by decide +kernel) rfl, hS, hMl, (by omega)⟩
      · have c_46 : ¬ (w_17 = 0) := fun q_ => c_46 ((nI_eq (a := w_17) (b := 0) (by omega) (by omega)).mpr q_)
        refine lv_aload_n hx hb dX8_isSo_50 rfl (lv_at hl 3 rfl) ?_
        refine va_get (D := (dC, dI)) (ci := 8) (v := .ref m_it) (C := RX8) (T := TX8) (N := 24) hx hb hts i_X8_isSo_X8 hown hK hP 2 rfl rfl 2 (by decide) (hts _ mx_X8_isSo_2) (fun _ h9 => h9) rfl dX8_isSo_51 ?_
        refine lv_iload_n hx hb dX8_isSo_54 rfl (lv_at hl 5 rfl) ?_
        refine lv_iload hx hb dX8_isSo_55 (lv_at hl 1 rfl) ?_
        refine lv_iadd hx hb dX8_isSo_57 ?_
        refine lv_topi (fun v_47 e_47 => ?_)
        obtain rfl : v_47 = (nI (a + ii)) := (e_47).trans (nI_add a ii)
        refine va_iald hx hb hK hP 1 0 rfl rfl (vp_in_nI (by omega) (by omega)) dX8_isSo_58 ?_
        refine lv_topi (fun v_48 e_48 => ?_)
        refine lv_iload hx hb dX8_isSo_59 (lv_at hl 0 rfl) ?_
        refine lv_icmp_ne (tgt := 68) hx hb dX8_isSo_61 (by decide) (fun c_49 => ?_) (fun c_49 => ?_)
        · skip
          refine lv_iconst (v := 0) hx hb dX8_isSo_68 (by decide) ?_
          refine lv_istore (lv' := [(4, .int 0), (6, .int w_44), (5, .int (nI ii)), (0, .ref mo), (1, .int (nI i)), (2, .int (nI a)), (3, .int (nI b))]) hx hb dX8_isSo_69 hl (by decide) rfl (fun ls hl => ?_)
          refine lv_iinc (v := (nI (ii + 1))) (lv' := [(5, .int (nI (ii + 1))), (4, .int 0), (6, .int w_44), (0, .ref mo), (1, .int (nI i)), (2, .int (nI a)), (3, .int (nI b))]) hx hb dX8_isSo_71 hl (k := 2) rfl (nI_add ii 1) (by decide) rfl (fun ls hl => ?_)
          refine lv_goto (tgt := 6) hx hb dX8_isSo_74 (by decide) ?_
          exact ih (0, fsn_38) _ _ _ ⟨lv_sub hl [0, 1, 3, 4, 5, 6] rfl, hP.sub (ws' := [(xo_8_rrriirrriiiiiiirrirrrrri mo m_la m_sz m_it ms mt m_st m_mv m_tp (nI mz) ml (nI mp) mk mv mb mw m_rd m_ac (nI ma) m_as m_wo m_ik m_ke m_tr (nI mx)), (xI m_st cI 38 fsn_38), (xI m_as cI 38 fa), (xI m_it cI 320 fi_)]) [2, 3, 0, 1] rfl, hD.sub (ws' := [(xo_8_rrriirrriiiiiiirrirrrrri mo m_la m_sz m_it ms mt m_st m_mv m_tp (nI mz) ml (nI mp) mk mv mb mw m_rd m_ac (nI ma) m_as m_wo m_ik m_ke m_tr (nI mx)), (xI m_st cI 38 fsn_38), (xI m_as cI 38 fa), (xI m_it cI 320 fi_)]) [2, 3, 0, 1] (by decide +kernel) rfl, hS, hMl, (by omega)⟩
        · skip
          refine lv_iconst (v := 1) hx hb dX8_isSo_64 (by decide) ?_
          refine lv_goto (tgt := 69) hx hb dX8_isSo_65 (by decide) ?_
          refine lv_istore (lv' := [(4, .int 1), (6, .int w_44), (5, .int (nI ii)), (0, .ref mo), (1, .int (nI i)), (2, .int (nI a)), (3, .int (nI b))]) hx hb dX8_isSo_69 hl (by decide) rfl (fun ls hl => ?_)
          refine lv_iinc (v := (nI (ii + 1))) (lv' := [(5, .int (nI (ii + 1))), (4, .int 1), (6, .int w_44), (0, .ref mo), (1, .int (nI i)), (2, .int (nI a)), (3, .int (nI b))]) hx hb dX8_isSo_71 hl (k := 2) rfl (nI_add ii 1) (by decide) rfl (fun ls hl => ?_)
          refine lv_goto (tgt := 6) hx hb dX8_isSo_74 (by decide) ?_
          exact ih (1, fsn_38) _ _ _ ⟨lv_sub hl [0, 1, 3, 4, 5, 6] rfl, hP.sub (ws' := [(xo_8_rrriirrriiiiiiirrirrrrri mo m_la m_sz m_it ms mt m_st m_mv m_tp (nI mz) ml (nI mp) mk mv mb mw m_rd m_ac (nI ma) m_as m_wo m_ik m_ke m_tr (nI mx)), (xI m_st cI 38 fsn_38), (xI m_as cI 38 fa), (xI m_it cI 320 fi_)]) [2, 3, 0, 1] rfl, hD.sub (ws' := [(xo_8_rrriirrriiiiiiirrirrrrri mo m_la m_sz m_it ms mt m_st m_mv m_tp (nI mz) ml (nI mp) mk mv mb mw m_rd m_ac (nI ma) m_as m_wo m_ik m_ke m_tr (nI mx)), (xI m_st cI 38 fsn_38), (xI m_as cI 38 fa), (xI m_it cI 320 fi_)]) [2, 3, 0, 1] (by decide +kernel) rfl, hS, hMl, (by omega)⟩
    · intro jk_45
      refine lv_if_ne (tgt := 41) hx hb dX8_isSo_26 (by decide) (fun c_50 => ?_) (fun c_50 => ?_)
      · skip
        refine lv_bipush (v := 99) hx hb dX8_isSo_41 (by decide) ?_
        exact jk_45 (99) _ _ _ ⟨ls, rfl, lv_sub hl [0, 1, 2, 3, 4, 5] rfl, hP.sub (ws' := [(xI m_as cI 38 fa), (xI m_it cI 320 fi_), (xo_8_rrriirrriiiiiiirrirrrrri mo m_la m_sz m_it ms mt m_st m_mv m_tp (nI mz) ml (nI mp) mk mv mb mw m_rd m_ac (nI ma) m_as m_wo m_ik m_ke m_tr (nI mx)), (xI m_st cI 38 fsn_38)]) [0, 1, 2, 3] rfl, hD.sub (ws' := [(xI m_as cI 38 fa), (xI m_it cI 320 fi_), (xo_8_rrriirrriiiiiiirrirrrrri mo m_la m_sz m_it ms mt m_st m_mv m_tp (nI mz) ml (nI mp) mk mv mb mw m_rd m_ac (nI ma) m_as m_wo m_ik m_ke m_tr (nI mx)), (xI m_st cI 38 fsn_38)]) [0, 1, 2, 3] (by decide +kernel) rfl, hS, hF_38_0⟩
      · skip
        refine lv_aload_n hx hb dX8_isSo_29 rfl (lv_at hl 2 rfl) ?_
        refine va_get (D := (dC, dI)) (ci := 8) (v := .ref m_st) (C := RX8) (T := TX8) (N := 24) hx hb hts i_X8_isSo_X8 hown hK hP 2 rfl rfl 5 (by decide) (hts _ mx_X8_isSo_1) (fun _ h9 => h9) rfl dX8_isSo_30 ?_
        refine lv_bipush (v := 20) hx hb dX8_isSo_33 (by decide) ?_
        refine lv_iload_n hx hb dX8_isSo_35 rfl (lv_at hl 3 rfl) ?_
        refine lv_iadd hx hb dX8_isSo_36 ?_
        refine lv_topi (fun v_51 e_51 => ?_)
        obtain rfl : v_51 = (nI (20 + i)) := (e_51).trans (nI_add 20 i)
        refine va_iald hx hb hK hP 3 0 rfl rfl (vp_in_nI (by omega) (by omega)) dX8_isSo_37 ?_
        refine lv_topi (fun v_52 e_52 => ?_)
        refine lv_goto (tgt := 43) hx hb dX8_isSo_38 (by decide) ?_
        exact jk_45 (v_52) _ _ _ ⟨ls, rfl, lv_sub hl [0, 1, 2, 3, 4, 5] rfl, hP.sub (ws' := [(xI m_as cI 38 fa), (xI m_it cI 320 fi_), (xo_8_rrriirrriiiiiiirrirrrrri mo m_la m_sz m_it ms mt m_st m_mv m_tp (nI mz) ml (nI mp) mk mv mb mw m_rd m_ac (nI ma) m_as m_wo m_ik m_ke m_tr (nI mx)), (xI m_st cI 38 fsn_38)]) [0, 1, 2, 3] rfl, hD.sub (ws' := [(xI m_as cI 38 fa), (xI m_it cI 320 fi_), (xo_8_rrriirrriiiiiiirrirrrrri mo m_la m_sz m_it ms mt m_st m_mv m_tp (nI mz) ml (nI mp) mk mv mb mw m_rd m_ac (nI ma) m_as m_wo m_ik m_ke m_tr (nI mx)), (xI m_st cI 38 fsn_38)]) [0, 1, 2, 3] (by decide +kernel) rfl, hS, hF_38_0⟩
  · rintro ⟨w_17, w_18⟩ H locs ls ⟨hl, hP, hD, hS, hMl, hnb_w_17⟩
    refine lv_iload hx hb dX8_isSo_6 (lv_at hl 0 rfl) ?_
    refine lv_iload_n hx hb dX8_isSo_8 rfl (lv_at hl 5 rfl) ?_
    refine lv_icmp_ge (tgt := 77) hx hb dX8_isSo_9 (by decide) (fun _ => ?_) (fun c_ => absurd ((nI_leI (a := b) (b := b) (by omega) (by omega)).mpr (by omega)) c_)
    refine lv_aload_n hx hb dX8_isSo_77 rfl (lv_at hl 2 rfl) ?_
    have hc_54 := cutW (wc := [(xo_8_rrriirrriiiiiiirrirrrrri mo m_la m_sz m_it ms mt m_st m_mv m_tp (nI mz) ml (nI mp) mk mv mb mw m_rd m_ac (nI ma) m_as m_wo m_ik m_ke m_tr (nI mx)), (xI m_st cI 38 w_18), (xI m_as cI 38 fa)]) hP hD hS hA [0, 1, 2] (by decide +kernel) rfl
    refine va_callv (va_runV (As := []) (rest := []) ⟨hx, hb, hml, hown, hts⟩ (r_X8_takeBack l dC dI cI cZ cL cJ H.size mo m_la m_sz m_it m_st m_mv m_tp m_rd m_ac m_as m_wo m_ik m_ke m_tr ms mt ml mk mv mb mw mz mp ma mx w_18 fa ) (cwV 0 hts gX8_isSo_X8_takeBack rfl rfl rfl (by decide +kernel) ⟨Nat.le_of_ble_eq_true rfl, Nat.le_of_ble_eq_true rfl⟩) (pvW 8 0 hK hP rfl rfl hc_54) rfl rfl hl.1 rfl (lv_room (Nat.le_of_ble_eq_true rfl)) dX8_isSo_78 ⟨Nat.le_of_ble_eq_true rfl, Nat.le_of_ble_eq_true rfl⟩) hS (fun q _ h => hc_54.2.2 q h) hc_54.2.2 (fun u_54 t_54 H1 locs ht hvm h_54 hB hz1 hk1 hS => ?_)
    refine xl_1_3 hB (fun fsn_54 hP1 hD1 hF_54_0 => ?_)
    clear hB
    rw [ht] at hP1
    obtain ⟨hP, hD⟩ := va_join (wr := [(xI m_it cI 320 fi_)]) (w1 := [(xo_8_rrriirrriiiiiiirrirrrrri mo m_la m_sz m_it ms mt m_st m_mv m_tp (nI mz) ml (nI mp) mk mv mb mw m_rd m_ac (nI ma) m_as m_wo m_ik m_ke m_tr (nI mx)), (xI m_st cI 38 fsn_54), (xI m_as cI 38 fa)]) hP hD [0, 1, 2] [3] rfl rfl (by decide +kernel) (by decide +kernel) hk1 hc_54.2.2 hP1 hD1
    generalize H1 = H at hP hS ⊢
    have hP : va_P (dC, dI) vwCl [(xI m_it cI 320 fi_), (xo_8_rrriirrriiiiiiirrirrrrri mo m_la m_sz m_it ms mt m_st m_mv m_tp (nI mz) ml (nI mp) mk mv mb mw m_rd m_ac (nI ma) m_as m_wo m_ik m_ke m_tr (nI mx)), (xI m_st cI 38 fsn_54), (xI m_as cI 38 fa)] H := hP
    have hD := dto hP hD
    refine lv_iload hx hb dX8_isSo_81 (lv_at hl 1 rfl) ?_
    have hX9 := cut2 (wc := [(xo_8_rrriirrriiiiiiirrirrrrri mo m_la m_sz m_it ms mt m_st m_mv m_tp (nI mz) ml (nI mp) mk mv mb mw m_rd m_ac (nI ma) m_as m_wo m_ik m_ke m_tr (nI mx)), (xI m_st cI 38 fsn_54), (xI m_as cI 38 fa), (xI m_it cI 320 fi_)]) hP hD [1, 2, 3, 0] (by decide +kernel) rfl
    exact W.zret (v := (nI w_17)) hx hb hr (by rcases (show w_17 = 0 ∨ w_17 = 1 by omega) with e_ | e_ <;> rw [e_] <;> decide) (fun t ht hW => ⟨⟨(nI w_17), (), rfl, trivial, ⟨fsn_54, va_Ht ht hX9.1, hX9.2, hF_54_0⟩⟩, hS.F ht⟩) hS.2.2 dX8_isSo_83
set_option maxHeartbeats 4000000 in
set_option maxRecDepth 100000 in
theorem r_X8_fits (l : Launch) (dC : Nat → ClassId) (dI : Nat → Nat → Nat) (cI cZ cL cJ : ClassId) (sz : Nat) (mo : Nat) (m_la : Nat) (m_sz : Nat) (m_it : Nat) (m_st : Nat) (m_mv : Nat) (m_tp : Nat) (m_rd : Nat) (m_ac : Nat) (m_as : Nat) (m_wo : Nat) (m_ik : Nat) (m_ke : Nat) (m_tr : Nat) (ms : Int32) (mt : Int32) (ml : Int32) (mk : Int32) (mv : Int32) (mb : Int32) (mw : Int32) (mz : Nat) (mp : Nat) (ma : Nat) (mx : Nat) (fs : Nat → Int32) (w9 : Nat) (k9 : Nat) (h9 : Nat) (fa : Nat → Int32) (fi_ : Nat → Int32) (wh : Nat) (lo_ : Nat) (hg : Nat) (i : Nat) (a : Nat) (b : Nat) (hM : okM fs w9 k9 h9) (hw1 : 1 ≤ w9) (hh9 : h9 < 1000000000) (hi : i < 6) (hab : a + b ≤ 320) (hwh : wh < 32) (hwh0 : wh ≠ 0) (hwh3 : wh ≠ 3) (hwh4 : wh ≠ 4) (hwh5 : wh ≠ 5) (hlo : lo_ ≤ hg + 1) (hhg : hg ≤ 100) : Met l yX8_fits wsX8_fits ({ frames := 5, cells := 0, slots := 0, locals := 121 }) (va_Pc [.ref mo, .int (nI wh), .int (nI lo_), .int (nI hg), .int (nI i), .int (nI a), .int (nI b)] (fun U => U.heap.size = sz ∧ va_P (dC, dI) vwCl [(xo_8_rrriirrriiiiiiirrirrrrri mo m_la m_sz m_it ms mt m_st m_mv m_tp (nI mz) ml (nI mp) mk mv mb mw m_rd m_ac (nI ma) m_as m_wo m_ik m_ke m_tr (nI mx)), (xI m_st cI 38 fs), (xI m_as cI 38 fa), (xI m_it cI 320 fi_)] U.heap ∧ va_K (dC, dI) vwCl [(cI, .int), (cZ, .boolean), (cL, .object RX3), (cJ, .array .int)] U ∧ va_D (fun _ => True) [(xo_8_rrriirrriiiiiiirrirrrrri mo m_la m_sz m_it ms mt m_st m_mv m_tp (nI mz) ml (nI mp) mk mv mb mw m_rd m_ac (nI ma) m_as m_wo m_ik m_ke m_tr (nI mx)), (xI m_st cI 38 fs), (xI m_as cI 38 fa), (xI m_it cI 320 fi_)])) (va_Qi (fun r (_ : Unit) => True) (fun (_ : Unit) t => ∃ (fsn : Nat → Int32) (fan : Nat → Int32) (msn : Int32), va_P (dC, dI) vwCl [(xo_8_rrriirrriiiiiiirrirrrrri mo m_la m_sz m_it msn mt m_st m_mv m_tp (nI mz) ml (nI mp) mk mv mb mw m_rd m_ac (nI ma) m_as m_wo m_ik m_ke m_tr (nI mx)), (xI m_st cI 38 fsn), (xI m_as cI 38 fan), (xI m_it cI 320 fi_)] t.heap ∧ va_D (va_A [(xo_8_rrriirrriiiiiiirrirrrrri mo m_la m_sz m_it ms mt m_st m_mv m_tp (nI mz) ml (nI mp) mk mv mb mw m_rd m_ac (nI ma) m_as m_wo m_ik m_ke m_tr (nI mx)), (xI m_st cI 38 fs), (xI m_as cI 38 fa), (xI m_it cI 320 fi_)] sz) [(xo_8_rrriirrriiiiiiirrirrrrri mo m_la m_sz m_it msn mt m_st m_mv m_tp (nI mz) ml (nI mp) mk mv mb mw m_rd m_ac (nI ma) m_as m_wo m_ik m_ke m_tr (nI mx)), (xI m_st cI 38 fsn), (xI m_as cI 38 fan), (xI m_it cI 320 fi_)] ∧ okM fsn w9 k9 h9 ∧ m38 fsn = m38 fs) (va_A [(xo_8_rrriirrriiiiiiirrirrrrri mo m_la m_sz m_it ms mt m_st m_mv m_tp (nI mz) ml (nI mp) mk mv mb mw m_rd m_ac (nI ma) m_as m_wo m_ik m_ke m_tr (nI mx)), (xI m_st cI 38 fs), (xI m_as cI 38 fa), (xI m_it cI 320 fi_)] sz)) 0 0 (va_A [(xo_8_rrriirrriiiiiiirrirrrrri mo m_la m_sz m_it ms mt m_st m_mv m_tp (nI mz) ml (nI mp) mk mv mb mw m_rd m_ac (nI ma) m_as m_wo m_ik m_ke m_tr (nI mx)), (xI m_st cI 38 fs), (xI m_as cI 38 fa), (xI m_it cI 320 fi_)] sz) := by
  refine Met.ofW (cc := cX8_fits) (maxL := 9) (ret := (some .int)) (by decide) rfl ?_
  intro p e s m args below meth c s₁ B hml hv
  obtain ⟨rfl, hsz, hP, hK, hD0⟩ := hv
  have hx := B.exec
  have hb := B.bytes
  have hr := B.returns
  have hts := atoms_spec (ws := wsX8_fits) B.pre
  have hown : s.vm.findClass RX8 = some m.cls := findClass_of_methodNamed B.named
  have hlocks := B.notSynchronized
  subst hsz
  have hD := hD0.self (sz := s.heap.size)
  generalize hAe : va_A [(xo_8_rrriirrriiiiiiirrirrrrri mo m_la m_sz m_it ms mt m_st m_mv m_tp (nI mz) ml (nI mp) mk mv mb mw m_rd m_ac (nI ma) m_as m_wo m_ik m_ke m_tr (nI mx)), (xI m_st cI 38 fs), (xI m_as cI 38 fa), (xI m_it cI 320 fi_)] s.heap.size = A at hD ⊢
  have hA : ∀ q : Nat, s.heap.size ≤ q → A q := fun q h => by rw [← hAe]; exact Or.inr h
  have hS : va_S A s.heap s.heap [] := va_S.rf
  have hP : va_P (dC, dI) vwCl [(xo_8_rrriirrriiiiiiirrirrrrri mo m_la m_sz m_it ms mt m_st m_mv m_tp (nI mz) ml (nI mp) mk mv mb mw m_rd m_ac (nI ma) m_as m_wo m_ik m_ke m_tr (nI mx)), (xI m_st cI 38 fs), (xI m_as cI 38 fa), (xI m_it cI 320 fi_)] s.heap := hP
  have hl := lv_entry ([.ref mo, .int (nI wh), .int (nI lo_), .int (nI hg), .int (nI i), .int (nI a), .int (nI b)]) (n := 9) (Nat.le_of_ble_eq_true rfl)
  rw [lg_entry_eq]
  generalize (lg_sl ([.ref mo, .int (nI wh), .int (nI lo_), .int (nI hg), .int (nI i), .int (nI a), .int (nI b)]) ++ List.replicate (9 - (lg_sl ([.ref mo, .int (nI wh), .int (nI lo_), .int (nI hg), .int (nI i), .int (nI a), .int (nI b)])).length) Slot.unset).toArray = ls at hl ⊢
  have hl : lv_has ls 9 [(0, .ref mo), (1, .int (nI wh)), (2, .int (nI lo_)), (3, .int (nI hg)), (4, .int (nI i)), (5, .int (nI a)), (6, .int (nI b))] := hl
  have hk6 := hM.2.2.2.2.1
  have hw6 := hM.2.2.2.1
  refine lv_aload_n hx hb dX8_fits_0 rfl (lv_at hl 0 rfl) ?_
  have hc_1 := cutW (wc := [(xo_8_rrriirrriiiiiiirrirrrrri mo m_la m_sz m_it ms mt m_st m_mv m_tp (nI mz) ml (nI mp) mk mv mb mw m_rd m_ac (nI ma) m_as m_wo m_ik m_ke m_tr (nI mx)), (xI m_st cI 38 fs), (xI m_as cI 38 fa)]) hP hD hS hA [0, 1, 2] (by decide +kernel) rfl
  refine va_callv (va_runV (As := []) (rest := []) ⟨hx, hb, hml, hown, hts⟩ (r_X8_putAside l dC dI cI cZ cL cJ s.heap.size mo m_la m_sz m_it m_st m_mv m_tp m_rd m_ac m_as m_wo m_ik m_ke m_tr ms mt ml mk mv mb mw mz mp ma mx fs fa ) (cwV 0 hts gX8_fits_X8_putAside rfl rfl rfl (by decide +kernel) ⟨Nat.le_of_ble_eq_true rfl, Nat.le_of_ble_eq_true rfl⟩) (pvW 8 0 hK hP rfl rfl hc_1) rfl rfl hl.1 rfl (lv_room (Nat.le_of_ble_eq_true rfl)) dX8_fits_1 ⟨Nat.le_of_ble_eq_true rfl, Nat.le_of_ble_eq_true rfl⟩) hS (fun q _ h => hc_1.2.2 q h) hc_1.2.2 (fun u_1 t_1 H1 locs ht hvm h_1 hB hz1 hk1 hS => ?_)
  refine xl_1_3 hB (fun fan_1 hP1 hD1 hF_1_0 => ?_)
  clear hB
  rw [ht] at hP1
  obtain ⟨hP, hD⟩ := va_join (wr := [(xI m_it cI 320 fi_)]) (w1 := [(xo_8_rrriirrriiiiiiirrirrrrri mo m_la m_sz m_it ms mt m_st m_mv m_tp (nI mz) ml (nI mp) mk mv mb mw m_rd m_ac (nI ma) m_as m_wo m_ik m_ke m_tr (nI mx)), (xI m_st cI 38 fs), (xI m_as cI 38 fan_1)]) hP hD [0, 1, 2] [3] rfl rfl (by decide +kernel) (by decide +kernel) hk1 hc_1.2.2 hP1 hD1
  generalize H1 = H at hP hS ⊢
  have hP : va_P (dC, dI) vwCl [(xI m_it cI 320 fi_), (xo_8_rrriirrriiiiiiirrirrrrri mo m_la m_sz m_it ms mt m_st m_mv m_tp (nI mz) ml (nI mp) mk mv mb mw m_rd m_ac (nI ma) m_as m_wo m_ik m_ke m_tr (nI mx)), (xI m_st cI 38 fs), (xI m_as cI 38 fan_1)] H := hP
  have hD := dto hP hD
  have hA_1 := okM_eq hM hF_1_0
  refine lv_iconst (v := 0) hx hb dX8_fits_4 (by decide) ?_
  refine lv_istore (lv' := [(7, .int 0), (0, .ref mo), (1, .int (nI wh)), (2, .int (nI lo_)), (3, .int (nI hg)), (4, .int (nI i)), (5, .int (nI a)), (6, .int (nI b))]) hx hb dX8_fits_5 hl (by decide) rfl (fun ls hl => ?_)
  refine lv_iload_n hx hb dX8_fits_7 rfl (lv_at hl 3 rfl) ?_
  refine lv_istore (lv' := [(8, .int (nI lo_)), (7, .int 0), (0, .ref mo), (1, .int (nI wh)), (2, .int (nI lo_)), (3, .int (nI hg)), (4, .int (nI i)), (5, .int (nI a)), (6, .int (nI b))]) hx hb dX8_fits_8 hl (by decide) rfl (fun ls hl => ?_)
  refine lp_go (σ := (Int32) × (Nat → Int32)) (fun ii (st : (Int32) × (Nat → Int32)) H locs ls => match st with | (w_9, w_10) => lv_has ls 9 [(8, .int (nI ii)), (7, .int w_9), (0, .ref mo), (1, .int (nI wh)), (2, .int (nI lo_)), (3, .int (nI hg)), (4, .int (nI i)), (5, .int (nI a)), (6, .int (nI b))] ∧ va_P (dC, dI) vwCl [(xI m_it cI 320 fi_), (xo_8_rrriirrriiiiiiirrirrrrri mo m_la m_sz m_it ms mt m_st m_mv m_tp (nI mz) ml (nI mp) mk mv mb mw m_rd m_ac (nI ma) m_as m_wo m_ik m_ke m_tr (nI mx)), (xI m_st cI 38 w_10), (xI m_as cI 38 fan_1)] H ∧ va_D A [(xI m_it cI 320 fi_), (xo_8_rrriirrriiiiiiirrirrrrri mo m_la m_sz m_it ms mt m_st m_mv m_tp (nI mz) ml (nI mp) mk mv mb mw m_rd m_ac (nI ma) m_as m_wo m_ik m_ke m_tr (nI mx)), (xI m_st cI 38 w_10), (xI m_as cI 38 fan_1)] ∧ va_S A s.heap H locs ∧ okM w_10 w9 k9 h9 ∧ (m38 w_10 = m38 fs)) (hg + 1) ?_ ?_ lo_ (by omega) (0, fs) ⟨lv_sub hl [0, 1, 2, 3, 4, 5, 6, 7, 8] rfl, hP.sub (ws' := [(xI m_it cI 320 fi_), (xo_8_rrriirrriiiiiiirrirrrrri mo m_la m_sz m_it ms mt m_st m_mv m_tp (nI mz) ml (nI mp) mk mv mb mw m_rd m_ac (nI ma) m_as m_wo m_ik m_ke m_tr (nI mx)), (xI m_st cI 38 fs), (xI m_as cI 38 fan_1)]) [0, 1, 2, 3] rfl, hD.sub (ws' := [(xI m_it cI 320 fi_), (xo_8_rrriirrriiiiiiirrirrrrri mo m_la m_sz m_it ms mt m_st m_mv m_tp (nI mz) ml (nI mp) mk mv mb mw m_rd m_ac (nI ma) m_as m_wo m_ik m_ke m_tr (nI mx)), (xI m_st cI 38 fs), (xI m_as cI 38 fan_1)]) [0, 1, 2, 3] (by decide +kernel) rfl, hS, hM, rfl⟩
  · rintro ii ⟨w_9, w_10⟩ H locs ls hii ⟨hl, hP, hD, hS, hMl, haf_0⟩ ih
    refine lv_iload hx hb dX8_fits_10 (lv_at hl 0 rfl) ?_
    refine lv_iload_n hx hb dX8_fits_12 rfl (lv_at hl 5 rfl) ?_
    refine lv_icmp_gt (tgt := 56) hx hb dX8_fits_13 (by decide) (fun c_ => absurd c_ (fun q_ => absurd ((nI_ltI (a := hg) (b := ii) (by omega) (by omega)).mp q_) (by omega))) (fun _ => ?_)
    refine lv_aload_n hx hb dX8_fits_16 rfl (lv_at hl 2 rfl) ?_
    refine va_get (D := (dC, dI)) (ci := 8) (v := .ref m_st) (C := RX8) (T := TX8) (N := 24) hx hb hts i_X8_fits_X8 hown hK hP 1 rfl rfl 5 (by decide) (hts _ mx_X8_fits_1) (fun _ h9 => h9) rfl dX8_fits_17 ?_
    refine lv_iload_n hx hb dX8_fits_20 rfl (lv_at hl 3 rfl) ?_
    refine lv_iload hx hb dX8_fits_21 (lv_at hl 0 rfl) ?_
    refine va_iast hx hb hK hP hD hS 2 0 rfl rfl (vp_in_nI (by omega) (by omega)) dX8_fits_23 (fun H locs hP hD hS => ?_)
    generalize hg_21 : upd w_10 ((nI wh) : Int32).toNatClampNeg (nI ii) = g_21 at hP hD
    have hM_21 : okM g_21 w9 k9 h9 := okM_off (i := wh) hMl hg_21 (by omega) (by omega) (by omega) (by omega) (by omega)
    have hP : va_P (dC, dI) vwCl [(xI m_it cI 320 fi_), (xo_8_rrriirrriiiiiiirrirrrrri mo m_la m_sz m_it ms mt m_st m_mv m_tp (nI mz) ml (nI mp) mk mv mb mw m_rd m_ac (nI ma) m_as m_wo m_ik m_ke m_tr (nI mx)), (xI m_st cI 38 g_21), (xI m_as cI 38 fan_1)] H := hP
    have hD := dto hP hD
    refine lv_iload hx hb dX8_fits_24 (lv_at hl 1 rfl) ?_
    refine lv_aload_n hx hb dX8_fits_26 rfl (lv_at hl 2 rfl) ?_
    refine lv_iload hx hb dX8_fits_27 (lv_at hl 6 rfl) ?_
    refine lv_iload hx hb dX8_fits_29 (lv_at hl 7 rfl) ?_
    refine lv_iload hx hb dX8_fits_31 (lv_at hl 8 rfl) ?_
    have hc_22 := cutW (wc := [(xo_8_rrriirrriiiiiiirrirrrrri mo m_la m_sz m_it ms mt m_st m_mv m_tp (nI mz) ml (nI mp) mk mv mb mw m_rd m_ac (nI ma) m_as m_wo m_ik m_ke m_tr (nI mx)), (xI m_st cI 38 g_21), (xI m_as cI 38 fan_1), (xI m_it cI 320 fi_)]) hP hD hS hA [1, 2, 3, 0] (by decide +kernel) rfl
    refine va_calli (va_runV (As := [.int (nI i), .int (nI a), .int (nI b)]) (rest := [.int w_9]) ⟨hx, hb, hml, hown, hts⟩ (r_X8_isSo l dC dI cI cZ cL cJ H.size mo m_la m_sz m_it m_st m_mv m_tp m_rd m_ac m_as m_wo m_ik m_ke m_tr ms mt ml mk mv mb mw mz mp ma mx g_21 w9 k9 h9 fan_1 fi_ i a b (hM_21) (by omega) (by omega) (by omega) (by omega)) (cwV 3 hts gX8_fits_X8_isSo rfl rfl rfl (by decide +kernel) ⟨Nat.le_of_ble_eq_true rfl, Nat.le_of_ble_eq_true rfl⟩) (pvW 8 1 hK hP rfl rfl hc_22) rfl rfl hl.1 rfl (lv_room (Nat.le_of_ble_eq_true rfl)) dX8_fits_33 ⟨Nat.le_of_ble_eq_true rfl, Nat.le_of_ble_eq_true rfl⟩) hS (fun q _ h => hc_22.2.2 q h) hc_22.2.2 (fun r_22 u_22 t_22 H1 locs ht hvm h_22 hB hz1 hk1 hS => ?_)
    refine xl_1_3 hB (fun fsn_22 hP1 hD1 hF_22_0 => ?_)
    clear hB
    rw [ht] at hP1
    obtain ⟨hP, hD⟩ := va_join (wr := []) (w1 := [(xo_8_rrriirrriiiiiiirrirrrrri mo m_la m_sz m_it ms mt m_st m_mv m_tp (nI mz) ml (nI mp) mk mv mb mw m_rd m_ac (nI ma) m_as m_wo m_ik m_ke m_tr (nI mx)), (xI m_st cI 38 fsn_22), (xI m_as cI 38 fan_1), (xI m_it cI 320 fi_)]) hP hD [1, 2, 3, 0] [] rfl rfl (by decide +kernel) (by decide +kernel) hk1 hc_22.2.2 hP1 hD1
    generalize H1 = H at hP hS ⊢
    have hP : va_P (dC, dI) vwCl [(xo_8_rrriirrriiiiiiirrirrrrri mo m_la m_sz m_it ms mt m_st m_mv m_tp (nI mz) ml (nI mp) mk mv mb mw m_rd m_ac (nI ma) m_as m_wo m_ik m_ke m_tr (nI mx)), (xI m_st cI 38 fsn_22), (xI m_as cI 38 fan_1), (xI m_it cI 320 fi_)] H := hP
    have hD := dto hP hD
    have hT_22 := okM_eq hA_1 hF_22_0
    refine lv_if_eq (tgt := 46) hx hb dX8_fits_36 (by decide) (fun c_23 => ?_) (fun c_23 => ?_)
    · skip
      refine lv_iconst (v := 0) hx hb dX8_fits_46 (by decide) ?_
      refine lv_ior hx hb dX8_fits_47 ?_
      refine lv_topi (fun v_24 e_24 => ?_)
      refine lv_istore (lv' := [(7, .int v_24), (8, .int (nI ii)), (0, .ref mo), (1, .int (nI wh)), (2, .int (nI lo_)), (3, .int (nI hg)), (4, .int (nI i)), (5, .int (nI a)), (6, .int (nI b))]) hx hb dX8_fits_48 hl (by decide) rfl (fun ls hl => ?_)
      refine lv_iinc (v := (nI (ii + 1))) (lv' := [(8, .int (nI (ii + 1))), (7, .int v_24), (0, .ref mo), (1, .int (nI wh)), (2, .int (nI lo_)), (3, .int (nI hg)), (4, .int (nI i)), (5, .int (nI a)), (6, .int (nI b))]) hx hb dX8_fits_50 hl (k := 1) rfl (nI_add ii 1) (by decide) rfl (fun ls hl => ?_)
      refine lv_goto (tgt := 10) hx hb dX8_fits_53 (by decide) ?_
      exact ih (v_24, fsn_22) _ _ _ ⟨lv_sub hl [0, 1, 2, 3, 4, 5, 6, 7, 8] rfl, hP.sub (ws' := [(xI m_it cI 320 fi_), (xo_8_rrriirrriiiiiiirrirrrrri mo m_la m_sz m_it ms mt m_st m_mv m_tp (nI mz) ml (nI mp) mk mv mb mw m_rd m_ac (nI ma) m_as m_wo m_ik m_ke m_tr (nI mx)), (xI m_st cI 38 fsn_22), (xI m_as cI 38 fan_1)]) [3, 0, 1, 2] rfl, hD.sub (ws' := [(xI m_it cI 320 fi_), (xo_8_rrriirrriiiiiiirrirrrrri mo m_la m_sz m_it ms mt m_st m_mv m_tp (nI mz) ml (nI mp) mk mv mb mw m_rd m_ac (nI ma) m_as m_wo m_ik m_ke m_tr (nI mx)), (xI m_st cI 38 fsn_22), (xI m_as cI 38 fan_1)]) [3, 0, 1, 2] (by decide +kernel) rfl, hS, hT_22, ((m38_eq hF_22_0).trans ((m38_eq hF_1_0).trans rfl))⟩
    · skip
      refine lv_iconst (v := 1) hx hb dX8_fits_39 (by decide) ?_
      refine lv_iload hx hb dX8_fits_40 (lv_at hl 0 rfl) ?_
      refine lv_ishl hx hb dX8_fits_42 ?_
      refine lv_topi (fun v_25 e_25 => ?_)
      refine lv_goto (tgt := 47) hx hb dX8_fits_43 (by decide) ?_
      refine lv_ior hx hb dX8_fits_47 ?_
      refine lv_topi (fun v_26 e_26 => ?_)
      refine lv_istore (lv' := [(7, .int v_26), (8, .int (nI ii)), (0, .ref mo), (1, .int (nI wh)), (2, .int (nI lo_)), (3, .int (nI hg)), (4, .int (nI i)), (5, .int (nI a)), (6, .int (nI b))]) hx hb dX8_fits_48 hl (by decide) rfl (fun ls hl => ?_)
      refine lv_iinc (v := (nI (ii + 1))) (lv' := [(8, .int (nI (ii + 1))), (7, .int v_26), (0, .ref mo), (1, .int (nI wh)), (2, .int (nI lo_)), (3, .int (nI hg)), (4, .int (nI i)), (5, .int (nI a)), (6, .int (nI b))]) hx hb dX8_fits_50 hl (k := 1) rfl (nI_add ii 1) (by decide) rfl (fun ls hl => ?_)
      refine lv_goto (tgt := 10) hx hb dX8_fits_53 (by decide) ?_
      exact ih (v_26, fsn_22) _ _ _ ⟨lv_sub hl [0, 1, 2, 3, 4, 5, 6, 7, 8] rfl, hP.sub (ws' := [(xI m_it cI 320 fi_), (xo_8_rrriirrriiiiiiirrirrrrri mo m_la m_sz m_it ms mt m_st m_mv m_tp (nI mz) ml (nI mp) mk mv mb mw m_rd m_ac (nI ma) m_as m_wo m_ik m_ke m_tr (nI mx)), (xI m_st cI 38 fsn_22), (xI m_as cI 38 fan_1)]) [3, 0, 1, 2] rfl, hD.sub (ws' := [(xI m_it cI 320 fi_), (xo_8_rrriirrriiiiiiirrirrrrri mo m_la m_sz m_it ms mt m_st m_mv m_tp (nI mz) ml (nI mp) mk mv mb mw m_rd m_ac (nI ma) m_as m_wo m_ik m_ke m_tr (nI mx)), (xI m_st cI 38 fsn_22), (xI m_as cI 38 fan_1)]) [3, 0, 1, 2] (by decide +kernel) rfl, hS, hT_22, ((m38_eq hF_22_0).trans ((m38_eq hF_1_0).trans rfl))⟩
  · rintro ⟨w_9, w_10⟩ H locs ls ⟨hl, hP, hD, hS, hMl, haf_0⟩
    refine lv_iload hx hb dX8_fits_10 (lv_at hl 0 rfl) ?_
    refine lv_iload_n hx hb dX8_fits_12 rfl (lv_at hl 5 rfl) ?_
    refine lv_icmp_gt (tgt := 56) hx hb dX8_fits_13 (by decide) (fun _ => ?_) (fun c_ => absurd ((nI_ltI (a := hg) (b := (hg + 1)) (by omega) (by omega)).mpr (by omega)) c_)
    refine lv_aload_n hx hb dX8_fits_56 rfl (lv_at hl 2 rfl) ?_
    refine lv_iload hx hb dX8_fits_57 (lv_at hl 1 rfl) ?_
    have hc_28 := cutW (wc := [(xo_8_rrriirrriiiiiiirrirrrrri mo m_la m_sz m_it ms mt m_st m_mv m_tp (nI mz) ml (nI mp) mk mv mb mw m_rd m_ac (nI ma) m_as m_wo m_ik m_ke m_tr (nI mx))]) hP hD hS hA [1] (by decide +kernel) rfl
    refine va_calli (va_runV (As := [.int w_9]) (rest := []) ⟨hx, hb, hml, hown, hts⟩ (r_X8_well l dC dI cI cZ cL cJ H.size mo m_la m_sz m_it m_st m_mv m_tp m_rd m_ac m_as m_wo m_ik m_ke m_tr ms mt ml mk mv mb mw mz mp ma mx w_9 ) (cwV 1 hts gX8_fits_X8_well rfl rfl rfl (by decide +kernel) ⟨Nat.le_of_ble_eq_true rfl, Nat.le_of_ble_eq_true rfl⟩) (pvW 8 1 hK hP rfl rfl hc_28) rfl rfl hl.1 rfl (lv_room (Nat.le_of_ble_eq_true rfl)) dX8_fits_59 ⟨Nat.le_of_ble_eq_true rfl, Nat.le_of_ble_eq_true rfl⟩) hS (fun q _ h => hc_28.2.2 q h) hc_28.2.2 (fun r_28 u_28 t_28 H1 locs ht hvm h_28 hB hz1 hk1 hS => ?_)
    refine xl_1_3 hB (fun msn_28 hP1 hD1 hF_28_0 => ?_)
    clear hB
    rw [ht] at hP1
    obtain ⟨hP, hD⟩ := va_join (wr := [(xI m_it cI 320 fi_), (xI m_st cI 38 w_10), (xI m_as cI 38 fan_1)]) (w1 := [(xo_8_rrriirrriiiiiiirrirrrrri mo m_la m_sz m_it msn_28 mt m_st m_mv m_tp (nI mz) ml (nI mp) mk mv mb mw m_rd m_ac (nI ma) m_as m_wo m_ik m_ke m_tr (nI mx))]) hP hD [1] [0, 2, 3] rfl rfl (by decide +kernel) (by decide +kernel) hk1 hc_28.2.2 hP1 hD1
    generalize H1 = H at hP hS ⊢
    have hP : va_P (dC, dI) vwCl [(xI m_it cI 320 fi_), (xI m_st cI 38 w_10), (xI m_as cI 38 fan_1), (xo_8_rrriirrriiiiiiirrirrrrri mo m_la m_sz m_it msn_28 mt m_st m_mv m_tp (nI mz) ml (nI mp) mk mv mb mw m_rd m_ac (nI ma) m_as m_wo m_ik m_ke m_tr (nI mx))] H := hP
    have hD := dto hP hD
    have hX9 := cut2 (wc := [(xo_8_rrriirrriiiiiiirrirrrrri mo m_la m_sz m_it msn_28 mt m_st m_mv m_tp (nI mz) ml (nI mp) mk mv mb mw m_rd m_ac (nI ma) m_as m_wo m_ik m_ke m_tr (nI mx)), (xI m_st cI 38 w_10), (xI m_as cI 38 fan_1), (xI m_it cI 320 fi_)]) hP hD [3, 1, 2, 0] (by decide +kernel) rfl
    exact W.iret (v := r_28) hx hb hr (fun t ht hW => ⟨⟨r_28, (), rfl, trivial, ⟨w_10, fan_1, msn_28, va_Ht ht hX9.1, hX9.2, hMl, haf_0⟩⟩, hS.F ht⟩) hS.2.2 dX8_fits_62
set_option maxHeartbeats 4000000 in
set_option maxRecDepth 100000 in
theorem r_X8_who (l : Launch) (dC : Nat → ClassId) (dI : Nat → Nat → Nat) (cI cZ cL cJ : ClassId) (sz : Nat) (mo : Nat) (m_la : Nat) (m_sz : Nat) (m_it : Nat) (m_st : Nat) (m_mv : Nat) (m_tp : Nat) (m_rd : Nat) (m_ac : Nat) (m_as : Nat) (m_wo : Nat) (m_ik : Nat) (m_ke : Nat) (m_tr : Nat) (ms : Int32) (mt : Int32) (ml : Int32) (mk : Int32) (mv : Int32) (mb : Int32) (mw : Int32) (mz : Nat) (mp : Nat) (ma : Nat) (mx : Nat) (fs : Nat → Int32) (w9 : Nat) (k9 : Nat) (h9 : Nat) (fa : Nat → Int32) (fi_ : Nat → Int32) (fz : Nat → Int32) (a0 : Int32) (a1 : Int32) (a2 : Int32) (a3 : Int32) (a4 : Int32) (hM : okM fs w9 k9 h9) (hT : ¬ mt = 0 → 1 ≤ k9) (h999 : h9 ≤ 999) (hT0 : mt = 0 → fs 0 = 0 ∧ ma = 0) (hsz9 : ∀ j : Nat, j < 8 → fz j = -1 ∨ ∃ q : Nat, q ≤ 40 ∧ fz j = nI q) : Met l yX8_who wsX8_who ({ frames := 6, cells := 0, slots := 0, locals := 149 }) (va_Pc [.ref mo, .int a0, .int a1, .int a2, .int a3, .int a4] (fun U => U.heap.size = sz ∧ va_P (dC, dI) vwCl [(xo_8_rrriirrriiiiiiirrirrrrri mo m_la m_sz m_it ms mt m_st m_mv m_tp (nI mz) ml (nI mp) mk mv mb mw m_rd m_ac (nI ma) m_as m_wo m_ik m_ke m_tr (nI mx)), (xI m_st cI 38 fs), (xI m_as cI 38 fa), (xI m_it cI 320 fi_), (xI m_sz cI 8 fz)] U.heap ∧ va_K (dC, dI) vwCl [(cI, .int), (cZ, .boolean), (cL, .object RX3), (cJ, .array .int)] U ∧ va_D (fun _ => True) [(xo_8_rrriirrriiiiiiirrirrrrri mo m_la m_sz m_it ms mt m_st m_mv m_tp (nI mz) ml (nI mp) mk mv mb mw m_rd m_ac (nI ma) m_as m_wo m_ik m_ke m_tr (nI mx)), (xI m_st cI 38 fs), (xI m_as cI 38 fa), (xI m_it cI 320 fi_), (xI m_sz cI 8 fz)])) (va_Qi (fun r (_ : Unit) => True) (fun (_ : Unit) t => ∃ (fsn : Nat → Int32) (fan : Nat → Int32) (msn : Int32), va_P (dC, dI) vwCl [(xo_8_rrriirrriiiiiiirrirrrrri mo m_la m_sz m_it msn mt m_st m_mv m_tp (nI mz) ml (nI mp) mk mv mb mw m_rd m_ac (nI ma) m_as m_wo m_ik m_ke m_tr (nI mx)), (xI m_st cI 38 fsn), (xI m_as cI 38 fan), (xI m_it cI 320 fi_), (xI m_sz cI 8 fz)] t.heap ∧ va_D (va_A [(xo_8_rrriirrriiiiiiirrirrrrri mo m_la m_sz m_it ms mt m_st m_mv m_tp (nI mz) ml (nI mp) mk mv mb mw m_rd m_ac (nI ma) m_as m_wo m_ik m_ke m_tr (nI mx)), (xI m_st cI 38 fs), (xI m_as cI 38 fa), (xI m_it cI 320 fi_), (xI m_sz cI 8 fz)] sz) [(xo_8_rrriirrriiiiiiirrirrrrri mo m_la m_sz m_it msn mt m_st m_mv m_tp (nI mz) ml (nI mp) mk mv mb mw m_rd m_ac (nI ma) m_as m_wo m_ik m_ke m_tr (nI mx)), (xI m_st cI 38 fsn), (xI m_as cI 38 fan), (xI m_it cI 320 fi_), (xI m_sz cI 8 fz)] ∧ okM fsn w9 k9 h9 ∧ m38 fsn = m38 fs) (va_A [(xo_8_rrriirrriiiiiiirrirrrrri mo m_la m_sz m_it ms mt m_st m_mv m_tp (nI mz) ml (nI mp) mk mv mb mw m_rd m_ac (nI ma) m_as m_wo m_ik m_ke m_tr (nI mx)), (xI m_st cI 38 fs), (xI m_as cI 38 fa), (xI m_it cI 320 fi_), (xI m_sz cI 8 fz)] sz)) 0 0 (va_A [(xo_8_rrriirrriiiiiiirrirrrrri mo m_la m_sz m_it ms mt m_st m_mv m_tp (nI mz) ml (nI mp) mk mv mb mw m_rd m_ac (nI ma) m_as m_wo m_ik m_ke m_tr (nI mx)), (xI m_st cI 38 fs), (xI m_as cI 38 fa), (xI m_it cI 320 fi_), (xI m_sz cI 8 fz)] sz) := by
  refine Met.ofW (cc := cX8_who) (maxL := 8) (ret := (some .int)) (by decide) rfl ?_
  intro p e s m args below meth c s₁ B hml hv
  obtain ⟨rfl, hsz, hP, hK, hD0⟩ := hv
  have hx := B.exec
  have hb := B.bytes
  have hr := B.returns
  have hts := atoms_spec (ws := wsX8_who) B.pre
  have hown : s.vm.findClass RX8 = some m.cls := findClass_of_methodNamed B.named
  have hlocks := B.notSynchronized
  subst hsz
  have hD := hD0.self (sz := s.heap.size)
  generalize hAe : va_A [(xo_8_rrriirrriiiiiiirrirrrrri mo m_la m_sz m_it ms mt m_st m_mv m_tp (nI mz) ml (nI mp) mk mv mb mw m_rd m_ac (nI ma) m_as m_wo m_ik m_ke m_tr (nI mx)), (xI m_st cI 38 fs), (xI m_as cI 38 fa), (xI m_it cI 320 fi_), (xI m_sz cI 8 fz)] s.heap.size = A at hD ⊢
  have hA : ∀ q : Nat, s.heap.size ≤ q → A q := fun q h => by rw [← hAe]; exact Or.inr h
  have hS : va_S A s.heap s.heap [] := va_S.rf
  have hP : va_P (dC, dI) vwCl [(xo_8_rrriirrriiiiiiirrirrrrri mo m_la m_sz m_it ms mt m_st m_mv m_tp (nI mz) ml (nI mp) mk mv mb mw m_rd m_ac (nI ma) m_as m_wo m_ik m_ke m_tr (nI mx)), (xI m_st cI 38 fs), (xI m_as cI 38 fa), (xI m_it cI 320 fi_), (xI m_sz cI 8 fz)] s.heap := hP
  have hl := lv_entry ([.ref mo, .int a0, .int a1, .int a2, .int a3, .int a4]) (n := 8) (Nat.le_of_ble_eq_true rfl)
  rw [lg_entry_eq]
  generalize (lg_sl ([.ref mo, .int a0, .int a1, .int a2, .int a3, .int a4]) ++ List.replicate (8 - (lg_sl ([.ref mo, .int a0, .int a1, .int a2, .int a3, .int a4])).length) Slot.unset).toArray = ls at hl ⊢
  have hl : lv_has ls 8 [(0, .ref mo), (1, .int a0), (2, .int a1), (3, .int a2), (4, .int a3), (5, .int a4)] := hl
  have hk6 := hM.2.2.2.2.1
  have hw6 := hM.2.2.2.1
  refine lv_aload_n hx hb dX8_who_0 rfl (lv_at hl 0 rfl) ?_
  refine lv_iload_n hx hb dX8_who_1 rfl (lv_at hl 1 rfl) ?_
  have hPc_1 := hP.sub (ws' := [(xo_8_rrriirrriiiiiiirrirrrrri mo m_la m_sz m_it ms mt m_st m_mv m_tp (nI mz) ml (nI mp) mk mv mb mw m_rd m_ac (nI ma) m_as m_wo m_ik m_ke m_tr (nI mx)), (xI m_st cI 38 fs)]) [0, 1] rfl
  refine vp_callSi (W.runV (As := [.int a0]) (rest := []) ⟨hx, hb, hml, hown, hts⟩ (r_X8_isSound l dC dI cI cZ cL cJ mo m_la m_sz m_it m_st m_mv m_tp m_rd m_ac m_as m_wo m_ik m_ke m_tr ms mt ml mk mv mb mw mz mp ma mx fs w9 k9 h9 a0 (hM)) (cwV 1 hts gX8_who_X8_isSound rfl rfl rfl (by decide +kernel) ⟨Nat.le_of_ble_eq_true rfl, Nat.le_of_ble_eq_true rfl⟩) (pvP 8 0 hK hP rfl rfl hPc_1) rfl rfl hl.1 rfl (lv_room (Nat.le_of_ble_eq_true rfl)) dX8_who_2 ⟨Nat.le_of_ble_eq_true rfl, Nat.le_of_ble_eq_true rfl⟩) (fun r_1 h_1 => ?_)
  rcases h_1 with ⟨h_1, f_1_0_0⟩ | ⟨h_1, f_1_1_0⟩
  · subst h_1
    refine lv_if_eq (tgt := 35) hx hb dX8_who_5 (by decide) (fun _ => ?_) (fun c_ => absurd (by decide) c_)
    refine lv_ldc (own := RX8) (v := (-1000001)) hx hb hown (hts _ mx_X8_who_2) dX8_who_35 ?_
    have hX9 := cut2 (wc := [(xo_8_rrriirrriiiiiiirrirrrrri mo m_la m_sz m_it ms mt m_st m_mv m_tp (nI mz) ml (nI mp) mk mv mb mw m_rd m_ac (nI ma) m_as m_wo m_ik m_ke m_tr (nI mx)), (xI m_st cI 38 fs), (xI m_as cI 38 fa), (xI m_it cI 320 fi_), (xI m_sz cI 8 fz)]) hP hD [0, 1, 2, 3, 4] (by decide +kernel) rfl
    exact W.iret (v := (-1000001)) hx hb hr (fun t ht hW => ⟨⟨(-1000001), (), rfl, trivial, ⟨fs, fa, ms, va_Ht ht hX9.1, hX9.2, hM, rfl⟩⟩, hS.F ht⟩) hS.2.2 dX8_who_37
  · subst h_1
    obtain ⟨j_1, hj_1, rfl⟩ := vp_in_of f_1_1_0 (by omega)
    have hkn1 : 1 ≤ k9 := by omega
    have hw1 := hM.2.2.2.2.2.1.mp hkn1
    refine lv_if_eq (tgt := 35) hx hb dX8_who_5 (by decide) (fun c_ => absurd c_ (by decide)) (fun _ => ?_)
    refine lv_iload_n hx hb dX8_who_8 rfl (lv_at hl 2 rfl) ?_
    have hPc_5 := hP.sub (ws' := []) [] rfl
    refine vp_callSi (W.runS (As := [.int a1]) (rest := []) ⟨hx, hb, hml, hown, hts⟩ (r_X8_isWhat l dC dI cI cZ cL cJ a1 ) (va_cwS 1 hts gX8_who_X8_isWhat rfl rfl rfl (by decide +kernel) ⟨Nat.le_of_ble_eq_true rfl, Nat.le_of_ble_eq_true rfl⟩) (psP hK hPc_5) rfl rfl hl.1 rfl (lv_room (Nat.le_of_ble_eq_true rfl)) dX8_who_9 ⟨Nat.le_of_ble_eq_true rfl, Nat.le_of_ble_eq_true rfl⟩) (fun r_5 h_5 => ?_)
    refine lv_if_eq (tgt := 35) hx hb dX8_who_12 (by decide) (fun c_6 => ?_) (fun c_6 => ?_)
    · skip
      subst c_6
      refine lv_ldc (own := RX8) (v := (-1000001)) hx hb hown (hts _ mx_X8_who_2) dX8_who_35 ?_
      have hX9 := cut2 (wc := [(xo_8_rrriirrriiiiiiirrirrrrri mo m_la m_sz m_it ms mt m_st m_mv m_tp (nI mz) ml (nI mp) mk mv mb mw m_rd m_ac (nI ma) m_as m_wo m_ik m_ke m_tr (nI mx)), (xI m_st cI 38 fs), (xI m_as cI 38 fa), (xI m_it cI 320 fi_), (xI m_sz cI 8 fz)]) hP hD [0, 1, 2, 3, 4] (by decide +kernel) rfl
      exact W.iret (v := (-1000001)) hx hb hr (fun t ht hW => ⟨⟨(-1000001), (), rfl, trivial, ⟨fs, fa, ms, va_Ht ht hX9.1, hX9.2, hM, rfl⟩⟩, hS.F ht⟩) hS.2.2 dX8_who_37
    · skip
      refine lv_iload_n hx hb dX8_who_15 rfl (lv_at hl 3 rfl) ?_
      have hPc_7 := hP.sub (ws' := []) [] rfl
      refine vp_callSi (W.runS (As := [.int a2]) (rest := []) ⟨hx, hb, hml, hown, hts⟩ (r_X8_isRow l dC dI cI cZ cL cJ a2 ) (va_cwS 1 hts gX8_who_X8_isRow rfl rfl rfl (by decide +kernel) ⟨Nat.le_of_ble_eq_true rfl, Nat.le_of_ble_eq_true rfl⟩) (psP hK hPc_7) rfl rfl hl.1 rfl (lv_room (Nat.le_of_ble_eq_true rfl)) dX8_who_16 ⟨Nat.le_of_ble_eq_true rfl, Nat.le_of_ble_eq_true rfl⟩) (fun r_7 h_7 => ?_)
      rcases h_7 with ⟨h_7, f_7_0_0⟩ | ⟨h_7, f_7_1_0⟩
      · subst h_7
        refine lv_if_eq (tgt := 35) hx hb dX8_who_19 (by decide) (fun _ => ?_) (fun c_ => absurd (by decide) c_)
        refine lv_ldc (own := RX8) (v := (-1000001)) hx hb hown (hts _ mx_X8_who_2) dX8_who_35 ?_
        have hX9 := cut2 (wc := [(xo_8_rrriirrriiiiiiirrirrrrri mo m_la m_sz m_it ms mt m_st m_mv m_tp (nI mz) ml (nI mp) mk mv mb mw m_rd m_ac (nI ma) m_as m_wo m_ik m_ke m_tr (nI mx)), (xI m_st cI 38 fs), (xI m_as cI 38 fa), (xI m_it cI 320 fi_), (xI m_sz cI 8 fz)]) hP hD [0, 1, 2, 3, 4] (by decide +kernel) rfl
        exact W.iret (v := (-1000001)) hx hb hr (fun t ht hW => ⟨⟨(-1000001), (), rfl, trivial, ⟨fs, fa, ms, va_Ht ht hX9.1, hX9.2, hM, rfl⟩⟩, hS.F ht⟩) hS.2.2 dX8_who_37
      · subst h_7
        obtain ⟨j_7, hj_7, rfl⟩ := vp_in_of f_7_1_0 (by omega)
        refine lv_if_eq (tgt := 35) hx hb dX8_who_19 (by decide) (fun c_ => absurd c_ (by decide)) (fun _ => ?_)
        refine lv_iload hx hb dX8_who_22 (lv_at hl 5 rfl) ?_
        refine lv_i2l hx hb dX8_who_24 rfl ?_
        refine lv_lconst (v := 1) hx hb dX8_who_25 (by decide) ?_
        refine lv_ldc2 (own := RX8) (v := 12) hx hb hown (hts _ mx_X8_who_1) dX8_who_26 ?_
        have hPc_11 := hP.sub (ws' := []) [] rfl
        refine vp_callSi (W.runS (As := [.long (a4).toInt64, .long 1, .long 12]) (rest := []) ⟨hx, hb, hml, hown, hts⟩ (r_X8_in l dC dI cI cZ cL cJ ((a4).toInt64) 1 12 ) (va_cwS 3 hts gX8_who_X8_in rfl rfl rfl (by decide +kernel) ⟨Nat.le_of_ble_eq_true rfl, Nat.le_of_ble_eq_true rfl⟩) (psP hK hPc_11) rfl rfl hl.1 rfl (lv_room (Nat.le_of_ble_eq_true rfl)) dX8_who_29 ⟨Nat.le_of_ble_eq_true rfl, Nat.le_of_ble_eq_true rfl⟩) (fun r_11 h_11 => ?_)
        rcases h_11 with ⟨h_11, f_11_0_0⟩ | ⟨h_11, f_11_1_0⟩
        · subst h_11
          refine lv_if_ne (tgt := 38) hx hb dX8_who_32 (by decide) (fun c_ => absurd (by decide) c_) (fun _ => ?_)
          refine lv_ldc (own := RX8) (v := (-1000001)) hx hb hown (hts _ mx_X8_who_2) dX8_who_35 ?_
          have hX9 := cut2 (wc := [(xo_8_rrriirrriiiiiiirrirrrrri mo m_la m_sz m_it ms mt m_st m_mv m_tp (nI mz) ml (nI mp) mk mv mb mw m_rd m_ac (nI ma) m_as m_wo m_ik m_ke m_tr (nI mx)), (xI m_st cI 38 fs), (xI m_as cI 38 fa), (xI m_it cI 320 fi_), (xI m_sz cI 8 fz)]) hP hD [0, 1, 2, 3, 4] (by decide +kernel) rfl
          exact W.iret (v := (-1000001)) hx hb hr (fun t ht hW => ⟨⟨(-1000001), (), rfl, trivial, ⟨fs, fa, ms, va_Ht ht hX9.1, hX9.2, hM, rfl⟩⟩, hS.F ht⟩) hS.2.2 dX8_who_37
        · subst h_11
          obtain ⟨j_11, hj_11, hl_11, rfl⟩ := in64 (lo := 1) (n := 12) rfl rfl (by decide) f_11_1_0
          refine lv_if_ne (tgt := 38) hx hb dX8_who_32 (by decide) (fun _ => ?_) (fun c_ => absurd c_ (by decide))
          refine lv_aload_n hx hb dX8_who_38 rfl (lv_at hl 0 rfl) ?_
          refine va_get (D := (dC, dI)) (ci := 8) (v := .ref m_st) (C := RX8) (T := TX8) (N := 24) hx hb hts i_X8_who_X8 hown hK hP 0 rfl rfl 5 (by decide) (hts _ mx_X8_who_3) (fun _ h9 => h9) rfl dX8_who_39 ?_
          refine lv_bipush (v := 26) hx hb dX8_who_42 (by decide) ?_
          refine lv_iload_n hx hb dX8_who_44 rfl (lv_at hl 1 rfl) ?_
          refine lv_iadd hx hb dX8_who_45 ?_
          refine lv_topi (fun v_14 e_14 => ?_)
          obtain rfl : v_14 = (nI (26 + j_1)) := (e_14).trans (nI_add 26 j_1)
          refine va_iald hx hb hK hP 1 0 rfl rfl (vp_in_nI (by omega) (by omega)) dX8_who_46 ?_
          refine lv_topi (fun v_15 e_15 => ?_)
          refine lv_if_eq (tgt := 53) hx hb dX8_who_47 (by decide) (fun c_16 => ?_) (fun c_16 => ?_)
          · skip
            subst c_16
            refine lv_aload_n hx hb dX8_who_53 rfl (lv_at hl 0 rfl) ?_
            refine lv_iload_n hx hb dX8_who_54 rfl (lv_at hl 3 rfl) ?_
            refine lv_iload hx hb dX8_who_55 (lv_at hl 4 rfl) ?_
            refine lv_iload hx hb dX8_who_57 (lv_at hl 5 rfl) ?_
            have hc_17 := cutW (wc := [(xo_8_rrriirrriiiiiiirrirrrrri mo m_la m_sz m_it ms mt m_st m_mv m_tp (nI mz) ml (nI mp) mk mv mb mw m_rd m_ac (nI ma) m_as m_wo m_ik m_ke m_tr (nI mx)), (xI m_sz cI 8 fz)]) hP hD hS hA [0, 4] (by decide +kernel) rfl
            refine va_calli (va_runV (As := [.int (nI j_7), .int a3, .int (nI j_11)]) (rest := []) ⟨hx, hb, hml, hown, hts⟩ (r_X8_lacks l dC dI cI cZ cL cJ s.heap.size mo m_la m_sz m_it m_st m_mv m_tp m_rd m_ac m_as m_wo m_ik m_ke m_tr ms mt ml mk mv mb mw mz mp ma mx fz j_7 j_11 a3 (hsz9) (by omega) (by omega)) (cwV 3 hts gX8_who_X8_lacks rfl rfl rfl (by decide +kernel) ⟨Nat.le_of_ble_eq_true rfl, Nat.le_of_ble_eq_true rfl⟩) (pvW 8 0 hK hP rfl rfl hc_17) rfl rfl hl.1 rfl (lv_room (Nat.le_of_ble_eq_true rfl)) dX8_who_59 ⟨Nat.le_of_ble_eq_true rfl, Nat.le_of_ble_eq_true rfl⟩) hS (fun q _ h => hc_17.2.2 q h) hc_17.2.2 (fun r_17 u_17 t_17 H1 locs ht hvm h_17 hB hz1 hk1 hS => ?_)
            refine xl_1_2 hB (fun msn_17 hP1 hD1 => ?_)
            clear hB
            rw [ht] at hP1
            obtain ⟨hP, hD⟩ := va_join (wr := [(xI m_st cI 38 fs), (xI m_as cI 38 fa), (xI m_it cI 320 fi_)]) (w1 := [(xo_8_rrriirrriiiiiiirrirrrrri mo m_la m_sz m_it msn_17 mt m_st m_mv m_tp (nI mz) ml (nI mp) mk mv mb mw m_rd m_ac (nI ma) m_as m_wo m_ik m_ke m_tr (nI mx)), (xI m_sz cI 8 fz)]) hP hD [0, 4] [1, 2, 3] rfl rfl (by decide +kernel) (by decide +kernel) hk1 hc_17.2.2 hP1 hD1
            generalize H1 = H at hP hS ⊢
            have hP : va_P (dC, dI) vwCl [(xI m_st cI 38 fs), (xI m_as cI 38 fa), (xI m_it cI 320 fi_), (xo_8_rrriirrriiiiiiirrirrrrri mo m_la m_sz m_it msn_17 mt m_st m_mv m_tp (nI mz) ml (nI mp) mk mv mb mw m_rd m_ac (nI ma) m_as m_wo m_ik m_ke m_tr (nI mx)), (xI m_sz cI 8 fz)] H := hP
            have hD := dto hP hD
            rcases h_17 with ⟨h_17, f_17_0_0⟩ | f_17_1_0
            · subst h_17
              obtain ⟨pa_18, pb_18, ea_18, eb_18, hab_18⟩ := f_17_0_0
              subst ea_18
              have eb_18 : j_11 = pb_18 := nI_inj eb_18 (by omega) (by omega)
              refine lv_istore (lv' := [(6, .int 0), (0, .ref mo), (1, .int (nI j_1)), (2, .int a1), (3, .int (nI j_7)), (4, .int (nI pa_18)), (5, .int (nI j_11))]) hx hb dX8_who_62 hl (by decide) rfl (fun ls hl => ?_)
              refine lv_bipush (v := 40) hx hb dX8_who_64 (by decide) ?_
              refine lv_iload_n hx hb dX8_who_66 rfl (lv_at hl 4 rfl) ?_
              refine lv_imul hx hb dX8_who_67 ?_
              refine lv_topi (fun v_19 e_19 => ?_)
              obtain rfl : v_19 = (nI (40 * j_7)) := (e_19).trans (pk_mul 40 j_7)
              refine lv_iload hx hb dX8_who_68 (lv_at hl 5 rfl) ?_
              refine lv_iadd hx hb dX8_who_70 ?_
              refine lv_topi (fun v_20 e_20 => ?_)
              obtain rfl : v_20 = (nI ((40 * j_7) + pa_18)) := (e_20).trans (nI_add (40 * j_7) pa_18)
              refine lv_istore (lv' := [(7, .int (nI ((40 * j_7) + pa_18))), (6, .int 0), (0, .ref mo), (1, .int (nI j_1)), (2, .int a1), (3, .int (nI j_7)), (4, .int (nI pa_18)), (5, .int (nI j_11))]) hx hb dX8_who_71 hl (by decide) rfl (fun ls hl => ?_)
              refine lv_iload hx hb dX8_who_73 (lv_at hl 1 rfl) ?_
              refine lv_if_ge (tgt := 83) hx hb dX8_who_75 (by decide) (fun _ => ?_) (fun c_ => absurd (by decide) c_)
              refine lv_iload_n hx hb dX8_who_83 rfl (lv_at hl 4 rfl) ?_
              refine lv_if_ne (tgt := 105) hx hb dX8_who_84 (by decide) (fun c_22 => ?_) (fun c_22 => ?_)
              · skip
                refine lv_aload_n hx hb dX8_who_105 rfl (lv_at hl 2 rfl) ?_
                refine lv_bipush (v := 20) hx hb dX8_who_106 (by decide) ?_
                refine lv_iload_n hx hb dX8_who_108 rfl (lv_at hl 3 rfl) ?_
                refine lv_iadd hx hb dX8_who_109 ?_
                refine lv_topi (fun v_23 e_23 => ?_)
                obtain rfl : v_23 = (nI (20 + j_1)) := (e_23).trans (nI_add 20 j_1)
                refine lv_iconst (v := 0) hx hb dX8_who_110 (by decide) ?_
                refine lv_aload_n hx hb dX8_who_111 rfl (lv_at hl 2 rfl) ?_
                refine va_get (D := (dC, dI)) (ci := 8) (v := .ref m_st) (C := RX8) (T := TX8) (N := 24) hx hb hts i_X8_who_X8 hown hK hP 3 rfl rfl 5 (by decide) (hts _ mx_X8_who_3) (fun _ h9 => h9) rfl dX8_who_112 ?_
                refine lv_iconst (v := 0) hx hb dX8_who_115 (by decide) ?_
                refine va_iald hx hb hK hP 0 0 rfl rfl (by unfold vp_in; decide) dX8_who_116 ?_
                obtain ⟨c_24, hc1_24, hc2_24, hce_24⟩ := hM.2.2.2.2.2.2.1
                refine lv_topi (fun v_25 e_25 => ?_)
                obtain rfl : v_25 = (nI c_24) := (e_25).trans hce_24
                refine lv_iconst (v := 1) hx hb dX8_who_117 (by decide) ?_
                refine lv_isub hx hb dX8_who_118 ?_
                refine lv_topi (fun v_26 e_26 => ?_)
                obtain rfl : v_26 = (nI (c_24 - 1)) := (e_26).trans (pk_sub (a := c_24) (b := 1) (by omega))
                refine lv_iload_n hx hb dX8_who_119 rfl (lv_at hl 3 rfl) ?_
                refine lv_iload hx hb dX8_who_120 (lv_at hl 0 rfl) ?_
                refine lv_iload hx hb dX8_who_122 (lv_at hl 7 rfl) ?_
                have hc_27 := cutW (wc := [(xo_8_rrriirrriiiiiiirrirrrrri mo m_la m_sz m_it msn_17 mt m_st m_mv m_tp (nI mz) ml (nI mp) mk mv mb mw m_rd m_ac (nI ma) m_as m_wo m_ik m_ke m_tr (nI mx)), (xI m_st cI 38 fs), (xI m_as cI 38 fa), (xI m_it cI 320 fi_)]) hP hD hS hA [3, 0, 1, 2] (by decide +kernel) rfl
                refine va_calli (va_runV (As := [.int (nI (20 + j_1)), .int 0, .int (nI (c_24 - 1)), .int (nI j_1), .int (nI ((40 * j_7) + pa_18)), .int (nI j_11)]) (rest := []) ⟨hx, hb, hml, hown, hts⟩ (r_X8_fits l dC dI cI cZ cL cJ H.size mo m_la m_sz m_it m_st m_mv m_tp m_rd m_ac m_as m_wo m_ik m_ke m_tr msn_17 mt ml mk mv mb mw mz mp ma mx fs w9 k9 h9 fa fi_ (20 + j_1) 0 (c_24 - 1) j_1 ((40 * j_7) + pa_18) j_11 (hM) (by omega) (by omega) (by omega) (by omega) (by omega) (by omega) (by omega) (by omega) (by omega) (by omega) (by omega)) (cwV 6 hts gX8_who_X8_fits rfl rfl rfl (by decide +kernel) ⟨Nat.le_of_ble_eq_true rfl, Nat.le_of_ble_eq_true rfl⟩) (pvW 8 3 hK hP rfl rfl hc_27) rfl rfl hl.1 rfl (lv_room (Nat.le_of_ble_eq_true rfl)) dX8_who_124 ⟨Nat.le_of_ble_eq_true rfl, Nat.le_of_ble_eq_true rfl⟩) hS (fun q _ h => hc_27.2.2 q h) hc_27.2.2 (fun r_27 u_27 t_27 H1 locs ht hvm h_27 hB hz1 hk1 hS => ?_)
                refine xl_3_4 hB (fun fsn_27 fan_27 msn_27 hP1 hD1 hF_27_0 hF_27_1 => ?_)
                clear hB
                rw [ht] at hP1
                obtain ⟨hP, hD⟩ := va_join (wr := [(xI m_sz cI 8 fz)]) (w1 := [(xo_8_rrriirrriiiiiiirrirrrrri mo m_la m_sz m_it msn_27 mt m_st m_mv m_tp (nI mz) ml (nI mp) mk mv mb mw m_rd m_ac (nI ma) m_as m_wo m_ik m_ke m_tr (nI mx)), (xI m_st cI 38 fsn_27), (xI m_as cI 38 fan_27), (xI m_it cI 320 fi_)]) hP hD [3, 0, 1, 2] [4] rfl rfl (by decide +kernel) (by decide +kernel) hk1 hc_27.2.2 hP1 hD1
                generalize H1 = H at hP hS ⊢
                have hP : va_P (dC, dI) vwCl [(xI m_sz cI 8 fz), (xo_8_rrriirrriiiiiiirrirrrrri mo m_la m_sz m_it msn_27 mt m_st m_mv m_tp (nI mz) ml (nI mp) mk mv mb mw m_rd m_ac (nI ma) m_as m_wo m_ik m_ke m_tr (nI mx)), (xI m_st cI 38 fsn_27), (xI m_as cI 38 fan_27), (xI m_it cI 320 fi_)] H := hP
                have hD := dto hP hD
                have hX9 := cut2 (wc := [(xo_8_rrriirrriiiiiiirrirrrrri mo m_la m_sz m_it msn_27 mt m_st m_mv m_tp (nI mz) ml (nI mp) mk mv mb mw m_rd m_ac (nI ma) m_as m_wo m_ik m_ke m_tr (nI mx)), (xI m_st cI 38 fsn_27), (xI m_as cI 38 fan_27), (xI m_it cI 320 fi_), (xI m_sz cI 8 fz)]) hP hD [1, 2, 3, 4, 0] (by decide +kernel) rfl
                exact W.iret (v := r_27) hx hb hr (fun t ht hW => ⟨⟨r_27, (), rfl, trivial, ⟨fsn_27, fan_27, msn_27, va_Ht ht hX9.1, hX9.2, hF_27_0, hF_27_1⟩⟩, hS.F ht⟩) hS.2.2 dX8_who_127
              · skip
                subst c_22
                refine lv_aload_n hx hb dX8_who_87 rfl (lv_at hl 2 rfl) ?_
                refine lv_bipush (v := 14) hx hb dX8_who_88 (by decide) ?_
                refine lv_iload_n hx hb dX8_who_90 rfl (lv_at hl 3 rfl) ?_
                refine lv_iadd hx hb dX8_who_91 ?_
                refine lv_topi (fun v_28 e_28 => ?_)
                obtain rfl : v_28 = (nI (14 + j_1)) := (e_28).trans (nI_add 14 j_1)
                refine lv_iconst (v := 1) hx hb dX8_who_92 (by decide) ?_
                refine lv_iconst (v := 5) hx hb dX8_who_93 (by decide) ?_
                refine lv_iload_n hx hb dX8_who_94 rfl (lv_at hl 3 rfl) ?_
                refine lv_iload hx hb dX8_who_95 (lv_at hl 0 rfl) ?_
                refine lv_iload hx hb dX8_who_97 (lv_at hl 7 rfl) ?_
                have hc_29 := cutW (wc := [(xo_8_rrriirrriiiiiiirrirrrrri mo m_la m_sz m_it msn_17 mt m_st m_mv m_tp (nI mz) ml (nI mp) mk mv mb mw m_rd m_ac (nI ma) m_as m_wo m_ik m_ke m_tr (nI mx)), (xI m_st cI 38 fs), (xI m_as cI 38 fa), (xI m_it cI 320 fi_)]) hP hD hS hA [3, 0, 1, 2] (by decide +kernel) rfl
                refine va_calli (va_runV (As := [.int (nI (14 + j_1)), .int 1, .int 5, .int (nI j_1), .int (nI ((40 * j_7) + pa_18)), .int (nI j_11)]) (rest := []) ⟨hx, hb, hml, hown, hts⟩ (r_X8_fits l dC dI cI cZ cL cJ H.size mo m_la m_sz m_it m_st m_mv m_tp m_rd m_ac m_as m_wo m_ik m_ke m_tr msn_17 mt ml mk mv mb mw mz mp ma mx fs w9 k9 h9 fa fi_ (14 + j_1) 1 5 j_1 ((40 * j_7) + pa_18) j_11 (hM) (by omega) (by omega) (by omega) (by omega) (by omega) (by omega) (by omega) (by omega) (by omega) (by omega) (by omega)) (cwV 6 hts gX8_who_X8_fits rfl rfl rfl (by decide +kernel) ⟨Nat.le_of_ble_eq_true rfl, Nat.le_of_ble_eq_true rfl⟩) (pvW 8 3 hK hP rfl rfl hc_29) rfl rfl hl.1 rfl (lv_room (Nat.le_of_ble_eq_true rfl)) dX8_who_99 ⟨Nat.le_of_ble_eq_true rfl, Nat.le_of_ble_eq_true rfl⟩) hS (fun q _ h => hc_29.2.2 q h) hc_29.2.2 (fun r_29 u_29 t_29 H1 locs ht hvm h_29 hB hz1 hk1 hS => ?_)
                refine xl_3_4 hB (fun fsn_29 fan_29 msn_29 hP1 hD1 hF_29_0 hF_29_1 => ?_)
                clear hB
                rw [ht] at hP1
                obtain ⟨hP, hD⟩ := va_join (wr := [(xI m_sz cI 8 fz)]) (w1 := [(xo_8_rrriirrriiiiiiirrirrrrri mo m_la m_sz m_it msn_29 mt m_st m_mv m_tp (nI mz) ml (nI mp) mk mv mb mw m_rd m_ac (nI ma) m_as m_wo m_ik m_ke m_tr (nI mx)), (xI m_st cI 38 fsn_29), (xI m_as cI 38 fan_29), (xI m_it cI 320 fi_)]) hP hD [3, 0, 1, 2] [4] rfl rfl (by decide +kernel) (by decide +kernel) hk1 hc_29.2.2 hP1 hD1
                generalize H1 = H at hP hS ⊢
                have hP : va_P (dC, dI) vwCl [(xI m_sz cI 8 fz), (xo_8_rrriirrriiiiiiirrirrrrri mo m_la m_sz m_it msn_29 mt m_st m_mv m_tp (nI mz) ml (nI mp) mk mv mb mw m_rd m_ac (nI ma) m_as m_wo m_ik m_ke m_tr (nI mx)), (xI m_st cI 38 fsn_29), (xI m_as cI 38 fan_29), (xI m_it cI 320 fi_)] H := hP
                have hD := dto hP hD
                refine lv_goto (tgt := 127) hx hb dX8_who_102 (by decide) ?_
                have hX9 := cut2 (wc := [(xo_8_rrriirrriiiiiiirrirrrrri mo m_la m_sz m_it msn_29 mt m_st m_mv m_tp (nI mz) ml (nI mp) mk mv mb mw m_rd m_ac (nI ma) m_as m_wo m_ik m_ke m_tr (nI mx)), (xI m_st cI 38 fsn_29), (xI m_as cI 38 fan_29), (xI m_it cI 320 fi_), (xI m_sz cI 8 fz)]) hP hD [1, 2, 3, 4, 0] (by decide +kernel) rfl
                exact W.iret (v := r_29) hx hb hr (fun t ht hW => ⟨⟨r_29, (), rfl, trivial, ⟨fsn_29, fan_29, msn_29, va_Ht ht hX9.1, hX9.2, hF_29_0, hF_29_1⟩⟩, hS.F ht⟩) hS.2.2 dX8_who_127
            · skip
              refine lv_istore (lv' := [(6, .int r_17), (0, .ref mo), (1, .int (nI j_1)), (2, .int a1), (3, .int (nI j_7)), (4, .int a3), (5, .int (nI j_11))]) hx hb dX8_who_62 hl (by decide) rfl (fun ls hl => ?_)
              refine lv_bipush (v := 40) hx hb dX8_who_64 (by decide) ?_
              refine lv_iload_n hx hb dX8_who_66 rfl (lv_at hl 4 rfl) ?_
              refine lv_imul hx hb dX8_who_67 ?_
              refine lv_topi (fun v_30 e_30 => ?_)
              obtain rfl : v_30 = (nI (40 * j_7)) := (e_30).trans (pk_mul 40 j_7)
              refine lv_iload hx hb dX8_who_68 (lv_at hl 5 rfl) ?_
              refine lv_iadd hx hb dX8_who_70 ?_
              refine lv_topi (fun v_31 e_31 => ?_)
              refine lv_istore (lv' := [(7, .int v_31), (6, .int r_17), (0, .ref mo), (1, .int (nI j_1)), (2, .int a1), (3, .int (nI j_7)), (4, .int a3), (5, .int (nI j_11))]) hx hb dX8_who_71 hl (by decide) rfl (fun ls hl => ?_)
              refine lv_iload hx hb dX8_who_73 (lv_at hl 1 rfl) ?_
              refine lv_if_ge (tgt := 83) hx hb dX8_who_75 (by decide) (fun c_ => absurd c_ f_17_1_0) (fun _ => ?_)
              refine lv_iload hx hb dX8_who_78 (lv_at hl 1 rfl) ?_
              refine lv_goto (tgt := 127) hx hb dX8_who_80 (by decide) ?_
              have hX9 := cut2 (wc := [(xo_8_rrriirrriiiiiiirrirrrrri mo m_la m_sz m_it msn_17 mt m_st m_mv m_tp (nI mz) ml (nI mp) mk mv mb mw m_rd m_ac (nI ma) m_as m_wo m_ik m_ke m_tr (nI mx)), (xI m_st cI 38 fs), (xI m_as cI 38 fa), (xI m_it cI 320 fi_), (xI m_sz cI 8 fz)]) hP hD [3, 0, 1, 2, 4] (by decide +kernel) rfl
              exact W.iret (v := r_17) hx hb hr (fun t ht hW => ⟨⟨r_17, (), rfl, trivial, ⟨fs, fa, msn_17, va_Ht ht hX9.1, hX9.2, hM, rfl⟩⟩, hS.F ht⟩) hS.2.2 dX8_who_127
          · skip
            refine lv_ldc (own := RX8) (v := (-1000002)) hx hb hown (hts _ mx_X8_who_4) dX8_who_50 ?_
            have hX9 := cut2 (wc := [(xo_8_rrriirrriiiiiiirrirrrrri mo m_la m_sz m_it ms mt m_st m_mv m_tp (nI mz) ml (nI mp) mk mv mb mw m_rd m_ac (nI ma) m_as m_wo m_ik m_ke m_tr (nI mx)), (xI m_st cI 38 fs), (xI m_as cI 38 fa), (xI m_it cI 320 fi_), (xI m_sz cI 8 fz)]) hP hD [0, 1, 2, 3, 4] (by decide +kernel) rfl
            exact W.iret (v := (-1000002)) hx hb hr (fun t ht hW => ⟨⟨(-1000002), (), rfl, trivial, ⟨fs, fa, ms, va_Ht ht hX9.1, hX9.2, hM, rfl⟩⟩, hS.F ht⟩) hS.2.2 dX8_who_52
set_option maxHeartbeats 4000000 in
set_option maxRecDepth 100000 in
theorem r_X8_gusts (l : Launch) (dC : Nat → ClassId) (dI : Nat → Nat → Nat) (cI cZ cL cJ : ClassId) (sz : Nat) (mo : Nat) (m_la : Nat) (m_sz : Nat) (m_it : Nat) (m_st : Nat) (m_mv : Nat) (m_tp : Nat) (m_rd : Nat) (m_ac : Nat) (m_as : Nat) (m_wo : Nat) (m_ik : Nat) (m_ke : Nat) (m_tr : Nat) (ms : Int32) (mt : Int32) (ml : Int32) (mk : Int32) (mv : Int32) (mb : Int32) (mw : Int32) (mz : Nat) (mp : Nat) (ma : Nat) (mx : Nat) (fs : Nat → Int32) (w9 : Nat) (k9 : Nat) (h9 : Nat) (fa : Nat → Int32) (fi_ : Nat → Int32) (fz : Nat → Int32) (a0 : Int32) (a1 : Int32) (a2 : Int32) (a3 : Int32) (a4 : Int32) (hM : okM fs w9 k9 h9) (hT : ¬ mt = 0 → 1 ≤ k9) (h999 : h9 ≤ 999) (hT0 : mt = 0 → fs 0 = 0 ∧ ma = 0) (hsz9 : ∀ j : Nat, j < 8 → fz j = -1 ∨ ∃ q : Nat, q ≤ 40 ∧ fz j = nI q) : Met l yX8_gusts wsX8_gusts ({ frames := 6, cells := 0, slots := 0, locals := 149 }) (va_Pc [.ref mo, .int a0, .int a1, .int a2, .int a3, .int a4] (fun U => U.heap.size = sz ∧ va_P (dC, dI) vwCl [(xo_8_rrriirrriiiiiiirrirrrrri mo m_la m_sz m_it ms mt m_st m_mv m_tp (nI mz) ml (nI mp) mk mv mb mw m_rd m_ac (nI ma) m_as m_wo m_ik m_ke m_tr (nI mx)), (xI m_st cI 38 fs), (xI m_as cI 38 fa), (xI m_it cI 320 fi_), (xI m_sz cI 8 fz)] U.heap ∧ va_K (dC, dI) vwCl [(cI, .int), (cZ, .boolean), (cL, .object RX3), (cJ, .array .int)] U ∧ va_D (fun _ => True) [(xo_8_rrriirrriiiiiiirrirrrrri mo m_la m_sz m_it ms mt m_st m_mv m_tp (nI mz) ml (nI mp) mk mv mb mw m_rd m_ac (nI ma) m_as m_wo m_ik m_ke m_tr (nI mx)), (xI m_st cI 38 fs), (xI m_as cI 38 fa), (xI m_it cI 320 fi_), (xI m_sz cI 8 fz)])) (va_Qi (fun r (_ : Unit) => True) (fun (_ : Unit) t => ∃ (fsn : Nat → Int32) (fan : Nat → Int32) (msn : Int32), va_P (dC, dI) vwCl [(xo_8_rrriirrriiiiiiirrirrrrri mo m_la m_sz m_it msn mt m_st m_mv m_tp (nI mz) ml (nI mp) mk mv mb mw m_rd m_ac (nI ma) m_as m_wo m_ik m_ke m_tr (nI mx)), (xI m_st cI 38 fsn), (xI m_as cI 38 fan), (xI m_it cI 320 fi_), (xI m_sz cI 8 fz)] t.heap ∧ va_D (va_A [(xo_8_rrriirrriiiiiiirrirrrrri mo m_la m_sz m_it ms mt m_st m_mv m_tp (nI mz) ml (nI mp) mk mv mb mw m_rd m_ac (nI ma) m_as m_wo m_ik m_ke m_tr (nI mx)), (xI m_st cI 38 fs), (xI m_as cI 38 fa), (xI m_it cI 320 fi_), (xI m_sz cI 8 fz)] sz) [(xo_8_rrriirrriiiiiiirrirrrrri mo m_la m_sz m_it msn mt m_st m_mv m_tp (nI mz) ml (nI mp) mk mv mb mw m_rd m_ac (nI ma) m_as m_wo m_ik m_ke m_tr (nI mx)), (xI m_st cI 38 fsn), (xI m_as cI 38 fan), (xI m_it cI 320 fi_), (xI m_sz cI 8 fz)] ∧ okM fsn w9 k9 h9 ∧ m38 fsn = m38 fs) (va_A [(xo_8_rrriirrriiiiiiirrirrrrri mo m_la m_sz m_it ms mt m_st m_mv m_tp (nI mz) ml (nI mp) mk mv mb mw m_rd m_ac (nI ma) m_as m_wo m_ik m_ke m_tr (nI mx)), (xI m_st cI 38 fs), (xI m_as cI 38 fa), (xI m_it cI 320 fi_), (xI m_sz cI 8 fz)] sz)) 0 0 (va_A [(xo_8_rrriirrriiiiiiirrirrrrri mo m_la m_sz m_it ms mt m_st m_mv m_tp (nI mz) ml (nI mp) mk mv mb mw m_rd m_ac (nI ma) m_as m_wo m_ik m_ke m_tr (nI mx)), (xI m_st cI 38 fs), (xI m_as cI 38 fa), (xI m_it cI 320 fi_), (xI m_sz cI 8 fz)] sz) := by
  refine Met.ofW (cc := cX8_gusts) (maxL := 7) (ret := (some .int)) (by decide) rfl ?_
  intro p e s m args below meth c s₁ B hml hv
  obtain ⟨rfl, hsz, hP, hK, hD0⟩ := hv
  have hx := B.exec
  have hb := B.bytes
  have hr := B.returns
  have hts := atoms_spec (ws := wsX8_gusts) B.pre
  have hown : s.vm.findClass RX8 = some m.cls := findClass_of_methodNamed B.named
  have hlocks := B.notSynchronized
  subst hsz
  have hD := hD0.self (sz := s.heap.size)
  generalize hAe : va_A [(xo_8_rrriirrriiiiiiirrirrrrri mo m_la m_sz m_it ms mt m_st m_mv m_tp (nI mz) ml (nI mp) mk mv mb mw m_rd m_ac (nI ma) m_as m_wo m_ik m_ke m_tr (nI mx)), (xI m_st cI 38 fs), (xI m_as cI 38 fa), (xI m_it cI 320 fi_), (xI m_sz cI 8 fz)] s.heap.size = A at hD ⊢
  have hA : ∀ q : Nat, s.heap.size ≤ q → A q := fun q h => by rw [← hAe]; exact Or.inr h
  have hS : va_S A s.heap s.heap [] := va_S.rf
  have hP : va_P (dC, dI) vwCl [(xo_8_rrriirrriiiiiiirrirrrrri mo m_la m_sz m_it ms mt m_st m_mv m_tp (nI mz) ml (nI mp) mk mv mb mw m_rd m_ac (nI ma) m_as m_wo m_ik m_ke m_tr (nI mx)), (xI m_st cI 38 fs), (xI m_as cI 38 fa), (xI m_it cI 320 fi_), (xI m_sz cI 8 fz)] s.heap := hP
  have hl := lv_entry ([.ref mo, .int a0, .int a1, .int a2, .int a3, .int a4]) (n := 7) (Nat.le_of_ble_eq_true rfl)
  rw [lg_entry_eq]
  generalize (lg_sl ([.ref mo, .int a0, .int a1, .int a2, .int a3, .int a4]) ++ List.replicate (7 - (lg_sl ([.ref mo, .int a0, .int a1, .int a2, .int a3, .int a4])).length) Slot.unset).toArray = ls at hl ⊢
  have hl : lv_has ls 7 [(0, .ref mo), (1, .int a0), (2, .int a1), (3, .int a2), (4, .int a3), (5, .int a4)] := hl
  have hk6 := hM.2.2.2.2.1
  have hw6 := hM.2.2.2.1
  refine lv_iload_n hx hb dX8_gusts_0 rfl (lv_at hl 1 rfl) ?_
  refine lv_i2l hx hb dX8_gusts_1 rfl ?_
  refine lv_ldc2 (own := RX8) (v := (-1)) hx hb hown (hts _ mx_X8_gusts_1) dX8_gusts_2 ?_
  refine lv_aload_n hx hb dX8_gusts_5 rfl (lv_at hl 0 rfl) ?_
  refine va_get (D := (dC, dI)) (ci := 8) (v := .ref m_st) (C := RX8) (T := TX8) (N := 24) hx hb hts i_X8_gusts_X8 hown hK hP 0 rfl rfl 5 (by decide) (hts _ mx_X8_gusts_2) (fun _ h9 => h9) rfl dX8_gusts_6 ?_
  refine lv_iconst (v := 3) hx hb dX8_gusts_9 (by decide) ?_
  refine va_iald hx hb hK hP 1 0 rfl rfl (by unfold vp_in; decide) dX8_gusts_10 ?_
  refine lv_topi (fun v_1 e_1 => ?_)
  obtain rfl : v_1 = (nI w9) := (e_1).trans hM.1
  refine lv_iconst (v := 1) hx hb dX8_gusts_11 (by decide) ?_
  refine lv_isub hx hb dX8_gusts_12 ?_
  refine lv_topi (fun v_2 e_2 => ?_)
  refine lv_i2l hx hb dX8_gusts_13 rfl ?_
  have hPc_3 := hP.sub (ws' := []) [] rfl
  refine vp_callSi (W.runS (As := [.long (a0).toInt64, .long (-1), .long (v_2).toInt64]) (rest := []) ⟨hx, hb, hml, hown, hts⟩ (r_X8_in l dC dI cI cZ cL cJ ((a0).toInt64) (-1) ((v_2).toInt64) ) (va_cwS 3 hts gX8_gusts_X8_in rfl rfl rfl (by decide +kernel) ⟨Nat.le_of_ble_eq_true rfl, Nat.le_of_ble_eq_true rfl⟩) (psP hK hPc_3) rfl rfl hl.1 rfl (lv_room (Nat.le_of_ble_eq_true rfl)) dX8_gusts_14 ⟨Nat.le_of_ble_eq_true rfl, Nat.le_of_ble_eq_true rfl⟩) (fun r_3 h_3 => ?_)
  rcases h_3 with ⟨h_3, f_3_0_0⟩ | ⟨h_3, f_3_1_0⟩
  · subst h_3
    refine lv_if_eq (tgt := 48) hx hb dX8_gusts_17 (by decide) (fun _ => ?_) (fun c_ => absurd (by decide) c_)
    refine lv_ldc (own := RX8) (v := (-1000001)) hx hb hown (hts _ mx_X8_gusts_4) dX8_gusts_48 ?_
    have hX9 := cut2 (wc := [(xo_8_rrriirrriiiiiiirrirrrrri mo m_la m_sz m_it ms mt m_st m_mv m_tp (nI mz) ml (nI mp) mk mv mb mw m_rd m_ac (nI ma) m_as m_wo m_ik m_ke m_tr (nI mx)), (xI m_st cI 38 fs), (xI m_as cI 38 fa), (xI m_it cI 320 fi_), (xI m_sz cI 8 fz)]) hP hD [0, 1, 2, 3, 4] (by decide +kernel) rfl
    exact W.iret (v := (-1000001)) hx hb hr (fun t ht hW => ⟨⟨(-1000001), (), rfl, trivial, ⟨fs, fa, ms, va_Ht ht hX9.1, hX9.2, hM, rfl⟩⟩, hS.F ht⟩) hS.2.2 dX8_gusts_50
  · subst h_3
    rcases m1_in (k := w9) (by omega) e_2 f_3_1_0 with rfl | hv_3
    · skip
      refine lv_if_eq (tgt := 48) hx hb dX8_gusts_17 (by decide) (fun c_ => absurd c_ (by decide)) (fun _ => ?_)
      refine lv_aload_n hx hb dX8_gusts_20 rfl (lv_at hl 0 rfl) ?_
      refine lv_iload_n hx hb dX8_gusts_21 rfl (lv_at hl 2 rfl) ?_
      have hPc_6 := hP.sub (ws' := [(xo_8_rrriirrriiiiiiirrirrrrri mo m_la m_sz m_it ms mt m_st m_mv m_tp (nI mz) ml (nI mp) mk mv mb mw m_rd m_ac (nI ma) m_as m_wo m_ik m_ke m_tr (nI mx)), (xI m_st cI 38 fs)]) [0, 1] rfl
      refine vp_callSi (W.runV (As := [.int a1]) (rest := []) ⟨hx, hb, hml, hown, hts⟩ (r_X8_isSound l dC dI cI cZ cL cJ mo m_la m_sz m_it m_st m_mv m_tp m_rd m_ac m_as m_wo m_ik m_ke m_tr ms mt ml mk mv mb mw mz mp ma mx fs w9 k9 h9 a1 (hM)) (cwV 1 hts gX8_gusts_X8_isSound rfl rfl rfl (by decide +kernel) ⟨Nat.le_of_ble_eq_true rfl, Nat.le_of_ble_eq_true rfl⟩) (pvP 8 0 hK hP rfl rfl hPc_6) rfl rfl hl.1 rfl (lv_room (Nat.le_of_ble_eq_true rfl)) dX8_gusts_22 ⟨Nat.le_of_ble_eq_true rfl, Nat.le_of_ble_eq_true rfl⟩) (fun r_6 h_6 => ?_)
      rcases h_6 with ⟨h_6, f_6_0_0⟩ | ⟨h_6, f_6_1_0⟩
      · subst h_6
        refine lv_if_eq (tgt := 48) hx hb dX8_gusts_25 (by decide) (fun _ => ?_) (fun c_ => absurd (by decide) c_)
        refine lv_ldc (own := RX8) (v := (-1000001)) hx hb hown (hts _ mx_X8_gusts_4) dX8_gusts_48 ?_
        have hX9 := cut2 (wc := [(xo_8_rrriirrriiiiiiirrirrrrri mo m_la m_sz m_it ms mt m_st m_mv m_tp (nI mz) ml (nI mp) mk mv mb mw m_rd m_ac (nI ma) m_as m_wo m_ik m_ke m_tr (nI mx)), (xI m_st cI 38 fs), (xI m_as cI 38 fa), (xI m_it cI 320 fi_), (xI m_sz cI 8 fz)]) hP hD [0, 1, 2, 3, 4] (by decide +kernel) rfl
        exact W.iret (v := (-1000001)) hx hb hr (fun t ht hW => ⟨⟨(-1000001), (), rfl, trivial, ⟨fs, fa, ms, va_Ht ht hX9.1, hX9.2, hM, rfl⟩⟩, hS.F ht⟩) hS.2.2 dX8_gusts_50
      · subst h_6
        obtain ⟨j_6, hj_6, rfl⟩ := vp_in_of f_6_1_0 (by omega)
        have hkn1 : 1 ≤ k9 := by omega
        have hw1 := hM.2.2.2.2.2.1.mp hkn1
        refine lv_if_eq (tgt := 48) hx hb dX8_gusts_25 (by decide) (fun c_ => absurd c_ (by decide)) (fun _ => ?_)
        refine lv_iload_n hx hb dX8_gusts_28 rfl (lv_at hl 3 rfl) ?_
        have hPc_10 := hP.sub (ws' := []) [] rfl
        refine vp_callSi (W.runS (As := [.int a2]) (rest := []) ⟨hx, hb, hml, hown, hts⟩ (r_X8_isRow l dC dI cI cZ cL cJ a2 ) (va_cwS 1 hts gX8_gusts_X8_isRow rfl rfl rfl (by decide +kernel) ⟨Nat.le_of_ble_eq_true rfl, Nat.le_of_ble_eq_true rfl⟩) (psP hK hPc_10) rfl rfl hl.1 rfl (lv_room (Nat.le_of_ble_eq_true rfl)) dX8_gusts_29 ⟨Nat.le_of_ble_eq_true rfl, Nat.le_of_ble_eq_true rfl⟩) (fun r_10 h_10 => ?_)
        rcases h_10 with ⟨h_10, f_10_0_0⟩ | ⟨h_10, f_10_1_0⟩
        · subst h_10
          refine lv_if_eq (tgt := 48) hx hb dX8_gusts_32 (by decide) (fun _ => ?_) (fun c_ => absurd (by decide) c_)
          refine lv_ldc (own := RX8) (v := (-1000001)) hx hb hown (hts _ mx_X8_gusts_4) dX8_gusts_48 ?_
          have hX9 := cut2 (wc := [(xo_8_rrriirrriiiiiiirrirrrrri mo m_la m_sz m_it ms mt m_st m_mv m_tp (nI mz) ml (nI mp) mk mv mb mw m_rd m_ac (nI ma) m_as m_wo m_ik m_ke m_tr (nI mx)), (xI m_st cI 38 fs), (xI m_as cI 38 fa), (xI m_it cI 320 fi_), (xI m_sz cI 8 fz)]) hP hD [0, 1, 2, 3, 4] (by decide +kernel) rfl
          exact W.iret (v := (-1000001)) hx hb hr (fun t ht hW => ⟨⟨(-1000001), (), rfl, trivial, ⟨fs, fa, ms, va_Ht ht hX9.1, hX9.2, hM, rfl⟩⟩, hS.F ht⟩) hS.2.2 dX8_gusts_50
        · subst h_10
          obtain ⟨j_10, hj_10, rfl⟩ := vp_in_of f_10_1_0 (by omega)
          refine lv_if_eq (tgt := 48) hx hb dX8_gusts_32 (by decide) (fun c_ => absurd c_ (by decide)) (fun _ => ?_)
          refine lv_iload hx hb dX8_gusts_35 (lv_at hl 5 rfl) ?_
          refine lv_i2l hx hb dX8_gusts_37 rfl ?_
          refine lv_lconst (v := 1) hx hb dX8_gusts_38 (by decide) ?_
          refine lv_ldc2 (own := RX8) (v := 12) hx hb hown (hts _ mx_X8_gusts_3) dX8_gusts_39 ?_
          have hPc_14 := hP.sub (ws' := []) [] rfl
          refine vp_callSi (W.runS (As := [.long (a4).toInt64, .long 1, .long 12]) (rest := []) ⟨hx, hb, hml, hown, hts⟩ (r_X8_in l dC dI cI cZ cL cJ ((a4).toInt64) 1 12 ) (va_cwS 3 hts gX8_gusts_X8_in rfl rfl rfl (by decide +kernel) ⟨Nat.le_of_ble_eq_true rfl, Nat.le_of_ble_eq_true rfl⟩) (psP hK hPc_14) rfl rfl hl.1 rfl (lv_room (Nat.le_of_ble_eq_true rfl)) dX8_gusts_42 ⟨Nat.le_of_ble_eq_true rfl, Nat.le_of_ble_eq_true rfl⟩) (fun r_14 h_14 => ?_)
          rcases h_14 with ⟨h_14, f_14_0_0⟩ | ⟨h_14, f_14_1_0⟩
          · subst h_14
            refine lv_if_ne (tgt := 51) hx hb dX8_gusts_45 (by decide) (fun c_ => absurd (by decide) c_) (fun _ => ?_)
            refine lv_ldc (own := RX8) (v := (-1000001)) hx hb hown (hts _ mx_X8_gusts_4) dX8_gusts_48 ?_
            have hX9 := cut2 (wc := [(xo_8_rrriirrriiiiiiirrirrrrri mo m_la m_sz m_it ms mt m_st m_mv m_tp (nI mz) ml (nI mp) mk mv mb mw m_rd m_ac (nI ma) m_as m_wo m_ik m_ke m_tr (nI mx)), (xI m_st cI 38 fs), (xI m_as cI 38 fa), (xI m_it cI 320 fi_), (xI m_sz cI 8 fz)]) hP hD [0, 1, 2, 3, 4] (by decide +kernel) rfl
            exact W.iret (v := (-1000001)) hx hb hr (fun t ht hW => ⟨⟨(-1000001), (), rfl, trivial, ⟨fs, fa, ms, va_Ht ht hX9.1, hX9.2, hM, rfl⟩⟩, hS.F ht⟩) hS.2.2 dX8_gusts_50
          · subst h_14
            obtain ⟨j_14, hj_14, hl_14, rfl⟩ := in64 (lo := 1) (n := 12) rfl rfl (by decide) f_14_1_0
            refine lv_if_ne (tgt := 51) hx hb dX8_gusts_45 (by decide) (fun _ => ?_) (fun c_ => absurd c_ (by decide))
            refine lv_aload_n hx hb dX8_gusts_51 rfl (lv_at hl 0 rfl) ?_
            refine va_get (D := (dC, dI)) (ci := 8) (v := .ref m_st) (C := RX8) (T := TX8) (N := 24) hx hb hts i_X8_gusts_X8 hown hK hP 0 rfl rfl 5 (by decide) (hts _ mx_X8_gusts_2) (fun _ h9 => h9) rfl dX8_gusts_52 ?_
            refine lv_bipush (v := 26) hx hb dX8_gusts_55 (by decide) ?_
            refine lv_iload_n hx hb dX8_gusts_57 rfl (lv_at hl 2 rfl) ?_
            refine lv_iadd hx hb dX8_gusts_58 ?_
            refine lv_topi (fun v_17 e_17 => ?_)
            obtain rfl : v_17 = (nI (26 + j_6)) := (e_17).trans (nI_add 26 j_6)
            refine va_iald hx hb hK hP 1 0 rfl rfl (vp_in_nI (by omega) (by omega)) dX8_gusts_59 ?_
            refine lv_topi (fun v_18 e_18 => ?_)
            refine lv_if_eq (tgt := 66) hx hb dX8_gusts_60 (by decide) (fun c_19 => ?_) (fun c_19 => ?_)
            · skip
              subst c_19
              refine lv_aload_n hx hb dX8_gusts_66 rfl (lv_at hl 0 rfl) ?_
              refine lv_iload_n hx hb dX8_gusts_67 rfl (lv_at hl 3 rfl) ?_
              refine lv_iload hx hb dX8_gusts_68 (lv_at hl 4 rfl) ?_
              refine lv_iload hx hb dX8_gusts_70 (lv_at hl 5 rfl) ?_
              have hc_20 := cutW (wc := [(xo_8_rrriirrriiiiiiirrirrrrri mo m_la m_sz m_it ms mt m_st m_mv m_tp (nI mz) ml (nI mp) mk mv mb mw m_rd m_ac (nI ma) m_as m_wo m_ik m_ke m_tr (nI mx)), (xI m_sz cI 8 fz)]) hP hD hS hA [0, 4] (by decide +kernel) rfl
              refine va_calli (va_runV (As := [.int (nI j_10), .int a3, .int (nI j_14)]) (rest := []) ⟨hx, hb, hml, hown, hts⟩ (r_X8_lacks l dC dI cI cZ cL cJ s.heap.size mo m_la m_sz m_it m_st m_mv m_tp m_rd m_ac m_as m_wo m_ik m_ke m_tr ms mt ml mk mv mb mw mz mp ma mx fz j_10 j_14 a3 (hsz9) (by omega) (by omega)) (cwV 3 hts gX8_gusts_X8_lacks rfl rfl rfl (by decide +kernel) ⟨Nat.le_of_ble_eq_true rfl, Nat.le_of_ble_eq_true rfl⟩) (pvW 8 0 hK hP rfl rfl hc_20) rfl rfl hl.1 rfl (lv_room (Nat.le_of_ble_eq_true rfl)) dX8_gusts_72 ⟨Nat.le_of_ble_eq_true rfl, Nat.le_of_ble_eq_true rfl⟩) hS (fun q _ h => hc_20.2.2 q h) hc_20.2.2 (fun r_20 u_20 t_20 H1 locs ht hvm h_20 hB hz1 hk1 hS => ?_)
              refine xl_1_2 hB (fun msn_20 hP1 hD1 => ?_)
              clear hB
              rw [ht] at hP1
              obtain ⟨hP, hD⟩ := va_join (wr := [(xI m_st cI 38 fs), (xI m_as cI 38 fa), (xI m_it cI 320 fi_)]) (w1 := [(xo_8_rrriirrriiiiiiirrirrrrri mo m_la m_sz m_it msn_20 mt m_st m_mv m_tp (nI mz) ml (nI mp) mk mv mb mw m_rd m_ac (nI ma) m_as m_wo m_ik m_ke m_tr (nI mx)), (xI m_sz cI 8 fz)]) hP hD [0, 4] [1, 2, 3] rfl rfl (by decide +kernel) (by decide +kernel) hk1 hc_20.2.2 hP1 hD1
              generalize H1 = H at hP hS ⊢
              have hP : va_P (dC, dI) vwCl [(xI m_st cI 38 fs), (xI m_as cI 38 fa), (xI m_it cI 320 fi_), (xo_8_rrriirrriiiiiiirrirrrrri mo m_la m_sz m_it msn_20 mt m_st m_mv m_tp (nI mz) ml (nI mp) mk mv mb mw m_rd m_ac (nI ma) m_as m_wo m_ik m_ke m_tr (nI mx)), (xI m_sz cI 8 fz)] H := hP
              have hD := dto hP hD
              rcases h_20 with ⟨h_20, f_20_0_0⟩ | f_20_1_0
              · subst h_20
                obtain ⟨pa_21, pb_21, ea_21, eb_21, hab_21⟩ := f_20_0_0
                subst ea_21
                have eb_21 : j_14 = pb_21 := nI_inj eb_21 (by omega) (by omega)
                refine lv_istore (lv' := [(6, .int 0), (0, .ref mo), (1, .int (-1)), (2, .int (nI j_6)), (3, .int (nI j_10)), (4, .int (nI pa_21)), (5, .int (nI j_14))]) hx hb dX8_gusts_75 hl (by decide) rfl (fun ls hl => ?_)
                refine lv_iload hx hb dX8_gusts_77 (lv_at hl 0 rfl) ?_
                refine lv_if_ge (tgt := 87) hx hb dX8_gusts_79 (by decide) (fun _ => ?_) (fun c_ => absurd (by decide) c_)
                refine lv_aload_n hx hb dX8_gusts_87 rfl (lv_at hl 1 rfl) ?_
                refine lv_iload_n hx hb dX8_gusts_88 rfl (lv_at hl 2 rfl) ?_
                refine lv_if_ge (tgt := 96) hx hb dX8_gusts_89 (by decide) (fun c_ => absurd c_ (by decide)) (fun _ => ?_)
                refine lv_iconst (v := 2) hx hb dX8_gusts_92 (by decide) ?_
                refine lv_goto (tgt := 100) hx hb dX8_gusts_93 (by decide) ?_
                refine lv_iconst (v := 0) hx hb dX8_gusts_100 (by decide) ?_
                refine lv_iconst (v := 4) hx hb dX8_gusts_101 (by decide) ?_
                refine lv_iload_n hx hb dX8_gusts_102 rfl (lv_at hl 3 rfl) ?_
                refine lv_bipush (v := 40) hx hb dX8_gusts_103 (by decide) ?_
                refine lv_iload_n hx hb dX8_gusts_105 rfl (lv_at hl 4 rfl) ?_
                refine lv_imul hx hb dX8_gusts_106 ?_
                refine lv_topi (fun v_24 e_24 => ?_)
                obtain rfl : v_24 = (nI (40 * j_10)) := (e_24).trans (pk_mul 40 j_10)
                refine lv_iload hx hb dX8_gusts_107 (lv_at hl 5 rfl) ?_
                refine lv_iadd hx hb dX8_gusts_109 ?_
                refine lv_topi (fun v_25 e_25 => ?_)
                obtain rfl : v_25 = (nI ((40 * j_10) + pa_21)) := (e_25).trans (nI_add (40 * j_10) pa_21)
                refine lv_iload hx hb dX8_gusts_110 (lv_at hl 6 rfl) ?_
                have hc_26 := cutW (wc := [(xo_8_rrriirrriiiiiiirrirrrrri mo m_la m_sz m_it msn_20 mt m_st m_mv m_tp (nI mz) ml (nI mp) mk mv mb mw m_rd m_ac (nI ma) m_as m_wo m_ik m_ke m_tr (nI mx)), (xI m_st cI 38 fs), (xI m_as cI 38 fa), (xI m_it cI 320 fi_)]) hP hD hS hA [3, 0, 1, 2] (by decide +kernel) rfl
                refine va_calli (va_runV (As := [.int 2, .int 0, .int 4, .int (nI j_6), .int (nI ((40 * j_10) + pa_21)), .int (nI j_14)]) (rest := []) ⟨hx, hb, hml, hown, hts⟩ (r_X8_fits l dC dI cI cZ cL cJ H.size mo m_la m_sz m_it m_st m_mv m_tp m_rd m_ac m_as m_wo m_ik m_ke m_tr msn_20 mt ml mk mv mb mw mz mp ma mx fs w9 k9 h9 fa fi_ 2 0 4 j_6 ((40 * j_10) + pa_21) j_14 (hM) (by omega) (by omega) (by omega) (by omega) (by omega) (by omega) (by omega) (by omega) (by omega) (by omega) (by omega)) (cwV 6 hts gX8_gusts_X8_fits rfl rfl rfl (by decide +kernel) ⟨Nat.le_of_ble_eq_true rfl, Nat.le_of_ble_eq_true rfl⟩) (pvW 8 3 hK hP rfl rfl hc_26) rfl rfl hl.1 rfl (lv_room (Nat.le_of_ble_eq_true rfl)) dX8_gusts_112 ⟨Nat.le_of_ble_eq_true rfl, Nat.le_of_ble_eq_true rfl⟩) hS (fun q _ h => hc_26.2.2 q h) hc_26.2.2 (fun r_26 u_26 t_26 H1 locs ht hvm h_26 hB hz1 hk1 hS => ?_)
                refine xl_3_4 hB (fun fsn_26 fan_26 msn_26 hP1 hD1 hF_26_0 hF_26_1 => ?_)
                clear hB
                rw [ht] at hP1
                obtain ⟨hP, hD⟩ := va_join (wr := [(xI m_sz cI 8 fz)]) (w1 := [(xo_8_rrriirrriiiiiiirrirrrrri mo m_la m_sz m_it msn_26 mt m_st m_mv m_tp (nI mz) ml (nI mp) mk mv mb mw m_rd m_ac (nI ma) m_as m_wo m_ik m_ke m_tr (nI mx)), (xI m_st cI 38 fsn_26), (xI m_as cI 38 fan_26), (xI m_it cI 320 fi_)]) hP hD [3, 0, 1, 2] [4] rfl rfl (by decide +kernel) (by decide +kernel) hk1 hc_26.2.2 hP1 hD1
                generalize H1 = H at hP hS ⊢
                have hP : va_P (dC, dI) vwCl [(xI m_sz cI 8 fz), (xo_8_rrriirrriiiiiiirrirrrrri mo m_la m_sz m_it msn_26 mt m_st m_mv m_tp (nI mz) ml (nI mp) mk mv mb mw m_rd m_ac (nI ma) m_as m_wo m_ik m_ke m_tr (nI mx)), (xI m_st cI 38 fsn_26), (xI m_as cI 38 fan_26), (xI m_it cI 320 fi_)] H := hP
                have hD := dto hP hD
                have hX9 := cut2 (wc := [(xo_8_rrriirrriiiiiiirrirrrrri mo m_la m_sz m_it msn_26 mt m_st m_mv m_tp (nI mz) ml (nI mp) mk mv mb mw m_rd m_ac (nI ma) m_as m_wo m_ik m_ke m_tr (nI mx)), (xI m_st cI 38 fsn_26), (xI m_as cI 38 fan_26), (xI m_it cI 320 fi_), (xI m_sz cI 8 fz)]) hP hD [1, 2, 3, 4, 0] (by decide +kernel) rfl
                exact W.iret (v := r_26) hx hb hr (fun t ht hW => ⟨⟨r_26, (), rfl, trivial, ⟨fsn_26, fan_26, msn_26, va_Ht ht hX9.1, hX9.2, hF_26_0, hF_26_1⟩⟩, hS.F ht⟩) hS.2.2 dX8_gusts_115
              · skip
                refine lv_istore (lv' := [(6, .int r_20), (0, .ref mo), (1, .int (-1)), (2, .int (nI j_6)), (3, .int (nI j_10)), (4, .int a3), (5, .int (nI j_14))]) hx hb dX8_gusts_75 hl (by decide) rfl (fun ls hl => ?_)
                refine lv_iload hx hb dX8_gusts_77 (lv_at hl 0 rfl) ?_
                refine lv_if_ge (tgt := 87) hx hb dX8_gusts_79 (by decide) (fun c_ => absurd c_ f_20_1_0) (fun _ => ?_)
                refine lv_iload hx hb dX8_gusts_82 (lv_at hl 0 rfl) ?_
                refine lv_goto (tgt := 115) hx hb dX8_gusts_84 (by decide) ?_
                have hX9 := cut2 (wc := [(xo_8_rrriirrriiiiiiirrirrrrri mo m_la m_sz m_it msn_20 mt m_st m_mv m_tp (nI mz) ml (nI mp) mk mv mb mw m_rd m_ac (nI ma) m_as m_wo m_ik m_ke m_tr (nI mx)), (xI m_st cI 38 fs), (xI m_as cI 38 fa), (xI m_it cI 320 fi_), (xI m_sz cI 8 fz)]) hP hD [3, 0, 1, 2, 4] (by decide +kernel) rfl
                exact W.iret (v := r_20) hx hb hr (fun t ht hW => ⟨⟨r_20, (), rfl, trivial, ⟨fs, fa, msn_20, va_Ht ht hX9.1, hX9.2, hM, rfl⟩⟩, hS.F ht⟩) hS.2.2 dX8_gusts_115
            · skip
              refine lv_ldc (own := RX8) (v := (-1000002)) hx hb hown (hts _ mx_X8_gusts_5) dX8_gusts_63 ?_
              have hX9 := cut2 (wc := [(xo_8_rrriirrriiiiiiirrirrrrri mo m_la m_sz m_it ms mt m_st m_mv m_tp (nI mz) ml (nI mp) mk mv mb mw m_rd m_ac (nI ma) m_as m_wo m_ik m_ke m_tr (nI mx)), (xI m_st cI 38 fs), (xI m_as cI 38 fa), (xI m_it cI 320 fi_), (xI m_sz cI 8 fz)]) hP hD [0, 1, 2, 3, 4] (by decide +kernel) rfl
              exact W.iret (v := (-1000002)) hx hb hr (fun t ht hW => ⟨⟨(-1000002), (), rfl, trivial, ⟨fs, fa, ms, va_Ht ht hX9.1, hX9.2, hM, rfl⟩⟩, hS.F ht⟩) hS.2.2 dX8_gusts_65
    · obtain ⟨j_3, hj_3, rfl⟩ := vp_in_of hv_3 (by omega)
      refine lv_if_eq (tgt := 48) hx hb dX8_gusts_17 (by decide) (fun c_ => absurd c_ (by decide)) (fun _ => ?_)
      refine lv_aload_n hx hb dX8_gusts_20 rfl (lv_at hl 0 rfl) ?_
      refine lv_iload_n hx hb dX8_gusts_21 rfl (lv_at hl 2 rfl) ?_
      have hPc_29 := hP.sub (ws' := [(xo_8_rrriirrriiiiiiirrirrrrri mo m_la m_sz m_it ms mt m_st m_mv m_tp (nI mz) ml (nI mp) mk mv mb mw m_rd m_ac (nI ma) m_as m_wo m_ik m_ke m_tr (nI mx)), (xI m_st cI 38 fs)]) [0, 1] rfl
      refine vp_callSi (W.runV (As := [.int a1]) (rest := []) ⟨hx, hb, hml, hown, hts⟩ (r_X8_isSound l dC dI cI cZ cL cJ mo m_la m_sz m_it m_st m_mv m_tp m_rd m_ac m_as m_wo m_ik m_ke m_tr ms mt ml mk mv mb mw mz mp ma mx fs w9 k9 h9 a1 (hM)) (cwV 1 hts gX8_gusts_X8_isSound rfl rfl rfl (by decide +kernel) ⟨Nat.le_of_ble_eq_true rfl, Nat.le_of_ble_eq_true rfl⟩) (pvP 8 0 hK hP rfl rfl hPc_29) rfl rfl hl.1 rfl (lv_room (Nat.le_of_ble_eq_true rfl)) dX8_gusts_22 ⟨Nat.le_of_ble_eq_true rfl, Nat.le_of_ble_eq_true rfl⟩) (fun r_29 h_29 => ?_)
      rcases h_29 with ⟨h_29, f_29_0_0⟩ | ⟨h_29, f_29_1_0⟩
      · subst h_29
        refine lv_if_eq (tgt := 48) hx hb dX8_gusts_25 (by decide) (fun _ => ?_) (fun c_ => absurd (by decide) c_)
        refine lv_ldc (own := RX8) (v := (-1000001)) hx hb hown (hts _ mx_X8_gusts_4) dX8_gusts_48 ?_
        have hX9 := cut2 (wc := [(xo_8_rrriirrriiiiiiirrirrrrri mo m_la m_sz m_it ms mt m_st m_mv m_tp (nI mz) ml (nI mp) mk mv mb mw m_rd m_ac (nI ma) m_as m_wo m_ik m_ke m_tr (nI mx)), (xI m_st cI 38 fs), (xI m_as cI 38 fa), (xI m_it cI 320 fi_), (xI m_sz cI 8 fz)]) hP hD [0, 1, 2, 3, 4] (by decide +kernel) rfl
        exact W.iret (v := (-1000001)) hx hb hr (fun t ht hW => ⟨⟨(-1000001), (), rfl, trivial, ⟨fs, fa, ms, va_Ht ht hX9.1, hX9.2, hM, rfl⟩⟩, hS.F ht⟩) hS.2.2 dX8_gusts_50
      · subst h_29
        obtain ⟨j_29, hj_29, rfl⟩ := vp_in_of f_29_1_0 (by omega)
        have hkn1 : 1 ≤ k9 := by omega
        have hw1 := hM.2.2.2.2.2.1.mp hkn1
        refine lv_if_eq (tgt := 48) hx hb dX8_gusts_25 (by decide) (fun c_ => absurd c_ (by decide)) (fun _ => ?_)
        refine lv_iload_n hx hb dX8_gusts_28 rfl (lv_at hl 3 rfl) ?_
        have hPc_33 := hP.sub (ws' := []) [] rfl
        refine vp_callSi (W.runS (As := [.int a2]) (rest := []) ⟨hx, hb, hml, hown, hts⟩ (r_X8_isRow l dC dI cI cZ cL cJ a2 ) (va_cwS 1 hts gX8_gusts_X8_isRow rfl rfl rfl (by decide +kernel) ⟨Nat.le_of_ble_eq_true rfl, Nat.le_of_ble_eq_true rfl⟩) (psP hK hPc_33) rfl rfl hl.1 rfl (lv_room (Nat.le_of_ble_eq_true rfl)) dX8_gusts_29 ⟨Nat.le_of_ble_eq_true rfl, Nat.le_of_ble_eq_true rfl⟩) (fun r_33 h_33 => ?_)
        rcases h_33 with ⟨h_33, f_33_0_0⟩ | ⟨h_33, f_33_1_0⟩
        · subst h_33
          refine lv_if_eq (tgt := 48) hx hb dX8_gusts_32 (by decide) (fun _ => ?_) (fun c_ => absurd (by decide) c_)
          refine lv_ldc (own := RX8) (v := (-1000001)) hx hb hown (hts _ mx_X8_gusts_4) dX8_gusts_48 ?_
          have hX9 := cut2 (wc := [(xo_8_rrriirrriiiiiiirrirrrrri mo m_la m_sz m_it ms mt m_st m_mv m_tp (nI mz) ml (nI mp) mk mv mb mw m_rd m_ac (nI ma) m_as m_wo m_ik m_ke m_tr (nI mx)), (xI m_st cI 38 fs), (xI m_as cI 38 fa), (xI m_it cI 320 fi_), (xI m_sz cI 8 fz)]) hP hD [0, 1, 2, 3, 4] (by decide +kernel) rfl
          exact W.iret (v := (-1000001)) hx hb hr (fun t ht hW => ⟨⟨(-1000001), (), rfl, trivial, ⟨fs, fa, ms, va_Ht ht hX9.1, hX9.2, hM, rfl⟩⟩, hS.F ht⟩) hS.2.2 dX8_gusts_50
        · subst h_33
          obtain ⟨j_33, hj_33, rfl⟩ := vp_in_of f_33_1_0 (by omega)
          refine lv_if_eq (tgt := 48) hx hb dX8_gusts_32 (by decide) (fun c_ => absurd c_ (by decide)) (fun _ => ?_)
          refine lv_iload hx hb dX8_gusts_35 (lv_at hl 5 rfl) ?_
          refine lv_i2l hx hb dX8_gusts_37 rfl ?_
          refine lv_lconst (v := 1) hx hb dX8_gusts_38 (by decide) ?_
          refine lv_ldc2 (own := RX8) (v := 12) hx hb hown (hts _ mx_X8_gusts_3) dX8_gusts_39 ?_
          have hPc_37 := hP.sub (ws' := []) [] rfl
          refine vp_callSi (W.runS (As := [.long (a4).toInt64, .long 1, .long 12]) (rest := []) ⟨hx, hb, hml, hown, hts⟩ (r_X8_in l dC dI cI cZ cL cJ ((a4).toInt64) 1 12 ) (va_cwS 3 hts gX8_gusts_X8_in rfl rfl rfl (by decide +kernel) ⟨Nat.le_of_ble_eq_true rfl, Nat.le_of_ble_eq_true rfl⟩) (psP hK hPc_37) rfl rfl hl.1 rfl (lv_room (Nat.le_of_ble_eq_true rfl)) dX8_gusts_42 ⟨Nat.le_of_ble_eq_true rfl, Nat.le_of_ble_eq_true rfl⟩) (fun r_37 h_37 => ?_)
          rcases h_37 with ⟨h_37, f_37_0_0⟩ | ⟨h_37, f_37_1_0⟩
          · subst h_37
            refine lv_if_ne (tgt := 51) hx hb dX8_gusts_45 (by decide) (fun c_ => absurd (by decide) c_) (fun _ => ?_)
            refine lv_ldc (own := RX8) (v := (-1000001)) hx hb hown (hts _ mx_X8_gusts_4) dX8_gusts_48 ?_
            have hX9 := cut2 (wc := [(xo_8_rrriirrriiiiiiirrirrrrri mo m_la m_sz m_it ms mt m_st m_mv m_tp (nI mz) ml (nI mp) mk mv mb mw m_rd m_ac (nI ma) m_as m_wo m_ik m_ke m_tr (nI mx)), (xI m_st cI 38 fs), (xI m_as cI 38 fa), (xI m_it cI 320 fi_), (xI m_sz cI 8 fz)]) hP hD [0, 1, 2, 3, 4] (by decide +kernel) rfl
            exact W.iret (v := (-1000001)) hx hb hr (fun t ht hW => ⟨⟨(-1000001), (), rfl, trivial, ⟨fs, fa, ms, va_Ht ht hX9.1, hX9.2, hM, rfl⟩⟩, hS.F ht⟩) hS.2.2 dX8_gusts_50
          · subst h_37
            obtain ⟨j_37, hj_37, hl_37, rfl⟩ := in64 (lo := 1) (n := 12) rfl rfl (by decide) f_37_1_0
            refine lv_if_ne (tgt := 51) hx hb dX8_gusts_45 (by decide) (fun _ => ?_) (fun c_ => absurd c_ (by decide))
            refine lv_aload_n hx hb dX8_gusts_51 rfl (lv_at hl 0 rfl) ?_
            refine va_get (D := (dC, dI)) (ci := 8) (v := .ref m_st) (C := RX8) (T := TX8) (N := 24) hx hb hts i_X8_gusts_X8 hown hK hP 0 rfl rfl 5 (by decide) (hts _ mx_X8_gusts_2) (fun _ h9 => h9) rfl dX8_gusts_52 ?_
            refine lv_bipush (v := 26) hx hb dX8_gusts_55 (by decide) ?_
            refine lv_iload_n hx hb dX8_gusts_57 rfl (lv_at hl 2 rfl) ?_
            refine lv_iadd hx hb dX8_gusts_58 ?_
            refine lv_topi (fun v_40 e_40 => ?_)
            obtain rfl : v_40 = (nI (26 + j_29)) := (e_40).trans (nI_add 26 j_29)
            refine va_iald hx hb hK hP 1 0 rfl rfl (vp_in_nI (by omega) (by omega)) dX8_gusts_59 ?_
            refine lv_topi (fun v_41 e_41 => ?_)
            refine lv_if_eq (tgt := 66) hx hb dX8_gusts_60 (by decide) (fun c_42 => ?_) (fun c_42 => ?_)
            · skip
              subst c_42
              refine lv_aload_n hx hb dX8_gusts_66 rfl (lv_at hl 0 rfl) ?_
              refine lv_iload_n hx hb dX8_gusts_67 rfl (lv_at hl 3 rfl) ?_
              refine lv_iload hx hb dX8_gusts_68 (lv_at hl 4 rfl) ?_
              refine lv_iload hx hb dX8_gusts_70 (lv_at hl 5 rfl) ?_
              have hc_43 := cutW (wc := [(xo_8_rrriirrriiiiiiirrirrrrri mo m_la m_sz m_it ms mt m_st m_mv m_tp (nI mz) ml (nI mp) mk mv mb mw m_rd m_ac (nI ma) m_as m_wo m_ik m_ke m_tr (nI mx)), (xI m_sz cI 8 fz)]) hP hD hS hA [0, 4] (by decide +kernel) rfl
              refine va_calli (va_runV (As := [.int (nI j_33), .int a3, .int (nI j_37)]) (rest := []) ⟨hx, hb, hml, hown, hts⟩ (r_X8_lacks l dC dI cI cZ cL cJ s.heap.size mo m_la m_sz m_it m_st m_mv m_tp m_rd m_ac m_as m_wo m_ik m_ke m_tr ms mt ml mk mv mb mw mz mp ma mx fz j_33 j_37 a3 (hsz9) (by omega) (by omega)) (cwV 3 hts gX8_gusts_X8_lacks rfl rfl rfl (by decide +kernel) ⟨Nat.le_of_ble_eq_true rfl, Nat.le_of_ble_eq_true rfl⟩) (pvW 8 0 hK hP rfl rfl hc_43) rfl rfl hl.1 rfl (lv_room (Nat.le_of_ble_eq_true rfl)) dX8_gusts_72 ⟨Nat.le_of_ble_eq_true rfl, Nat.le_of_ble_eq_true rfl⟩) hS (fun q _ h => hc_43.2.2 q h) hc_43.2.2 (fun r_43 u_43 t_43 H1 locs ht hvm h_43 hB hz1 hk1 hS => ?_)
              refine xl_1_2 hB (fun msn_43 hP1 hD1 => ?_)
              clear hB
              rw [ht] at hP1
              obtain ⟨hP, hD⟩ := va_join (wr := [(xI m_st cI 38 fs), (xI m_as cI 38 fa), (xI m_it cI 320 fi_)]) (w1 := [(xo_8_rrriirrriiiiiiirrirrrrri mo m_la m_sz m_it msn_43 mt m_st m_mv m_tp (nI mz) ml (nI mp) mk mv mb mw m_rd m_ac (nI ma) m_as m_wo m_ik m_ke m_tr (nI mx)), (xI m_sz cI 8 fz)]) hP hD [0, 4] [1, 2, 3] rfl rfl (by decide +kernel) (by decide +kernel) hk1 hc_43.2.2 hP1 hD1
              generalize H1 = H at hP hS ⊢
              have hP : va_P (dC, dI) vwCl [(xI m_st cI 38 fs), (xI m_as cI 38 fa), (xI m_it cI 320 fi_), (xo_8_rrriirrriiiiiiirrirrrrri mo m_la m_sz m_it msn_43 mt m_st m_mv m_tp (nI mz) ml (nI mp) mk mv mb mw m_rd m_ac (nI ma) m_as m_wo m_ik m_ke m_tr (nI mx)), (xI m_sz cI 8 fz)] H := hP
              have hD := dto hP hD
              rcases h_43 with ⟨h_43, f_43_0_0⟩ | f_43_1_0
              · subst h_43
                obtain ⟨pa_44, pb_44, ea_44, eb_44, hab_44⟩ := f_43_0_0
                subst ea_44
                have eb_44 : j_37 = pb_44 := nI_inj eb_44 (by omega) (by omega)
                refine lv_istore (lv' := [(6, .int 0), (0, .ref mo), (1, .int (nI j_3)), (2, .int (nI j_29)), (3, .int (nI j_33)), (4, .int (nI pa_44)), (5, .int (nI j_37))]) hx hb dX8_gusts_75 hl (by decide) rfl (fun ls hl => ?_)
                refine lv_iload hx hb dX8_gusts_77 (lv_at hl 0 rfl) ?_
                refine lv_if_ge (tgt := 87) hx hb dX8_gusts_79 (by decide) (fun _ => ?_) (fun c_ => absurd (by decide) c_)
                refine lv_aload_n hx hb dX8_gusts_87 rfl (lv_at hl 1 rfl) ?_
                refine lv_iload_n hx hb dX8_gusts_88 rfl (lv_at hl 2 rfl) ?_
                refine lv_if_ge (tgt := 96) hx hb dX8_gusts_89 (by decide) (fun _ => ?_) (fun c_ => absurd ((nI_leI (a := 0) (b := j_3) (by omega) (by omega)).mpr (by omega)) c_)
                refine lv_bipush (v := 8) hx hb dX8_gusts_96 (by decide) ?_
                refine lv_iload_n hx hb dX8_gusts_98 rfl (lv_at hl 2 rfl) ?_
                refine lv_iadd hx hb dX8_gusts_99 ?_
                refine lv_topi (fun v_47 e_47 => ?_)
                obtain rfl : v_47 = (nI (8 + j_3)) := (e_47).trans (nI_add 8 j_3)
                refine lv_iconst (v := 0) hx hb dX8_gusts_100 (by decide) ?_
                refine lv_iconst (v := 4) hx hb dX8_gusts_101 (by decide) ?_
                refine lv_iload_n hx hb dX8_gusts_102 rfl (lv_at hl 3 rfl) ?_
                refine lv_bipush (v := 40) hx hb dX8_gusts_103 (by decide) ?_
                refine lv_iload_n hx hb dX8_gusts_105 rfl (lv_at hl 4 rfl) ?_
                refine lv_imul hx hb dX8_gusts_106 ?_
                refine lv_topi (fun v_48 e_48 => ?_)
                obtain rfl : v_48 = (nI (40 * j_33)) := (e_48).trans (pk_mul 40 j_33)
                refine lv_iload hx hb dX8_gusts_107 (lv_at hl 5 rfl) ?_
                refine lv_iadd hx hb dX8_gusts_109 ?_
                refine lv_topi (fun v_49 e_49 => ?_)
                obtain rfl : v_49 = (nI ((40 * j_33) + pa_44)) := (e_49).trans (nI_add (40 * j_33) pa_44)
                refine lv_iload hx hb dX8_gusts_110 (lv_at hl 6 rfl) ?_
                have hc_50 := cutW (wc := [(xo_8_rrriirrriiiiiiirrirrrrri mo m_la m_sz m_it msn_43 mt m_st m_mv m_tp (nI mz) ml (nI mp) mk mv mb mw m_rd m_ac (nI ma) m_as m_wo m_ik m_ke m_tr (nI mx)), (xI m_st cI 38 fs), (xI m_as cI 38 fa), (xI m_it cI 320 fi_)]) hP hD hS hA [3, 0, 1, 2] (by decide +kernel) rfl
                refine va_calli (va_runV (As := [.int (nI (8 + j_3)), .int 0, .int 4, .int (nI j_29), .int (nI ((40 * j_33) + pa_44)), .int (nI j_37)]) (rest := []) ⟨hx, hb, hml, hown, hts⟩ (r_X8_fits l dC dI cI cZ cL cJ H.size mo m_la m_sz m_it m_st m_mv m_tp m_rd m_ac m_as m_wo m_ik m_ke m_tr msn_43 mt ml mk mv mb mw mz mp ma mx fs w9 k9 h9 fa fi_ (8 + j_3) 0 4 j_29 ((40 * j_33) + pa_44) j_37 (hM) (by omega) (by omega) (by omega) (by omega) (by omega) (by omega) (by omega) (by omega) (by omega) (by omega) (by omega)) (cwV 6 hts gX8_gusts_X8_fits rfl rfl rfl (by decide +kernel) ⟨Nat.le_of_ble_eq_true rfl, Nat.le_of_ble_eq_true rfl⟩) (pvW 8 3 hK hP rfl rfl hc_50) rfl rfl hl.1 rfl (lv_room (Nat.le_of_ble_eq_true rfl)) dX8_gusts_112 ⟨Nat.le_of_ble_eq_true rfl, Nat.le_of_ble_eq_true rfl⟩) hS (fun q _ h => hc_50.2.2 q h) hc_50.2.2 (fun r_50 u_50 t_50 H1 locs ht hvm h_50 hB hz1 hk1 hS => ?_)
                refine xl_3_4 hB (fun fsn_50 fan_50 msn_50 hP1 hD1 hF_50_0 hF_50_1 => ?_)
                clear hB
                rw [ht] at hP1
                obtain ⟨hP, hD⟩ := va_join (wr := [(xI m_sz cI 8 fz)]) (w1 := [(xo_8_rrriirrriiiiiiirrirrrrri mo m_la m_sz m_it msn_50 mt m_st m_mv m_tp (nI mz) ml (nI mp) mk mv mb mw m_rd m_ac (nI ma) m_as m_wo m_ik m_ke m_tr (nI mx)), (xI m_st cI 38 fsn_50), (xI m_as cI 38 fan_50), (xI m_it cI 320 fi_)]) hP hD [3, 0, 1, 2] [4] rfl rfl (by decide +kernel) (by decide +kernel) hk1 hc_50.2.2 hP1 hD1
                generalize H1 = H at hP hS ⊢
                have hP : va_P (dC, dI) vwCl [(xI m_sz cI 8 fz), (xo_8_rrriirrriiiiiiirrirrrrri mo m_la m_sz m_it msn_50 mt m_st m_mv m_tp (nI mz) ml (nI mp) mk mv mb mw m_rd m_ac (nI ma) m_as m_wo m_ik m_ke m_tr (nI mx)), (xI m_st cI 38 fsn_50), (xI m_as cI 38 fan_50), (xI m_it cI 320 fi_)] H := hP
                have hD := dto hP hD
                have hX9 := cut2 (wc := [(xo_8_rrriirrriiiiiiirrirrrrri mo m_la m_sz m_it msn_50 mt m_st m_mv m_tp (nI mz) ml (nI mp) mk mv mb mw m_rd m_ac (nI ma) m_as m_wo m_ik m_ke m_tr (nI mx)), (xI m_st cI 38 fsn_50), (xI m_as cI 38 fan_50), (xI m_it cI 320 fi_), (xI m_sz cI 8 fz)]) hP hD [1, 2, 3, 4, 0] (by decide +kernel) rfl
                exact W.iret (v := r_50) hx hb hr (fun t ht hW => ⟨⟨r_50, (), rfl, trivial, ⟨fsn_50, fan_50, msn_50, va_Ht ht hX9.1, hX9.2, hF_50_0, hF_50_1⟩⟩, hS.F ht⟩) hS.2.2 dX8_gusts_115
              · skip
                refine lv_istore (lv' := [(6, .int r_43), (0, .ref mo), (1, .int (nI j_3)), (2, .int (nI j_29)), (3, .int (nI j_33)), (4, .int a3), (5, .int (nI j_37))]) hx hb dX8_gusts_75 hl (by decide) rfl (fun ls hl => ?_)
                refine lv_iload hx hb dX8_gusts_77 (lv_at hl 0 rfl) ?_
                refine lv_if_ge (tgt := 87) hx hb dX8_gusts_79 (by decide) (fun c_ => absurd c_ f_43_1_0) (fun _ => ?_)
                refine lv_iload hx hb dX8_gusts_82 (lv_at hl 0 rfl) ?_
                refine lv_goto (tgt := 115) hx hb dX8_gusts_84 (by decide) ?_
                have hX9 := cut2 (wc := [(xo_8_rrriirrriiiiiiirrirrrrri mo m_la m_sz m_it msn_43 mt m_st m_mv m_tp (nI mz) ml (nI mp) mk mv mb mw m_rd m_ac (nI ma) m_as m_wo m_ik m_ke m_tr (nI mx)), (xI m_st cI 38 fs), (xI m_as cI 38 fa), (xI m_it cI 320 fi_), (xI m_sz cI 8 fz)]) hP hD [3, 0, 1, 2, 4] (by decide +kernel) rfl
                exact W.iret (v := r_43) hx hb hr (fun t ht hW => ⟨⟨r_43, (), rfl, trivial, ⟨fs, fa, msn_43, va_Ht ht hX9.1, hX9.2, hM, rfl⟩⟩, hS.F ht⟩) hS.2.2 dX8_gusts_115
            · skip
              refine lv_ldc (own := RX8) (v := (-1000002)) hx hb hown (hts _ mx_X8_gusts_5) dX8_gusts_63 ?_
              have hX9 := cut2 (wc := [(xo_8_rrriirrriiiiiiirrirrrrri mo m_la m_sz m_it ms mt m_st m_mv m_tp (nI mz) ml (nI mp) mk mv mb mw m_rd m_ac (nI ma) m_as m_wo m_ik m_ke m_tr (nI mx)), (xI m_st cI 38 fs), (xI m_as cI 38 fa), (xI m_it cI 320 fi_), (xI m_sz cI 8 fz)]) hP hD [0, 1, 2, 3, 4] (by decide +kernel) rfl
              exact W.iret (v := (-1000002)) hx hb hr (fun t ht hW => ⟨⟨(-1000002), (), rfl, trivial, ⟨fs, fa, ms, va_Ht ht hX9.1, hX9.2, hM, rfl⟩⟩, hS.F ht⟩) hS.2.2 dX8_gusts_65
set_option maxHeartbeats 4000000 in
set_option maxRecDepth 100000 in
theorem r_X8_calm (l : Launch) (dC : Nat → ClassId) (dI : Nat → Nat → Nat) (cI cZ cL cJ : ClassId) (sz : Nat) (mo : Nat) (m_la : Nat) (m_sz : Nat) (m_it : Nat) (m_st : Nat) (m_mv : Nat) (m_tp : Nat) (m_rd : Nat) (m_ac : Nat) (m_as : Nat) (m_wo : Nat) (m_ik : Nat) (m_ke : Nat) (m_tr : Nat) (ms : Int32) (mt : Int32) (ml : Int32) (mk : Int32) (mv : Int32) (mb : Int32) (mw : Int32) (mz : Nat) (mp : Nat) (ma : Nat) (mx : Nat) (fs : Nat → Int32) (w9 : Nat) (k9 : Nat) (h9 : Nat) (fa : Nat → Int32) (a0 : Int32) (a1 : Int32) (a2 : Int32) (a3 : Int32) (hM : okM fs w9 k9 h9) (hT : ¬ mt = 0 → 1 ≤ k9) (h999 : h9 ≤ 999) (hT0 : mt = 0 → fs 0 = 0 ∧ ma = 0) : Met l yX8_calm wsX8_calm ({ frames := 5, cells := 0, slots := 0, locals := 117 }) (va_Pc [.ref mo, .int a0, .int a1, .int a2, .int a3] (fun U => U.heap.size = sz ∧ va_P (dC, dI) vwCl [(xo_8_rrriirrriiiiiiirrirrrrri mo m_la m_sz m_it ms mt m_st m_mv m_tp (nI mz) ml (nI mp) mk mv mb mw m_rd m_ac (nI ma) m_as m_wo m_ik m_ke m_tr (nI mx)), (xI m_st cI 38 fs), (xI m_as cI 38 fa)] U.heap ∧ va_K (dC, dI) vwCl [(cI, .int), (cZ, .boolean), (cL, .object RX3), (cJ, .array .int)] U ∧ va_D (fun _ => True) [(xo_8_rrriirrriiiiiiirrirrrrri mo m_la m_sz m_it ms mt m_st m_mv m_tp (nI mz) ml (nI mp) mk mv mb mw m_rd m_ac (nI ma) m_as m_wo m_ik m_ke m_tr (nI mx)), (xI m_st cI 38 fs), (xI m_as cI 38 fa)])) (va_Ql (fun r (_ : Unit) => True) (fun (_ : Unit) t => ∃ (fsn : Nat → Int32) (fan : Nat → Int32), va_P (dC, dI) vwCl [(xo_8_rrriirrriiiiiiirrirrrrri mo m_la m_sz m_it ms mt m_st m_mv m_tp (nI mz) ml (nI mp) mk mv mb mw m_rd m_ac (nI ma) m_as m_wo m_ik m_ke m_tr (nI mx)), (xI m_st cI 38 fsn), (xI m_as cI 38 fan)] t.heap ∧ va_D (va_A [(xo_8_rrriirrriiiiiiirrirrrrri mo m_la m_sz m_it ms mt m_st m_mv m_tp (nI mz) ml (nI mp) mk mv mb mw m_rd m_ac (nI ma) m_as m_wo m_ik m_ke m_tr (nI mx)), (xI m_st cI 38 fs), (xI m_as cI 38 fa)] sz) [(xo_8_rrriirrriiiiiiirrirrrrri mo m_la m_sz m_it ms mt m_st m_mv m_tp (nI mz) ml (nI mp) mk mv mb mw m_rd m_ac (nI ma) m_as m_wo m_ik m_ke m_tr (nI mx)), (xI m_st cI 38 fsn), (xI m_as cI 38 fan)] ∧ okM fsn w9 k9 h9 ∧ m38 fsn = m38 fs) (va_A [(xo_8_rrriirrriiiiiiirrirrrrri mo m_la m_sz m_it ms mt m_st m_mv m_tp (nI mz) ml (nI mp) mk mv mb mw m_rd m_ac (nI ma) m_as m_wo m_ik m_ke m_tr (nI mx)), (xI m_st cI 38 fs), (xI m_as cI 38 fa)] sz)) 0 0 (va_A [(xo_8_rrriirrriiiiiiirrirrrrri mo m_la m_sz m_it ms mt m_st m_mv m_tp (nI mz) ml (nI mp) mk mv mb mw m_rd m_ac (nI ma) m_as m_wo m_ik m_ke m_tr (nI mx)), (xI m_st cI 38 fs), (xI m_as cI 38 fa)] sz) := by
  refine Met.ofW (cc := cX8_calm) (maxL := 15) (ret := (some .long)) (by decide) rfl ?_
  intro p e s m args below meth c s₁ B hml hv
  obtain ⟨rfl, hsz, hP, hK, hD0⟩ := hv
  have hx := B.exec
  have hb := B.bytes
  have hr := B.returns
  have hts := atoms_spec (ws := wsX8_calm) B.pre
  have hown : s.vm.findClass RX8 = some m.cls := findClass_of_methodNamed B.named
  have hlocks := B.notSynchronized
  subst hsz
  have hD := hD0.self (sz := s.heap.size)
  generalize hAe : va_A [(xo_8_rrriirrriiiiiiirrirrrrri mo m_la m_sz m_it ms mt m_st m_mv m_tp (nI mz) ml (nI mp) mk mv mb mw m_rd m_ac (nI ma) m_as m_wo m_ik m_ke m_tr (nI mx)), (xI m_st cI 38 fs), (xI m_as cI 38 fa)] s.heap.size = A at hD ⊢
  have hA : ∀ q : Nat, s.heap.size ≤ q → A q := fun q h => by rw [← hAe]; exact Or.inr h
  have hS : va_S A s.heap s.heap [] := va_S.rf
  have hP : va_P (dC, dI) vwCl [(xo_8_rrriirrriiiiiiirrirrrrri mo m_la m_sz m_it ms mt m_st m_mv m_tp (nI mz) ml (nI mp) mk mv mb mw m_rd m_ac (nI ma) m_as m_wo m_ik m_ke m_tr (nI mx)), (xI m_st cI 38 fs), (xI m_as cI 38 fa)] s.heap := hP
  have hl := lv_entry ([.ref mo, .int a0, .int a1, .int a2, .int a3]) (n := 15) (Nat.le_of_ble_eq_true rfl)
  rw [lg_entry_eq]
  generalize (lg_sl ([.ref mo, .int a0, .int a1, .int a2, .int a3]) ++ List.replicate (15 - (lg_sl ([.ref mo, .int a0, .int a1, .int a2, .int a3])).length) Slot.unset).toArray = ls at hl ⊢
  have hl : lv_has ls 15 [(0, .ref mo), (1, .int a0), (2, .int a1), (3, .int a2), (4, .int a3)] := hl
  have hk6 := hM.2.2.2.2.1
  have hw6 := hM.2.2.2.1
  refine lv_aload_n hx hb dX8_calm_0 rfl (lv_at hl 0 rfl) ?_
  refine lv_iload_n hx hb dX8_calm_1 rfl (lv_at hl 1 rfl) ?_
  have hPc_1 := hP.sub (ws' := [(xo_8_rrriirrriiiiiiirrirrrrri mo m_la m_sz m_it ms mt m_st m_mv m_tp (nI mz) ml (nI mp) mk mv mb mw m_rd m_ac (nI ma) m_as m_wo m_ik m_ke m_tr (nI mx)), (xI m_st cI 38 fs)]) [0, 1] rfl
  refine vp_callSi (W.runV (As := [.int a0]) (rest := []) ⟨hx, hb, hml, hown, hts⟩ (r_X8_isSound l dC dI cI cZ cL cJ mo m_la m_sz m_it m_st m_mv m_tp m_rd m_ac m_as m_wo m_ik m_ke m_tr ms mt ml mk mv mb mw mz mp ma mx fs w9 k9 h9 a0 (hM)) (cwV 1 hts gX8_calm_X8_isSound rfl rfl rfl (by decide +kernel) ⟨Nat.le_of_ble_eq_true rfl, Nat.le_of_ble_eq_true rfl⟩) (pvP 8 0 hK hP rfl rfl hPc_1) rfl rfl hl.1 rfl (lv_room (Nat.le_of_ble_eq_true rfl)) dX8_calm_2 ⟨Nat.le_of_ble_eq_true rfl, Nat.le_of_ble_eq_true rfl⟩) (fun r_1 h_1 => ?_)
  rcases h_1 with ⟨h_1, f_1_0_0⟩ | ⟨h_1, f_1_1_0⟩
  · subst h_1
    refine lv_if_eq (tgt := 40) hx hb dX8_calm_5 (by decide) (fun _ => ?_) (fun c_ => absurd (by decide) c_)
    refine lv_ldc2 (own := RX8) (v := (-1000001)) hx hb hown (hts _ mx_X8_calm_3) dX8_calm_40 ?_
    have hX9 := cut2 (wc := [(xo_8_rrriirrriiiiiiirrirrrrri mo m_la m_sz m_it ms mt m_st m_mv m_tp (nI mz) ml (nI mp) mk mv mb mw m_rd m_ac (nI ma) m_as m_wo m_ik m_ke m_tr (nI mx)), (xI m_st cI 38 fs), (xI m_as cI 38 fa)]) hP hD [0, 1, 2] (by decide +kernel) rfl
    exact W.lret (v := (-1000001)) hx hb hr (fun t ht hW => ⟨⟨(-1000001), (), rfl, trivial, ⟨fs, fa, va_Ht ht hX9.1, hX9.2, hM, rfl⟩⟩, hS.F ht⟩) hS.2.2 dX8_calm_43
  · subst h_1
    obtain ⟨j_1, hj_1, rfl⟩ := vp_in_of f_1_1_0 (by omega)
    have hkn1 : 1 ≤ k9 := by omega
    have hw1 := hM.2.2.2.2.2.1.mp hkn1
    refine lv_if_eq (tgt := 40) hx hb dX8_calm_5 (by decide) (fun c_ => absurd c_ (by decide)) (fun _ => ?_)
    refine lv_iload_n hx hb dX8_calm_8 rfl (lv_at hl 2 rfl) ?_
    refine lv_i2l hx hb dX8_calm_9 rfl ?_
    refine lv_lconst (v := 0) hx hb dX8_calm_10 (by decide) ?_
    refine lv_ldc2 (own := RX8) (v := 60) hx hb hown (hts _ mx_X8_calm_1) dX8_calm_11 ?_
    have hPc_5 := hP.sub (ws' := []) [] rfl
    refine vp_callSi (W.runS (As := [.long (a1).toInt64, .long 0, .long 60]) (rest := []) ⟨hx, hb, hml, hown, hts⟩ (r_X8_in l dC dI cI cZ cL cJ ((a1).toInt64) 0 60 ) (va_cwS 3 hts gX8_calm_X8_in rfl rfl rfl (by decide +kernel) ⟨Nat.le_of_ble_eq_true rfl, Nat.le_of_ble_eq_true rfl⟩) (psP hK hPc_5) rfl rfl hl.1 rfl (lv_room (Nat.le_of_ble_eq_true rfl)) dX8_calm_14 ⟨Nat.le_of_ble_eq_true rfl, Nat.le_of_ble_eq_true rfl⟩) (fun r_5 h_5 => ?_)
    rcases h_5 with ⟨h_5, f_5_0_0⟩ | ⟨h_5, f_5_1_0⟩
    · subst h_5
      refine lv_if_eq (tgt := 40) hx hb dX8_calm_17 (by decide) (fun _ => ?_) (fun c_ => absurd (by decide) c_)
      refine lv_ldc2 (own := RX8) (v := (-1000001)) hx hb hown (hts _ mx_X8_calm_3) dX8_calm_40 ?_
      have hX9 := cut2 (wc := [(xo_8_rrriirrriiiiiiirrirrrrri mo m_la m_sz m_it ms mt m_st m_mv m_tp (nI mz) ml (nI mp) mk mv mb mw m_rd m_ac (nI ma) m_as m_wo m_ik m_ke m_tr (nI mx)), (xI m_st cI 38 fs), (xI m_as cI 38 fa)]) hP hD [0, 1, 2] (by decide +kernel) rfl
      exact W.lret (v := (-1000001)) hx hb hr (fun t ht hW => ⟨⟨(-1000001), (), rfl, trivial, ⟨fs, fa, va_Ht ht hX9.1, hX9.2, hM, rfl⟩⟩, hS.F ht⟩) hS.2.2 dX8_calm_43
    · subst h_5
      obtain ⟨j_5, hj_5, hl_5, rfl⟩ := in64 (lo := 0) (n := 60) rfl rfl (by decide) f_5_1_0
      refine lv_if_eq (tgt := 40) hx hb dX8_calm_17 (by decide) (fun c_ => absurd c_ (by decide)) (fun _ => ?_)
      refine lv_iload_n hx hb dX8_calm_20 rfl (lv_at hl 3 rfl) ?_
      refine lv_i2l hx hb dX8_calm_21 rfl ?_
      refine lv_lconst (v := 0) hx hb dX8_calm_22 (by decide) ?_
      refine lv_ldc2 (own := RX8) (v := 10) hx hb hown (hts _ mx_X8_calm_2) dX8_calm_23 ?_
      have hPc_8 := hP.sub (ws' := []) [] rfl
      refine vp_callSi (W.runS (As := [.long (a2).toInt64, .long 0, .long 10]) (rest := []) ⟨hx, hb, hml, hown, hts⟩ (r_X8_in l dC dI cI cZ cL cJ ((a2).toInt64) 0 10 ) (va_cwS 3 hts gX8_calm_X8_in rfl rfl rfl (by decide +kernel) ⟨Nat.le_of_ble_eq_true rfl, Nat.le_of_ble_eq_true rfl⟩) (psP hK hPc_8) rfl rfl hl.1 rfl (lv_room (Nat.le_of_ble_eq_true rfl)) dX8_calm_26 ⟨Nat.le_of_ble_eq_true rfl, Nat.le_of_ble_eq_true rfl⟩) (fun r_8 h_8 => ?_)
      rcases h_8 with ⟨h_8, f_8_0_0⟩ | ⟨h_8, f_8_1_0⟩
      · subst h_8
        refine lv_if_eq (tgt := 40) hx hb dX8_calm_29 (by decide) (fun _ => ?_) (fun c_ => absurd (by decide) c_)
        refine lv_ldc2 (own := RX8) (v := (-1000001)) hx hb hown (hts _ mx_X8_calm_3) dX8_calm_40 ?_
        have hX9 := cut2 (wc := [(xo_8_rrriirrriiiiiiirrirrrrri mo m_la m_sz m_it ms mt m_st m_mv m_tp (nI mz) ml (nI mp) mk mv mb mw m_rd m_ac (nI ma) m_as m_wo m_ik m_ke m_tr (nI mx)), (xI m_st cI 38 fs), (xI m_as cI 38 fa)]) hP hD [0, 1, 2] (by decide +kernel) rfl
        exact W.lret (v := (-1000001)) hx hb hr (fun t ht hW => ⟨⟨(-1000001), (), rfl, trivial, ⟨fs, fa, va_Ht ht hX9.1, hX9.2, hM, rfl⟩⟩, hS.F ht⟩) hS.2.2 dX8_calm_43
      · subst h_8
        obtain ⟨j_8, hj_8, hl_8, rfl⟩ := in64 (lo := 0) (n := 10) rfl rfl (by decide) f_8_1_0
        refine lv_if_eq (tgt := 40) hx hb dX8_calm_29 (by decide) (fun c_ => absurd c_ (by decide)) (fun _ => ?_)
        refine lv_iload hx hb dX8_calm_32 (lv_at hl 4 rfl) ?_
        have hPc_11 := hP.sub (ws' := []) [] rfl
        refine vp_callSi (W.runS (As := [.int a3]) (rest := []) ⟨hx, hb, hml, hown, hts⟩ (r_X8_isWhat l dC dI cI cZ cL cJ a3 ) (va_cwS 1 hts gX8_calm_X8_isWhat rfl rfl rfl (by decide +kernel) ⟨Nat.le_of_ble_eq_true rfl, Nat.le_of_ble_eq_true rfl⟩) (psP hK hPc_11) rfl rfl hl.1 rfl (lv_room (Nat.le_of_ble_eq_true rfl)) dX8_calm_34 ⟨Nat.le_of_ble_eq_true rfl, Nat.le_of_ble_eq_true rfl⟩) (fun r_11 h_11 => ?_)
        refine lv_if_ne (tgt := 44) hx hb dX8_calm_37 (by decide) (fun c_12 => ?_) (fun c_12 => ?_)
        · skip
          obtain ⟨sh, hsh, hsb, hs4, hs5, hs6⟩ := shl8 w9 (by omega)
          refine lv_aload_n hx hb dX8_calm_44 rfl (lv_at hl 0 rfl) ?_
          have hc_13 := cutW (wc := [(xo_8_rrriirrriiiiiiirrirrrrri mo m_la m_sz m_it ms mt m_st m_mv m_tp (nI mz) ml (nI mp) mk mv mb mw m_rd m_ac (nI ma) m_as m_wo m_ik m_ke m_tr (nI mx)), (xI m_st cI 38 fs), (xI m_as cI 38 fa)]) hP hD hS hA [0, 1, 2] (by decide +kernel) rfl
          refine va_callv (va_runV (As := []) (rest := []) ⟨hx, hb, hml, hown, hts⟩ (r_X8_putAside l dC dI cI cZ cL cJ s.heap.size mo m_la m_sz m_it m_st m_mv m_tp m_rd m_ac m_as m_wo m_ik m_ke m_tr ms mt ml mk mv mb mw mz mp ma mx fs fa ) (cwV 0 hts gX8_calm_X8_putAside rfl rfl rfl (by decide +kernel) ⟨Nat.le_of_ble_eq_true rfl, Nat.le_of_ble_eq_true rfl⟩) (pvW 8 0 hK hP rfl rfl hc_13) rfl rfl hl.1 rfl (lv_room (Nat.le_of_ble_eq_true rfl)) dX8_calm_45 ⟨Nat.le_of_ble_eq_true rfl, Nat.le_of_ble_eq_true rfl⟩) hS (fun q _ h => hc_13.2.2 q h) hc_13.2.2 (fun u_13 t_13 H1 locs ht hvm h_13 hB hz1 hk1 hS => ?_)
          refine xl_1_3 hB (fun fan_13 hP1 hD1 hF_13_0 => ?_)
          clear hB
          rw [ht] at hP1
          obtain ⟨hP, hD⟩ := va_join (wr := []) (w1 := [(xo_8_rrriirrriiiiiiirrirrrrri mo m_la m_sz m_it ms mt m_st m_mv m_tp (nI mz) ml (nI mp) mk mv mb mw m_rd m_ac (nI ma) m_as m_wo m_ik m_ke m_tr (nI mx)), (xI m_st cI 38 fs), (xI m_as cI 38 fan_13)]) hP hD [0, 1, 2] [] rfl rfl (by decide +kernel) (by decide +kernel) hk1 hc_13.2.2 hP1 hD1
          generalize H1 = H at hP hS ⊢
          have hP : va_P (dC, dI) vwCl [(xo_8_rrriirrriiiiiiirrirrrrri mo m_la m_sz m_it ms mt m_st m_mv m_tp (nI mz) ml (nI mp) mk mv mb mw m_rd m_ac (nI ma) m_as m_wo m_ik m_ke m_tr (nI mx)), (xI m_st cI 38 fs), (xI m_as cI 38 fan_13)] H := hP
          have hD := dto hP hD
          have hA_13 := okM_eq hM hF_13_0
          refine lv_lconst (v := 0) hx hb dX8_calm_48 (by decide) ?_
          refine lv_lstore (lv' := [(5, .long 0), (0, .ref mo), (1, .int (nI j_1)), (2, .int (nI j_5)), (3, .int (nI j_8)), (4, .int a3)]) hx hb dX8_calm_49 hl (by decide) rfl (fun ls hl => ?_)
          refine lv_lconst (v := 1) hx hb dX8_calm_51 (by decide) ?_
          refine lv_lstore (lv' := [(7, .long 1), (5, .long 0), (0, .ref mo), (1, .int (nI j_1)), (2, .int (nI j_5)), (3, .int (nI j_8)), (4, .int a3)]) hx hb dX8_calm_52 hl (by decide) rfl (fun ls hl => ?_)
          refine lv_iconst (v := 0) hx hb dX8_calm_54 (by decide) ?_
          refine lv_istore (lv' := [(9, .int 0), (7, .long 1), (5, .long 0), (0, .ref mo), (1, .int (nI j_1)), (2, .int (nI j_5)), (3, .int (nI j_8)), (4, .int a3)]) hx hb dX8_calm_55 hl (by decide) rfl (fun ls hl => ?_)
          refine lp_go (σ := Unit) (fun ii (st : Unit) H locs ls => match st with | _ => lv_has ls 15 [(9, .int (nI ii)), (7, .long (lN (10 ^ ii))), (5, .long 0), (0, .ref mo), (1, .int (nI j_1)), (2, .int (nI j_5)), (3, .int (nI j_8)), (4, .int a3)] ∧ va_P (dC, dI) vwCl [(xo_8_rrriirrriiiiiiirrirrrrri mo m_la m_sz m_it ms mt m_st m_mv m_tp (nI mz) ml (nI mp) mk mv mb mw m_rd m_ac (nI ma) m_as m_wo m_ik m_ke m_tr (nI mx)), (xI m_st cI 38 fs), (xI m_as cI 38 fan_13)] H ∧ va_D A [(xo_8_rrriirrriiiiiiirrirrrrri mo m_la m_sz m_it ms mt m_st m_mv m_tp (nI mz) ml (nI mp) mk mv mb mw m_rd m_ac (nI ma) m_as m_wo m_ik m_ke m_tr (nI mx)), (xI m_st cI 38 fs), (xI m_as cI 38 fan_13)] ∧ va_S A s.heap H locs ∧ okM fs w9 k9 h9) w9 ?_ ?_ 0 (by omega) () ⟨lv_sub hl [0, 1, 2, 3, 4, 5, 6, 7] rfl, hP.sub (ws' := [(xo_8_rrriirrriiiiiiirrirrrrri mo m_la m_sz m_it ms mt m_st m_mv m_tp (nI mz) ml (nI mp) mk mv mb mw m_rd m_ac (nI ma) m_as m_wo m_ik m_ke m_tr (nI mx)), (xI m_st cI 38 fs), (xI m_as cI 38 fan_13)]) [0, 1, 2] rfl, hD.sub (ws' := [(xo_8_rrriirrriiiiiiirrirrrrri mo m_la m_sz m_it ms mt m_st m_mv m_tp (nI mz) ml (nI mp) mk mv mb mw m_rd m_ac (nI ma) m_as m_wo m_ik m_ke m_tr (nI mx)), (xI m_st cI 38 fs), (xI m_as cI 38 fan_13)]) [0, 1, 2] (by decide +kernel) rfl, hS, hM⟩
          · rintro ii _ H locs ls hii ⟨hl, hP, hD, hS, hMl⟩ ih
            refine lv_iload hx hb dX8_calm_57 (lv_at hl 0 rfl) ?_
            refine lv_aload_n hx hb dX8_calm_59 rfl (lv_at hl 3 rfl) ?_
            refine va_get (D := (dC, dI)) (ci := 8) (v := .ref m_st) (C := RX8) (T := TX8) (N := 24) hx hb hts i_X8_calm_X8 hown hK hP 0 rfl rfl 5 (by decide) (hts _ mx_X8_calm_4) (fun _ h9 => h9) rfl dX8_calm_60 ?_
            refine lv_iconst (v := 3) hx hb dX8_calm_63 (by decide) ?_
            refine va_iald hx hb hK hP 1 0 rfl rfl (by unfold vp_in; decide) dX8_calm_64 ?_
            refine lv_topi (fun v_17 e_17 => ?_)
            obtain rfl : v_17 = (nI w9) := (e_17).trans hMl.1
            refine lv_icmp_ge (tgt := 82) hx hb dX8_calm_65 (by decide) (fun c_ => absurd c_ (fun q_ => absurd ((nI_leI (a := w9) (b := ii) (by omega) (by omega)).mp q_) (by omega))) (fun _ => ?_)
            refine lv_lload hx hb dX8_calm_68 (lv_at hl 1 rfl) ?_
            refine lv_ldc2 (own := RX8) (v := 10) hx hb hown (hts _ mx_X8_calm_2) dX8_calm_70 ?_
            refine lv_lmul hx hb dX8_calm_73 ?_
            refine lv_topl (fun v_19 e_19 => ?_)
            obtain rfl : v_19 = (lN ((10 ^ ii) * 10)) := (e_19).trans (lN_mul (10 ^ ii) 10)
            refine lv_lstore (lv' := [(7, .long (lN ((10 ^ ii) * 10))), (9, .int (nI ii)), (5, .long 0), (0, .ref mo), (1, .int (nI j_1)), (2, .int (nI j_5)), (3, .int (nI j_8)), (4, .int a3)]) hx hb dX8_calm_74 hl (by decide) rfl (fun ls hl => ?_)
            refine lv_iinc (v := (nI (ii + 1))) (lv' := [(9, .int (nI (ii + 1))), (7, .long (lN ((10 ^ ii) * 10))), (5, .long 0), (0, .ref mo), (1, .int (nI j_1)), (2, .int (nI j_5)), (3, .int (nI j_8)), (4, .int a3)]) hx hb dX8_calm_76 hl (k := 1) rfl (nI_add ii 1) (by decide) rfl (fun ls hl => ?_)
            refine lv_goto (tgt := 57) hx hb dX8_calm_79 (by decide) ?_
            exact ih () _ _ _ ⟨lv_sub hl [0, 1, 2, 3, 4, 5, 6, 7] rfl, hP.sub (ws' := [(xo_8_rrriirrriiiiiiirrirrrrri mo m_la m_sz m_it ms mt m_st m_mv m_tp (nI mz) ml (nI mp) mk mv mb mw m_rd m_ac (nI ma) m_as m_wo m_ik m_ke m_tr (nI mx)), (xI m_st cI 38 fs), (xI m_as cI 38 fan_13)]) [0, 1, 2] rfl, hD.sub (ws' := [(xo_8_rrriirrriiiiiiirrirrrrri mo m_la m_sz m_it ms mt m_st m_mv m_tp (nI mz) ml (nI mp) mk mv mb mw m_rd m_ac (nI ma) m_as m_wo m_ik m_ke m_tr (nI mx)), (xI m_st cI 38 fs), (xI m_as cI 38 fan_13)]) [0, 1, 2] (by decide +kernel) rfl, hS, hMl⟩
          · rintro _ H locs ls ⟨hl, hP, hD, hS, hMl⟩
            refine lv_iload hx hb dX8_calm_57 (lv_at hl 0 rfl) ?_
            refine lv_aload_n hx hb dX8_calm_59 rfl (lv_at hl 3 rfl) ?_
            refine va_get (D := (dC, dI)) (ci := 8) (v := .ref m_st) (C := RX8) (T := TX8) (N := 24) hx hb hts i_X8_calm_X8 hown hK hP 0 rfl rfl 5 (by decide) (hts _ mx_X8_calm_4) (fun _ h9 => h9) rfl dX8_calm_60 ?_
            refine lv_iconst (v := 3) hx hb dX8_calm_63 (by decide) ?_
            refine va_iald hx hb hK hP 1 0 rfl rfl (by unfold vp_in; decide) dX8_calm_64 ?_
            refine lv_topi (fun v_20 e_20 => ?_)
            obtain rfl : v_20 = (nI w9) := (e_20).trans hMl.1
            refine lv_icmp_ge (tgt := 82) hx hb dX8_calm_65 (by decide) (fun _ => ?_) (fun c_ => absurd ((nI_leI (a := w9) (b := w9) (by omega) (by omega)).mpr (by omega)) c_)
            refine lv_iconst (v := 0) hx hb dX8_calm_82 (by decide) ?_
            refine lv_istore (lv' := [(9, .int 0), (7, .long (lN (10 ^ w9))), (5, .long 0), (0, .ref mo), (1, .int (nI j_1)), (2, .int (nI j_5)), (3, .int (nI j_8)), (4, .int a3)]) hx hb dX8_calm_83 hl (by decide) rfl (fun ls hl => ?_)
            refine lp_go (σ := (Int64) × (Nat → Int32)) (fun ii1 (st : (Int64) × (Nat → Int32)) H locs ls => match st with | (w_112, w_113) => lv_has ls 15 [(9, .int (nI ii1)), (7, .long (lN (10 ^ w9))), (5, .long w_112), (0, .ref mo), (1, .int (nI j_1)), (2, .int (nI j_5)), (3, .int (nI j_8)), (4, .int a3)] ∧ va_P (dC, dI) vwCl [(xo_8_rrriirrriiiiiiirrirrrrri mo m_la m_sz m_it ms mt m_st m_mv m_tp (nI mz) ml (nI mp) mk mv mb mw m_rd m_ac (nI ma) m_as m_wo m_ik m_ke m_tr (nI mx)), (xI m_st cI 38 w_113), (xI m_as cI 38 fan_13)] H ∧ va_D A [(xo_8_rrriirrriiiiiiirrirrrrri mo m_la m_sz m_it ms mt m_st m_mv m_tp (nI mz) ml (nI mp) mk mv mb mw m_rd m_ac (nI ma) m_as m_wo m_ik m_ke m_tr (nI mx)), (xI m_st cI 38 w_113), (xI m_as cI 38 fan_13)] ∧ va_S A s.heap H locs ∧ okM w_113 w9 k9 h9 ∧ (m38 w_113 = m38 fs)) sh ?_ ?_ 0 (by omega) (0, fs) ⟨lv_sub hl [0, 1, 2, 3, 4, 5, 6, 7] rfl, hP.sub (ws' := [(xo_8_rrriirrriiiiiiirrirrrrri mo m_la m_sz m_it ms mt m_st m_mv m_tp (nI mz) ml (nI mp) mk mv mb mw m_rd m_ac (nI ma) m_as m_wo m_ik m_ke m_tr (nI mx)), (xI m_st cI 38 fs), (xI m_as cI 38 fan_13)]) [0, 1, 2] rfl, hD.sub (ws' := [(xo_8_rrriirrriiiiiiirrirrrrri mo m_la m_sz m_it ms mt m_st m_mv m_tp (nI mz) ml (nI mp) mk mv mb mw m_rd m_ac (nI ma) m_as m_wo m_ik m_ke m_tr (nI mx)), (xI m_st cI 38 fs), (xI m_as cI 38 fan_13)]) [0, 1, 2] (by decide +kernel) rfl, hS, hMl, rfl⟩
            · rintro ii1 ⟨w_112, w_113⟩ H locs ls hii1 ⟨hl, hP, hD, hS, hMl, haf_0⟩ ih
              refine lv_iload hx hb dX8_calm_85 (lv_at hl 0 rfl) ?_
              refine lv_iconst (v := 1) hx hb dX8_calm_87 (by decide) ?_
              refine lv_aload_n hx hb dX8_calm_88 rfl (lv_at hl 3 rfl) ?_
              refine va_get (D := (dC, dI)) (ci := 8) (v := .ref m_as) (C := RX8) (T := TX8) (N := 24) hx hb hts i_X8_calm_X8 hown hK hP 0 rfl rfl 18 (by decide) (hts _ mx_X8_calm_5) (fun _ h9 => h9) rfl dX8_calm_89 ?_
              refine lv_iconst (v := 3) hx hb dX8_calm_92 (by decide) ?_
              refine va_iald hx hb hK hP 2 0 rfl rfl (by unfold vp_in; decide) dX8_calm_93 ?_
              refine lv_topi (fun v_206 e_206 => ?_)
              obtain rfl : v_206 = (nI w9) := (e_206).trans hA_13.1
              refine lv_ishl hx hb dX8_calm_94 ?_
              refine lv_topi (fun v_207 e_207 => ?_)
              obtain rfl : v_207 = (nI sh) := (e_207).trans hsh
              refine lv_icmp_ge (tgt := 219) hx hb dX8_calm_95 (by decide) (fun c_ => absurd c_ (fun q_ => absurd ((nI_leI (a := sh) (b := ii1) (by omega) (by omega)).mp q_) (by omega))) (fun _ => ?_)
              refine lv_lconst (v := 1) hx hb dX8_calm_98 (by decide) ?_
              refine lv_lstore (lv' := [(10, .long 1), (9, .int (nI ii1)), (7, .long (lN (10 ^ w9))), (5, .long w_112), (0, .ref mo), (1, .int (nI j_1)), (2, .int (nI j_5)), (3, .int (nI j_8)), (4, .int a3)]) hx hb dX8_calm_99 hl (by decide) rfl (fun ls hl => ?_)
              refine lv_iconst (v := 0) hx hb dX8_calm_101 (by decide) ?_
              refine lv_istore (lv' := [(12, .int 0), (10, .long 1), (9, .int (nI ii1)), (7, .long (lN (10 ^ w9))), (5, .long w_112), (0, .ref mo), (1, .int (nI j_1)), (2, .int (nI j_5)), (3, .int (nI j_8)), (4, .int a3)]) hx hb dX8_calm_102 hl (by decide) rfl (fun ls hl => ?_)
              refine lp_go (σ := (Int64) × (Nat → Int32)) (fun ii2 (st : (Int64) × (Nat → Int32)) H locs ls => match st with | (w_233, w_234) => lv_has ls 15 [(12, .int (nI ii2)), (10, .long w_233), (9, .int (nI ii1)), (7, .long (lN (10 ^ w9))), (5, .long w_112), (0, .ref mo), (1, .int (nI j_1)), (2, .int (nI j_5)), (3, .int (nI j_8)), (4, .int a3)] ∧ va_P (dC, dI) vwCl [(xo_8_rrriirrriiiiiiirrirrrrri mo m_la m_sz m_it ms mt m_st m_mv m_tp (nI mz) ml (nI mp) mk mv mb mw m_rd m_ac (nI ma) m_as m_wo m_ik m_ke m_tr (nI mx)), (xI m_st cI 38 w_234), (xI m_as cI 38 fan_13)] H ∧ va_D A [(xo_8_rrriirrriiiiiiirrirrrrri mo m_la m_sz m_it ms mt m_st m_mv m_tp (nI mz) ml (nI mp) mk mv mb mw m_rd m_ac (nI ma) m_as m_wo m_ik m_ke m_tr (nI mx)), (xI m_st cI 38 w_234), (xI m_as cI 38 fan_13)] ∧ va_S A s.heap H locs ∧ okM w_234 w9 k9 h9) w9 ?_ ?_ 0 (by omega) (1, w_113) ⟨lv_sub hl [0, 1, 2, 3, 4, 5, 6, 7, 8, 9] rfl, hP.sub (ws' := [(xo_8_rrriirrriiiiiiirrirrrrri mo m_la m_sz m_it ms mt m_st m_mv m_tp (nI mz) ml (nI mp) mk mv mb mw m_rd m_ac (nI ma) m_as m_wo m_ik m_ke m_tr (nI mx)), (xI m_st cI 38 w_113), (xI m_as cI 38 fan_13)]) [0, 1, 2] rfl, hD.sub (ws' := [(xo_8_rrriirrriiiiiiirrirrrrri mo m_la m_sz m_it ms mt m_st m_mv m_tp (nI mz) ml (nI mp) mk mv mb mw m_rd m_ac (nI ma) m_as m_wo m_ik m_ke m_tr (nI mx)), (xI m_st cI 38 w_113), (xI m_as cI 38 fan_13)]) [0, 1, 2] (by decide +kernel) rfl, hS, hMl⟩
              · rintro ii2 ⟨w_233, w_234⟩ H locs ls hii2 ⟨hl, hP, hD, hS, hMl⟩ ih
                refine lv_iload hx hb dX8_calm_104 (lv_at hl 0 rfl) ?_
                refine lv_aload_n hx hb dX8_calm_106 rfl (lv_at hl 5 rfl) ?_
                refine va_get (D := (dC, dI)) (ci := 8) (v := .ref m_st) (C := RX8) (T := TX8) (N := 24) hx hb hts i_X8_calm_X8 hown hK hP 0 rfl rfl 5 (by decide) (hts _ mx_X8_calm_4) (fun _ h9 => h9) rfl dX8_calm_107 ?_
                refine lv_iconst (v := 3) hx hb dX8_calm_110 (by decide) ?_
                refine va_iald hx hb hK hP 1 0 rfl rfl (by unfold vp_in; decide) dX8_calm_111 ?_
                refine lv_topi (fun v_261 e_261 => ?_)
                obtain rfl : v_261 = (nI w9) := (e_261).trans hMl.1
                refine lv_icmp_ge (tgt := 180) hx hb dX8_calm_112 (by decide) (fun c_ => absurd c_ (fun q_ => absurd ((nI_leI (a := w9) (b := ii2) (by omega) (by omega)).mp q_) (by omega))) (fun _ => ?_)
                refine lv_lload hx hb dX8_calm_115 (lv_at hl 1 rfl) ?_
                refine lv_iload hx hb dX8_calm_117 (lv_at hl 2 rfl) ?_
                refine lv_iload hx hb dX8_calm_119 (lv_at hl 0 rfl) ?_
                have hPc_263 := hP.sub (ws' := []) [] rfl
                refine vp_callSi (W.runS (As := [.int (nI ii1), .int (nI ii2)]) (rest := [.long w_233]) ⟨hx, hb, hml, hown, hts⟩ (r_X8_has l dC dI cI cZ cL cJ (nI ii1) (nI ii2) ) (va_cwS 2 hts gX8_calm_X8_has rfl rfl rfl (by decide +kernel) ⟨Nat.le_of_ble_eq_true rfl, Nat.le_of_ble_eq_true rfl⟩) (psP hK hPc_263) rfl rfl hl.1 rfl (lv_room (Nat.le_of_ble_eq_true rfl)) dX8_calm_121 ⟨Nat.le_of_ble_eq_true rfl, Nat.le_of_ble_eq_true rfl⟩) (fun r_263 h_263 => ?_)
                rcases h_263 with ⟨h_263, f_263_0_0⟩ | ⟨h_263, f_263_1_0⟩
                · subst h_263
                  refine lv_if_eq (tgt := 132) hx hb dX8_calm_124 (by decide) (fun _ => ?_) (fun c_ => absurd (by decide) c_)
                  refine lv_bipush (v := 10) hx hb dX8_calm_132 (by decide) ?_
                  refine lv_iload_n hx hb dX8_calm_134 rfl (lv_at hl 8 rfl) ?_
                  refine lv_isub hx hb dX8_calm_135 ?_
                  refine lv_topi (fun v_265 e_265 => ?_)
                  refine lv_i2l hx hb dX8_calm_136 rfl ?_
                  refine lv_lmul hx hb dX8_calm_137 ?_
                  refine lv_topl (fun v_266 e_266 => ?_)
                  refine lv_lstore (lv' := [(10, .long v_266), (12, .int (nI ii2)), (9, .int (nI ii1)), (7, .long (lN (10 ^ w9))), (5, .long w_112), (0, .ref mo), (1, .int (nI j_1)), (2, .int (nI j_5)), (3, .int (nI j_8)), (4, .int a3)]) hx hb dX8_calm_138 hl (by decide) rfl (fun ls hl => ?_)
                  refine lv_aload_n hx hb dX8_calm_140 rfl (lv_at hl 5 rfl) ?_
                  refine va_get (D := (dC, dI)) (ci := 8) (v := .ref m_st) (C := RX8) (T := TX8) (N := 24) hx hb hts i_X8_calm_X8 hown hK hP 0 rfl rfl 5 (by decide) (hts _ mx_X8_calm_4) (fun _ h9 => h9) rfl dX8_calm_141 ?_
                  refine lv_bipush (v := 8) hx hb dX8_calm_144 (by decide) ?_
                  refine lv_iload hx hb dX8_calm_146 (lv_at hl 1 rfl) ?_
                  refine lv_iadd hx hb dX8_calm_148 ?_
                  refine lv_topi (fun v_267 e_267 => ?_)
                  obtain rfl : v_267 = (nI (8 + ii2)) := (e_267).trans (nI_add 8 ii2)
                  refine lv_iload hx hb dX8_calm_149 (lv_at hl 2 rfl) ?_
                  refine lv_iload hx hb dX8_calm_151 (lv_at hl 1 rfl) ?_
                  have hPc_268 := hP.sub (ws' := []) [] rfl
                  refine vp_callSi (W.runS (As := [.int (nI ii1), .int (nI ii2)]) (rest := [.int (nI (8 + ii2)), .ref m_st]) ⟨hx, hb, hml, hown, hts⟩ (r_X8_has l dC dI cI cZ cL cJ (nI ii1) (nI ii2) ) (va_cwS 2 hts gX8_calm_X8_has rfl rfl rfl (by decide +kernel) ⟨Nat.le_of_ble_eq_true rfl, Nat.le_of_ble_eq_true rfl⟩) (psP hK hPc_268) rfl rfl hl.1 rfl (lv_room (Nat.le_of_ble_eq_true rfl)) dX8_calm_153 ⟨Nat.le_of_ble_eq_true rfl, Nat.le_of_ble_eq_true rfl⟩) (fun r_268 h_268 => ?_)
                  rcases h_268 with ⟨h_268, f_268_0_0⟩ | ⟨h_268, f_268_1_0⟩
                  · subst h_268
                    refine lv_if_eq (tgt := 163) hx hb dX8_calm_156 (by decide) (fun _ => ?_) (fun c_ => absurd (by decide) c_)
                    refine lv_aload_n hx hb dX8_calm_163 rfl (lv_at hl 5 rfl) ?_
                    refine va_get (D := (dC, dI)) (ci := 8) (v := .ref m_st) (C := RX8) (T := TX8) (N := 24) hx hb hts i_X8_calm_X8 hown hK hP 0 rfl rfl 5 (by decide) (hts _ mx_X8_calm_4) (fun _ h9 => h9) rfl dX8_calm_164 ?_
                    refine lv_bipush (v := 8) hx hb dX8_calm_167 (by decide) ?_
                    refine lv_iload hx hb dX8_calm_169 (lv_at hl 1 rfl) ?_
                    refine lv_iadd hx hb dX8_calm_171 ?_
                    refine lv_topi (fun v_270 e_270 => ?_)
                    obtain rfl : v_270 = (nI (8 + ii2)) := (e_270).trans (nI_add 8 ii2)
                    refine va_iald hx hb hK hP 1 0 rfl rfl (vp_in_nI (by omega) (by omega)) dX8_calm_172 ?_
                    refine lv_topi (fun v_271 e_271 => ?_)
                    refine va_iast hx hb hK hP hD hS 1 0 rfl rfl (vp_in_nI (by omega) (by omega)) dX8_calm_173 (fun H locs hP hD hS => ?_)
                    generalize hg_272 : upd w_234 ((nI (8 + ii2)) : Int32).toNatClampNeg v_271 = g_272 at hP hD
                    have hM_272 : okM g_272 w9 k9 h9 := okM_off (i := (8 + ii2)) hMl hg_272 (by omega) (by omega) (by omega) (by omega) (by omega)
                    have hP : va_P (dC, dI) vwCl [(xo_8_rrriirrriiiiiiirrirrrrri mo m_la m_sz m_it ms mt m_st m_mv m_tp (nI mz) ml (nI mp) mk mv mb mw m_rd m_ac (nI ma) m_as m_wo m_ik m_ke m_tr (nI mx)), (xI m_st cI 38 g_272), (xI m_as cI 38 fan_13)] H := hP
                    have hD := dto hP hD
                    refine lv_iinc (v := (nI (ii2 + 1))) (lv' := [(12, .int (nI (ii2 + 1))), (10, .long v_266), (9, .int (nI ii1)), (7, .long (lN (10 ^ w9))), (5, .long w_112), (0, .ref mo), (1, .int (nI j_1)), (2, .int (nI j_5)), (3, .int (nI j_8)), (4, .int a3)]) hx hb dX8_calm_174 hl (k := 1) rfl (nI_add ii2 1) (by decide) rfl (fun ls hl => ?_)
                    refine lv_goto (tgt := 104) hx hb dX8_calm_177 (by decide) ?_
                    exact ih (v_266, g_272) _ _ _ ⟨lv_sub hl [0, 1, 2, 3, 4, 5, 6, 7, 8, 9] rfl, hP.sub (ws' := [(xo_8_rrriirrriiiiiiirrirrrrri mo m_la m_sz m_it ms mt m_st m_mv m_tp (nI mz) ml (nI mp) mk mv mb mw m_rd m_ac (nI ma) m_as m_wo m_ik m_ke m_tr (nI mx)), (xI m_st cI 38 g_272), (xI m_as cI 38 fan_13)]) [0, 1, 2] rfl, hD.sub (ws' := [(xo_8_rrriirrriiiiiiirrirrrrri mo m_la m_sz m_it ms mt m_st m_mv m_tp (nI mz) ml (nI mp) mk mv mb mw m_rd m_ac (nI ma) m_as m_wo m_ik m_ke m_tr (nI mx)), (xI m_st cI 38 g_272), (xI m_as cI 38 fan_13)]) [0, 1, 2] (by decide +kernel) rfl, hS, hM_272⟩
                  · subst h_268
                    refine lv_if_eq (tgt := 163) hx hb dX8_calm_156 (by decide) (fun c_ => absurd c_ (by decide)) (fun _ => ?_)
                    refine lv_iconst (v := 2) hx hb dX8_calm_159 (by decide) ?_
                    refine lv_goto (tgt := 173) hx hb dX8_calm_160 (by decide) ?_
                    refine va_iast hx hb hK hP hD hS 1 0 rfl rfl (vp_in_nI (by omega) (by omega)) dX8_calm_173 (fun H locs hP hD hS => ?_)
                    generalize hg_274 : upd w_234 ((nI (8 + ii2)) : Int32).toNatClampNeg 2 = g_274 at hP hD
                    have hM_274 : okM g_274 w9 k9 h9 := okM_off (i := (8 + ii2)) hMl hg_274 (by omega) (by omega) (by omega) (by omega) (by omega)
                    have hP : va_P (dC, dI) vwCl [(xo_8_rrriirrriiiiiiirrirrrrri mo m_la m_sz m_it ms mt m_st m_mv m_tp (nI mz) ml (nI mp) mk mv mb mw m_rd m_ac (nI ma) m_as m_wo m_ik m_ke m_tr (nI mx)), (xI m_st cI 38 g_274), (xI m_as cI 38 fan_13)] H := hP
                    have hD := dto hP hD
                    refine lv_iinc (v := (nI (ii2 + 1))) (lv' := [(12, .int (nI (ii2 + 1))), (10, .long v_266), (9, .int (nI ii1)), (7, .long (lN (10 ^ w9))), (5, .long w_112), (0, .ref mo), (1, .int (nI j_1)), (2, .int (nI j_5)), (3, .int (nI j_8)), (4, .int a3)]) hx hb dX8_calm_174 hl (k := 1) rfl (nI_add ii2 1) (by decide) rfl (fun ls hl => ?_)
                    refine lv_goto (tgt := 104) hx hb dX8_calm_177 (by decide) ?_
                    exact ih (v_266, g_274) _ _ _ ⟨lv_sub hl [0, 1, 2, 3, 4, 5, 6, 7, 8, 9] rfl, hP.sub (ws' := [(xo_8_rrriirrriiiiiiirrirrrrri mo m_la m_sz m_it ms mt m_st m_mv m_tp (nI mz) ml (nI mp) mk mv mb mw m_rd m_ac (nI ma) m_as m_wo m_ik m_ke m_tr (nI mx)), (xI m_st cI 38 g_274), (xI m_as cI 38 fan_13)]) [0, 1, 2] rfl, hD.sub (ws' := [(xo_8_rrriirrriiiiiiirrirrrrri mo m_la m_sz m_it ms mt m_st m_mv m_tp (nI mz) ml (nI mp) mk mv mb mw m_rd m_ac (nI ma) m_as m_wo m_ik m_ke m_tr (nI mx)), (xI m_st cI 38 g_274), (xI m_as cI 38 fan_13)]) [0, 1, 2] (by decide +kernel) rfl, hS, hM_274⟩
                · subst h_263
                  refine lv_if_eq (tgt := 132) hx hb dX8_calm_124 (by decide) (fun c_ => absurd c_ (by decide)) (fun _ => ?_)
                  refine lv_iload_n hx hb dX8_calm_127 rfl (lv_at hl 8 rfl) ?_
                  refine lv_i2l hx hb dX8_calm_128 rfl ?_
                  refine lv_goto (tgt := 137) hx hb dX8_calm_129 (by decide) ?_
                  refine lv_lmul hx hb dX8_calm_137 ?_
                  refine lv_topl (fun v_276 e_276 => ?_)
                  refine lv_lstore (lv' := [(10, .long v_276), (12, .int (nI ii2)), (9, .int (nI ii1)), (7, .long (lN (10 ^ w9))), (5, .long w_112), (0, .ref mo), (1, .int (nI j_1)), (2, .int (nI j_5)), (3, .int (nI j_8)), (4, .int a3)]) hx hb dX8_calm_138 hl (by decide) rfl (fun ls hl => ?_)
                  refine lv_aload_n hx hb dX8_calm_140 rfl (lv_at hl 5 rfl) ?_
                  refine va_get (D := (dC, dI)) (ci := 8) (v := .ref m_st) (C := RX8) (T := TX8) (N := 24) hx hb hts i_X8_calm_X8 hown hK hP 0 rfl rfl 5 (by decide) (hts _ mx_X8_calm_4) (fun _ h9 => h9) rfl dX8_calm_141 ?_
                  refine lv_bipush (v := 8) hx hb dX8_calm_144 (by decide) ?_
                  refine lv_iload hx hb dX8_calm_146 (lv_at hl 1 rfl) ?_
                  refine lv_iadd hx hb dX8_calm_148 ?_
                  refine lv_topi (fun v_277 e_277 => ?_)
                  obtain rfl : v_277 = (nI (8 + ii2)) := (e_277).trans (nI_add 8 ii2)
                  refine lv_iload hx hb dX8_calm_149 (lv_at hl 2 rfl) ?_
                  refine lv_iload hx hb dX8_calm_151 (lv_at hl 1 rfl) ?_
                  have hPc_278 := hP.sub (ws' := []) [] rfl
                  refine vp_callSi (W.runS (As := [.int (nI ii1), .int (nI ii2)]) (rest := [.int (nI (8 + ii2)), .ref m_st]) ⟨hx, hb, hml, hown, hts⟩ (r_X8_has l dC dI cI cZ cL cJ (nI ii1) (nI ii2) ) (va_cwS 2 hts gX8_calm_X8_has rfl rfl rfl (by decide +kernel) ⟨Nat.le_of_ble_eq_true rfl, Nat.le_of_ble_eq_true rfl⟩) (psP hK hPc_278) rfl rfl hl.1 rfl (lv_room (Nat.le_of_ble_eq_true rfl)) dX8_calm_153 ⟨Nat.le_of_ble_eq_true rfl, Nat.le_of_ble_eq_true rfl⟩) (fun r_278 h_278 => ?_)
                  rcases h_278 with ⟨h_278, f_278_0_0⟩ | ⟨h_278, f_278_1_0⟩
                  · subst h_278
                    refine lv_if_eq (tgt := 163) hx hb dX8_calm_156 (by decide) (fun _ => ?_) (fun c_ => absurd (by decide) c_)
                    refine lv_aload_n hx hb dX8_calm_163 rfl (lv_at hl 5 rfl) ?_
                    refine va_get (D := (dC, dI)) (ci := 8) (v := .ref m_st) (C := RX8) (T := TX8) (N := 24) hx hb hts i_X8_calm_X8 hown hK hP 0 rfl rfl 5 (by decide) (hts _ mx_X8_calm_4) (fun _ h9 => h9) rfl dX8_calm_164 ?_
                    refine lv_bipush (v := 8) hx hb dX8_calm_167 (by decide) ?_
                    refine lv_iload hx hb dX8_calm_169 (lv_at hl 1 rfl) ?_
                    refine lv_iadd hx hb dX8_calm_171 ?_
                    refine lv_topi (fun v_280 e_280 => ?_)
                    obtain rfl : v_280 = (nI (8 + ii2)) := (e_280).trans (nI_add 8 ii2)
                    refine va_iald hx hb hK hP 1 0 rfl rfl (vp_in_nI (by omega) (by omega)) dX8_calm_172 ?_
                    refine lv_topi (fun v_281 e_281 => ?_)
                    refine va_iast hx hb hK hP hD hS 1 0 rfl rfl (vp_in_nI (by omega) (by omega)) dX8_calm_173 (fun H locs hP hD hS => ?_)
                    generalize hg_282 : upd w_234 ((nI (8 + ii2)) : Int32).toNatClampNeg v_281 = g_282 at hP hD
                    have hM_282 : okM g_282 w9 k9 h9 := okM_off (i := (8 + ii2)) hMl hg_282 (by omega) (by omega) (by omega) (by omega) (by omega)
                    have hP : va_P (dC, dI) vwCl [(xo_8_rrriirrriiiiiiirrirrrrri mo m_la m_sz m_it ms mt m_st m_mv m_tp (nI mz) ml (nI mp) mk mv mb mw m_rd m_ac (nI ma) m_as m_wo m_ik m_ke m_tr (nI mx)), (xI m_st cI 38 g_282), (xI m_as cI 38 fan_13)] H := hP
                    have hD := dto hP hD
                    refine lv_iinc (v := (nI (ii2 + 1))) (lv' := [(12, .int (nI (ii2 + 1))), (10, .long v_276), (9, .int (nI ii1)), (7, .long (lN (10 ^ w9))), (5, .long w_112), (0, .ref mo), (1, .int (nI j_1)), (2, .int (nI j_5)), (3, .int (nI j_8)), (4, .int a3)]) hx hb dX8_calm_174 hl (k := 1) rfl (nI_add ii2 1) (by decide) rfl (fun ls hl => ?_)
                    refine lv_goto (tgt := 104) hx hb dX8_calm_177 (by decide) ?_
                    exact ih (v_276, g_282) _ _ _ ⟨lv_sub hl [0, 1, 2, 3, 4, 5, 6, 7, 8, 9] rfl, hP.sub (ws' := [(xo_8_rrriirrriiiiiiirrirrrrri mo m_la m_sz m_it ms mt m_st m_mv m_tp (nI mz) ml (nI mp) mk mv mb mw m_rd m_ac (nI ma) m_as m_wo m_ik m_ke m_tr (nI mx)), (xI m_st cI 38 g_282), (xI m_as cI 38 fan_13)]) [0, 1, 2] rfl, hD.sub (ws' := [(xo_8_rrriirrriiiiiiirrirrrrri mo m_la m_sz m_it ms mt m_st m_mv m_tp (nI mz) ml (nI mp) mk mv mb mw m_rd m_ac (nI ma) m_as m_wo m_ik m_ke m_tr (nI mx)), (xI m_st cI 38 g_282), (xI m_as cI 38 fan_13)]) [0, 1, 2] (by decide +kernel) rfl, hS, hM_282⟩
                  · subst h_278
                    refine lv_if_eq (tgt := 163) hx hb dX8_calm_156 (by decide) (fun c_ => absurd c_ (by decide)) (fun _ => ?_)
                    refine lv_iconst (v := 2) hx hb dX8_calm_159 (by decide) ?_
                    refine lv_goto (tgt := 173) hx hb dX8_calm_160 (by decide) ?_
                    refine va_iast hx hb hK hP hD hS 1 0 rfl rfl (vp_in_nI (by omega) (by omega)) dX8_calm_173 (fun H locs hP hD hS => ?_)
                    generalize hg_284 : upd w_234 ((nI (8 + ii2)) : Int32).toNatClampNeg 2 = g_284 at hP hD
                    have hM_284 : okM g_284 w9 k9 h9 := okM_off (i := (8 + ii2)) hMl hg_284 (by omega) (by omega) (by omega) (by omega) (by omega)
                    have hP : va_P (dC, dI) vwCl [(xo_8_rrriirrriiiiiiirrirrrrri mo m_la m_sz m_it ms mt m_st m_mv m_tp (nI mz) ml (nI mp) mk mv mb mw m_rd m_ac (nI ma) m_as m_wo m_ik m_ke m_tr (nI mx)), (xI m_st cI 38 g_284), (xI m_as cI 38 fan_13)] H := hP
                    have hD := dto hP hD
                    refine lv_iinc (v := (nI (ii2 + 1))) (lv' := [(12, .int (nI (ii2 + 1))), (10, .long v_276), (9, .int (nI ii1)), (7, .long (lN (10 ^ w9))), (5, .long w_112), (0, .ref mo), (1, .int (nI j_1)), (2, .int (nI j_5)), (3, .int (nI j_8)), (4, .int a3)]) hx hb dX8_calm_174 hl (k := 1) rfl (nI_add ii2 1) (by decide) rfl (fun ls hl => ?_)
                    refine lv_goto (tgt := 104) hx hb dX8_calm_177 (by decide) ?_
                    exact ih (v_276, g_284) _ _ _ ⟨lv_sub hl [0, 1, 2, 3, 4, 5, 6, 7, 8, 9] rfl, hP.sub (ws' := [(xo_8_rrriirrriiiiiiirrirrrrri mo m_la m_sz m_it ms mt m_st m_mv m_tp (nI mz) ml (nI mp) mk mv mb mw m_rd m_ac (nI ma) m_as m_wo m_ik m_ke m_tr (nI mx)), (xI m_st cI 38 g_284), (xI m_as cI 38 fan_13)]) [0, 1, 2] rfl, hD.sub (ws' := [(xo_8_rrriirrriiiiiiirrirrrrri mo m_la m_sz m_it ms mt m_st m_mv m_tp (nI mz) ml (nI mp) mk mv mb mw m_rd m_ac (nI ma) m_as m_wo m_ik m_ke m_tr (nI mx)), (xI m_st cI 38 g_284), (xI m_as cI 38 fan_13)]) [0, 1, 2] (by decide +kernel) rfl, hS, hM_284⟩
              · rintro ⟨w_233, w_234⟩ H locs ls ⟨hl, hP, hD, hS, hMl⟩
                refine lv_iload hx hb dX8_calm_104 (lv_at hl 0 rfl) ?_
                refine lv_aload_n hx hb dX8_calm_106 rfl (lv_at hl 5 rfl) ?_
                refine va_get (D := (dC, dI)) (ci := 8) (v := .ref m_st) (C := RX8) (T := TX8) (N := 24) hx hb hts i_X8_calm_X8 hown hK hP 0 rfl rfl 5 (by decide) (hts _ mx_X8_calm_4) (fun _ h9 => h9) rfl dX8_calm_107 ?_
                refine lv_iconst (v := 3) hx hb dX8_calm_110 (by decide) ?_
                refine va_iald hx hb hK hP 1 0 rfl rfl (by unfold vp_in; decide) dX8_calm_111 ?_
                refine lv_topi (fun v_285 e_285 => ?_)
                obtain rfl : v_285 = (nI w9) := (e_285).trans hMl.1
                refine lv_icmp_ge (tgt := 180) hx hb dX8_calm_112 (by decide) (fun _ => ?_) (fun c_ => absurd ((nI_leI (a := w9) (b := w9) (by omega) (by omega)).mpr (by omega)) c_)
                refine lv_aload_n hx hb dX8_calm_180 rfl (lv_at hl 5 rfl) ?_
                refine lv_iload_n hx hb dX8_calm_181 rfl (lv_at hl 7 rfl) ?_
                have hc_287 := cutW (wc := [(xo_8_rrriirrriiiiiiirrirrrrri mo m_la m_sz m_it ms mt m_st m_mv m_tp (nI mz) ml (nI mp) mk mv mb mw m_rd m_ac (nI ma) m_as m_wo m_ik m_ke m_tr (nI mx)), (xI m_st cI 38 w_234)]) hP hD hS hA [0, 1] (by decide +kernel) rfl
                refine va_callv (va_runV (As := [.int (nI j_5)]) (rest := []) ⟨hx, hb, hml, hown, hts⟩ (r_X8_goOn l dC dI cI cZ cL cJ H.size mo m_la m_sz m_it m_st m_mv m_tp m_rd m_ac m_as m_wo m_ik m_ke m_tr ms mt ml mk mv mb mw mz mp ma mx w_234 w9 k9 h9 j_5 (hMl) (by omega) (by omega) (by omega)) (cwV 1 hts gX8_calm_X8_goOn rfl rfl rfl (by decide +kernel) ⟨Nat.le_of_ble_eq_true rfl, Nat.le_of_ble_eq_true rfl⟩) (pvW 8 0 hK hP rfl rfl hc_287) rfl rfl hl.1 rfl (lv_room (Nat.le_of_ble_eq_true rfl)) dX8_calm_182 ⟨Nat.le_of_ble_eq_true rfl, Nat.le_of_ble_eq_true rfl⟩) hS (fun q _ h => hc_287.2.2 q h) hc_287.2.2 (fun u_287 t_287 H1 locs ht hvm h_287 hB hz1 hk1 hS => ?_)
                refine xl_1_4 hB (fun fsn_287 hP1 hD1 hF_287_0 hF_287_1 => ?_)
                clear hB
                rw [ht] at hP1
                obtain ⟨hP, hD⟩ := va_join (wr := [(xI m_as cI 38 fan_13)]) (w1 := [(xo_8_rrriirrriiiiiiirrirrrrri mo m_la m_sz m_it ms mt m_st m_mv m_tp (nI mz) ml (nI mp) mk mv mb mw m_rd m_ac (nI ma) m_as m_wo m_ik m_ke m_tr (nI mx)), (xI m_st cI 38 fsn_287)]) hP hD [0, 1] [2] rfl rfl (by decide +kernel) (by decide +kernel) hk1 hc_287.2.2 hP1 hD1
                generalize H1 = H at hP hS ⊢
                have hP : va_P (dC, dI) vwCl [(xI m_as cI 38 fan_13), (xo_8_rrriirrriiiiiiirrirrrrri mo m_la m_sz m_it ms mt m_st m_mv m_tp (nI mz) ml (nI mp) mk mv mb mw m_rd m_ac (nI ma) m_as m_wo m_ik m_ke m_tr (nI mx)), (xI m_st cI 38 fsn_287)] H := hP
                have hD := dto hP hD
                refine lv_lload hx hb dX8_calm_185 (lv_at hl 4 rfl) ?_
                refine lv_aload_n hx hb dX8_calm_187 rfl (lv_at hl 5 rfl) ?_
                refine va_get (D := (dC, dI)) (ci := 8) (v := .ref m_st) (C := RX8) (T := TX8) (N := 24) hx hb hts i_X8_calm_X8 hown hK hP 1 rfl rfl 5 (by decide) (hts _ mx_X8_calm_4) (fun _ h9 => h9) rfl dX8_calm_188 ?_
                refine lv_bipush (v := 26) hx hb dX8_calm_191 (by decide) ?_
                refine lv_iload_n hx hb dX8_calm_193 rfl (lv_at hl 6 rfl) ?_
                refine lv_iadd hx hb dX8_calm_194 ?_
                refine lv_topi (fun v_288 e_288 => ?_)
                obtain rfl : v_288 = (nI (26 + j_1)) := (e_288).trans (nI_add 26 j_1)
                refine va_iald hx hb hK hP 2 0 rfl rfl (vp_in_nI (by omega) (by omega)) dX8_calm_195 ?_
                refine lv_topi (fun v_289 e_289 => ?_)
                refine lv_iconst (v := 1) hx hb dX8_calm_196 (by decide) ?_
                refine jn (σ := (Int64)) (fun (st : (Int64)) H locs g => match st with | w_291 => ∃ ls : Array Slot, g = F0 m 206 ls [.long w_291, .long w_112] ∧ lv_has ls 15 [(12, .int (nI w9)), (10, .long w_233), (9, .int (nI ii1)), (7, .long (lN (10 ^ w9))), (5, .long w_112), (0, .ref mo), (1, .int (nI j_1)), (2, .int (nI j_5)), (3, .int (nI j_8)), (4, .int a3)] ∧ va_P (dC, dI) vwCl [(xI m_as cI 38 fan_13), (xo_8_rrriirrriiiiiiirrirrrrri mo m_la m_sz m_it ms mt m_st m_mv m_tp (nI mz) ml (nI mp) mk mv mb mw m_rd m_ac (nI ma) m_as m_wo m_ik m_ke m_tr (nI mx)), (xI m_st cI 38 fsn_287)] H ∧ va_D A [(xI m_as cI 38 fan_13), (xo_8_rrriirrriiiiiiirrirrrrri mo m_la m_sz m_it ms mt m_st m_mv m_tp (nI mz) ml (nI mp) mk mv mb mw m_rd m_ac (nI ma) m_as m_wo m_ik m_ke m_tr (nI mx)), (xI m_st cI 38 fsn_287)] ∧ va_S A s.heap H locs ∧ okM fsn_287 w9 k9 (h9 + j_5)) ?_ ?_
                · rintro w_291 H locs _ ⟨ls, rfl, hl, hP, hD, hS, hMl⟩
                  refine lv_ladd hx hb dX8_calm_206 ?_
                  refine lv_topl (fun v_293 e_293 => ?_)
                  refine lv_lstore (lv' := [(5, .long v_293), (12, .int (nI w9)), (10, .long w_233), (9, .int (nI ii1)), (7, .long (lN (10 ^ w9))), (0, .ref mo), (1, .int (nI j_1)), (2, .int (nI j_5)), (3, .int (nI j_8)), (4, .int a3)]) hx hb dX8_calm_207 hl (by decide) rfl (fun ls hl => ?_)
                  refine lv_aload_n hx hb dX8_calm_209 rfl (lv_at hl 5 rfl) ?_
                  have hc_294 := cutW (wc := [(xo_8_rrriirrriiiiiiirrirrrrri mo m_la m_sz m_it ms mt m_st m_mv m_tp (nI mz) ml (nI mp) mk mv mb mw m_rd m_ac (nI ma) m_as m_wo m_ik m_ke m_tr (nI mx)), (xI m_st cI 38 fsn_287), (xI m_as cI 38 fan_13)]) hP hD hS hA [1, 2, 0] (by decide +kernel) rfl
                  refine va_callv (va_runV (As := []) (rest := []) ⟨hx, hb, hml, hown, hts⟩ (r_X8_takeBack l dC dI cI cZ cL cJ H.size mo m_la m_sz m_it m_st m_mv m_tp m_rd m_ac m_as m_wo m_ik m_ke m_tr ms mt ml mk mv mb mw mz mp ma mx fsn_287 fan_13 ) (cwV 0 hts gX8_calm_X8_takeBack rfl rfl rfl (by decide +kernel) ⟨Nat.le_of_ble_eq_true rfl, Nat.le_of_ble_eq_true rfl⟩) (pvW 8 1 hK hP rfl rfl hc_294) rfl rfl hl.1 rfl (lv_room (Nat.le_of_ble_eq_true rfl)) dX8_calm_210 ⟨Nat.le_of_ble_eq_true rfl, Nat.le_of_ble_eq_true rfl⟩) hS (fun q _ h => hc_294.2.2 q h) hc_294.2.2 (fun u_294 t_294 H1 locs ht hvm h_294 hB hz1 hk1 hS => ?_)
                  refine xl_1_3 hB (fun fsn_294 hP1 hD1 hF_294_0 => ?_)
                  clear hB
                  rw [ht] at hP1
                  obtain ⟨hP, hD⟩ := va_join (wr := []) (w1 := [(xo_8_rrriirrriiiiiiirrirrrrri mo m_la m_sz m_it ms mt m_st m_mv m_tp (nI mz) ml (nI mp) mk mv mb mw m_rd m_ac (nI ma) m_as m_wo m_ik m_ke m_tr (nI mx)), (xI m_st cI 38 fsn_294), (xI m_as cI 38 fan_13)]) hP hD [1, 2, 0] [] rfl rfl (by decide +kernel) (by decide +kernel) hk1 hc_294.2.2 hP1 hD1
                  generalize H1 = H at hP hS ⊢
                  have hP : va_P (dC, dI) vwCl [(xo_8_rrriirrriiiiiiirrirrrrri mo m_la m_sz m_it ms mt m_st m_mv m_tp (nI mz) ml (nI mp) mk mv mb mw m_rd m_ac (nI ma) m_as m_wo m_ik m_ke m_tr (nI mx)), (xI m_st cI 38 fsn_294), (xI m_as cI 38 fan_13)] H := hP
                  have hD := dto hP hD
                  have hT_294 := okM_eq hA_13 hF_294_0
                  refine lv_iinc (v := (nI (ii1 + 1))) (lv' := [(9, .int (nI (ii1 + 1))), (5, .long v_293), (12, .int (nI w9)), (10, .long w_233), (7, .long (lN (10 ^ w9))), (0, .ref mo), (1, .int (nI j_1)), (2, .int (nI j_5)), (3, .int (nI j_8)), (4, .int a3)]) hx hb dX8_calm_213 hl (k := 3) rfl (nI_add ii1 1) (by decide) rfl (fun ls hl => ?_)
                  refine lv_goto (tgt := 85) hx hb dX8_calm_216 (by decide) ?_
                  exact ih (v_293, fsn_294) _ _ _ ⟨lv_sub hl [0, 4, 1, 5, 6, 7, 8, 9] rfl, hP.sub (ws' := [(xo_8_rrriirrriiiiiiirrirrrrri mo m_la m_sz m_it ms mt m_st m_mv m_tp (nI mz) ml (nI mp) mk mv mb mw m_rd m_ac (nI ma) m_as m_wo m_ik m_ke m_tr (nI mx)), (xI m_st cI 38 fsn_294), (xI m_as cI 38 fan_13)]) [0, 1, 2] rfl, hD.sub (ws' := [(xo_8_rrriirrriiiiiiirrirrrrri mo m_la m_sz m_it ms mt m_st m_mv m_tp (nI mz) ml (nI mp) mk mv mb mw m_rd m_ac (nI ma) m_as m_wo m_ik m_ke m_tr (nI mx)), (xI m_st cI 38 fsn_294), (xI m_as cI 38 fan_13)]) [0, 1, 2] (by decide +kernel) rfl, hS, hT_294, ((m38_eq hF_294_0).trans ((m38_eq hF_13_0).trans rfl))⟩
                · intro jk_292
                  refine lv_icmp_ne (tgt := 205) hx hb dX8_calm_197 (by decide) (fun c_295 => ?_) (fun c_295 => ?_)
                  · skip
                    refine lv_lconst (v := 0) hx hb dX8_calm_205 (by decide) ?_
                    exact jk_292 (0) _ _ _ ⟨ls, rfl, lv_sub hl [0, 1, 2, 3, 4, 5, 6, 7, 8, 9] rfl, hP.sub (ws' := [(xI m_as cI 38 fan_13), (xo_8_rrriirrriiiiiiirrirrrrri mo m_la m_sz m_it ms mt m_st m_mv m_tp (nI mz) ml (nI mp) mk mv mb mw m_rd m_ac (nI ma) m_as m_wo m_ik m_ke m_tr (nI mx)), (xI m_st cI 38 fsn_287)]) [0, 1, 2] rfl, hD.sub (ws' := [(xI m_as cI 38 fan_13), (xo_8_rrriirrriiiiiiirrirrrrri mo m_la m_sz m_it ms mt m_st m_mv m_tp (nI mz) ml (nI mp) mk mv mb mw m_rd m_ac (nI ma) m_as m_wo m_ik m_ke m_tr (nI mx)), (xI m_st cI 38 fsn_287)]) [0, 1, 2] (by decide +kernel) rfl, hS, hF_287_0⟩
                  · skip
                    refine lv_lload hx hb dX8_calm_200 (lv_at hl 1 rfl) ?_
                    refine lv_goto (tgt := 206) hx hb dX8_calm_202 (by decide) ?_
                    exact jk_292 (w_233) _ _ _ ⟨ls, rfl, lv_sub hl [0, 1, 2, 3, 4, 5, 6, 7, 8, 9] rfl, hP.sub (ws' := [(xI m_as cI 38 fan_13), (xo_8_rrriirrriiiiiiirrirrrrri mo m_la m_sz m_it ms mt m_st m_mv m_tp (nI mz) ml (nI mp) mk mv mb mw m_rd m_ac (nI ma) m_as m_wo m_ik m_ke m_tr (nI mx)), (xI m_st cI 38 fsn_287)]) [0, 1, 2] rfl, hD.sub (ws' := [(xI m_as cI 38 fan_13), (xo_8_rrriirrriiiiiiirrirrrrri mo m_la m_sz m_it ms mt m_st m_mv m_tp (nI mz) ml (nI mp) mk mv mb mw m_rd m_ac (nI ma) m_as m_wo m_ik m_ke m_tr (nI mx)), (xI m_st cI 38 fsn_287)]) [0, 1, 2] (by decide +kernel) rfl, hS, hF_287_0⟩
            · rintro ⟨w_112, w_113⟩ H locs ls ⟨hl, hP, hD, hS, hMl, haf_0⟩
              refine lv_iload hx hb dX8_calm_85 (lv_at hl 0 rfl) ?_
              refine lv_iconst (v := 1) hx hb dX8_calm_87 (by decide) ?_
              refine lv_aload_n hx hb dX8_calm_88 rfl (lv_at hl 3 rfl) ?_
              refine va_get (D := (dC, dI)) (ci := 8) (v := .ref m_as) (C := RX8) (T := TX8) (N := 24) hx hb hts i_X8_calm_X8 hown hK hP 0 rfl rfl 18 (by decide) (hts _ mx_X8_calm_5) (fun _ h9 => h9) rfl dX8_calm_89 ?_
              refine lv_iconst (v := 3) hx hb dX8_calm_92 (by decide) ?_
              refine va_iald hx hb hK hP 2 0 rfl rfl (by unfold vp_in; decide) dX8_calm_93 ?_
              refine lv_topi (fun v_296 e_296 => ?_)
              obtain rfl : v_296 = (nI w9) := (e_296).trans hA_13.1
              refine lv_ishl hx hb dX8_calm_94 ?_
              refine lv_topi (fun v_297 e_297 => ?_)
              obtain rfl : v_297 = (nI sh) := (e_297).trans hsh
              refine lv_icmp_ge (tgt := 219) hx hb dX8_calm_95 (by decide) (fun _ => ?_) (fun c_ => absurd ((nI_leI (a := sh) (b := sh) (by omega) (by omega)).mpr (by omega)) c_)
              refine lv_lload hx hb dX8_calm_219 (lv_at hl 2 rfl) ?_
              refine lv_lstore (lv' := [(9, .long w_112), (7, .long (lN (10 ^ w9))), (5, .long w_112), (0, .ref mo), (1, .int (nI j_1)), (2, .int (nI j_5)), (3, .int (nI j_8)), (4, .int a3)]) hx hb dX8_calm_221 hl (by decide) rfl (fun ls hl => ?_)
              refine lv_lload hx hb dX8_calm_223 (lv_at hl 1 rfl) ?_
              refine lv_lstore (lv' := [(11, .long (lN (10 ^ w9))), (9, .long w_112), (7, .long (lN (10 ^ w9))), (5, .long w_112), (0, .ref mo), (1, .int (nI j_1)), (2, .int (nI j_5)), (3, .int (nI j_8)), (4, .int a3)]) hx hb dX8_calm_225 hl (by decide) rfl (fun ls hl => ?_)
              have hstE := haf_0
              refine lp_ms (σ := (Int64) × (Int64)) (fun (st : (Int64) × (Int64)) H locs ls => match st with | (w_304, w_305) => lv_has ls 15 [(11, .long w_304), (9, .long w_305), (7, .long (lN (10 ^ w9))), (5, .long w_112), (0, .ref mo), (1, .int (nI j_1)), (2, .int (nI j_5)), (3, .int (nI j_8)), (4, .int a3)] ∧ va_P (dC, dI) vwCl [(xo_8_rrriirrriiiiiiirrirrrrri mo m_la m_sz m_it ms mt m_st m_mv m_tp (nI mz) ml (nI mp) mk mv mb mw m_rd m_ac (nI ma) m_as m_wo m_ik m_ke m_tr (nI mx)), (xI m_st cI 38 w_113), (xI m_as cI 38 fan_13)] H ∧ va_D A [(xo_8_rrriirrriiiiiiirrirrrrri mo m_la m_sz m_it ms mt m_st m_mv m_tp (nI mz) ml (nI mp) mk mv mb mw m_rd m_ac (nI ma) m_as m_wo m_ik m_ke m_tr (nI mx)), (xI m_st cI 38 w_113), (xI m_as cI 38 fan_13)] ∧ va_S A s.heap H locs ∧ okM w_113 w9 k9 h9 ∧ (¬ (w_304 = 0) ∨ ¬ (w_305 = 0))) (fun (st : (Int64) × (Int64)) => match st with | (w_304, w_305) => (w_304).toInt.natAbs) ?_ ((lN (10 ^ w9)), w_112) ⟨lv_sub hl [0, 1, 2, 3, 4, 5, 6, 7, 8] rfl, hP.sub (ws' := [(xo_8_rrriirrriiiiiiirrirrrrri mo m_la m_sz m_it ms mt m_st m_mv m_tp (nI mz) ml (nI mp) mk mv mb mw m_rd m_ac (nI ma) m_as m_wo m_ik m_ke m_tr (nI mx)), (xI m_st cI 38 w_113), (xI m_as cI 38 fan_13)]) [0, 1, 2] rfl, hD.sub (ws' := [(xo_8_rrriirrriiiiiiirrirrrrri mo m_la m_sz m_it ms mt m_st m_mv m_tp (nI mz) ml (nI mp) mk mv mb mw m_rd m_ac (nI ma) m_as m_wo m_ik m_ke m_tr (nI mx)), (xI m_st cI 38 w_113), (xI m_as cI 38 fan_13)]) [0, 1, 2] (by decide +kernel) rfl, hS, hMl, (Or.inl (p10_nz (by omega)))⟩
              rintro ⟨w_304, w_305⟩ H locs ls ⟨hl, hP, hD, hS, hMl, haf_0⟩ ih
              refine lv_lload hx hb dX8_calm_227 (lv_at hl 0 rfl) ?_
              refine lv_lconst (v := 0) hx hb dX8_calm_229 (by decide) ?_
              refine W.lcmp hx hb dX8_calm_230 ?_
              refine lv_if_eq (tgt := 252) hx hb dX8_calm_231 (by decide) (fun c_313 => ?_) (fun c_313 => ?_)
              · have c_313 : w_304 = 0 := (lg_cmp_eq _ _).mp c_313
                have hx0 : ¬ (w_305 = 0) := haf_0.resolve_left (fun q_ => q_ c_313)
                refine lv_iload hx hb dX8_calm_252 (lv_at hl 8 rfl) ?_
                refine lv_if_ne (tgt := 265) hx hb dX8_calm_254 (by decide) (fun c_314 => ?_) (fun c_314 => ?_)
                · skip
                  refine lv_lload hx hb dX8_calm_265 (lv_at hl 2 rfl) ?_
                  refine lv_lload hx hb dX8_calm_267 (lv_at hl 1 rfl) ?_
                  refine lv_ldiv hx hb dX8_calm_269 hx0 ?_
                  refine lv_topl (fun v_315 e_315 => ?_)
                  have hX9 := cut2 (wc := [(xo_8_rrriirrriiiiiiirrirrrrri mo m_la m_sz m_it ms mt m_st m_mv m_tp (nI mz) ml (nI mp) mk mv mb mw m_rd m_ac (nI ma) m_as m_wo m_ik m_ke m_tr (nI mx)), (xI m_st cI 38 w_113), (xI m_as cI 38 fan_13)]) hP hD [0, 1, 2] (by decide +kernel) rfl
                  exact W.lret (v := v_315) hx hb hr (fun t ht hW => ⟨⟨v_315, (), rfl, trivial, ⟨w_113, fan_13, va_Ht ht hX9.1, hX9.2, hMl, hstE⟩⟩, hS.F ht⟩) hS.2.2 dX8_calm_270
                · skip
                  refine lv_lload hx hb dX8_calm_257 (lv_at hl 3 rfl) ?_
                  refine lv_lload hx hb dX8_calm_259 (lv_at hl 1 rfl) ?_
                  refine lv_ldiv hx hb dX8_calm_261 hx0 ?_
                  refine lv_topl (fun v_316 e_316 => ?_)
                  refine lv_goto (tgt := 270) hx hb dX8_calm_262 (by decide) ?_
                  have hX9 := cut2 (wc := [(xo_8_rrriirrriiiiiiirrirrrrri mo m_la m_sz m_it ms mt m_st m_mv m_tp (nI mz) ml (nI mp) mk mv mb mw m_rd m_ac (nI ma) m_as m_wo m_ik m_ke m_tr (nI mx)), (xI m_st cI 38 w_113), (xI m_as cI 38 fan_13)]) hP hD [0, 1, 2] (by decide +kernel) rfl
                  exact W.lret (v := v_316) hx hb hr (fun t ht hW => ⟨⟨v_316, (), rfl, trivial, ⟨w_113, fan_13, va_Ht ht hX9.1, hX9.2, hMl, hstE⟩⟩, hS.F ht⟩) hS.2.2 dX8_calm_270
              · have c_313 : ¬ (w_304 = 0) := fun h => c_313 ((lg_cmp_eq _ _).mpr h)
                refine lv_lload hx hb dX8_calm_234 (lv_at hl 1 rfl) ?_
                refine lv_lload hx hb dX8_calm_236 (lv_at hl 0 rfl) ?_
                refine lv_lrem hx hb dX8_calm_238 c_313 ?_
                refine lv_topl (fun v_317 e_317 => ?_)
                refine lv_lstore (lv' := [(13, .long v_317), (11, .long w_304), (9, .long w_305), (7, .long (lN (10 ^ w9))), (5, .long w_112), (0, .ref mo), (1, .int (nI j_1)), (2, .int (nI j_5)), (3, .int (nI j_8)), (4, .int a3)]) hx hb dX8_calm_239 hl (by decide) rfl (fun ls hl => ?_)
                refine lv_lload hx hb dX8_calm_241 (lv_at hl 1 rfl) ?_
                refine lv_lstore (lv' := [(9, .long w_304), (13, .long v_317), (11, .long w_304), (7, .long (lN (10 ^ w9))), (5, .long w_112), (0, .ref mo), (1, .int (nI j_1)), (2, .int (nI j_5)), (3, .int (nI j_8)), (4, .int a3)]) hx hb dX8_calm_243 hl (by decide) rfl (fun ls hl => ?_)
                refine lv_lload hx hb dX8_calm_245 (lv_at hl 1 rfl) ?_
                refine lv_lstore (lv' := [(11, .long v_317), (9, .long w_304), (13, .long v_317), (7, .long (lN (10 ^ w9))), (5, .long w_112), (0, .ref mo), (1, .int (nI j_1)), (2, .int (nI j_5)), (3, .int (nI j_8)), (4, .int a3)]) hx hb dX8_calm_247 hl (by decide) rfl (fun ls hl => ?_)
                refine lv_goto (tgt := 227) hx hb dX8_calm_249 (by decide) ?_
                exact ih (v_317, w_304) _ _ _ (by show Int.natAbs (Int64.toInt v_317) < _; rw [e_317]; exact lrem_lt c_313) ⟨lv_sub hl [0, 1, 3, 4, 5, 6, 7, 8, 9] rfl, hP.sub (ws' := [(xo_8_rrriirrriiiiiiirrirrrrri mo m_la m_sz m_it ms mt m_st m_mv m_tp (nI mz) ml (nI mp) mk mv mb mw m_rd m_ac (nI ma) m_as m_wo m_ik m_ke m_tr (nI mx)), (xI m_st cI 38 w_113), (xI m_as cI 38 fan_13)]) [0, 1, 2] rfl, hD.sub (ws' := [(xo_8_rrriirrriiiiiiirrirrrrri mo m_la m_sz m_it ms mt m_st m_mv m_tp (nI mz) ml (nI mp) mk mv mb mw m_rd m_ac (nI ma) m_as m_wo m_ik m_ke m_tr (nI mx)), (xI m_st cI 38 w_113), (xI m_as cI 38 fan_13)]) [0, 1, 2] (by decide +kernel) rfl, hS, hMl, (Or.inr c_313)⟩
        · skip
          refine lv_ldc2 (own := RX8) (v := (-1000001)) hx hb hown (hts _ mx_X8_calm_3) dX8_calm_40 ?_
          have hX9 := cut2 (wc := [(xo_8_rrriirrriiiiiiirrirrrrri mo m_la m_sz m_it ms mt m_st m_mv m_tp (nI mz) ml (nI mp) mk mv mb mw m_rd m_ac (nI ma) m_as m_wo m_ik m_ke m_tr (nI mx)), (xI m_st cI 38 fs), (xI m_as cI 38 fa)]) hP hD [0, 1, 2] (by decide +kernel) rfl
          exact W.lret (v := (-1000001)) hx hb hr (fun t ht hW => ⟨⟨(-1000001), (), rfl, trivial, ⟨fs, fa, va_Ht ht hX9.1, hX9.2, hM, rfl⟩⟩, hS.F ht⟩) hS.2.2 dX8_calm_43
theorem lf_X8_ones_1 {j : Nat} (hj : j < 64) : 0 + nI (onN j) = nI (onN j) := by
  first | (exact (Int32.zero_add _)) | (subst_vars; exact on_nI haf_0 (by omega) (by omega) rfl) | (refine Eq.trans ?_ (on_nI haf_0 (by omega) (by omega) (by assumption)); grind)
theorem lf_X8_ones_2 {j : Nat} {w_4 : Nat} {w_5 : Int32} (hj : j < 64) (haf_0 : (w_5 + nI (onN w_4) = nI (onN j))) (hnb_w_4 : w_4 ≤ 63) (c_12 : w_4 = 0) : w_5 = (nI (onN j)) := by
  first | (have h8 : onN 0 = 0 := rfl; grind [nI_0]) | grind
theorem lf_X8_ones_3 {j : Nat} {w_4 : Nat} {w_5 : Int32} {v_13 : Int32} {z_15 : Nat} (hj : j < 64) (haf_0 : (w_5 + nI (onN w_4) = nI (onN j))) (hnb_w_4 : w_4 ≤ 63) (c_12 : ¬ (w_4 = 0)) (e_13 : v_13 = w_5 + Int32.ofInt 1) (hz_15 : z_15 ≤ (w_4 - 1)) (hze_15 : z_15 = w_4 &&& (w_4 - 1)) : v_13 + nI (onN z_15) = nI (onN j) := by
  first | (exact (Int32.zero_add _)) | (subst_vars; exact on_nI haf_0 (by omega) (by omega) rfl) | (refine Eq.trans ?_ (on_nI haf_0 (by omega) (by omega) (by assumption)); grind)
set_option maxHeartbeats 4000000 in
set_option maxRecDepth 100000 in
theorem r_X8_ones (l : Launch) (dC : Nat → ClassId) (dI : Nat → Nat → Nat) (cI cZ cL cJ : ClassId) (j : Nat) (hj : j < 64) : Met l yX8_ones wsX8_ones ({ frames := 0, cells := 0, slots := 0, locals := 0 }) (va_Pc [.int (nI j)] (fun U => va_P (dC, dI) vwCl [] U.heap ∧ va_K (dC, dI) vwCl [(cI, .int), (cZ, .boolean), (cL, .object RX3), (cJ, .array .int)] U)) (vp_Si (fun r => r = (nI (onN j)))) 0 0 (fun _ => False) := by
  refine Met.ofW (cc := cX8_ones) (maxL := 3) (ret := (some .int)) (by decide) rfl ?_
  intro p e s m args below meth c s₁ B hml hv
  obtain ⟨rfl, hP, hK⟩ := hv
  have hx := B.exec
  have hb := B.bytes
  have hr := B.returns
  have hts := atoms_spec (ws := wsX8_ones) B.pre
  have hown : s.vm.findClass RX8 = some m.cls := findClass_of_methodNamed B.named
  have hlocks := B.notSynchronized
  have hP : va_P (dC, dI) vwCl [] s.heap := hP
  have hl := lv_entry ([.int (nI j)]) (n := 3) (Nat.le_of_ble_eq_true rfl)
  rw [lg_entry_eq]
  generalize (lg_sl ([.int (nI j)]) ++ List.replicate (3 - (lg_sl ([.int (nI j)])).length) Slot.unset).toArray = ls at hl ⊢
  have hl : lv_has ls 3 [(0, .int (nI j))] := hl
  refine lv_iconst (v := 0) hx hb dX8_ones_0 (by decide) ?_
  refine lv_istore_n (lv' := [(1, .int 0), (0, .int (nI j))]) hx hb dX8_ones_1 rfl hl (by decide) rfl (fun ls hl => ?_)
  refine lv_iload_n hx hb dX8_ones_2 rfl (lv_at hl 1 rfl) ?_
  refine lv_istore_n (lv' := [(2, .int (nI j)), (1, .int 0), (0, .int (nI j))]) hx hb dX8_ones_3 rfl hl (by decide) rfl (fun ls hl => ?_)
  refine lp_ms (σ := (Nat) × (Int32)) (fun (st : (Nat) × (Int32)) H locs ls => match st with | (w_4, w_5) => lv_has ls 3 [(2, .int (nI w_4)), (1, .int w_5), (0, .int (nI j))] ∧ H = s.heap ∧ locs = [] ∧ (w_5 + nI (onN w_4) = nI (onN j)) ∧ w_4 ≤ 63) (fun (st : (Nat) × (Int32)) => match st with | (w_4, w_5) => w_4) ?_ (j, 0) ⟨lv_sub hl [0, 1, 2] rfl, rfl, rfl, (lf_X8_ones_1 hj), (by omega)⟩
  rintro ⟨w_4, w_5⟩ H locs ls ⟨hl, rfl, rfl, haf_0, hnb_w_4⟩ ih
  refine lv_iload_n hx hb dX8_ones_4 rfl (lv_at hl 0 rfl) ?_
  refine lv_if_eq (tgt := 20) hx hb dX8_ones_5 (by decide) (fun c_12 => ?_) (fun c_12 => ?_)
  · have c_12 : w_4 = 0 := (nI_eq (a := w_4) (b := 0) (by omega) (by omega)).mp c_12
    refine lv_iload_n hx hb dX8_ones_20 rfl (lv_at hl 1 rfl) ?_
    exact W.iret (v := w_5) hx hb hr (fun t ht hW => ⟨w_5, rfl, (lf_X8_ones_2 hj haf_0 hnb_w_4 c_12), ht⟩) (fun _ h => by cases h) dX8_ones_21
  · have c_12 : ¬ (w_4 = 0) := fun q_ => c_12 ((nI_eq (a := w_4) (b := 0) (by omega) (by omega)).mpr q_)
    obtain ⟨v_13, e_13⟩ : ∃ y : Int32, y = w_5 + Int32.ofInt 1 := ⟨_, rfl⟩
    refine lv_iinc (v := v_13) (lv' := [(1, .int v_13), (2, .int (nI w_4)), (0, .int (nI j))]) hx hb dX8_ones_8 hl (k := 1) rfl e_13.symm (by decide) rfl (fun ls hl => ?_)
    refine lv_iload_n hx hb dX8_ones_11 rfl (lv_at hl 1 rfl) ?_
    refine lv_iload_n hx hb dX8_ones_12 rfl (lv_at hl 1 rfl) ?_
    refine lv_iconst (v := 1) hx hb dX8_ones_13 (by decide) ?_
    refine lv_isub hx hb dX8_ones_14 ?_
    refine lv_topi (fun v_14 e_14 => ?_)
    obtain rfl : v_14 = (nI (w_4 - 1)) := (e_14).trans (pk_sub (a := w_4) (b := 1) (by omega))
    refine lv_iand hx hb dX8_ones_15 ?_
    refine lv_topi (fun v_15 e_15 => ?_)
    obtain ⟨z_15, hz_15, hze_15, e2_15⟩ := and_nat (a := w_4) (b := (w_4 - 1)) (by omega) (by omega)
    obtain rfl : v_15 = nI z_15 := e_15.trans e2_15
    refine lv_istore_n (lv' := [(2, .int (nI z_15)), (1, .int v_13), (0, .int (nI j))]) hx hb dX8_ones_16 rfl hl (by decide) rfl (fun ls hl => ?_)
    refine lv_goto (tgt := 4) hx hb dX8_ones_17 (by decide) ?_
    exact ih (z_15, v_13) _ _ _ (by show z_15 < w_4; omega) ⟨lv_sub hl [0, 1, 2] rfl, rfl, rfl, (lf_X8_ones_3 hj haf_0 hnb_w_4 c_12 e_13 hz_15 hze_15), (by omega)⟩
set_option maxHeartbeats 4000000 in
set_option maxRecDepth 100000 in
theorem r_X8_drawn (l : Launch) (dC : Nat → ClassId) (dI : Nat → Nat → Nat) (cI cZ cL cJ : ClassId) (sz : Nat) (mo : Nat) (m_la : Nat) (m_sz : Nat) (m_it : Nat) (m_st : Nat) (m_mv : Nat) (m_tp : Nat) (m_rd : Nat) (m_ac : Nat) (m_as : Nat) (m_wo : Nat) (m_ik : Nat) (m_ke : Nat) (m_tr : Nat) (ms : Int32) (mt : Int32) (ml : Int32) (mk : Int32) (mv : Int32) (mb : Int32) (mw : Int32) (mz : Nat) (mp : Nat) (ma : Nat) (mx : Nat) (fs : Nat → Int32) (w9 : Nat) (k9 : Nat) (h9 : Nat) (fa : Nat → Int32) (a0 : Int32) (a1 : Int32) (a2 : Int32) (hM : okM fs w9 k9 h9) (hT : ¬ mt = 0 → 1 ≤ k9) (h999 : h9 ≤ 999) (hT0 : mt = 0 → fs 0 = 0 ∧ ma = 0) : Met l yX8_drawn wsX8_drawn ({ frames := 4, cells := 0, slots := 0, locals := 95 }) (va_Pc [.ref mo, .int a0, .int a1, .int a2] (fun U => U.heap.size = sz ∧ va_P (dC, dI) vwCl [(xo_8_rrriirrriiiiiiirrirrrrri mo m_la m_sz m_it ms mt m_st m_mv m_tp (nI mz) ml (nI mp) mk mv mb mw m_rd m_ac (nI ma) m_as m_wo m_ik m_ke m_tr (nI mx)), (xI m_st cI 38 fs), (xI m_as cI 38 fa)] U.heap ∧ va_K (dC, dI) vwCl [(cI, .int), (cZ, .boolean), (cL, .object RX3), (cJ, .array .int)] U ∧ va_D (fun _ => True) [(xo_8_rrriirrriiiiiiirrirrrrri mo m_la m_sz m_it ms mt m_st m_mv m_tp (nI mz) ml (nI mp) mk mv mb mw m_rd m_ac (nI ma) m_as m_wo m_ik m_ke m_tr (nI mx)), (xI m_st cI 38 fs), (xI m_as cI 38 fa)])) (va_Qi (fun r (_ : Unit) => True) (fun (_ : Unit) t => ∃ (fsn : Nat → Int32) (fan : Nat → Int32), va_P (dC, dI) vwCl [(xo_8_rrriirrriiiiiiirrirrrrri mo m_la m_sz m_it ms mt m_st m_mv m_tp (nI mz) ml (nI mp) mk mv mb mw m_rd m_ac (nI ma) m_as m_wo m_ik m_ke m_tr (nI mx)), (xI m_st cI 38 fsn), (xI m_as cI 38 fan)] t.heap ∧ va_D (va_A [(xo_8_rrriirrriiiiiiirrirrrrri mo m_la m_sz m_it ms mt m_st m_mv m_tp (nI mz) ml (nI mp) mk mv mb mw m_rd m_ac (nI ma) m_as m_wo m_ik m_ke m_tr (nI mx)), (xI m_st cI 38 fs), (xI m_as cI 38 fa)] sz) [(xo_8_rrriirrriiiiiiirrirrrrri mo m_la m_sz m_it ms mt m_st m_mv m_tp (nI mz) ml (nI mp) mk mv mb mw m_rd m_ac (nI ma) m_as m_wo m_ik m_ke m_tr (nI mx)), (xI m_st cI 38 fsn), (xI m_as cI 38 fan)] ∧ okM fsn w9 k9 h9 ∧ m38 fsn = m38 fs) (va_A [(xo_8_rrriirrriiiiiiirrirrrrri mo m_la m_sz m_it ms mt m_st m_mv m_tp (nI mz) ml (nI mp) mk mv mb mw m_rd m_ac (nI ma) m_as m_wo m_ik m_ke m_tr (nI mx)), (xI m_st cI 38 fs), (xI m_as cI 38 fa)] sz)) 0 0 (va_A [(xo_8_rrriirrriiiiiiirrirrrrri mo m_la m_sz m_it ms mt m_st m_mv m_tp (nI mz) ml (nI mp) mk mv mb mw m_rd m_ac (nI ma) m_as m_wo m_ik m_ke m_tr (nI mx)), (xI m_st cI 38 fs), (xI m_as cI 38 fa)] sz) := by
  refine Met.ofW (cc := cX8_drawn) (maxL := 9) (ret := (some .int)) (by decide) rfl ?_
  intro p e s m args below meth c s₁ B hml hv
  obtain ⟨rfl, hsz, hP, hK, hD0⟩ := hv
  have hx := B.exec
  have hb := B.bytes
  have hr := B.returns
  have hts := atoms_spec (ws := wsX8_drawn) B.pre
  have hown : s.vm.findClass RX8 = some m.cls := findClass_of_methodNamed B.named
  have hlocks := B.notSynchronized
  subst hsz
  have hD := hD0.self (sz := s.heap.size)
  generalize hAe : va_A [(xo_8_rrriirrriiiiiiirrirrrrri mo m_la m_sz m_it ms mt m_st m_mv m_tp (nI mz) ml (nI mp) mk mv mb mw m_rd m_ac (nI ma) m_as m_wo m_ik m_ke m_tr (nI mx)), (xI m_st cI 38 fs), (xI m_as cI 38 fa)] s.heap.size = A at hD ⊢
  have hA : ∀ q : Nat, s.heap.size ≤ q → A q := fun q h => by rw [← hAe]; exact Or.inr h
  have hS : va_S A s.heap s.heap [] := va_S.rf
  have hP : va_P (dC, dI) vwCl [(xo_8_rrriirrriiiiiiirrirrrrri mo m_la m_sz m_it ms mt m_st m_mv m_tp (nI mz) ml (nI mp) mk mv mb mw m_rd m_ac (nI ma) m_as m_wo m_ik m_ke m_tr (nI mx)), (xI m_st cI 38 fs), (xI m_as cI 38 fa)] s.heap := hP
  have hl := lv_entry ([.ref mo, .int a0, .int a1, .int a2]) (n := 9) (Nat.le_of_ble_eq_true rfl)
  rw [lg_entry_eq]
  generalize (lg_sl ([.ref mo, .int a0, .int a1, .int a2]) ++ List.replicate (9 - (lg_sl ([.ref mo, .int a0, .int a1, .int a2])).length) Slot.unset).toArray = ls at hl ⊢
  have hl : lv_has ls 9 [(0, .ref mo), (1, .int a0), (2, .int a1), (3, .int a2)] := hl
  have hk6 := hM.2.2.2.2.1
  have hw6 := hM.2.2.2.1
  refine lv_aload_n hx hb dX8_drawn_0 rfl (lv_at hl 0 rfl) ?_
  refine va_get (D := (dC, dI)) (ci := 8) (v := .int mt) (C := RX8) (T := TX8) (N := 24) hx hb hts i_X8_drawn_X8 hown hK hP 0 rfl rfl 4 (by decide) (hts _ mx_X8_drawn_1) (fun _ h9 => h9) rfl dX8_drawn_1 ?_
  refine lv_if_ne (tgt := 10) hx hb dX8_drawn_4 (by decide) (fun c_1 => ?_) (fun c_1 => ?_)
  · skip
    have hkn1 := hT c_1
    have hw1 := hM.2.2.2.2.2.1.mp hkn1
    refine lv_iload_n hx hb dX8_drawn_10 rfl (lv_at hl 1 rfl) ?_
    refine lv_i2l hx hb dX8_drawn_11 rfl ?_
    refine lv_lconst (v := 0) hx hb dX8_drawn_12 (by decide) ?_
    refine lv_ldc2 (own := RX8) (v := 60) hx hb hown (hts _ mx_X8_drawn_3) dX8_drawn_13 ?_
    have hPc_2 := hP.sub (ws' := []) [] rfl
    refine vp_callSi (W.runS (As := [.long (a0).toInt64, .long 0, .long 60]) (rest := []) ⟨hx, hb, hml, hown, hts⟩ (r_X8_in l dC dI cI cZ cL cJ ((a0).toInt64) 0 60 ) (va_cwS 3 hts gX8_drawn_X8_in rfl rfl rfl (by decide +kernel) ⟨Nat.le_of_ble_eq_true rfl, Nat.le_of_ble_eq_true rfl⟩) (psP hK hPc_2) rfl rfl hl.1 rfl (lv_room (Nat.le_of_ble_eq_true rfl)) dX8_drawn_16 ⟨Nat.le_of_ble_eq_true rfl, Nat.le_of_ble_eq_true rfl⟩) (fun r_2 h_2 => ?_)
    rcases h_2 with ⟨h_2, f_2_0_0⟩ | ⟨h_2, f_2_1_0⟩
    · subst h_2
      refine lv_if_eq (tgt := 41) hx hb dX8_drawn_19 (by decide) (fun _ => ?_) (fun c_ => absurd (by decide) c_)
      refine lv_ldc (own := RX8) (v := (-1000001)) hx hb hown (hts _ mx_X8_drawn_5) dX8_drawn_41 ?_
      have hX9 := cut2 (wc := [(xo_8_rrriirrriiiiiiirrirrrrri mo m_la m_sz m_it ms mt m_st m_mv m_tp (nI mz) ml (nI mp) mk mv mb mw m_rd m_ac (nI ma) m_as m_wo m_ik m_ke m_tr (nI mx)), (xI m_st cI 38 fs), (xI m_as cI 38 fa)]) hP hD [0, 1, 2] (by decide +kernel) rfl
      exact W.iret (v := (-1000001)) hx hb hr (fun t ht hW => ⟨⟨(-1000001), (), rfl, trivial, ⟨fs, fa, va_Ht ht hX9.1, hX9.2, hM, rfl⟩⟩, hS.F ht⟩) hS.2.2 dX8_drawn_43
    · subst h_2
      obtain ⟨j_2, hj_2, hl_2, rfl⟩ := in64 (lo := 0) (n := 60) rfl rfl (by decide) f_2_1_0
      refine lv_if_eq (tgt := 41) hx hb dX8_drawn_19 (by decide) (fun c_ => absurd c_ (by decide)) (fun _ => ?_)
      refine lv_iload_n hx hb dX8_drawn_22 rfl (lv_at hl 2 rfl) ?_
      refine lv_i2l hx hb dX8_drawn_23 rfl ?_
      refine lv_lconst (v := 1) hx hb dX8_drawn_24 (by decide) ?_
      refine lv_ldc2 (own := RX8) (v := 999999) hx hb hown (hts _ mx_X8_drawn_4) dX8_drawn_25 ?_
      have hPc_5 := hP.sub (ws' := []) [] rfl
      refine vp_callSi (W.runS (As := [.long (a1).toInt64, .long 1, .long 999999]) (rest := []) ⟨hx, hb, hml, hown, hts⟩ (r_X8_in l dC dI cI cZ cL cJ ((a1).toInt64) 1 999999 ) (va_cwS 3 hts gX8_drawn_X8_in rfl rfl rfl (by decide +kernel) ⟨Nat.le_of_ble_eq_true rfl, Nat.le_of_ble_eq_true rfl⟩) (psP hK hPc_5) rfl rfl hl.1 rfl (lv_room (Nat.le_of_ble_eq_true rfl)) dX8_drawn_28 ⟨Nat.le_of_ble_eq_true rfl, Nat.le_of_ble_eq_true rfl⟩) (fun r_5 h_5 => ?_)
      rcases h_5 with ⟨h_5, f_5_0_0⟩ | ⟨h_5, f_5_1_0⟩
      · subst h_5
        refine lv_if_eq (tgt := 41) hx hb dX8_drawn_31 (by decide) (fun _ => ?_) (fun c_ => absurd (by decide) c_)
        refine lv_ldc (own := RX8) (v := (-1000001)) hx hb hown (hts _ mx_X8_drawn_5) dX8_drawn_41 ?_
        have hX9 := cut2 (wc := [(xo_8_rrriirrriiiiiiirrirrrrri mo m_la m_sz m_it ms mt m_st m_mv m_tp (nI mz) ml (nI mp) mk mv mb mw m_rd m_ac (nI ma) m_as m_wo m_ik m_ke m_tr (nI mx)), (xI m_st cI 38 fs), (xI m_as cI 38 fa)]) hP hD [0, 1, 2] (by decide +kernel) rfl
        exact W.iret (v := (-1000001)) hx hb hr (fun t ht hW => ⟨⟨(-1000001), (), rfl, trivial, ⟨fs, fa, va_Ht ht hX9.1, hX9.2, hM, rfl⟩⟩, hS.F ht⟩) hS.2.2 dX8_drawn_43
      · subst h_5
        obtain ⟨j_5, hj_5, hl_5, rfl⟩ := in64 (lo := 1) (n := 999999) rfl rfl (by decide) f_5_1_0
        refine lv_if_eq (tgt := 41) hx hb dX8_drawn_31 (by decide) (fun c_ => absurd c_ (by decide)) (fun _ => ?_)
        refine lv_iload_n hx hb dX8_drawn_34 rfl (lv_at hl 3 rfl) ?_
        have hPc_8 := hP.sub (ws' := []) [] rfl
        refine vp_callSi (W.runS (As := [.int a2]) (rest := []) ⟨hx, hb, hml, hown, hts⟩ (r_X8_isWhat l dC dI cI cZ cL cJ a2 ) (va_cwS 1 hts gX8_drawn_X8_isWhat rfl rfl rfl (by decide +kernel) ⟨Nat.le_of_ble_eq_true rfl, Nat.le_of_ble_eq_true rfl⟩) (psP hK hPc_8) rfl rfl hl.1 rfl (lv_room (Nat.le_of_ble_eq_true rfl)) dX8_drawn_35 ⟨Nat.le_of_ble_eq_true rfl, Nat.le_of_ble_eq_true rfl⟩) (fun r_8 h_8 => ?_)
        refine lv_if_ne (tgt := 44) hx hb dX8_drawn_38 (by decide) (fun c_9 => ?_) (fun c_9 => ?_)
        · skip
          refine lv_aload_n hx hb dX8_drawn_44 rfl (lv_at hl 0 rfl) ?_
          have hc_10 := cutW (wc := [(xo_8_rrriirrriiiiiiirrirrrrri mo m_la m_sz m_it ms mt m_st m_mv m_tp (nI mz) ml (nI mp) mk mv mb mw m_rd m_ac (nI ma) m_as m_wo m_ik m_ke m_tr (nI mx)), (xI m_st cI 38 fs), (xI m_as cI 38 fa)]) hP hD hS hA [0, 1, 2] (by decide +kernel) rfl
          refine va_callv (va_runV (As := []) (rest := []) ⟨hx, hb, hml, hown, hts⟩ (r_X8_putAside l dC dI cI cZ cL cJ s.heap.size mo m_la m_sz m_it m_st m_mv m_tp m_rd m_ac m_as m_wo m_ik m_ke m_tr ms mt ml mk mv mb mw mz mp ma mx fs fa ) (cwV 0 hts gX8_drawn_X8_putAside rfl rfl rfl (by decide +kernel) ⟨Nat.le_of_ble_eq_true rfl, Nat.le_of_ble_eq_true rfl⟩) (pvW 8 0 hK hP rfl rfl hc_10) rfl rfl hl.1 rfl (lv_room (Nat.le_of_ble_eq_true rfl)) dX8_drawn_45 ⟨Nat.le_of_ble_eq_true rfl, Nat.le_of_ble_eq_true rfl⟩) hS (fun q _ h => hc_10.2.2 q h) hc_10.2.2 (fun u_10 t_10 H1 locs ht hvm h_10 hB hz1 hk1 hS => ?_)
          refine xl_1_3 hB (fun fan_10 hP1 hD1 hF_10_0 => ?_)
          clear hB
          rw [ht] at hP1
          obtain ⟨hP, hD⟩ := va_join (wr := []) (w1 := [(xo_8_rrriirrriiiiiiirrirrrrri mo m_la m_sz m_it ms mt m_st m_mv m_tp (nI mz) ml (nI mp) mk mv mb mw m_rd m_ac (nI ma) m_as m_wo m_ik m_ke m_tr (nI mx)), (xI m_st cI 38 fs), (xI m_as cI 38 fan_10)]) hP hD [0, 1, 2] [] rfl rfl (by decide +kernel) (by decide +kernel) hk1 hc_10.2.2 hP1 hD1
          generalize H1 = H at hP hS ⊢
          have hP : va_P (dC, dI) vwCl [(xo_8_rrriirrriiiiiiirrirrrrri mo m_la m_sz m_it ms mt m_st m_mv m_tp (nI mz) ml (nI mp) mk mv mb mw m_rd m_ac (nI ma) m_as m_wo m_ik m_ke m_tr (nI mx)), (xI m_st cI 38 fs), (xI m_as cI 38 fan_10)] H := hP
          have hD := dto hP hD
          have hA_10 := okM_eq hM hF_10_0
          refine lv_iload_n hx hb dX8_drawn_48 rfl (lv_at hl 2 rfl) ?_
          refine lv_i2l (v := (lN j_5)) hx hb dX8_drawn_49 (nI_l (by omega)) ?_
          refine lv_lstore (lv' := [(4, .long (lN j_5)), (0, .ref mo), (1, .int (nI j_2)), (2, .int (nI j_5)), (3, .int a2)]) hx hb dX8_drawn_50 hl (by decide) rfl (fun ls hl => ?_)
          refine lv_iconst (v := 0) hx hb dX8_drawn_52 (by decide) ?_
          refine lv_istore (lv' := [(6, .int 0), (4, .long (lN j_5)), (0, .ref mo), (1, .int (nI j_2)), (2, .int (nI j_5)), (3, .int a2)]) hx hb dX8_drawn_53 hl (by decide) rfl (fun ls hl => ?_)
          refine lv_iconst (v := 0) hx hb dX8_drawn_55 (by decide) ?_
          refine lv_istore (lv' := [(7, .int 0), (6, .int 0), (4, .long (lN j_5)), (0, .ref mo), (1, .int (nI j_2)), (2, .int (nI j_5)), (3, .int a2)]) hx hb dX8_drawn_56 hl (by decide) rfl (fun ls hl => ?_)
          refine lp_go (σ := (Int32) × (Nat) × (Nat → Int32)) (fun ii (st : (Int32) × (Nat) × (Nat → Int32)) H locs ls => match st with | (w_54, w_55, w_56) => lv_has ls 9 [(7, .int (nI ii)), (6, .int w_54), (4, .long (lN w_55)), (0, .ref mo), (1, .int (nI j_2)), (2, .int (nI j_5)), (3, .int a2)] ∧ va_P (dC, dI) vwCl [(xo_8_rrriirrriiiiiiirrirrrrri mo m_la m_sz m_it ms mt m_st m_mv m_tp (nI mz) ml (nI mp) mk mv mb mw m_rd m_ac (nI ma) m_as m_wo m_ik m_ke m_tr (nI mx)), (xI m_st cI 38 w_56), (xI m_as cI 38 fan_10)] H ∧ va_D A [(xo_8_rrriirrriiiiiiirrirrrrri mo m_la m_sz m_it ms mt m_st m_mv m_tp (nI mz) ml (nI mp) mk mv mb mw m_rd m_ac (nI ma) m_as m_wo m_ik m_ke m_tr (nI mx)), (xI m_st cI 38 w_56), (xI m_as cI 38 fan_10)] ∧ va_S A s.heap H locs ∧ okM w_56 w9 k9 (h9 + ii) ∧ w_55 ≤ 2147483646) j_2 ?_ ?_ 0 (by omega) (0, j_5, fs) ⟨lv_sub hl [0, 1, 2, 3, 4, 5, 6] rfl, hP.sub (ws' := [(xo_8_rrriirrriiiiiiirrirrrrri mo m_la m_sz m_it ms mt m_st m_mv m_tp (nI mz) ml (nI mp) mk mv mb mw m_rd m_ac (nI ma) m_as m_wo m_ik m_ke m_tr (nI mx)), (xI m_st cI 38 fs), (xI m_as cI 38 fan_10)]) [0, 1, 2] rfl, hD.sub (ws' := [(xo_8_rrriirrriiiiiiirrirrrrri mo m_la m_sz m_it ms mt m_st m_mv m_tp (nI mz) ml (nI mp) mk mv mb mw m_rd m_ac (nI ma) m_as m_wo m_ik m_ke m_tr (nI mx)), (xI m_st cI 38 fs), (xI m_as cI 38 fan_10)]) [0, 1, 2] (by decide +kernel) rfl, hS, hM, (by omega)⟩
          · rintro ii ⟨w_54, w_55, w_56⟩ H locs ls hii ⟨hl, hP, hD, hS, hMl, hnb_w_55⟩ ih
            refine lv_iload hx hb dX8_drawn_58 (lv_at hl 0 rfl) ?_
            refine lv_iload_n hx hb dX8_drawn_60 rfl (lv_at hl 4 rfl) ?_
            refine lv_icmp_ge (tgt := 194) hx hb dX8_drawn_61 (by decide) (fun c_ => absurd c_ (fun q_ => absurd ((nI_leI (a := j_2) (b := ii) (by omega) (by omega)).mp q_) (by omega))) (fun _ => ?_)
            refine lv_lload hx hb dX8_drawn_64 (lv_at hl 2 rfl) ?_
            refine lv_ldc2 (own := RX8) (v := 16807) hx hb hown (hts _ mx_X8_drawn_6) dX8_drawn_66 ?_
            refine lv_lmul hx hb dX8_drawn_69 ?_
            refine lv_topl (fun v_104 e_104 => ?_)
            obtain rfl : v_104 = (lN (w_55 * 16807)) := (e_104).trans (lN_mul w_55 16807)
            refine lv_ldc2 (own := RX8) (v := 2147483647) hx hb hown (hts _ mx_X8_drawn_7) dX8_drawn_70 ?_
            refine lv_lrem hx hb dX8_drawn_73 (by decide) ?_
            refine lv_topl (fun v_105 e_105 => ?_)
            obtain ⟨z_105, hz_105, rfl⟩ : ∃ z : Nat, z < 2147483647 ∧ v_105 = lN z := ⟨(w_55 * 16807) % 2147483647, Nat.mod_lt _ (by omega), e_105.trans (pk_lRem (a := (w_55 * 16807)) (b := 2147483647) (by omega) (by omega) (by omega))⟩
            refine lv_lstore (lv' := [(4, .long (lN z_105)), (7, .int (nI ii)), (6, .int w_54), (0, .ref mo), (1, .int (nI j_2)), (2, .int (nI j_5)), (3, .int a2)]) hx hb dX8_drawn_74 hl (by decide) rfl (fun ls hl => ?_)
            refine lv_lload hx hb dX8_drawn_76 (lv_at hl 0 rfl) ?_
            refine lv_ldc2 (own := RX8) (v := 3) hx hb hown (hts _ mx_X8_drawn_8) dX8_drawn_78 ?_
            refine lv_lrem hx hb dX8_drawn_81 (by decide) ?_
            refine lv_topl (fun v_106 e_106 => ?_)
            obtain ⟨z_106, hz_106, rfl⟩ : ∃ z : Nat, z < 3 ∧ v_106 = lN z := ⟨z_105 % 3, Nat.mod_lt _ (by omega), e_106.trans (pk_lRem (a := z_105) (b := 3) (by omega) (by omega) (by omega))⟩
            refine lv_lconst (v := 0) hx hb dX8_drawn_82 (by decide) ?_
            refine W.lcmp hx hb dX8_drawn_83 ?_
            refine lv_topi (fun v_107 e_107 => ?_)
            refine jn (σ := (Nat → Int32)) (fun (st : (Nat → Int32)) H locs g => match st with | w_114 => ∃ ls : Array Slot, g = F0 m 113 ls [] ∧ lv_has ls 9 [(4, .long (lN z_105)), (7, .int (nI ii)), (6, .int w_54), (0, .ref mo), (1, .int (nI j_2)), (2, .int (nI j_5)), (3, .int a2)] ∧ va_P (dC, dI) vwCl [(xo_8_rrriirrriiiiiiirrirrrrri mo m_la m_sz m_it ms mt m_st m_mv m_tp (nI mz) ml (nI mp) mk mv mb mw m_rd m_ac (nI ma) m_as m_wo m_ik m_ke m_tr (nI mx)), (xI m_st cI 38 w_114), (xI m_as cI 38 fan_10)] H ∧ va_D A [(xo_8_rrriirrriiiiiiirrirrrrri mo m_la m_sz m_it ms mt m_st m_mv m_tp (nI mz) ml (nI mp) mk mv mb mw m_rd m_ac (nI ma) m_as m_wo m_ik m_ke m_tr (nI mx)), (xI m_st cI 38 w_114), (xI m_as cI 38 fan_10)] ∧ va_S A s.heap H locs ∧ okM w_114 w9 k9 (h9 + ii)) ?_ ?_
            · rintro w_114 H locs _ ⟨ls, rfl, hl, hP, hD, hS, hMl⟩
              refine lv_aload_n hx hb dX8_drawn_113 rfl (lv_at hl 3 rfl) ?_
              refine va_get (D := (dC, dI)) (ci := 8) (v := .ref m_st) (C := RX8) (T := TX8) (N := 24) hx hb hts i_X8_drawn_X8 hown hK hP 0 rfl rfl 5 (by decide) (hts _ mx_X8_drawn_9) (fun _ h9 => h9) rfl dX8_drawn_114 ?_
              refine lv_bipush (v := 6) hx hb dX8_drawn_117 (by decide) ?_
              refine lv_lload hx hb dX8_drawn_119 (lv_at hl 0 rfl) ?_
              refine lv_ldc2 (own := RX8) (v := 2) hx hb hown (hts _ mx_X8_drawn_11) dX8_drawn_121 ?_
              refine lv_lrem hx hb dX8_drawn_124 (by decide) ?_
              refine lv_topl (fun v_116 e_116 => ?_)
              obtain ⟨z_116, hz_116, rfl⟩ : ∃ z : Nat, z < 2 ∧ v_116 = lN z := ⟨z_105 % 2, Nat.mod_lt _ (by omega), e_116.trans (pk_lRem (a := z_105) (b := 2) (by omega) (by omega) (by omega))⟩
              refine lv_l2i (v := (nI z_116)) hx hb dX8_drawn_125 (lN_i z_116) ?_
              refine va_iast hx hb hK hP hD hS 1 0 rfl rfl (by unfold vp_in; decide) dX8_drawn_126 (fun H locs hP hD hS => ?_)
              generalize hg_117 : upd w_114 (6 : Int32).toNatClampNeg (nI z_116) = g_117 at hP hD
              have hM_117 : okM g_117 w9 k9 (h9 + ii) := okM_off (i := 6) hMl hg_117 (by omega) (by omega) (by omega) (by omega) (by omega)
              have hP : va_P (dC, dI) vwCl [(xo_8_rrriirrriiiiiiirrirrrrri mo m_la m_sz m_it ms mt m_st m_mv m_tp (nI mz) ml (nI mp) mk mv mb mw m_rd m_ac (nI ma) m_as m_wo m_ik m_ke m_tr (nI mx)), (xI m_st cI 38 g_117), (xI m_as cI 38 fan_10)] H := hP
              have hD := dto hP hD
              refine lv_lload hx hb dX8_drawn_127 (lv_at hl 0 rfl) ?_
              refine lv_aload_n hx hb dX8_drawn_129 rfl (lv_at hl 3 rfl) ?_
              refine va_get (D := (dC, dI)) (ci := 8) (v := .ref m_st) (C := RX8) (T := TX8) (N := 24) hx hb hts i_X8_drawn_X8 hown hK hP 0 rfl rfl 5 (by decide) (hts _ mx_X8_drawn_9) (fun _ h9 => h9) rfl dX8_drawn_130 ?_
              refine lv_iconst (v := 4) hx hb dX8_drawn_133 (by decide) ?_
              refine va_iald hx hb hK hP 1 0 rfl rfl (by unfold vp_in; decide) dX8_drawn_134 ?_
              refine lv_topi (fun v_118 e_118 => ?_)
              obtain rfl : v_118 = (nI k9) := (e_118).trans hM_117.2.1
              refine lv_i2l (v := (lN k9)) hx hb dX8_drawn_135 (nI_l (by omega)) ?_
              refine lv_lrem hx hb dX8_drawn_136 (lN_nz (by omega) (by omega)) ?_
              refine lv_topl (fun v_119 e_119 => ?_)
              obtain ⟨z_119, hz_119, rfl⟩ : ∃ z : Nat, z < k9 ∧ v_119 = lN z := ⟨z_105 % k9, Nat.mod_lt _ (by omega), e_119.trans (pk_lRem (a := z_105) (b := k9) (by omega) (by omega) (by omega))⟩
              refine lv_l2i (v := (nI z_119)) hx hb dX8_drawn_137 (lN_i z_119) ?_
              refine lv_istore (lv' := [(8, .int (nI z_119)), (4, .long (lN z_105)), (7, .int (nI ii)), (6, .int w_54), (0, .ref mo), (1, .int (nI j_2)), (2, .int (nI j_5)), (3, .int a2)]) hx hb dX8_drawn_138 hl (by decide) rfl (fun ls hl => ?_)
              refine lv_aload_n hx hb dX8_drawn_140 rfl (lv_at hl 4 rfl) ?_
              refine va_get (D := (dC, dI)) (ci := 8) (v := .ref m_st) (C := RX8) (T := TX8) (N := 24) hx hb hts i_X8_drawn_X8 hown hK hP 0 rfl rfl 5 (by decide) (hts _ mx_X8_drawn_9) (fun _ h9 => h9) rfl dX8_drawn_141 ?_
              refine lv_bipush (v := 26) hx hb dX8_drawn_144 (by decide) ?_
              refine lv_iload hx hb dX8_drawn_146 (lv_at hl 0 rfl) ?_
              refine lv_iadd hx hb dX8_drawn_148 ?_
              refine lv_topi (fun v_120 e_120 => ?_)
              obtain rfl : v_120 = (nI (26 + z_119)) := (e_120).trans (nI_add 26 z_119)
              refine va_iald hx hb hK hP 1 0 rfl rfl (vp_in_nI (by omega) (by omega)) dX8_drawn_149 ?_
              refine lv_topi (fun v_121 e_121 => ?_)
              refine jn (σ := (Nat → Int32)) (fun (st : (Nat → Int32)) H locs g => match st with | w_129 => ∃ ls : Array Slot, g = F0 m 179 ls [] ∧ lv_has ls 9 [(8, .int (nI z_119)), (4, .long (lN z_105)), (7, .int (nI ii)), (6, .int w_54), (0, .ref mo), (1, .int (nI j_2)), (2, .int (nI j_5)), (3, .int a2)] ∧ va_P (dC, dI) vwCl [(xo_8_rrriirrriiiiiiirrirrrrri mo m_la m_sz m_it ms mt m_st m_mv m_tp (nI mz) ml (nI mp) mk mv mb mw m_rd m_ac (nI ma) m_as m_wo m_ik m_ke m_tr (nI mx)), (xI m_st cI 38 w_129), (xI m_as cI 38 fan_10)] H ∧ va_D A [(xo_8_rrriirrriiiiiiirrirrrrri mo m_la m_sz m_it ms mt m_st m_mv m_tp (nI mz) ml (nI mp) mk mv mb mw m_rd m_ac (nI ma) m_as m_wo m_ik m_ke m_tr (nI mx)), (xI m_st cI 38 w_129), (xI m_as cI 38 fan_10)] ∧ va_S A s.heap H locs ∧ okM w_129 w9 k9 (h9 + ii)) ?_ ?_
              · rintro w_129 H locs _ ⟨ls, rfl, hl, hP, hD, hS, hMl⟩
                refine lv_iload hx hb dX8_drawn_179 (lv_at hl 3 rfl) ?_
                refine lv_aload_n hx hb dX8_drawn_181 rfl (lv_at hl 4 rfl) ?_
                have hc_131 := cutW (wc := [(xo_8_rrriirrriiiiiiirrirrrrri mo m_la m_sz m_it ms mt m_st m_mv m_tp (nI mz) ml (nI mp) mk mv mb mw m_rd m_ac (nI ma) m_as m_wo m_ik m_ke m_tr (nI mx)), (xI m_st cI 38 w_129)]) hP hD hS hA [0, 1] (by decide +kernel) rfl
                refine va_calli (va_runV (As := []) (rest := [.int w_54]) ⟨hx, hb, hml, hown, hts⟩ (r_X8_oneHour l dC dI cI cZ cL cJ H.size mo m_la m_sz m_it m_st m_mv m_tp m_rd m_ac m_as m_wo m_ik m_ke m_tr ms mt ml mk mv mb mw mz mp ma mx w_129 w9 k9 (h9 + ii) (hMl) (by omega) (by omega)) (cwV 0 hts gX8_drawn_X8_oneHour rfl rfl rfl (by decide +kernel) ⟨Nat.le_of_ble_eq_true rfl, Nat.le_of_ble_eq_true rfl⟩) (pvW 8 0 hK hP rfl rfl hc_131) rfl rfl hl.1 rfl (lv_room (Nat.le_of_ble_eq_true rfl)) dX8_drawn_182 ⟨Nat.le_of_ble_eq_true rfl, Nat.le_of_ble_eq_true rfl⟩) hS (fun q _ h => hc_131.2.2 q h) hc_131.2.2 (fun r_131 u_131 t_131 H1 locs ht hvm h_131 hB hz1 hk1 hS => ?_)
                refine xl_1_4 hB (fun fsn_131 hP1 hD1 hF_131_0 hF_131_1 => ?_)
                clear hB
                rw [ht] at hP1
                obtain ⟨hP, hD⟩ := va_join (wr := [(xI m_as cI 38 fan_10)]) (w1 := [(xo_8_rrriirrriiiiiiirrirrrrri mo m_la m_sz m_it ms mt m_st m_mv m_tp (nI mz) ml (nI mp) mk mv mb mw m_rd m_ac (nI ma) m_as m_wo m_ik m_ke m_tr (nI mx)), (xI m_st cI 38 fsn_131)]) hP hD [0, 1] [2] rfl rfl (by decide +kernel) (by decide +kernel) hk1 hc_131.2.2 hP1 hD1
                generalize H1 = H at hP hS ⊢
                have hP : va_P (dC, dI) vwCl [(xI m_as cI 38 fan_10), (xo_8_rrriirrriiiiiiirrirrrrri mo m_la m_sz m_it ms mt m_st m_mv m_tp (nI mz) ml (nI mp) mk mv mb mw m_rd m_ac (nI ma) m_as m_wo m_ik m_ke m_tr (nI mx)), (xI m_st cI 38 fsn_131)] H := hP
                have hD := dto hP hD
                refine lv_iadd hx hb dX8_drawn_185 ?_
                refine lv_topi (fun v_132 e_132 => ?_)
                refine lv_istore (lv' := [(6, .int v_132), (8, .int (nI z_119)), (4, .long (lN z_105)), (7, .int (nI ii)), (0, .ref mo), (1, .int (nI j_2)), (2, .int (nI j_5)), (3, .int a2)]) hx hb dX8_drawn_186 hl (by decide) rfl (fun ls hl => ?_)
                refine lv_iinc (v := (nI (ii + 1))) (lv' := [(7, .int (nI (ii + 1))), (6, .int v_132), (8, .int (nI z_119)), (4, .long (lN z_105)), (0, .ref mo), (1, .int (nI j_2)), (2, .int (nI j_5)), (3, .int a2)]) hx hb dX8_drawn_188 hl (k := 3) rfl (nI_add ii 1) (by decide) rfl (fun ls hl => ?_)
                refine lv_goto (tgt := 58) hx hb dX8_drawn_191 (by decide) ?_
                exact ih (v_132, z_105, fsn_131) _ _ _ ⟨lv_sub hl [0, 1, 3, 4, 5, 6, 7] rfl, hP.sub (ws' := [(xo_8_rrriirrriiiiiiirrirrrrri mo m_la m_sz m_it ms mt m_st m_mv m_tp (nI mz) ml (nI mp) mk mv mb mw m_rd m_ac (nI ma) m_as m_wo m_ik m_ke m_tr (nI mx)), (xI m_st cI 38 fsn_131), (xI m_as cI 38 fan_10)]) [1, 2, 0] rfl, hD.sub (ws' := [(xo_8_rrriirrriiiiiiirrirrrrri mo m_la m_sz m_it ms mt m_st m_mv m_tp (nI mz) ml (nI mp) mk mv mb mw m_rd m_ac (nI ma) m_as m_wo m_ik m_ke m_tr (nI mx)), (xI m_st cI 38 fsn_131), (xI m_as cI 38 fan_10)]) [1, 2, 0] (by decide +kernel) rfl, hS, hF_131_0, (by omega)⟩
              · intro jk_130
                refine lv_if_eq (tgt := 179) hx hb dX8_drawn_150 (by decide) (fun c_133 => ?_) (fun c_133 => ?_)
                · skip
                  exact jk_130 (g_117) _ _ _ ⟨ls, rfl, lv_sub hl [0, 1, 2, 3, 4, 5, 6, 7] rfl, hP.sub (ws' := [(xo_8_rrriirrriiiiiiirrirrrrri mo m_la m_sz m_it ms mt m_st m_mv m_tp (nI mz) ml (nI mp) mk mv mb mw m_rd m_ac (nI ma) m_as m_wo m_ik m_ke m_tr (nI mx)), (xI m_st cI 38 g_117), (xI m_as cI 38 fan_10)]) [0, 1, 2] rfl, hD.sub (ws' := [(xo_8_rrriirrriiiiiiirrirrrrri mo m_la m_sz m_it ms mt m_st m_mv m_tp (nI mz) ml (nI mp) mk mv mb mw m_rd m_ac (nI ma) m_as m_wo m_ik m_ke m_tr (nI mx)), (xI m_st cI 38 g_117), (xI m_as cI 38 fan_10)]) [0, 1, 2] (by decide +kernel) rfl, hS, hM_117⟩
                · skip
                  refine lv_aload_n hx hb dX8_drawn_153 rfl (lv_at hl 4 rfl) ?_
                  refine lv_iload hx hb dX8_drawn_154 (lv_at hl 0 rfl) ?_
                  refine lv_lload hx hb dX8_drawn_156 (lv_at hl 1 rfl) ?_
                  refine lv_aload_n hx hb dX8_drawn_158 rfl (lv_at hl 4 rfl) ?_
                  refine va_get (D := (dC, dI)) (ci := 8) (v := .ref m_st) (C := RX8) (T := TX8) (N := 24) hx hb hts i_X8_drawn_X8 hown hK hP 0 rfl rfl 5 (by decide) (hts _ mx_X8_drawn_9) (fun _ h9 => h9) rfl dX8_drawn_159 ?_
                  refine lv_iconst (v := 0) hx hb dX8_drawn_162 (by decide) ?_
                  refine va_iald hx hb hK hP 1 0 rfl rfl (by unfold vp_in; decide) dX8_drawn_163 ?_
                  obtain ⟨c_134, hc1_134, hc2_134, hce_134⟩ := hM_117.2.2.2.2.2.2.1
                  refine lv_topi (fun v_135 e_135 => ?_)
                  obtain rfl : v_135 = (nI c_134) := (e_135).trans hce_134
                  refine lv_i2l (v := (lN c_134)) hx hb dX8_drawn_164 (nI_l (by omega)) ?_
                  refine lv_lrem hx hb dX8_drawn_165 (lN_nz (by omega) (by omega)) ?_
                  refine lv_topl (fun v_136 e_136 => ?_)
                  obtain ⟨z_136, hz_136, rfl⟩ : ∃ z : Nat, z < c_134 ∧ v_136 = lN z := ⟨z_105 % c_134, Nat.mod_lt _ (by omega), e_136.trans (pk_lRem (a := z_105) (b := c_134) (by omega) (by omega) (by omega))⟩
                  refine lv_l2i (v := (nI z_136)) hx hb dX8_drawn_166 (lN_i z_136) ?_
                  refine lv_lload hx hb dX8_drawn_167 (lv_at hl 1 rfl) ?_
                  refine lv_ldc2 (own := RX8) (v := 9) hx hb hown (hts _ mx_X8_drawn_12) dX8_drawn_169 ?_
                  refine lv_lrem hx hb dX8_drawn_172 (by decide) ?_
                  refine lv_topl (fun v_137 e_137 => ?_)
                  obtain ⟨z_137, hz_137, rfl⟩ : ∃ z : Nat, z < 9 ∧ v_137 = lN z := ⟨z_105 % 9, Nat.mod_lt _ (by omega), e_137.trans (pk_lRem (a := z_105) (b := 9) (by omega) (by omega) (by omega))⟩
                  refine lv_l2i (v := (nI z_137)) hx hb dX8_drawn_173 (lN_i z_137) ?_
                  refine lv_iconst (v := 1) hx hb dX8_drawn_174 (by decide) ?_
                  refine lv_iadd hx hb dX8_drawn_175 ?_
                  refine lv_topi (fun v_138 e_138 => ?_)
                  obtain rfl : v_138 = (nI (z_137 + 1)) := (e_138).trans (nI_add z_137 1)
                  have hc_139 := cutW (wc := [(xo_8_rrriirrriiiiiiirrirrrrri mo m_la m_sz m_it ms mt m_st m_mv m_tp (nI mz) ml (nI mp) mk mv mb mw m_rd m_ac (nI ma) m_as m_wo m_ik m_ke m_tr (nI mx)), (xI m_st cI 38 g_117)]) hP hD hS hA [0, 1] (by decide +kernel) rfl
                  refine va_callv (va_runV (As := [.int (nI z_119), .int (nI z_136), .int (nI (z_137 + 1))]) (rest := []) ⟨hx, hb, hml, hown, hts⟩ (r_X8_letLoose l dC dI cI cZ cL cJ H.size mo m_la m_sz m_it m_st m_mv m_tp m_rd m_ac m_as m_wo m_ik m_ke m_tr ms mt ml mk mv mb mw mz mp ma mx g_117 w9 k9 (h9 + ii) z_119 (z_137 + 1) (nI z_136) (hM_117) (by omega) (by omega) (by omega)) (cwV 3 hts gX8_drawn_X8_letLoose rfl rfl rfl (by decide +kernel) ⟨Nat.le_of_ble_eq_true rfl, Nat.le_of_ble_eq_true rfl⟩) (pvW 8 0 hK hP rfl rfl hc_139) rfl rfl hl.1 rfl (lv_room (Nat.le_of_ble_eq_true rfl)) dX8_drawn_176 ⟨Nat.le_of_ble_eq_true rfl, Nat.le_of_ble_eq_true rfl⟩) hS (fun q _ h => hc_139.2.2 q h) hc_139.2.2 (fun u_139 t_139 H1 locs ht hvm h_139 hB hz1 hk1 hS => ?_)
                  refine xl_1_4 hB (fun fsn_139 hP1 hD1 hF_139_0 hF_139_1 => ?_)
                  clear hB
                  rw [ht] at hP1
                  obtain ⟨hP, hD⟩ := va_join (wr := [(xI m_as cI 38 fan_10)]) (w1 := [(xo_8_rrriirrriiiiiiirrirrrrri mo m_la m_sz m_it ms mt m_st m_mv m_tp (nI mz) ml (nI mp) mk mv mb mw m_rd m_ac (nI ma) m_as m_wo m_ik m_ke m_tr (nI mx)), (xI m_st cI 38 fsn_139)]) hP hD [0, 1] [2] rfl rfl (by decide +kernel) (by decide +kernel) hk1 hc_139.2.2 hP1 hD1
                  generalize H1 = H at hP hS ⊢
                  have hP : va_P (dC, dI) vwCl [(xI m_as cI 38 fan_10), (xo_8_rrriirrriiiiiiirrirrrrri mo m_la m_sz m_it ms mt m_st m_mv m_tp (nI mz) ml (nI mp) mk mv mb mw m_rd m_ac (nI ma) m_as m_wo m_ik m_ke m_tr (nI mx)), (xI m_st cI 38 fsn_139)] H := hP
                  have hD := dto hP hD
                  exact jk_130 (fsn_139) _ _ _ ⟨ls, rfl, lv_sub hl [0, 1, 2, 3, 4, 5, 6, 7] rfl, hP.sub (ws' := [(xo_8_rrriirrriiiiiiirrirrrrri mo m_la m_sz m_it ms mt m_st m_mv m_tp (nI mz) ml (nI mp) mk mv mb mw m_rd m_ac (nI ma) m_as m_wo m_ik m_ke m_tr (nI mx)), (xI m_st cI 38 fsn_139), (xI m_as cI 38 fan_10)]) [1, 2, 0] rfl, hD.sub (ws' := [(xo_8_rrriirrriiiiiiirrirrrrri mo m_la m_sz m_it ms mt m_st m_mv m_tp (nI mz) ml (nI mp) mk mv mb mw m_rd m_ac (nI ma) m_as m_wo m_ik m_ke m_tr (nI mx)), (xI m_st cI 38 fsn_139), (xI m_as cI 38 fan_10)]) [1, 2, 0] (by decide +kernel) rfl, hS, hF_139_0⟩
            · intro jk_115
              refine lv_if_ne (tgt := 113) hx hb dX8_drawn_84 (by decide) (fun c_140 => ?_) (fun c_140 => ?_)
              · skip
                exact jk_115 (w_56) _ _ _ ⟨ls, rfl, lv_sub hl [0, 1, 2, 3, 4, 5, 6] rfl, hP.sub (ws' := [(xo_8_rrriirrriiiiiiirrirrrrri mo m_la m_sz m_it ms mt m_st m_mv m_tp (nI mz) ml (nI mp) mk mv mb mw m_rd m_ac (nI ma) m_as m_wo m_ik m_ke m_tr (nI mx)), (xI m_st cI 38 w_56), (xI m_as cI 38 fan_10)]) [0, 1, 2] rfl, hD.sub (ws' := [(xo_8_rrriirrriiiiiiirrirrrrri mo m_la m_sz m_it ms mt m_st m_mv m_tp (nI mz) ml (nI mp) mk mv mb mw m_rd m_ac (nI ma) m_as m_wo m_ik m_ke m_tr (nI mx)), (xI m_st cI 38 w_56), (xI m_as cI 38 fan_10)]) [0, 1, 2] (by decide +kernel) rfl, hS, hMl⟩
              · skip
                refine lv_aload_n hx hb dX8_drawn_87 rfl (lv_at hl 3 rfl) ?_
                refine va_get (D := (dC, dI)) (ci := 8) (v := .ref m_st) (C := RX8) (T := TX8) (N := 24) hx hb hts i_X8_drawn_X8 hown hK hP 0 rfl rfl 5 (by decide) (hts _ mx_X8_drawn_9) (fun _ h9 => h9) rfl dX8_drawn_88 ?_
                refine lv_bipush (v := 8) hx hb dX8_drawn_91 (by decide) ?_
                refine lv_lload hx hb dX8_drawn_93 (lv_at hl 0 rfl) ?_
                refine lv_aload_n hx hb dX8_drawn_95 rfl (lv_at hl 3 rfl) ?_
                refine va_get (D := (dC, dI)) (ci := 8) (v := .ref m_st) (C := RX8) (T := TX8) (N := 24) hx hb hts i_X8_drawn_X8 hown hK hP 0 rfl rfl 5 (by decide) (hts _ mx_X8_drawn_9) (fun _ h9 => h9) rfl dX8_drawn_96 ?_
                refine lv_iconst (v := 3) hx hb dX8_drawn_99 (by decide) ?_
                refine va_iald hx hb hK hP 1 0 rfl rfl (by unfold vp_in; decide) dX8_drawn_100 ?_
                refine lv_topi (fun v_141 e_141 => ?_)
                obtain rfl : v_141 = (nI w9) := (e_141).trans hMl.1
                refine lv_i2l (v := (lN w9)) hx hb dX8_drawn_101 (nI_l (by omega)) ?_
                refine lv_lrem hx hb dX8_drawn_102 (lN_nz (by omega) (by omega)) ?_
                refine lv_topl (fun v_142 e_142 => ?_)
                obtain ⟨z_142, hz_142, rfl⟩ : ∃ z : Nat, z < w9 ∧ v_142 = lN z := ⟨z_105 % w9, Nat.mod_lt _ (by omega), e_142.trans (pk_lRem (a := z_105) (b := w9) (by omega) (by omega) (by omega))⟩
                refine lv_l2i (v := (nI z_142)) hx hb dX8_drawn_103 (lN_i z_142) ?_
                refine lv_iadd hx hb dX8_drawn_104 ?_
                refine lv_topi (fun v_143 e_143 => ?_)
                obtain rfl : v_143 = (nI (8 + z_142)) := (e_143).trans (nI_add 8 z_142)
                refine lv_lload hx hb dX8_drawn_105 (lv_at hl 0 rfl) ?_
                refine lv_ldc2 (own := RX8) (v := 5) hx hb hown (hts _ mx_X8_drawn_10) dX8_drawn_107 ?_
                refine lv_lrem hx hb dX8_drawn_110 (by decide) ?_
                refine lv_topl (fun v_144 e_144 => ?_)
                obtain ⟨z_144, hz_144, rfl⟩ : ∃ z : Nat, z < 5 ∧ v_144 = lN z := ⟨z_105 % 5, Nat.mod_lt _ (by omega), e_144.trans (pk_lRem (a := z_105) (b := 5) (by omega) (by omega) (by omega))⟩
                refine lv_l2i (v := (nI z_144)) hx hb dX8_drawn_111 (lN_i z_144) ?_
                refine va_iast hx hb hK hP hD hS 1 0 rfl rfl (vp_in_nI (by omega) (by omega)) dX8_drawn_112 (fun H locs hP hD hS => ?_)
                generalize hg_145 : upd w_56 ((nI (8 + z_142)) : Int32).toNatClampNeg (nI z_144) = g_145 at hP hD
                have hM_145 : okM g_145 w9 k9 (h9 + ii) := okM_off (i := (8 + z_142)) hMl hg_145 (by omega) (by omega) (by omega) (by omega) (by omega)
                have hP : va_P (dC, dI) vwCl [(xo_8_rrriirrriiiiiiirrirrrrri mo m_la m_sz m_it ms mt m_st m_mv m_tp (nI mz) ml (nI mp) mk mv mb mw m_rd m_ac (nI ma) m_as m_wo m_ik m_ke m_tr (nI mx)), (xI m_st cI 38 g_145), (xI m_as cI 38 fan_10)] H := hP
                have hD := dto hP hD
                exact jk_115 (g_145) _ _ _ ⟨ls, rfl, lv_sub hl [0, 1, 2, 3, 4, 5, 6] rfl, hP.sub (ws' := [(xo_8_rrriirrriiiiiiirrirrrrri mo m_la m_sz m_it ms mt m_st m_mv m_tp (nI mz) ml (nI mp) mk mv mb mw m_rd m_ac (nI ma) m_as m_wo m_ik m_ke m_tr (nI mx)), (xI m_st cI 38 g_145), (xI m_as cI 38 fan_10)]) [0, 1, 2] rfl, hD.sub (ws' := [(xo_8_rrriirrriiiiiiirrirrrrri mo m_la m_sz m_it ms mt m_st m_mv m_tp (nI mz) ml (nI mp) mk mv mb mw m_rd m_ac (nI ma) m_as m_wo m_ik m_ke m_tr (nI mx)), (xI m_st cI 38 g_145), (xI m_as cI 38 fan_10)]) [0, 1, 2] (by decide +kernel) rfl, hS, hM_145⟩
          · rintro ⟨w_54, w_55, w_56⟩ H locs ls ⟨hl, hP, hD, hS, hMl, hnb_w_55⟩
            refine lv_iload hx hb dX8_drawn_58 (lv_at hl 0 rfl) ?_
            refine lv_iload_n hx hb dX8_drawn_60 rfl (lv_at hl 4 rfl) ?_
            refine lv_icmp_ge (tgt := 194) hx hb dX8_drawn_61 (by decide) (fun _ => ?_) (fun c_ => absurd ((nI_leI (a := j_2) (b := j_2) (by omega) (by omega)).mpr (by omega)) c_)
            refine lv_aload_n hx hb dX8_drawn_194 rfl (lv_at hl 3 rfl) ?_
            refine lv_iconst (v := 2) hx hb dX8_drawn_195 (by decide) ?_
            have hPc_147 := hP.sub (ws' := [(xo_8_rrriirrriiiiiiirrirrrrri mo m_la m_sz m_it ms mt m_st m_mv m_tp (nI mz) ml (nI mp) mk mv mb mw m_rd m_ac (nI ma) m_as m_wo m_ik m_ke m_tr (nI mx)), (xI m_st cI 38 w_56)]) [0, 1] rfl
            refine vp_callSi (W.runV (As := [.int 2]) (rest := []) ⟨hx, hb, hml, hown, hts⟩ (r_X8_those l dC dI cI cZ cL cJ mo m_la m_sz m_it m_st m_mv m_tp m_rd m_ac m_as m_wo m_ik m_ke m_tr ms mt ml mk mv mb mw mz mp ma mx w_56 w9 k9 (h9 + j_2) 2 (hMl)) (cwV 1 hts gX8_drawn_X8_those rfl rfl rfl (by decide +kernel) ⟨Nat.le_of_ble_eq_true rfl, Nat.le_of_ble_eq_true rfl⟩) (pvP 8 0 hK hP rfl rfl hPc_147) rfl rfl hl.1 rfl (lv_room (Nat.le_of_ble_eq_true rfl)) dX8_drawn_196 ⟨Nat.le_of_ble_eq_true rfl, Nat.le_of_ble_eq_true rfl⟩) (fun r_147 h_147 => ?_)
            obtain ⟨j_147, rfl, hz_147_0, hz_147_1⟩ := h_147
            have hPc_148 := hP.sub (ws' := []) [] rfl
            refine vp_callSi (W.runS (As := [.int (nI j_147)]) (rest := []) ⟨hx, hb, hml, hown, hts⟩ (r_X8_ones l dC dI cI cZ cL cJ j_147 (by omega)) (va_cwS 1 hts gX8_drawn_X8_ones rfl rfl rfl (by decide +kernel) ⟨Nat.le_of_ble_eq_true rfl, Nat.le_of_ble_eq_true rfl⟩) (psP hK hPc_148) rfl rfl hl.1 rfl (lv_room (Nat.le_of_ble_eq_true rfl)) dX8_drawn_199 ⟨Nat.le_of_ble_eq_true rfl, Nat.le_of_ble_eq_true rfl⟩) (fun r_148 h_148 => ?_)
            refine lv_istore (lv' := [(7, .int r_148), (6, .int w_54), (4, .long (lN w_55)), (0, .ref mo), (1, .int (nI j_2)), (2, .int (nI j_5)), (3, .int a2)]) hx hb dX8_drawn_202 hl (by decide) rfl (fun ls hl => ?_)
            refine lv_aload_n hx hb dX8_drawn_204 rfl (lv_at hl 3 rfl) ?_
            have hc_149 := cutW (wc := [(xo_8_rrriirrriiiiiiirrirrrrri mo m_la m_sz m_it ms mt m_st m_mv m_tp (nI mz) ml (nI mp) mk mv mb mw m_rd m_ac (nI ma) m_as m_wo m_ik m_ke m_tr (nI mx)), (xI m_st cI 38 w_56), (xI m_as cI 38 fan_10)]) hP hD hS hA [0, 1, 2] (by decide +kernel) rfl
            refine va_callv (va_runV (As := []) (rest := []) ⟨hx, hb, hml, hown, hts⟩ (r_X8_takeBack l dC dI cI cZ cL cJ H.size mo m_la m_sz m_it m_st m_mv m_tp m_rd m_ac m_as m_wo m_ik m_ke m_tr ms mt ml mk mv mb mw mz mp ma mx w_56 fan_10 ) (cwV 0 hts gX8_drawn_X8_takeBack rfl rfl rfl (by decide +kernel) ⟨Nat.le_of_ble_eq_true rfl, Nat.le_of_ble_eq_true rfl⟩) (pvW 8 0 hK hP rfl rfl hc_149) rfl rfl hl.1 rfl (lv_room (Nat.le_of_ble_eq_true rfl)) dX8_drawn_205 ⟨Nat.le_of_ble_eq_true rfl, Nat.le_of_ble_eq_true rfl⟩) hS (fun q _ h => hc_149.2.2 q h) hc_149.2.2 (fun u_149 t_149 H1 locs ht hvm h_149 hB hz1 hk1 hS => ?_)
            refine xl_1_3 hB (fun fsn_149 hP1 hD1 hF_149_0 => ?_)
            clear hB
            rw [ht] at hP1
            obtain ⟨hP, hD⟩ := va_join (wr := []) (w1 := [(xo_8_rrriirrriiiiiiirrirrrrri mo m_la m_sz m_it ms mt m_st m_mv m_tp (nI mz) ml (nI mp) mk mv mb mw m_rd m_ac (nI ma) m_as m_wo m_ik m_ke m_tr (nI mx)), (xI m_st cI 38 fsn_149), (xI m_as cI 38 fan_10)]) hP hD [0, 1, 2] [] rfl rfl (by decide +kernel) (by decide +kernel) hk1 hc_149.2.2 hP1 hD1
            generalize H1 = H at hP hS ⊢
            have hP : va_P (dC, dI) vwCl [(xo_8_rrriirrriiiiiiirrirrrrri mo m_la m_sz m_it ms mt m_st m_mv m_tp (nI mz) ml (nI mp) mk mv mb mw m_rd m_ac (nI ma) m_as m_wo m_ik m_ke m_tr (nI mx)), (xI m_st cI 38 fsn_149), (xI m_as cI 38 fan_10)] H := hP
            have hD := dto hP hD
            have hT_149 := okM_eq hA_10 hF_149_0
            refine lv_iload_n hx hb dX8_drawn_208 rfl (lv_at hl 6 rfl) ?_
            refine lv_if_ne (tgt := 217) hx hb dX8_drawn_209 (by decide) (fun c_150 => ?_) (fun c_150 => ?_)
            · skip
              refine lv_iload hx hb dX8_drawn_217 (lv_at hl 0 rfl) ?_
              have hX9 := cut2 (wc := [(xo_8_rrriirrriiiiiiirrirrrrri mo m_la m_sz m_it ms mt m_st m_mv m_tp (nI mz) ml (nI mp) mk mv mb mw m_rd m_ac (nI ma) m_as m_wo m_ik m_ke m_tr (nI mx)), (xI m_st cI 38 fsn_149), (xI m_as cI 38 fan_10)]) hP hD [0, 1, 2] (by decide +kernel) rfl
              exact W.iret (v := r_148) hx hb hr (fun t ht hW => ⟨⟨r_148, (), rfl, trivial, ⟨fsn_149, fan_10, va_Ht ht hX9.1, hX9.2, hT_149, ((m38_eq hF_149_0).trans ((m38_eq hF_10_0).trans rfl))⟩⟩, hS.F ht⟩) hS.2.2 dX8_drawn_219
            · skip
              refine lv_iload hx hb dX8_drawn_212 (lv_at hl 1 rfl) ?_
              refine lv_goto (tgt := 219) hx hb dX8_drawn_214 (by decide) ?_
              have hX9 := cut2 (wc := [(xo_8_rrriirrriiiiiiirrirrrrri mo m_la m_sz m_it ms mt m_st m_mv m_tp (nI mz) ml (nI mp) mk mv mb mw m_rd m_ac (nI ma) m_as m_wo m_ik m_ke m_tr (nI mx)), (xI m_st cI 38 fsn_149), (xI m_as cI 38 fan_10)]) hP hD [0, 1, 2] (by decide +kernel) rfl
              exact W.iret (v := w_54) hx hb hr (fun t ht hW => ⟨⟨w_54, (), rfl, trivial, ⟨fsn_149, fan_10, va_Ht ht hX9.1, hX9.2, hT_149, ((m38_eq hF_149_0).trans ((m38_eq hF_10_0).trans rfl))⟩⟩, hS.F ht⟩) hS.2.2 dX8_drawn_219
        · skip
          refine lv_ldc (own := RX8) (v := (-1000001)) hx hb hown (hts _ mx_X8_drawn_5) dX8_drawn_41 ?_
          have hX9 := cut2 (wc := [(xo_8_rrriirrriiiiiiirrirrrrri mo m_la m_sz m_it ms mt m_st m_mv m_tp (nI mz) ml (nI mp) mk mv mb mw m_rd m_ac (nI ma) m_as m_wo m_ik m_ke m_tr (nI mx)), (xI m_st cI 38 fs), (xI m_as cI 38 fa)]) hP hD [0, 1, 2] (by decide +kernel) rfl
          exact W.iret (v := (-1000001)) hx hb hr (fun t ht hW => ⟨⟨(-1000001), (), rfl, trivial, ⟨fs, fa, va_Ht ht hX9.1, hX9.2, hM, rfl⟩⟩, hS.F ht⟩) hS.2.2 dX8_drawn_43
  · skip
    refine lv_ldc (own := RX8) (v := (-1000002)) hx hb hown (hts _ mx_X8_drawn_2) dX8_drawn_7 ?_
    have hX9 := cut2 (wc := [(xo_8_rrriirrriiiiiiirrirrrrri mo m_la m_sz m_it ms mt m_st m_mv m_tp (nI mz) ml (nI mp) mk mv mb mw m_rd m_ac (nI ma) m_as m_wo m_ik m_ke m_tr (nI mx)), (xI m_st cI 38 fs), (xI m_as cI 38 fa)]) hP hD [0, 1, 2] (by decide +kernel) rfl
    exact W.iret (v := (-1000002)) hx hb hr (fun t ht hW => ⟨⟨(-1000002), (), rfl, trivial, ⟨fs, fa, va_Ht ht hX9.1, hX9.2, hM, rfl⟩⟩, hS.F ht⟩) hS.2.2 dX8_drawn_9
-- 52.mod6_d
theorem dX8_as_0 : decode cX8_as 0 = .ok (.aload_n 0, 1) := dq_42 (by decide +kernel)
theorem dX8_as_1 : decode cX8_as 1 = .ok (.iload_n 1, 1) := dq_27 (by decide +kernel)
theorem dX8_as_10 : decode cX8_as 10 = .ok (.lconst 0, 1) := dq_9 (by decide +kernel)
theorem dX8_as_11 : decode cX8_as 11 = .ok (.ldc2_w 250, 3) := dq_20 (b1 := 0) (b2 := 250) (by decide +kernel) (by decide)
theorem dX8_as_14 : decode cX8_as 14 = .ok (.invokestatic 57, 3) := dq_184 (b1 := 0) (b2 := 57) (by decide +kernel) (by decide)
theorem dX8_as_17 : decode cX8_as 17 = .ok (.ifCond .ne 6, 3) := dq_154 (b1 := 0) (b2 := 6) (by decide +kernel) (by decide)
theorem dX8_as_2 : decode cX8_as 2 = .ok (.invokevirtual 173, 3) := dq_182 (b1 := 0) (b2 := 173) (by decide +kernel) (by decide)
theorem dX8_as_20 : decode cX8_as 20 = .ok (.ldc 67, 2) := dq_18 (b1 := 67) (by decide +kernel) (by decide)
theorem dX8_as_22 : decode cX8_as 22 = .ok (.ireturn, 1) := dq_172 (by decide +kernel)
theorem dX8_as_23 : decode cX8_as 23 = .ok (.aload_n 0, 1) := dq_42 (by decide +kernel)
theorem dX8_as_24 : decode cX8_as 24 = .ok (.getfield 19, 3) := dq_180 (b1 := 0) (b2 := 19) (by decide +kernel) (by decide)
theorem dX8_as_27 : decode cX8_as 27 = .ok (.bipush 14, 2) := dq_16 (b1 := 14) (by decide +kernel) (by decide)
theorem dX8_as_29 : decode cX8_as 29 = .ok (.iload_n 1, 1) := dq_27 (by decide +kernel)
theorem dX8_as_30 : decode cX8_as 30 = .ok (.iadd, 1) := dq_96 (by decide +kernel)
theorem dX8_as_31 : decode cX8_as 31 = .ok (.iaload, 1) := dq_46 (by decide +kernel)
theorem dX8_as_32 : decode cX8_as 32 = .ok (.iload_n 2, 1) := dq_28 (by decide +kernel)
theorem dX8_as_33 : decode cX8_as 33 = .ok (.invokestatic 257, 3) := dq_184 (b1 := 1) (b2 := 1) (by decide +kernel) (by decide)
theorem dX8_as_36 : decode cX8_as 36 = .ok (.ifCond .eq 11, 3) := dq_153 (b1 := 0) (b2 := 11) (by decide +kernel) (by decide)
theorem dX8_as_39 : decode cX8_as 39 = .ok (.aload_n 0, 1) := dq_42 (by decide +kernel)
theorem dX8_as_40 : decode cX8_as 40 = .ok (.iload_n 1, 1) := dq_27 (by decide +kernel)
theorem dX8_as_41 : decode cX8_as 41 = .ok (.invokevirtual 72, 3) := dq_182 (b1 := 0) (b2 := 72) (by decide +kernel) (by decide)
theorem dX8_as_44 : decode cX8_as 44 = .ok (.goto 8, 3) := dq_167 (b1 := 0) (b2 := 8) (by decide +kernel) (by decide)
theorem dX8_as_47 : decode cX8_as 47 = .ok (.aload_n 0, 1) := dq_42 (by decide +kernel)
theorem dX8_as_48 : decode cX8_as 48 = .ok (.iconst 3, 1) := dq_6 (by decide +kernel)
theorem dX8_as_49 : decode cX8_as 49 = .ok (.invokevirtual 68, 3) := dq_182 (b1 := 0) (b2 := 68) (by decide +kernel) (by decide)
theorem dX8_as_5 : decode cX8_as 5 = .ok (.ifCond .eq 15, 3) := dq_153 (b1 := 0) (b2 := 15) (by decide +kernel) (by decide)
theorem dX8_as_52 : decode cX8_as 52 = .ok (.ireturn, 1) := dq_172 (by decide +kernel)
theorem dX8_as_8 : decode cX8_as 8 = .ok (.iload_n 2, 1) := dq_28 (by decide +kernel)
theorem dX8_as_9 : decode cX8_as 9 = .ok (.i2l, 1) := dq_133 (by decide +kernel)
theorem dX8_ask_0 : decode cX8_ask 0 = .ok (.aload_n 0, 1) := dq_42 (by decide +kernel)
theorem dX8_ask_1 : decode cX8_ask 1 = .ok (.iload_n 1, 1) := dq_27 (by decide +kernel)
theorem dX8_ask_10 : decode cX8_ask 10 = .ok (.lconst 0, 1) := dq_9 (by decide +kernel)
theorem dX8_ask_11 : decode cX8_ask 11 = .ok (.lconst 1, 1) := dq_10 (by decide +kernel)
theorem dX8_ask_12 : decode cX8_ask 12 = .ok (.invokestatic 57, 3) := dq_184 (b1 := 0) (b2 := 57) (by decide +kernel) (by decide)
theorem dX8_ask_15 : decode cX8_ask 15 = .ok (.ifCond .ne 6, 3) := dq_154 (b1 := 0) (b2 := 6) (by decide +kernel) (by decide)
theorem dX8_ask_18 : decode cX8_ask 18 = .ok (.ldc 67, 2) := dq_18 (b1 := 67) (by decide +kernel) (by decide)
theorem dX8_ask_2 : decode cX8_ask 2 = .ok (.invokevirtual 173, 3) := dq_182 (b1 := 0) (b2 := 173) (by decide +kernel) (by decide)
theorem dX8_ask_20 : decode cX8_ask 20 = .ok (.ireturn, 1) := dq_172 (by decide +kernel)
theorem dX8_ask_21 : decode cX8_ask 21 = .ok (.aload_n 0, 1) := dq_42 (by decide +kernel)
theorem dX8_ask_22 : decode cX8_ask 22 = .ok (.iconst 0, 1) := dq_3 (by decide +kernel)
theorem dX8_ask_23 : decode cX8_ask 23 = .ok (.putfield 260, 3) := dq_181 (b1 := 1) (b2 := 4) (by decide +kernel) (by decide)
theorem dX8_ask_26 : decode cX8_ask 26 = .ok (.iload_n 2, 1) := dq_28 (by decide +kernel)
theorem dX8_ask_27 : decode cX8_ask 27 = .ok (.ifCond .ne 11, 3) := dq_154 (b1 := 0) (b2 := 11) (by decide +kernel) (by decide)
theorem dX8_ask_30 : decode cX8_ask 30 = .ok (.aload_n 0, 1) := dq_42 (by decide +kernel)
theorem dX8_ask_31 : decode cX8_ask 31 = .ok (.iload_n 1, 1) := dq_27 (by decide +kernel)
theorem dX8_ask_32 : decode cX8_ask 32 = .ok (.invokevirtual 284, 3) := dq_182 (b1 := 1) (b2 := 28) (by decide +kernel) (by decide)
theorem dX8_ask_35 : decode cX8_ask 35 = .ok (.goto 8, 3) := dq_167 (b1 := 0) (b2 := 8) (by decide +kernel) (by decide)
theorem dX8_ask_38 : decode cX8_ask 38 = .ok (.aload_n 0, 1) := dq_42 (by decide +kernel)
theorem dX8_ask_39 : decode cX8_ask 39 = .ok (.iload_n 1, 1) := dq_27 (by decide +kernel)
theorem dX8_ask_40 : decode cX8_ask 40 = .ok (.invokevirtual 278, 3) := dq_182 (b1 := 1) (b2 := 22) (by decide +kernel) (by decide)
theorem dX8_ask_43 : decode cX8_ask 43 = .ok (.ireturn, 1) := dq_172 (by decide +kernel)
theorem dX8_ask_5 : decode cX8_ask 5 = .ok (.ifCond .eq 13, 3) := dq_153 (b1 := 0) (b2 := 13) (by decide +kernel) (by decide)
theorem dX8_ask_8 : decode cX8_ask 8 = .ok (.iload_n 2, 1) := dq_28 (by decide +kernel)
theorem dX8_ask_9 : decode cX8_ask 9 = .ok (.i2l, 1) := dq_133 (by decide +kernel)
theorem dX8_begin_0 : decode cX8_begin 0 = .ok (.aload_n 0, 1) := dq_42 (by decide +kernel)
theorem dX8_begin_1 : decode cX8_begin 1 = .ok (.getfield 260, 3) := dq_180 (b1 := 1) (b2 := 4) (by decide +kernel) (by decide)
theorem dX8_begin_10 : decode cX8_begin 10 = .ok (.getfield 47, 3) := dq_180 (b1 := 0) (b2 := 47) (by decide +kernel) (by decide)
theorem dX8_begin_13 : decode cX8_begin 13 = .ok (.aload_n 0, 1) := dq_42 (by decide +kernel)
theorem dX8_begin_14 : decode cX8_begin 14 = .ok (.getfield 260, 3) := dq_180 (b1 := 1) (b2 := 4) (by decide +kernel) (by decide)
theorem dX8_begin_17 : decode cX8_begin 17 = .ok (.iload_n 1, 1) := dq_27 (by decide +kernel)
theorem dX8_begin_18 : decode cX8_begin 18 = .ok (.iastore, 1) := dq_79 (by decide +kernel)
theorem dX8_begin_19 : decode cX8_begin 19 = .ok (.aload_n 0, 1) := dq_42 (by decide +kernel)
theorem dX8_begin_20 : decode cX8_begin 20 = .ok (.dup, 1) := dq_89 (by decide +kernel)
theorem dX8_begin_21 : decode cX8_begin 21 = .ok (.getfield 260, 3) := dq_180 (b1 := 1) (b2 := 4) (by decide +kernel) (by decide)
theorem dX8_begin_24 : decode cX8_begin 24 = .ok (.iconst 1, 1) := dq_4 (by decide +kernel)
theorem dX8_begin_25 : decode cX8_begin 25 = .ok (.iadd, 1) := dq_96 (by decide +kernel)
theorem dX8_begin_26 : decode cX8_begin 26 = .ok (.putfield 260, 3) := dq_181 (b1 := 1) (b2 := 4) (by decide +kernel) (by decide)
theorem dX8_begin_29 : decode cX8_begin 29 = .ok (.return_, 1) := dq_177 (by decide +kernel)
theorem dX8_begin_4 : decode cX8_begin 4 = .ok (.bipush 16, 2) := dq_16 (b1 := 16) (by decide +kernel) (by decide)
theorem dX8_begin_6 : decode cX8_begin 6 = .ok (.if_icmp .ge 23, 3) := dq_162 (b1 := 0) (b2 := 23) (by decide +kernel) (by decide)
theorem dX8_begin_9 : decode cX8_begin 9 = .ok (.aload_n 0, 1) := dq_42 (by decide +kernel)
theorem dX8_copy_0 : decode cX8_copy 0 = .ok (.iload_n 1, 1) := dq_27 (by decide +kernel)
theorem dX8_copy_1 : decode cX8_copy 1 = .ok (.invokestatic 61, 3) := dq_184 (b1 := 0) (b2 := 61) (by decide +kernel) (by decide)
theorem dX8_copy_100 : decode cX8_copy 100 = .ok (.i2l, 1) := dq_133 (by decide +kernel)
theorem dX8_copy_101 : decode cX8_copy 101 = .ok (.lsub, 1) := dq_101 (by decide +kernel)
theorem dX8_copy_102 : decode cX8_copy 102 = .ok (.invokestatic 57, 3) := dq_184 (b1 := 0) (b2 := 57) (by decide +kernel) (by decide)
theorem dX8_copy_105 : decode cX8_copy 105 = .ok (.ifCond .ne 9, 3) := dq_154 (b1 := 0) (b2 := 9) (by decide +kernel) (by decide)
theorem dX8_copy_108 : decode cX8_copy 108 = .ok (.aload_n 0, 1) := dq_42 (by decide +kernel)
theorem dX8_copy_109 : decode cX8_copy 109 = .ok (.iconst 2, 1) := dq_5 (by decide +kernel)
theorem dX8_copy_11 : decode cX8_copy 11 = .ok (.ifCond .ne 6, 3) := dq_154 (b1 := 0) (b2 := 6) (by decide +kernel) (by decide)
theorem dX8_copy_110 : decode cX8_copy 110 = .ok (.invokevirtual 68, 3) := dq_182 (b1 := 0) (b2 := 68) (by decide +kernel) (by decide)
theorem dX8_copy_113 : decode cX8_copy 113 = .ok (.ireturn, 1) := dq_172 (by decide +kernel)
theorem dX8_copy_114 : decode cX8_copy 114 = .ok (.iconst 0, 1) := dq_3 (by decide +kernel)
theorem dX8_copy_115 : decode cX8_copy 115 = .ok (.istore 6, 2) := dq_54 (b1 := 6) (by decide +kernel) (by decide)
theorem dX8_copy_117 : decode cX8_copy 117 = .ok (.iload 6, 2) := dq_21 (b1 := 6) (by decide +kernel) (by decide)
theorem dX8_copy_119 : decode cX8_copy 119 = .ok (.iload 5, 2) := dq_21 (b1 := 5) (by decide +kernel) (by decide)
theorem dX8_copy_121 : decode cX8_copy 121 = .ok (.if_icmp .ge 30, 3) := dq_162 (b1 := 0) (b2 := 30) (by decide +kernel) (by decide)
theorem dX8_copy_124 : decode cX8_copy 124 = .ok (.aload_n 0, 1) := dq_42 (by decide +kernel)
theorem dX8_copy_125 : decode cX8_copy 125 = .ok (.getfield 22, 3) := dq_180 (b1 := 0) (b2 := 22) (by decide +kernel) (by decide)
theorem dX8_copy_128 : decode cX8_copy 128 = .ok (.iload 6, 2) := dq_21 (b1 := 6) (by decide +kernel) (by decide)
theorem dX8_copy_130 : decode cX8_copy 130 = .ok (.aload_n 0, 1) := dq_42 (by decide +kernel)
theorem dX8_copy_131 : decode cX8_copy 131 = .ok (.getfield 16, 3) := dq_180 (b1 := 0) (b2 := 16) (by decide +kernel) (by decide)
theorem dX8_copy_134 : decode cX8_copy 134 = .ok (.bipush 40, 2) := dq_16 (b1 := 40) (by decide +kernel) (by decide)
theorem dX8_copy_136 : decode cX8_copy 136 = .ok (.iload_n 1, 1) := dq_27 (by decide +kernel)
theorem dX8_copy_137 : decode cX8_copy 137 = .ok (.imul, 1) := dq_104 (by decide +kernel)
theorem dX8_copy_138 : decode cX8_copy 138 = .ok (.iload_n 2, 1) := dq_28 (by decide +kernel)
theorem dX8_copy_139 : decode cX8_copy 139 = .ok (.iadd, 1) := dq_96 (by decide +kernel)
theorem dX8_copy_14 : decode cX8_copy 14 = .ok (.ldc 67, 2) := dq_18 (b1 := 67) (by decide +kernel) (by decide)
theorem dX8_copy_140 : decode cX8_copy 140 = .ok (.iload 6, 2) := dq_21 (b1 := 6) (by decide +kernel) (by decide)
theorem dX8_copy_142 : decode cX8_copy 142 = .ok (.iadd, 1) := dq_96 (by decide +kernel)
theorem dX8_copy_143 : decode cX8_copy 143 = .ok (.iaload, 1) := dq_46 (by decide +kernel)
theorem dX8_copy_144 : decode cX8_copy 144 = .ok (.iastore, 1) := dq_79 (by decide +kernel)
theorem dX8_copy_145 : decode cX8_copy 145 = .ok (.iinc 6 1, 3) := dq_132 (b1 := 6) (b2 := 1) (by decide +kernel) (by decide) (by decide)
theorem dX8_copy_148 : decode cX8_copy 148 = .ok (.goto (-31), 3) := dq_167 (b1 := 255) (b2 := 225) (by decide +kernel) (by decide)
theorem dX8_copy_151 : decode cX8_copy 151 = .ok (.iconst 0, 1) := dq_3 (by decide +kernel)
theorem dX8_copy_152 : decode cX8_copy 152 = .ok (.istore 6, 2) := dq_54 (b1 := 6) (by decide +kernel) (by decide)
theorem dX8_copy_154 : decode cX8_copy 154 = .ok (.iload 6, 2) := dq_21 (b1 := 6) (by decide +kernel) (by decide)
theorem dX8_copy_156 : decode cX8_copy 156 = .ok (.iload 5, 2) := dq_21 (b1 := 5) (by decide +kernel) (by decide)
theorem dX8_copy_158 : decode cX8_copy 158 = .ok (.if_icmp .ge 31, 3) := dq_162 (b1 := 0) (b2 := 31) (by decide +kernel) (by decide)
theorem dX8_copy_16 : decode cX8_copy 16 = .ok (.ireturn, 1) := dq_172 (by decide +kernel)
theorem dX8_copy_161 : decode cX8_copy 161 = .ok (.aload_n 0, 1) := dq_42 (by decide +kernel)
theorem dX8_copy_162 : decode cX8_copy 162 = .ok (.getfield 16, 3) := dq_180 (b1 := 0) (b2 := 16) (by decide +kernel) (by decide)
theorem dX8_copy_165 : decode cX8_copy 165 = .ok (.bipush 40, 2) := dq_16 (b1 := 40) (by decide +kernel) (by decide)
theorem dX8_copy_167 : decode cX8_copy 167 = .ok (.iload_n 3, 1) := dq_29 (by decide +kernel)
theorem dX8_copy_168 : decode cX8_copy 168 = .ok (.imul, 1) := dq_104 (by decide +kernel)
theorem dX8_copy_169 : decode cX8_copy 169 = .ok (.iload 4, 2) := dq_21 (b1 := 4) (by decide +kernel) (by decide)
theorem dX8_copy_17 : decode cX8_copy 17 = .ok (.aload_n 0, 1) := dq_42 (by decide +kernel)
theorem dX8_copy_171 : decode cX8_copy 171 = .ok (.iadd, 1) := dq_96 (by decide +kernel)
theorem dX8_copy_172 : decode cX8_copy 172 = .ok (.iload 6, 2) := dq_21 (b1 := 6) (by decide +kernel) (by decide)
theorem dX8_copy_174 : decode cX8_copy 174 = .ok (.iadd, 1) := dq_96 (by decide +kernel)
theorem dX8_copy_175 : decode cX8_copy 175 = .ok (.aload_n 0, 1) := dq_42 (by decide +kernel)
theorem dX8_copy_176 : decode cX8_copy 176 = .ok (.getfield 22, 3) := dq_180 (b1 := 0) (b2 := 22) (by decide +kernel) (by decide)
theorem dX8_copy_179 : decode cX8_copy 179 = .ok (.iload 6, 2) := dq_21 (b1 := 6) (by decide +kernel) (by decide)
theorem dX8_copy_18 : decode cX8_copy 18 = .ok (.getfield 13, 3) := dq_180 (b1 := 0) (b2 := 13) (by decide +kernel) (by decide)
theorem dX8_copy_181 : decode cX8_copy 181 = .ok (.iaload, 1) := dq_46 (by decide +kernel)
theorem dX8_copy_182 : decode cX8_copy 182 = .ok (.iastore, 1) := dq_79 (by decide +kernel)
theorem dX8_copy_183 : decode cX8_copy 183 = .ok (.iinc 6 1, 3) := dq_132 (b1 := 6) (b2 := 1) (by decide +kernel) (by decide) (by decide)
theorem dX8_copy_186 : decode cX8_copy 186 = .ok (.goto (-32), 3) := dq_167 (b1 := 255) (b2 := 224) (by decide +kernel) (by decide)
theorem dX8_copy_189 : decode cX8_copy 189 = .ok (.aload_n 0, 1) := dq_42 (by decide +kernel)
theorem dX8_copy_190 : decode cX8_copy 190 = .ok (.iload 5, 2) := dq_21 (b1 := 5) (by decide +kernel) (by decide)
theorem dX8_copy_192 : decode cX8_copy 192 = .ok (.invokevirtual 72, 3) := dq_182 (b1 := 0) (b2 := 72) (by decide +kernel) (by decide)
theorem dX8_copy_195 : decode cX8_copy 195 = .ok (.ireturn, 1) := dq_172 (by decide +kernel)
theorem dX8_copy_21 : decode cX8_copy 21 = .ok (.iload_n 1, 1) := dq_27 (by decide +kernel)
theorem dX8_copy_22 : decode cX8_copy 22 = .ok (.iaload, 1) := dq_46 (by decide +kernel)
theorem dX8_copy_23 : decode cX8_copy 23 = .ok (.ifCond .lt 12, 3) := dq_155 (b1 := 0) (b2 := 12) (by decide +kernel) (by decide)
theorem dX8_copy_26 : decode cX8_copy 26 = .ok (.aload_n 0, 1) := dq_42 (by decide +kernel)
theorem dX8_copy_27 : decode cX8_copy 27 = .ok (.getfield 13, 3) := dq_180 (b1 := 0) (b2 := 13) (by decide +kernel) (by decide)
theorem dX8_copy_30 : decode cX8_copy 30 = .ok (.iload_n 3, 1) := dq_29 (by decide +kernel)
theorem dX8_copy_31 : decode cX8_copy 31 = .ok (.iaload, 1) := dq_46 (by decide +kernel)
theorem dX8_copy_32 : decode cX8_copy 32 = .ok (.ifCond .ge 9, 3) := dq_156 (b1 := 0) (b2 := 9) (by decide +kernel) (by decide)
theorem dX8_copy_35 : decode cX8_copy 35 = .ok (.aload_n 0, 1) := dq_42 (by decide +kernel)
theorem dX8_copy_36 : decode cX8_copy 36 = .ok (.iconst 1, 1) := dq_4 (by decide +kernel)
theorem dX8_copy_37 : decode cX8_copy 37 = .ok (.invokevirtual 68, 3) := dq_182 (b1 := 0) (b2 := 68) (by decide +kernel) (by decide)
theorem dX8_copy_4 : decode cX8_copy 4 = .ok (.ifCond .eq 10, 3) := dq_153 (b1 := 0) (b2 := 10) (by decide +kernel) (by decide)
theorem dX8_copy_40 : decode cX8_copy 40 = .ok (.ireturn, 1) := dq_172 (by decide +kernel)
theorem dX8_copy_41 : decode cX8_copy 41 = .ok (.aload_n 0, 1) := dq_42 (by decide +kernel)
theorem dX8_copy_42 : decode cX8_copy 42 = .ok (.getfield 7, 3) := dq_180 (b1 := 0) (b2 := 7) (by decide +kernel) (by decide)
theorem dX8_copy_45 : decode cX8_copy 45 = .ok (.iload_n 1, 1) := dq_27 (by decide +kernel)
theorem dX8_copy_46 : decode cX8_copy 46 = .ok (.iaload, 1) := dq_46 (by decide +kernel)
theorem dX8_copy_47 : decode cX8_copy 47 = .ok (.aload_n 0, 1) := dq_42 (by decide +kernel)
theorem dX8_copy_48 : decode cX8_copy 48 = .ok (.getfield 7, 3) := dq_180 (b1 := 0) (b2 := 7) (by decide +kernel) (by decide)
theorem dX8_copy_51 : decode cX8_copy 51 = .ok (.iload_n 3, 1) := dq_29 (by decide +kernel)
theorem dX8_copy_52 : decode cX8_copy 52 = .ok (.iaload, 1) := dq_46 (by decide +kernel)
theorem dX8_copy_53 : decode cX8_copy 53 = .ok (.if_icmp .eq 9, 3) := dq_159 (b1 := 0) (b2 := 9) (by decide +kernel) (by decide)
theorem dX8_copy_56 : decode cX8_copy 56 = .ok (.aload_n 0, 1) := dq_42 (by decide +kernel)
theorem dX8_copy_57 : decode cX8_copy 57 = .ok (.iconst 5, 1) := dq_8 (by decide +kernel)
theorem dX8_copy_58 : decode cX8_copy 58 = .ok (.invokevirtual 68, 3) := dq_182 (b1 := 0) (b2 := 68) (by decide +kernel) (by decide)
theorem dX8_copy_61 : decode cX8_copy 61 = .ok (.ireturn, 1) := dq_172 (by decide +kernel)
theorem dX8_copy_62 : decode cX8_copy 62 = .ok (.iload 5, 2) := dq_21 (b1 := 5) (by decide +kernel) (by decide)
theorem dX8_copy_64 : decode cX8_copy 64 = .ok (.ifCond .lt 44, 3) := dq_155 (b1 := 0) (b2 := 44) (by decide +kernel) (by decide)
theorem dX8_copy_67 : decode cX8_copy 67 = .ok (.iload_n 2, 1) := dq_28 (by decide +kernel)
theorem dX8_copy_68 : decode cX8_copy 68 = .ok (.i2l, 1) := dq_133 (by decide +kernel)
theorem dX8_copy_69 : decode cX8_copy 69 = .ok (.lconst 0, 1) := dq_9 (by decide +kernel)
theorem dX8_copy_7 : decode cX8_copy 7 = .ok (.iload_n 3, 1) := dq_29 (by decide +kernel)
theorem dX8_copy_70 : decode cX8_copy 70 = .ok (.aload_n 0, 1) := dq_42 (by decide +kernel)
theorem dX8_copy_71 : decode cX8_copy 71 = .ok (.getfield 13, 3) := dq_180 (b1 := 0) (b2 := 13) (by decide +kernel) (by decide)
theorem dX8_copy_74 : decode cX8_copy 74 = .ok (.iload_n 1, 1) := dq_27 (by decide +kernel)
theorem dX8_copy_75 : decode cX8_copy 75 = .ok (.iaload, 1) := dq_46 (by decide +kernel)
theorem dX8_copy_76 : decode cX8_copy 76 = .ok (.i2l, 1) := dq_133 (by decide +kernel)
theorem dX8_copy_77 : decode cX8_copy 77 = .ok (.iload 5, 2) := dq_21 (b1 := 5) (by decide +kernel) (by decide)
theorem dX8_copy_79 : decode cX8_copy 79 = .ok (.i2l, 1) := dq_133 (by decide +kernel)
theorem dX8_copy_8 : decode cX8_copy 8 = .ok (.invokestatic 61, 3) := dq_184 (b1 := 0) (b2 := 61) (by decide +kernel) (by decide)
theorem dX8_copy_80 : decode cX8_copy 80 = .ok (.lsub, 1) := dq_101 (by decide +kernel)
theorem dX8_copy_81 : decode cX8_copy 81 = .ok (.invokestatic 57, 3) := dq_184 (b1 := 0) (b2 := 57) (by decide +kernel) (by decide)
theorem dX8_copy_84 : decode cX8_copy 84 = .ok (.ifCond .eq 24, 3) := dq_153 (b1 := 0) (b2 := 24) (by decide +kernel) (by decide)
theorem dX8_copy_87 : decode cX8_copy 87 = .ok (.iload 4, 2) := dq_21 (b1 := 4) (by decide +kernel) (by decide)
theorem dX8_copy_89 : decode cX8_copy 89 = .ok (.i2l, 1) := dq_133 (by decide +kernel)
theorem dX8_copy_90 : decode cX8_copy 90 = .ok (.lconst 0, 1) := dq_9 (by decide +kernel)
theorem dX8_copy_91 : decode cX8_copy 91 = .ok (.aload_n 0, 1) := dq_42 (by decide +kernel)
theorem dX8_copy_92 : decode cX8_copy 92 = .ok (.getfield 13, 3) := dq_180 (b1 := 0) (b2 := 13) (by decide +kernel) (by decide)
theorem dX8_copy_95 : decode cX8_copy 95 = .ok (.iload_n 3, 1) := dq_29 (by decide +kernel)
theorem dX8_copy_96 : decode cX8_copy 96 = .ok (.iaload, 1) := dq_46 (by decide +kernel)
theorem dX8_copy_97 : decode cX8_copy 97 = .ok (.i2l, 1) := dq_133 (by decide +kernel)
theorem dX8_copy_98 : decode cX8_copy 98 = .ok (.iload 5, 2) := dq_21 (b1 := 5) (by decide +kernel) (by decide)
theorem dX8_count_0 : decode cX8_count 0 = .ok (.iconst 0, 1) := dq_3 (by decide +kernel)
theorem dX8_count_1 : decode cX8_count 1 = .ok (.istore_n 2, 1) := dq_61 (by decide +kernel)
theorem dX8_count_10 : decode cX8_count 10 = .ok (.iload_n 2, 1) := dq_28 (by decide +kernel)
theorem dX8_count_100 : decode cX8_count 100 = .ok (.iconst 5, 1) := dq_8 (by decide +kernel)
theorem dX8_count_101 : decode cX8_count 101 = .ok (.iaload, 1) := dq_46 (by decide +kernel)
theorem dX8_count_102 : decode cX8_count 102 = .ok (.ireturn, 1) := dq_172 (by decide +kernel)
theorem dX8_count_103 : decode cX8_count 103 = .ok (.aload_n 0, 1) := dq_42 (by decide +kernel)
theorem dX8_count_104 : decode cX8_count 104 = .ok (.getfield 19, 3) := dq_180 (b1 := 0) (b2 := 19) (by decide +kernel) (by decide)
theorem dX8_count_107 : decode cX8_count 107 = .ok (.bipush 7, 2) := dq_16 (b1 := 7) (by decide +kernel) (by decide)
theorem dX8_count_109 : decode cX8_count 109 = .ok (.iaload, 1) := dq_46 (by decide +kernel)
theorem dX8_count_11 : decode cX8_count 11 = .ok (.aload_n 0, 1) := dq_42 (by decide +kernel)
theorem dX8_count_110 : decode cX8_count 110 = .ok (.ireturn, 1) := dq_172 (by decide +kernel)
theorem dX8_count_111 : decode cX8_count 111 = .ok (.aload_n 0, 1) := dq_42 (by decide +kernel)
theorem dX8_count_112 : decode cX8_count 112 = .ok (.iconst 0, 1) := dq_3 (by decide +kernel)
theorem dX8_count_113 : decode cX8_count 113 = .ok (.invokevirtual 182, 3) := dq_182 (b1 := 0) (b2 := 182) (by decide +kernel) (by decide)
theorem dX8_count_116 : decode cX8_count 116 = .ok (.invokestatic 254, 3) := dq_184 (b1 := 0) (b2 := 254) (by decide +kernel) (by decide)
theorem dX8_count_119 : decode cX8_count 119 = .ok (.ireturn, 1) := dq_172 (by decide +kernel)
theorem dX8_count_12 : decode cX8_count 12 = .ok (.getfield 13, 3) := dq_180 (b1 := 0) (b2 := 13) (by decide +kernel) (by decide)
theorem dX8_count_120 : decode cX8_count 120 = .ok (.aload_n 0, 1) := dq_42 (by decide +kernel)
theorem dX8_count_121 : decode cX8_count 121 = .ok (.getfield 142, 3) := dq_180 (b1 := 0) (b2 := 142) (by decide +kernel) (by decide)
theorem dX8_count_124 : decode cX8_count 124 = .ok (.ireturn, 1) := dq_172 (by decide +kernel)
theorem dX8_count_125 : decode cX8_count 125 = .ok (.aload_n 0, 1) := dq_42 (by decide +kernel)
theorem dX8_count_126 : decode cX8_count 126 = .ok (.getfield 81, 3) := dq_180 (b1 := 0) (b2 := 81) (by decide +kernel) (by decide)
theorem dX8_count_129 : decode cX8_count 129 = .ok (.ireturn, 1) := dq_172 (by decide +kernel)
theorem dX8_count_130 : decode cX8_count 130 = .ok (.ldc 67, 2) := dq_18 (b1 := 67) (by decide +kernel) (by decide)
theorem dX8_count_132 : decode cX8_count 132 = .ok (.ireturn, 1) := dq_172 (by decide +kernel)
theorem dX8_count_15 : decode cX8_count 15 = .ok (.iload_n 3, 1) := dq_29 (by decide +kernel)
theorem dX8_count_16 : decode cX8_count 16 = .ok (.iaload, 1) := dq_46 (by decide +kernel)
theorem dX8_count_17 : decode cX8_count 17 = .ok (.ifCond .lt 7, 3) := dq_155 (b1 := 0) (b2 := 7) (by decide +kernel) (by decide)
theorem dX8_count_2 : decode cX8_count 2 = .ok (.iconst 0, 1) := dq_3 (by decide +kernel)
theorem dX8_count_20 : decode cX8_count 20 = .ok (.iconst 1, 1) := dq_4 (by decide +kernel)
theorem dX8_count_21 : decode cX8_count 21 = .ok (.goto 4, 3) := dq_167 (b1 := 0) (b2 := 4) (by decide +kernel) (by decide)
theorem dX8_count_24 : decode cX8_count 24 = .ok (.iconst 0, 1) := dq_3 (by decide +kernel)
theorem dX8_count_25 : decode cX8_count 25 = .ok (.iadd, 1) := dq_96 (by decide +kernel)
theorem dX8_count_26 : decode cX8_count 26 = .ok (.istore_n 2, 1) := dq_61 (by decide +kernel)
theorem dX8_count_27 : decode cX8_count 27 = .ok (.iinc 3 1, 3) := dq_132 (b1 := 3) (b2 := 1) (by decide +kernel) (by decide) (by decide)
theorem dX8_count_3 : decode cX8_count 3 = .ok (.istore_n 3, 1) := dq_62 (by decide +kernel)
theorem dX8_count_30 : decode cX8_count 30 = .ok (.goto (-26), 3) := dq_167 (b1 := 255) (b2 := 230) (by decide +kernel) (by decide)
theorem dX8_count_33 : decode cX8_count 33 = .ok (.iload_n 1, 1) := dq_27 (by decide +kernel)
theorem dX8_count_34 : decode cX8_count 34 = .ok (.tableswitch 96 0 7 #[46, 48, 55, 62, 69, 77, 86, 91], 46) := by decide +kernel
theorem dX8_count_4 : decode cX8_count 4 = .ok (.iload_n 3, 1) := dq_29 (by decide +kernel)
theorem dX8_count_5 : decode cX8_count 5 = .ok (.bipush 8, 2) := dq_16 (b1 := 8) (by decide +kernel) (by decide)
theorem dX8_count_7 : decode cX8_count 7 = .ok (.if_icmp .ge 26, 3) := dq_162 (b1 := 0) (b2 := 26) (by decide +kernel) (by decide)
theorem dX8_count_80 : decode cX8_count 80 = .ok (.iload_n 2, 1) := dq_28 (by decide +kernel)
theorem dX8_count_81 : decode cX8_count 81 = .ok (.ireturn, 1) := dq_172 (by decide +kernel)
theorem dX8_count_82 : decode cX8_count 82 = .ok (.aload_n 0, 1) := dq_42 (by decide +kernel)
theorem dX8_count_83 : decode cX8_count 83 = .ok (.getfield 19, 3) := dq_180 (b1 := 0) (b2 := 19) (by decide +kernel) (by decide)
theorem dX8_count_86 : decode cX8_count 86 = .ok (.iconst 4, 1) := dq_7 (by decide +kernel)
theorem dX8_count_87 : decode cX8_count 87 = .ok (.iaload, 1) := dq_46 (by decide +kernel)
theorem dX8_count_88 : decode cX8_count 88 = .ok (.ireturn, 1) := dq_172 (by decide +kernel)
theorem dX8_count_89 : decode cX8_count 89 = .ok (.aload_n 0, 1) := dq_42 (by decide +kernel)
theorem dX8_count_90 : decode cX8_count 90 = .ok (.getfield 19, 3) := dq_180 (b1 := 0) (b2 := 19) (by decide +kernel) (by decide)
theorem dX8_count_93 : decode cX8_count 93 = .ok (.iconst 3, 1) := dq_6 (by decide +kernel)
theorem dX8_count_94 : decode cX8_count 94 = .ok (.iaload, 1) := dq_46 (by decide +kernel)
theorem dX8_count_95 : decode cX8_count 95 = .ok (.ireturn, 1) := dq_172 (by decide +kernel)
theorem dX8_count_96 : decode cX8_count 96 = .ok (.aload_n 0, 1) := dq_42 (by decide +kernel)
theorem dX8_count_97 : decode cX8_count 97 = .ok (.getfield 19, 3) := dq_180 (b1 := 0) (b2 := 19) (by decide +kernel) (by decide)
theorem dX8_drop_0 : decode cX8_drop 0 = .ok (.iload_n 1, 1) := dq_27 (by decide +kernel)
theorem dX8_drop_1 : decode cX8_drop 1 = .ok (.invokestatic 61, 3) := dq_184 (b1 := 0) (b2 := 61) (by decide +kernel) (by decide)
theorem dX8_drop_10 : decode cX8_drop 10 = .ok (.aload_n 0, 1) := dq_42 (by decide +kernel)
theorem dX8_drop_11 : decode cX8_drop 11 = .ok (.getfield 13, 3) := dq_180 (b1 := 0) (b2 := 13) (by decide +kernel) (by decide)
theorem dX8_drop_14 : decode cX8_drop 14 = .ok (.iload_n 1, 1) := dq_27 (by decide +kernel)
theorem dX8_drop_15 : decode cX8_drop 15 = .ok (.iaload, 1) := dq_46 (by decide +kernel)
theorem dX8_drop_16 : decode cX8_drop 16 = .ok (.ifCond .ge 9, 3) := dq_156 (b1 := 0) (b2 := 9) (by decide +kernel) (by decide)
theorem dX8_drop_19 : decode cX8_drop 19 = .ok (.aload_n 0, 1) := dq_42 (by decide +kernel)
theorem dX8_drop_20 : decode cX8_drop 20 = .ok (.iconst 1, 1) := dq_4 (by decide +kernel)
theorem dX8_drop_21 : decode cX8_drop 21 = .ok (.invokevirtual 68, 3) := dq_182 (b1 := 0) (b2 := 68) (by decide +kernel) (by decide)
theorem dX8_drop_24 : decode cX8_drop 24 = .ok (.ireturn, 1) := dq_172 (by decide +kernel)
theorem dX8_drop_25 : decode cX8_drop 25 = .ok (.aload_n 0, 1) := dq_42 (by decide +kernel)
theorem dX8_drop_26 : decode cX8_drop 26 = .ok (.getfield 13, 3) := dq_180 (b1 := 0) (b2 := 13) (by decide +kernel) (by decide)
theorem dX8_drop_29 : decode cX8_drop 29 = .ok (.iload_n 1, 1) := dq_27 (by decide +kernel)
theorem dX8_drop_30 : decode cX8_drop 30 = .ok (.iaload, 1) := dq_46 (by decide +kernel)
theorem dX8_drop_31 : decode cX8_drop 31 = .ok (.istore_n 2, 1) := dq_61 (by decide +kernel)
theorem dX8_drop_32 : decode cX8_drop 32 = .ok (.aload_n 0, 1) := dq_42 (by decide +kernel)
theorem dX8_drop_33 : decode cX8_drop 33 = .ok (.getfield 13, 3) := dq_180 (b1 := 0) (b2 := 13) (by decide +kernel) (by decide)
theorem dX8_drop_36 : decode cX8_drop 36 = .ok (.iload_n 1, 1) := dq_27 (by decide +kernel)
theorem dX8_drop_37 : decode cX8_drop 37 = .ok (.iconst (-1), 1) := dq_2 (by decide +kernel)
theorem dX8_drop_38 : decode cX8_drop 38 = .ok (.iastore, 1) := dq_79 (by decide +kernel)
theorem dX8_drop_39 : decode cX8_drop 39 = .ok (.aload_n 0, 1) := dq_42 (by decide +kernel)
theorem dX8_drop_4 : decode cX8_drop 4 = .ok (.ifCond .ne 6, 3) := dq_154 (b1 := 0) (b2 := 6) (by decide +kernel) (by decide)
theorem dX8_drop_40 : decode cX8_drop 40 = .ok (.iload_n 2, 1) := dq_28 (by decide +kernel)
theorem dX8_drop_41 : decode cX8_drop 41 = .ok (.invokevirtual 72, 3) := dq_182 (b1 := 0) (b2 := 72) (by decide +kernel) (by decide)
theorem dX8_drop_44 : decode cX8_drop 44 = .ok (.ireturn, 1) := dq_172 (by decide +kernel)
theorem dX8_drop_7 : decode cX8_drop 7 = .ok (.ldc 67, 2) := dq_18 (b1 := 67) (by decide +kernel) (by decide)
theorem dX8_drop_9 : decode cX8_drop 9 = .ok (.ireturn, 1) := dq_172 (by decide +kernel)
theorem dX8_dutchSize_0 : decode cX8_dutchSize 0 = .ok (.aload_n 0, 1) := dq_42 (by decide +kernel)
theorem dX8_dutchSize_1 : decode cX8_dutchSize 1 = .ok (.bipush 13, 2) := dq_16 (b1 := 13) (by decide +kernel) (by decide)
theorem dX8_dutchSize_10 : decode cX8_dutchSize 10 = .ok (.invokevirtual 266, 3) := dq_182 (b1 := 1) (b2 := 10) (by decide +kernel) (by decide)
theorem dX8_dutchSize_13 : decode cX8_dutchSize 13 = .ok (.bipush 100, 2) := dq_16 (b1 := 100) (by decide +kernel) (by decide)
theorem dX8_dutchSize_15 : decode cX8_dutchSize 15 = .ok (.isub, 1) := dq_100 (by decide +kernel)
theorem dX8_dutchSize_16 : decode cX8_dutchSize 16 = .ok (.ireturn, 1) := dq_172 (by decide +kernel)
theorem dX8_dutchSize_3 : decode cX8_dutchSize 3 = .ok (.invokevirtual 263, 3) := dq_182 (b1 := 1) (b2 := 7) (by decide +kernel) (by decide)
theorem dX8_dutchSize_6 : decode cX8_dutchSize 6 = .ok (.aload_n 0, 1) := dq_42 (by decide +kernel)
theorem dX8_dutchSize_7 : decode cX8_dutchSize 7 = .ok (.iload_n 1, 1) := dq_27 (by decide +kernel)
theorem dX8_dutchSize_8 : decode cX8_dutchSize 8 = .ok (.bipush 10, 2) := dq_16 (b1 := 10) (by decide +kernel) (by decide)
theorem dX8_fault_0 : decode cX8_fault 0 = .ok (.aload_n 0, 1) := dq_42 (by decide +kernel)
theorem dX8_fault_1 : decode cX8_fault 1 = .ok (.getfield 134, 3) := dq_180 (b1 := 0) (b2 := 134) (by decide +kernel) (by decide)
theorem dX8_fault_4 : decode cX8_fault 4 = .ok (.ireturn, 1) := dq_172 (by decide +kernel)
theorem dX8_feed_0 : decode cX8_feed 0 = .ok (.iload_n 1, 1) := dq_27 (by decide +kernel)
theorem dX8_feed_1 : decode cX8_feed 1 = .ok (.i2l, 1) := dq_133 (by decide +kernel)
theorem dX8_feed_12 : decode cX8_feed 12 = .ok (.ldc 67, 2) := dq_18 (b1 := 67) (by decide +kernel) (by decide)
theorem dX8_feed_14 : decode cX8_feed 14 = .ok (.ireturn, 1) := dq_172 (by decide +kernel)
theorem dX8_feed_15 : decode cX8_feed 15 = .ok (.aload_n 0, 1) := dq_42 (by decide +kernel)
theorem dX8_feed_16 : decode cX8_feed 16 = .ok (.getfield 81, 3) := dq_180 (b1 := 0) (b2 := 81) (by decide +kernel) (by decide)
theorem dX8_feed_19 : decode cX8_feed 19 = .ok (.bipush 120, 2) := dq_16 (b1 := 120) (by decide +kernel) (by decide)
theorem dX8_feed_2 : decode cX8_feed 2 = .ok (.lconst 0, 1) := dq_9 (by decide +kernel)
theorem dX8_feed_21 : decode cX8_feed 21 = .ok (.if_icmp .ne 6, 3) := dq_160 (b1 := 0) (b2 := 6) (by decide +kernel) (by decide)
theorem dX8_feed_24 : decode cX8_feed 24 = .ok (.ldc 84, 2) := dq_18 (b1 := 84) (by decide +kernel) (by decide)
theorem dX8_feed_26 : decode cX8_feed 26 = .ok (.ireturn, 1) := dq_172 (by decide +kernel)
theorem dX8_feed_27 : decode cX8_feed 27 = .ok (.aload_n 0, 1) := dq_42 (by decide +kernel)
theorem dX8_feed_28 : decode cX8_feed 28 = .ok (.getfield 25, 3) := dq_180 (b1 := 0) (b2 := 25) (by decide +kernel) (by decide)
theorem dX8_feed_3 : decode cX8_feed 3 = .ok (.ldc2_w 79, 3) := dq_20 (b1 := 0) (b2 := 79) (by decide +kernel) (by decide)
theorem dX8_feed_31 : decode cX8_feed 31 = .ok (.aload_n 0, 1) := dq_42 (by decide +kernel)
theorem dX8_feed_32 : decode cX8_feed 32 = .ok (.getfield 81, 3) := dq_180 (b1 := 0) (b2 := 81) (by decide +kernel) (by decide)
theorem dX8_feed_35 : decode cX8_feed 35 = .ok (.iload_n 1, 1) := dq_27 (by decide +kernel)
theorem dX8_feed_36 : decode cX8_feed 36 = .ok (.iastore, 1) := dq_79 (by decide +kernel)
theorem dX8_feed_37 : decode cX8_feed 37 = .ok (.aload_n 0, 1) := dq_42 (by decide +kernel)
theorem dX8_feed_38 : decode cX8_feed 38 = .ok (.dup, 1) := dq_89 (by decide +kernel)
theorem dX8_feed_39 : decode cX8_feed 39 = .ok (.getfield 81, 3) := dq_180 (b1 := 0) (b2 := 81) (by decide +kernel) (by decide)
theorem dX8_feed_42 : decode cX8_feed 42 = .ok (.iconst 1, 1) := dq_4 (by decide +kernel)
theorem dX8_feed_43 : decode cX8_feed 43 = .ok (.iadd, 1) := dq_96 (by decide +kernel)
theorem dX8_feed_44 : decode cX8_feed 44 = .ok (.putfield 81, 3) := dq_181 (b1 := 0) (b2 := 81) (by decide +kernel) (by decide)
theorem dX8_feed_47 : decode cX8_feed 47 = .ok (.aload_n 0, 1) := dq_42 (by decide +kernel)
theorem dX8_feed_48 : decode cX8_feed 48 = .ok (.getfield 81, 3) := dq_180 (b1 := 0) (b2 := 81) (by decide +kernel) (by decide)
theorem dX8_feed_51 : decode cX8_feed 51 = .ok (.ireturn, 1) := dq_172 (by decide +kernel)
theorem dX8_feed_6 : decode cX8_feed 6 = .ok (.invokestatic 57, 3) := dq_184 (b1 := 0) (b2 := 57) (by decide +kernel) (by decide)
theorem dX8_feed_9 : decode cX8_feed 9 = .ok (.ifCond .ne 6, 3) := dq_154 (b1 := 0) (b2 := 6) (by decide +kernel) (by decide)
theorem dX8_image_0 : decode cX8_image 0 = .ok (.iload_n 1, 1) := dq_27 (by decide +kernel)
theorem dX8_image_1 : decode cX8_image 1 = .ok (.i2l, 1) := dq_133 (by decide +kernel)
theorem dX8_image_10 : decode cX8_image 10 = .ok (.ldc 67, 2) := dq_18 (b1 := 67) (by decide +kernel) (by decide)
theorem dX8_image_12 : decode cX8_image 12 = .ok (.ireturn, 1) := dq_172 (by decide +kernel)
theorem dX8_image_13 : decode cX8_image 13 = .ok (.aload_n 0, 1) := dq_42 (by decide +kernel)
theorem dX8_image_14 : decode cX8_image 14 = .ok (.getfield 138, 3) := dq_180 (b1 := 0) (b2 := 138) (by decide +kernel) (by decide)
theorem dX8_image_17 : decode cX8_image 17 = .ok (.ifCond .ne 6, 3) := dq_154 (b1 := 0) (b2 := 6) (by decide +kernel) (by decide)
theorem dX8_image_2 : decode cX8_image 2 = .ok (.lconst 0, 1) := dq_9 (by decide +kernel)
theorem dX8_image_20 : decode cX8_image 20 = .ok (.ldc 161, 2) := dq_18 (b1 := 161) (by decide +kernel) (by decide)
theorem dX8_image_22 : decode cX8_image 22 = .ok (.ireturn, 1) := dq_172 (by decide +kernel)
theorem dX8_image_23 : decode cX8_image 23 = .ok (.iconst 0, 1) := dq_3 (by decide +kernel)
theorem dX8_image_24 : decode cX8_image 24 = .ok (.istore_n 2, 1) := dq_61 (by decide +kernel)
theorem dX8_image_25 : decode cX8_image 25 = .ok (.iload_n 2, 1) := dq_28 (by decide +kernel)
theorem dX8_image_26 : decode cX8_image 26 = .ok (.bipush 38, 2) := dq_16 (b1 := 38) (by decide +kernel) (by decide)
theorem dX8_image_28 : decode cX8_image 28 = .ok (.if_icmp .ge 26, 3) := dq_162 (b1 := 0) (b2 := 26) (by decide +kernel) (by decide)
theorem dX8_image_3 : decode cX8_image 3 = .ok (.lconst 1, 1) := dq_10 (by decide +kernel)
theorem dX8_image_31 : decode cX8_image 31 = .ok (.aload_n 0, 1) := dq_42 (by decide +kernel)
theorem dX8_image_32 : decode cX8_image 32 = .ok (.getfield 44, 3) := dq_180 (b1 := 0) (b2 := 44) (by decide +kernel) (by decide)
theorem dX8_image_35 : decode cX8_image 35 = .ok (.bipush 38, 2) := dq_16 (b1 := 38) (by decide +kernel) (by decide)
theorem dX8_image_37 : decode cX8_image 37 = .ok (.iload_n 1, 1) := dq_27 (by decide +kernel)
theorem dX8_image_38 : decode cX8_image 38 = .ok (.imul, 1) := dq_104 (by decide +kernel)
theorem dX8_image_39 : decode cX8_image 39 = .ok (.iload_n 2, 1) := dq_28 (by decide +kernel)
theorem dX8_image_4 : decode cX8_image 4 = .ok (.invokestatic 57, 3) := dq_184 (b1 := 0) (b2 := 57) (by decide +kernel) (by decide)
theorem dX8_image_40 : decode cX8_image 40 = .ok (.iadd, 1) := dq_96 (by decide +kernel)
theorem dX8_image_41 : decode cX8_image 41 = .ok (.aload_n 0, 1) := dq_42 (by decide +kernel)
theorem dX8_image_42 : decode cX8_image 42 = .ok (.getfield 19, 3) := dq_180 (b1 := 0) (b2 := 19) (by decide +kernel) (by decide)
theorem dX8_image_45 : decode cX8_image 45 = .ok (.iload_n 2, 1) := dq_28 (by decide +kernel)
theorem dX8_image_46 : decode cX8_image 46 = .ok (.iaload, 1) := dq_46 (by decide +kernel)
theorem dX8_image_47 : decode cX8_image 47 = .ok (.iastore, 1) := dq_79 (by decide +kernel)
theorem dX8_image_48 : decode cX8_image 48 = .ok (.iinc 2 1, 3) := dq_132 (b1 := 2) (b2 := 1) (by decide +kernel) (by decide) (by decide)
theorem dX8_image_51 : decode cX8_image 51 = .ok (.goto (-26), 3) := dq_167 (b1 := 255) (b2 := 230) (by decide +kernel) (by decide)
theorem dX8_image_54 : decode cX8_image 54 = .ok (.aload_n 0, 1) := dq_42 (by decide +kernel)
theorem dX8_image_55 : decode cX8_image 55 = .ok (.getfield 40, 3) := dq_180 (b1 := 0) (b2 := 40) (by decide +kernel) (by decide)
theorem dX8_image_58 : decode cX8_image 58 = .ok (.iload_n 1, 1) := dq_27 (by decide +kernel)
theorem dX8_image_59 : decode cX8_image 59 = .ok (.iconst 1, 1) := dq_4 (by decide +kernel)
theorem dX8_image_60 : decode cX8_image 60 = .ok (.bastore, 1) := dq_84 (by decide +kernel)
theorem dX8_image_61 : decode cX8_image 61 = .ok (.iconst 1, 1) := dq_4 (by decide +kernel)
theorem dX8_image_62 : decode cX8_image 62 = .ok (.ireturn, 1) := dq_172 (by decide +kernel)
theorem dX8_image_7 : decode cX8_image 7 = .ok (.ifCond .ne 6, 3) := dq_154 (b1 := 0) (b2 := 6) (by decide +kernel) (by decide)
theorem dX8_lent_0 : decode cX8_lent 0 = .ok (.aload_n 0, 1) := dq_42 (by decide +kernel)
theorem dX8_lent_1 : decode cX8_lent 1 = .ok (.iload_n 2, 1) := dq_28 (by decide +kernel)
theorem dX8_lent_11 : decode cX8_lent 11 = .ok (.aload_n 0, 1) := dq_42 (by decide +kernel)
theorem dX8_lent_12 : decode cX8_lent 12 = .ok (.getfield 19, 3) := dq_180 (b1 := 0) (b2 := 19) (by decide +kernel) (by decide)
theorem dX8_lent_15 : decode cX8_lent 15 = .ok (.bipush 32, 2) := dq_16 (b1 := 32) (by decide +kernel) (by decide)
theorem dX8_lent_17 : decode cX8_lent 17 = .ok (.iload_n 1, 1) := dq_27 (by decide +kernel)
theorem dX8_lent_18 : decode cX8_lent 18 = .ok (.iadd, 1) := dq_96 (by decide +kernel)
theorem dX8_lent_19 : decode cX8_lent 19 = .ok (.iaload, 1) := dq_46 (by decide +kernel)
theorem dX8_lent_2 : decode cX8_lent 2 = .ok (.invokevirtual 263, 3) := dq_182 (b1 := 1) (b2 := 7) (by decide +kernel) (by decide)
theorem dX8_lent_20 : decode cX8_lent 20 = .ok (.goto 4, 3) := dq_167 (b1 := 0) (b2 := 4) (by decide +kernel) (by decide)
theorem dX8_lent_23 : decode cX8_lent 23 = .ok (.iload_n 1, 1) := dq_27 (by decide +kernel)
theorem dX8_lent_24 : decode cX8_lent 24 = .ok (.ireturn, 1) := dq_172 (by decide +kernel)
theorem dX8_lent_5 : decode cX8_lent 5 = .ok (.iload_n 2, 1) := dq_28 (by decide +kernel)
theorem dX8_lent_6 : decode cX8_lent 6 = .ok (.bipush 10, 2) := dq_16 (b1 := 10) (by decide +kernel) (by decide)
theorem dX8_lent_8 : decode cX8_lent 8 = .ok (.if_icmp .ne 15, 3) := dq_160 (b1 := 0) (b2 := 15) (by decide +kernel) (by decide)
theorem dX8_markOf_0 : decode cX8_markOf 0 = .ok (.aload_n 0, 1) := dq_42 (by decide +kernel)
theorem dX8_markOf_1 : decode cX8_markOf 1 = .ok (.getfield 19, 3) := dq_180 (b1 := 0) (b2 := 19) (by decide +kernel) (by decide)
theorem dX8_markOf_10 : decode cX8_markOf 10 = .ok (.iload_n 2, 1) := dq_28 (by decide +kernel)
theorem dX8_markOf_11 : decode cX8_markOf 11 = .ok (.iconst 2, 1) := dq_5 (by decide +kernel)
theorem dX8_markOf_12 : decode cX8_markOf 12 = .ok (.if_icmp .ne 17, 3) := dq_160 (b1 := 0) (b2 := 17) (by decide +kernel) (by decide)
theorem dX8_markOf_15 : decode cX8_markOf 15 = .ok (.aload_n 0, 1) := dq_42 (by decide +kernel)
theorem dX8_markOf_16 : decode cX8_markOf 16 = .ok (.bipush 24, 2) := dq_16 (b1 := 24) (by decide +kernel) (by decide)
theorem dX8_markOf_18 : decode cX8_markOf 18 = .ok (.invokevirtual 263, 3) := dq_182 (b1 := 1) (b2 := 7) (by decide +kernel) (by decide)
theorem dX8_markOf_21 : decode cX8_markOf 21 = .ok (.iconst 2, 1) := dq_5 (by decide +kernel)
theorem dX8_markOf_22 : decode cX8_markOf 22 = .ok (.aload_n 0, 1) := dq_42 (by decide +kernel)
theorem dX8_markOf_23 : decode cX8_markOf 23 = .ok (.iload_n 1, 1) := dq_27 (by decide +kernel)
theorem dX8_markOf_24 : decode cX8_markOf 24 = .ok (.invokevirtual 272, 3) := dq_182 (b1 := 1) (b2 := 16) (by decide +kernel) (by decide)
theorem dX8_markOf_27 : decode cX8_markOf 27 = .ok (.imul, 1) := dq_104 (by decide +kernel)
theorem dX8_markOf_28 : decode cX8_markOf 28 = .ok (.ireturn, 1) := dq_172 (by decide +kernel)
theorem dX8_markOf_29 : decode cX8_markOf 29 = .ok (.iload_n 2, 1) := dq_28 (by decide +kernel)
theorem dX8_markOf_30 : decode cX8_markOf 30 = .ok (.iconst 3, 1) := dq_6 (by decide +kernel)
theorem dX8_markOf_31 : decode cX8_markOf 31 = .ok (.if_icmp .ne 19, 3) := dq_160 (b1 := 0) (b2 := 19) (by decide +kernel) (by decide)
theorem dX8_markOf_34 : decode cX8_markOf 34 = .ok (.aload_n 0, 1) := dq_42 (by decide +kernel)
theorem dX8_markOf_35 : decode cX8_markOf 35 = .ok (.bipush 22, 2) := dq_16 (b1 := 22) (by decide +kernel) (by decide)
theorem dX8_markOf_37 : decode cX8_markOf 37 = .ok (.invokevirtual 263, 3) := dq_182 (b1 := 1) (b2 := 7) (by decide +kernel) (by decide)
theorem dX8_markOf_4 : decode cX8_markOf 4 = .ok (.bipush 14, 2) := dq_16 (b1 := 14) (by decide +kernel) (by decide)
theorem dX8_markOf_40 : decode cX8_markOf 40 = .ok (.aload_n 0, 1) := dq_42 (by decide +kernel)
theorem dX8_markOf_41 : decode cX8_markOf 41 = .ok (.iload_n 1, 1) := dq_27 (by decide +kernel)
theorem dX8_markOf_42 : decode cX8_markOf 42 = .ok (.invokevirtual 272, 3) := dq_182 (b1 := 1) (b2 := 16) (by decide +kernel) (by decide)
theorem dX8_markOf_45 : decode cX8_markOf 45 = .ok (.sipush 1000, 3) := dq_17 (b1 := 3) (b2 := 232) (by decide +kernel) (by decide)
theorem dX8_markOf_48 : decode cX8_markOf 48 = .ok (.isub, 1) := dq_100 (by decide +kernel)
theorem dX8_markOf_49 : decode cX8_markOf 49 = .ok (.ireturn, 1) := dq_172 (by decide +kernel)
theorem dX8_markOf_50 : decode cX8_markOf 50 = .ok (.iload_n 2, 1) := dq_28 (by decide +kernel)
theorem dX8_markOf_51 : decode cX8_markOf 51 = .ok (.iconst 1, 1) := dq_4 (by decide +kernel)
theorem dX8_markOf_52 : decode cX8_markOf 52 = .ok (.if_icmp .ne 9, 3) := dq_160 (b1 := 0) (b2 := 9) (by decide +kernel) (by decide)
theorem dX8_markOf_55 : decode cX8_markOf 55 = .ok (.aload_n 0, 1) := dq_42 (by decide +kernel)
theorem dX8_markOf_56 : decode cX8_markOf 56 = .ok (.iload_n 1, 1) := dq_27 (by decide +kernel)
theorem dX8_markOf_57 : decode cX8_markOf 57 = .ok (.invokevirtual 272, 3) := dq_182 (b1 := 1) (b2 := 16) (by decide +kernel) (by decide)
theorem dX8_markOf_6 : decode cX8_markOf 6 = .ok (.iload_n 1, 1) := dq_27 (by decide +kernel)
theorem dX8_markOf_60 : decode cX8_markOf 60 = .ok (.ireturn, 1) := dq_172 (by decide +kernel)
theorem dX8_markOf_61 : decode cX8_markOf 61 = .ok (.aload_n 0, 1) := dq_42 (by decide +kernel)
theorem dX8_markOf_62 : decode cX8_markOf 62 = .ok (.bipush 23, 2) := dq_16 (b1 := 23) (by decide +kernel) (by decide)
theorem dX8_markOf_64 : decode cX8_markOf 64 = .ok (.invokevirtual 263, 3) := dq_182 (b1 := 1) (b2 := 7) (by decide +kernel) (by decide)
theorem dX8_markOf_67 : decode cX8_markOf 67 = .ok (.aload_n 0, 1) := dq_42 (by decide +kernel)
theorem dX8_markOf_68 : decode cX8_markOf 68 = .ok (.iload_n 1, 1) := dq_27 (by decide +kernel)
theorem dX8_markOf_69 : decode cX8_markOf 69 = .ok (.bipush 20, 2) := dq_16 (b1 := 20) (by decide +kernel) (by decide)
theorem dX8_markOf_7 : decode cX8_markOf 7 = .ok (.iadd, 1) := dq_96 (by decide +kernel)
theorem dX8_markOf_71 : decode cX8_markOf 71 = .ok (.invokevirtual 266, 3) := dq_182 (b1 := 1) (b2 := 10) (by decide +kernel) (by decide)
theorem dX8_markOf_74 : decode cX8_markOf 74 = .ok (.istore_n 3, 1) := dq_62 (by decide +kernel)
theorem dX8_markOf_75 : decode cX8_markOf 75 = .ok (.iload_n 3, 1) := dq_29 (by decide +kernel)
theorem dX8_markOf_76 : decode cX8_markOf 76 = .ok (.aload_n 0, 1) := dq_42 (by decide +kernel)
theorem dX8_markOf_77 : decode cX8_markOf 77 = .ok (.iload_n 1, 1) := dq_27 (by decide +kernel)
theorem dX8_markOf_78 : decode cX8_markOf 78 = .ok (.invokevirtual 275, 3) := dq_182 (b1 := 1) (b2 := 19) (by decide +kernel) (by decide)
theorem dX8_markOf_8 : decode cX8_markOf 8 = .ok (.iaload, 1) := dq_46 (by decide +kernel)
theorem dX8_markOf_81 : decode cX8_markOf 81 = .ok (.isub, 1) := dq_100 (by decide +kernel)
theorem dX8_markOf_82 : decode cX8_markOf 82 = .ok (.ireturn, 1) := dq_172 (by decide +kernel)
theorem dX8_markOf_9 : decode cX8_markOf 9 = .ok (.istore_n 2, 1) := dq_61 (by decide +kernel)
theorem dX8_restore_0 : decode cX8_restore 0 = .ok (.iload_n 1, 1) := dq_27 (by decide +kernel)
theorem dX8_restore_1 : decode cX8_restore 1 = .ok (.i2l, 1) := dq_133 (by decide +kernel)
theorem dX8_restore_10 : decode cX8_restore 10 = .ok (.ldc 67, 2) := dq_18 (b1 := 67) (by decide +kernel) (by decide)
theorem dX8_restore_12 : decode cX8_restore 12 = .ok (.ireturn, 1) := dq_172 (by decide +kernel)
theorem dX8_restore_13 : decode cX8_restore 13 = .ok (.aload_n 0, 1) := dq_42 (by decide +kernel)
theorem dX8_restore_14 : decode cX8_restore 14 = .ok (.getfield 40, 3) := dq_180 (b1 := 0) (b2 := 40) (by decide +kernel) (by decide)
theorem dX8_restore_17 : decode cX8_restore 17 = .ok (.iload_n 1, 1) := dq_27 (by decide +kernel)
theorem dX8_restore_18 : decode cX8_restore 18 = .ok (.baload, 1) := dq_51 (by decide +kernel)
theorem dX8_restore_19 : decode cX8_restore 19 = .ok (.ifCond .ne 6, 3) := dq_154 (b1 := 0) (b2 := 6) (by decide +kernel) (by decide)
theorem dX8_restore_2 : decode cX8_restore 2 = .ok (.lconst 0, 1) := dq_9 (by decide +kernel)
theorem dX8_restore_22 : decode cX8_restore 22 = .ok (.ldc 161, 2) := dq_18 (b1 := 161) (by decide +kernel) (by decide)
theorem dX8_restore_24 : decode cX8_restore 24 = .ok (.ireturn, 1) := dq_172 (by decide +kernel)
theorem dX8_restore_25 : decode cX8_restore 25 = .ok (.iconst 0, 1) := dq_3 (by decide +kernel)
theorem dX8_restore_26 : decode cX8_restore 26 = .ok (.istore_n 2, 1) := dq_61 (by decide +kernel)
theorem dX8_restore_27 : decode cX8_restore 27 = .ok (.iload_n 2, 1) := dq_28 (by decide +kernel)
theorem dX8_restore_28 : decode cX8_restore 28 = .ok (.bipush 38, 2) := dq_16 (b1 := 38) (by decide +kernel) (by decide)
theorem dX8_restore_3 : decode cX8_restore 3 = .ok (.lconst 1, 1) := dq_10 (by decide +kernel)
theorem dX8_restore_30 : decode cX8_restore 30 = .ok (.if_icmp .ge 26, 3) := dq_162 (b1 := 0) (b2 := 26) (by decide +kernel) (by decide)
theorem dX8_restore_33 : decode cX8_restore 33 = .ok (.aload_n 0, 1) := dq_42 (by decide +kernel)
theorem dX8_restore_34 : decode cX8_restore 34 = .ok (.getfield 19, 3) := dq_180 (b1 := 0) (b2 := 19) (by decide +kernel) (by decide)
theorem dX8_restore_37 : decode cX8_restore 37 = .ok (.iload_n 2, 1) := dq_28 (by decide +kernel)
theorem dX8_restore_38 : decode cX8_restore 38 = .ok (.aload_n 0, 1) := dq_42 (by decide +kernel)
theorem dX8_restore_39 : decode cX8_restore 39 = .ok (.getfield 44, 3) := dq_180 (b1 := 0) (b2 := 44) (by decide +kernel) (by decide)
theorem dX8_restore_4 : decode cX8_restore 4 = .ok (.invokestatic 57, 3) := dq_184 (b1 := 0) (b2 := 57) (by decide +kernel) (by decide)
theorem dX8_restore_42 : decode cX8_restore 42 = .ok (.bipush 38, 2) := dq_16 (b1 := 38) (by decide +kernel) (by decide)
theorem dX8_restore_44 : decode cX8_restore 44 = .ok (.iload_n 1, 1) := dq_27 (by decide +kernel)
theorem dX8_restore_45 : decode cX8_restore 45 = .ok (.imul, 1) := dq_104 (by decide +kernel)
theorem dX8_restore_46 : decode cX8_restore 46 = .ok (.iload_n 2, 1) := dq_28 (by decide +kernel)
theorem dX8_restore_47 : decode cX8_restore 47 = .ok (.iadd, 1) := dq_96 (by decide +kernel)
theorem dX8_restore_48 : decode cX8_restore 48 = .ok (.iaload, 1) := dq_46 (by decide +kernel)
theorem dX8_restore_49 : decode cX8_restore 49 = .ok (.iastore, 1) := dq_79 (by decide +kernel)
theorem dX8_restore_50 : decode cX8_restore 50 = .ok (.iinc 2 1, 3) := dq_132 (b1 := 2) (b2 := 1) (by decide +kernel) (by decide) (by decide)
theorem dX8_restore_53 : decode cX8_restore 53 = .ok (.goto (-26), 3) := dq_167 (b1 := 255) (b2 := 230) (by decide +kernel) (by decide)
theorem dX8_restore_56 : decode cX8_restore 56 = .ok (.aload_n 0, 1) := dq_42 (by decide +kernel)
theorem dX8_restore_57 : decode cX8_restore 57 = .ok (.iconst 0, 1) := dq_3 (by decide +kernel)
theorem dX8_restore_58 : decode cX8_restore 58 = .ok (.putfield 142, 3) := dq_181 (b1 := 0) (b2 := 142) (by decide +kernel) (by decide)
theorem dX8_restore_61 : decode cX8_restore 61 = .ok (.iconst 1, 1) := dq_4 (by decide +kernel)
theorem dX8_restore_62 : decode cX8_restore 62 = .ok (.ireturn, 1) := dq_172 (by decide +kernel)
theorem dX8_restore_7 : decode cX8_restore 7 = .ok (.ifCond .ne 6, 3) := dq_154 (b1 := 0) (b2 := 6) (by decide +kernel) (by decide)
theorem dX8_row_0 : decode cX8_row 0 = .ok (.iload_n 1, 1) := dq_27 (by decide +kernel)
theorem dX8_row_1 : decode cX8_row 1 = .ok (.invokestatic 61, 3) := dq_184 (b1 := 0) (b2 := 61) (by decide +kernel) (by decide)
theorem dX8_row_10 : decode cX8_row 10 = .ok (.ldc2_w 65, 3) := dq_20 (b1 := 0) (b2 := 65) (by decide +kernel) (by decide)
theorem dX8_row_13 : decode cX8_row 13 = .ok (.invokestatic 57, 3) := dq_184 (b1 := 0) (b2 := 57) (by decide +kernel) (by decide)
theorem dX8_row_16 : decode cX8_row 16 = .ok (.ifCond .eq 9, 3) := dq_153 (b1 := 0) (b2 := 9) (by decide +kernel) (by decide)
theorem dX8_row_19 : decode cX8_row 19 = .ok (.iload_n 3, 1) := dq_29 (by decide +kernel)
theorem dX8_row_20 : decode cX8_row 20 = .ok (.bipush 40, 2) := dq_16 (b1 := 40) (by decide +kernel) (by decide)
theorem dX8_row_22 : decode cX8_row 22 = .ok (.if_icmp .le 6, 3) := dq_164 (b1 := 0) (b2 := 6) (by decide +kernel) (by decide)
theorem dX8_row_25 : decode cX8_row 25 = .ok (.ldc 67, 2) := dq_18 (b1 := 67) (by decide +kernel) (by decide)
theorem dX8_row_27 : decode cX8_row 27 = .ok (.ireturn, 1) := dq_172 (by decide +kernel)
theorem dX8_row_28 : decode cX8_row 28 = .ok (.iload_n 3, 1) := dq_29 (by decide +kernel)
theorem dX8_row_29 : decode cX8_row 29 = .ok (.ifCond .ge 9, 3) := dq_156 (b1 := 0) (b2 := 9) (by decide +kernel) (by decide)
theorem dX8_row_32 : decode cX8_row 32 = .ok (.aload_n 0, 1) := dq_42 (by decide +kernel)
theorem dX8_row_33 : decode cX8_row 33 = .ok (.iconst 4, 1) := dq_7 (by decide +kernel)
theorem dX8_row_34 : decode cX8_row 34 = .ok (.invokevirtual 68, 3) := dq_182 (b1 := 0) (b2 := 68) (by decide +kernel) (by decide)
theorem dX8_row_37 : decode cX8_row 37 = .ok (.ireturn, 1) := dq_172 (by decide +kernel)
theorem dX8_row_38 : decode cX8_row 38 = .ok (.aload_n 0, 1) := dq_42 (by decide +kernel)
theorem dX8_row_39 : decode cX8_row 39 = .ok (.getfield 7, 3) := dq_180 (b1 := 0) (b2 := 7) (by decide +kernel) (by decide)
theorem dX8_row_4 : decode cX8_row 4 = .ok (.ifCond .eq 21, 3) := dq_153 (b1 := 0) (b2 := 21) (by decide +kernel) (by decide)
theorem dX8_row_42 : decode cX8_row 42 = .ok (.iload_n 1, 1) := dq_27 (by decide +kernel)
theorem dX8_row_43 : decode cX8_row 43 = .ok (.iload_n 2, 1) := dq_28 (by decide +kernel)
theorem dX8_row_44 : decode cX8_row 44 = .ok (.iastore, 1) := dq_79 (by decide +kernel)
theorem dX8_row_45 : decode cX8_row 45 = .ok (.aload_n 0, 1) := dq_42 (by decide +kernel)
theorem dX8_row_46 : decode cX8_row 46 = .ok (.getfield 13, 3) := dq_180 (b1 := 0) (b2 := 13) (by decide +kernel) (by decide)
theorem dX8_row_49 : decode cX8_row 49 = .ok (.iload_n 1, 1) := dq_27 (by decide +kernel)
theorem dX8_row_50 : decode cX8_row 50 = .ok (.iload_n 3, 1) := dq_29 (by decide +kernel)
theorem dX8_row_51 : decode cX8_row 51 = .ok (.iastore, 1) := dq_79 (by decide +kernel)
theorem dX8_row_52 : decode cX8_row 52 = .ok (.iconst 0, 1) := dq_3 (by decide +kernel)
theorem dX8_row_53 : decode cX8_row 53 = .ok (.istore 4, 2) := dq_54 (b1 := 4) (by decide +kernel) (by decide)
theorem dX8_row_55 : decode cX8_row 55 = .ok (.iload 4, 2) := dq_21 (b1 := 4) (by decide +kernel) (by decide)
theorem dX8_row_57 : decode cX8_row 57 = .ok (.bipush 40, 2) := dq_16 (b1 := 40) (by decide +kernel) (by decide)
theorem dX8_row_59 : decode cX8_row 59 = .ok (.if_icmp .ge 22, 3) := dq_162 (b1 := 0) (b2 := 22) (by decide +kernel) (by decide)
theorem dX8_row_62 : decode cX8_row 62 = .ok (.aload_n 0, 1) := dq_42 (by decide +kernel)
theorem dX8_row_63 : decode cX8_row 63 = .ok (.getfield 16, 3) := dq_180 (b1 := 0) (b2 := 16) (by decide +kernel) (by decide)
theorem dX8_row_66 : decode cX8_row 66 = .ok (.bipush 40, 2) := dq_16 (b1 := 40) (by decide +kernel) (by decide)
theorem dX8_row_68 : decode cX8_row 68 = .ok (.iload_n 1, 1) := dq_27 (by decide +kernel)
theorem dX8_row_69 : decode cX8_row 69 = .ok (.imul, 1) := dq_104 (by decide +kernel)
theorem dX8_row_7 : decode cX8_row 7 = .ok (.iload_n 2, 1) := dq_28 (by decide +kernel)
theorem dX8_row_70 : decode cX8_row 70 = .ok (.iload 4, 2) := dq_21 (b1 := 4) (by decide +kernel) (by decide)
theorem dX8_row_72 : decode cX8_row 72 = .ok (.iadd, 1) := dq_96 (by decide +kernel)
theorem dX8_row_73 : decode cX8_row 73 = .ok (.iconst 0, 1) := dq_3 (by decide +kernel)
theorem dX8_row_74 : decode cX8_row 74 = .ok (.iastore, 1) := dq_79 (by decide +kernel)
theorem dX8_row_75 : decode cX8_row 75 = .ok (.iinc 4 1, 3) := dq_132 (b1 := 4) (b2 := 1) (by decide +kernel) (by decide) (by decide)
theorem dX8_row_78 : decode cX8_row 78 = .ok (.goto (-23), 3) := dq_167 (b1 := 255) (b2 := 233) (by decide +kernel) (by decide)
theorem dX8_row_8 : decode cX8_row 8 = .ok (.i2l, 1) := dq_133 (by decide +kernel)
theorem dX8_row_81 : decode cX8_row 81 = .ok (.aload_n 0, 1) := dq_42 (by decide +kernel)
theorem dX8_row_82 : decode cX8_row 82 = .ok (.iload_n 3, 1) := dq_29 (by decide +kernel)
theorem dX8_row_83 : decode cX8_row 83 = .ok (.invokevirtual 72, 3) := dq_182 (b1 := 0) (b2 := 72) (by decide +kernel) (by decide)
theorem dX8_row_86 : decode cX8_row 86 = .ok (.ireturn, 1) := dq_172 (by decide +kernel)
theorem dX8_row_9 : decode cX8_row 9 = .ok (.lconst 0, 1) := dq_9 (by decide +kernel)
theorem dX8_set_0 : decode cX8_set 0 = .ok (.iload_n 1, 1) := dq_27 (by decide +kernel)
theorem dX8_set_1 : decode cX8_set 1 = .ok (.invokestatic 61, 3) := dq_184 (b1 := 0) (b2 := 61) (by decide +kernel) (by decide)
theorem dX8_set_10 : decode cX8_set 10 = .ok (.aload_n 0, 1) := dq_42 (by decide +kernel)
theorem dX8_set_11 : decode cX8_set 11 = .ok (.getfield 13, 3) := dq_180 (b1 := 0) (b2 := 13) (by decide +kernel) (by decide)
theorem dX8_set_14 : decode cX8_set 14 = .ok (.iload_n 1, 1) := dq_27 (by decide +kernel)
theorem dX8_set_15 : decode cX8_set 15 = .ok (.iaload, 1) := dq_46 (by decide +kernel)
theorem dX8_set_16 : decode cX8_set 16 = .ok (.ifCond .ge 9, 3) := dq_156 (b1 := 0) (b2 := 9) (by decide +kernel) (by decide)
theorem dX8_set_19 : decode cX8_set 19 = .ok (.aload_n 0, 1) := dq_42 (by decide +kernel)
theorem dX8_set_20 : decode cX8_set 20 = .ok (.iconst 1, 1) := dq_4 (by decide +kernel)
theorem dX8_set_21 : decode cX8_set 21 = .ok (.invokevirtual 68, 3) := dq_182 (b1 := 0) (b2 := 68) (by decide +kernel) (by decide)
theorem dX8_set_24 : decode cX8_set 24 = .ok (.ireturn, 1) := dq_172 (by decide +kernel)
theorem dX8_set_25 : decode cX8_set 25 = .ok (.iload_n 2, 1) := dq_28 (by decide +kernel)
theorem dX8_set_26 : decode cX8_set 26 = .ok (.i2l, 1) := dq_133 (by decide +kernel)
theorem dX8_set_27 : decode cX8_set 27 = .ok (.lconst 0, 1) := dq_9 (by decide +kernel)
theorem dX8_set_28 : decode cX8_set 28 = .ok (.aload_n 0, 1) := dq_42 (by decide +kernel)
theorem dX8_set_29 : decode cX8_set 29 = .ok (.getfield 13, 3) := dq_180 (b1 := 0) (b2 := 13) (by decide +kernel) (by decide)
theorem dX8_set_32 : decode cX8_set 32 = .ok (.iload_n 1, 1) := dq_27 (by decide +kernel)
theorem dX8_set_33 : decode cX8_set 33 = .ok (.iaload, 1) := dq_46 (by decide +kernel)
theorem dX8_set_34 : decode cX8_set 34 = .ok (.iconst 1, 1) := dq_4 (by decide +kernel)
theorem dX8_set_35 : decode cX8_set 35 = .ok (.isub, 1) := dq_100 (by decide +kernel)
theorem dX8_set_36 : decode cX8_set 36 = .ok (.i2l, 1) := dq_133 (by decide +kernel)
theorem dX8_set_37 : decode cX8_set 37 = .ok (.invokestatic 57, 3) := dq_184 (b1 := 0) (b2 := 57) (by decide +kernel) (by decide)
theorem dX8_set_4 : decode cX8_set 4 = .ok (.ifCond .ne 6, 3) := dq_154 (b1 := 0) (b2 := 6) (by decide +kernel) (by decide)
theorem dX8_set_40 : decode cX8_set 40 = .ok (.ifCond .ne 9, 3) := dq_154 (b1 := 0) (b2 := 9) (by decide +kernel) (by decide)
theorem dX8_set_43 : decode cX8_set 43 = .ok (.aload_n 0, 1) := dq_42 (by decide +kernel)
theorem dX8_set_44 : decode cX8_set 44 = .ok (.iconst 2, 1) := dq_5 (by decide +kernel)
theorem dX8_set_45 : decode cX8_set 45 = .ok (.invokevirtual 68, 3) := dq_182 (b1 := 0) (b2 := 68) (by decide +kernel) (by decide)
theorem dX8_set_48 : decode cX8_set 48 = .ok (.ireturn, 1) := dq_172 (by decide +kernel)
theorem dX8_set_49 : decode cX8_set 49 = .ok (.aload_n 0, 1) := dq_42 (by decide +kernel)
theorem dX8_set_50 : decode cX8_set 50 = .ok (.getfield 16, 3) := dq_180 (b1 := 0) (b2 := 16) (by decide +kernel) (by decide)
theorem dX8_set_53 : decode cX8_set 53 = .ok (.bipush 40, 2) := dq_16 (b1 := 40) (by decide +kernel) (by decide)
theorem dX8_set_55 : decode cX8_set 55 = .ok (.iload_n 1, 1) := dq_27 (by decide +kernel)
theorem dX8_set_56 : decode cX8_set 56 = .ok (.imul, 1) := dq_104 (by decide +kernel)
theorem dX8_set_57 : decode cX8_set 57 = .ok (.iload_n 2, 1) := dq_28 (by decide +kernel)
theorem dX8_set_58 : decode cX8_set 58 = .ok (.iadd, 1) := dq_96 (by decide +kernel)
theorem dX8_set_59 : decode cX8_set 59 = .ok (.aload_n 0, 1) := dq_42 (by decide +kernel)
theorem dX8_set_60 : decode cX8_set 60 = .ok (.getfield 7, 3) := dq_180 (b1 := 0) (b2 := 7) (by decide +kernel) (by decide)
theorem dX8_set_63 : decode cX8_set 63 = .ok (.iload_n 1, 1) := dq_27 (by decide +kernel)
theorem dX8_set_64 : decode cX8_set 64 = .ok (.iaload, 1) := dq_46 (by decide +kernel)
theorem dX8_set_65 : decode cX8_set 65 = .ok (.iload_n 3, 1) := dq_29 (by decide +kernel)
theorem dX8_set_66 : decode cX8_set 66 = .ok (.invokestatic 75, 3) := dq_184 (b1 := 0) (b2 := 75) (by decide +kernel) (by decide)
theorem dX8_set_69 : decode cX8_set 69 = .ok (.iastore, 1) := dq_79 (by decide +kernel)
theorem dX8_set_7 : decode cX8_set 7 = .ok (.ldc 67, 2) := dq_18 (b1 := 67) (by decide +kernel) (by decide)
theorem dX8_set_70 : decode cX8_set 70 = .ok (.aload_n 0, 1) := dq_42 (by decide +kernel)
theorem dX8_set_71 : decode cX8_set 71 = .ok (.aload_n 0, 1) := dq_42 (by decide +kernel)
theorem dX8_set_72 : decode cX8_set 72 = .ok (.getfield 16, 3) := dq_180 (b1 := 0) (b2 := 16) (by decide +kernel) (by decide)
theorem dX8_set_75 : decode cX8_set 75 = .ok (.bipush 40, 2) := dq_16 (b1 := 40) (by decide +kernel) (by decide)
theorem dX8_set_77 : decode cX8_set 77 = .ok (.iload_n 1, 1) := dq_27 (by decide +kernel)
theorem dX8_set_78 : decode cX8_set 78 = .ok (.imul, 1) := dq_104 (by decide +kernel)
theorem dX8_set_79 : decode cX8_set 79 = .ok (.iload_n 2, 1) := dq_28 (by decide +kernel)
theorem dX8_set_80 : decode cX8_set 80 = .ok (.iadd, 1) := dq_96 (by decide +kernel)
theorem dX8_set_81 : decode cX8_set 81 = .ok (.iaload, 1) := dq_46 (by decide +kernel)
theorem dX8_set_82 : decode cX8_set 82 = .ok (.invokevirtual 72, 3) := dq_182 (b1 := 0) (b2 := 72) (by decide +kernel) (by decide)
theorem dX8_set_85 : decode cX8_set 85 = .ok (.ireturn, 1) := dq_172 (by decide +kernel)
theorem dX8_set_9 : decode cX8_set 9 = .ok (.ireturn, 1) := dq_172 (by decide +kernel)
theorem dX8_sizeOfDutch_0 : decode cX8_sizeOfDutch 0 = .ok (.aload_n 0, 1) := dq_42 (by decide +kernel)
theorem dX8_sizeOfDutch_1 : decode cX8_sizeOfDutch 1 = .ok (.getfield 19, 3) := dq_180 (b1 := 0) (b2 := 19) (by decide +kernel) (by decide)
theorem dX8_sizeOfDutch_10 : decode cX8_sizeOfDutch 10 = .ok (.if_icmp .ne 17, 3) := dq_160 (b1 := 0) (b2 := 17) (by decide +kernel) (by decide)
theorem dX8_sizeOfDutch_13 : decode cX8_sizeOfDutch 13 = .ok (.aload_n 0, 1) := dq_42 (by decide +kernel)
theorem dX8_sizeOfDutch_14 : decode cX8_sizeOfDutch 14 = .ok (.bipush 14, 2) := dq_16 (b1 := 14) (by decide +kernel) (by decide)
theorem dX8_sizeOfDutch_16 : decode cX8_sizeOfDutch 16 = .ok (.invokevirtual 263, 3) := dq_182 (b1 := 1) (b2 := 7) (by decide +kernel) (by decide)
theorem dX8_sizeOfDutch_19 : decode cX8_sizeOfDutch 19 = .ok (.iconst 2, 1) := dq_5 (by decide +kernel)
theorem dX8_sizeOfDutch_20 : decode cX8_sizeOfDutch 20 = .ok (.aload_n 0, 1) := dq_42 (by decide +kernel)
theorem dX8_sizeOfDutch_21 : decode cX8_sizeOfDutch 21 = .ok (.iload_n 1, 1) := dq_27 (by decide +kernel)
theorem dX8_sizeOfDutch_22 : decode cX8_sizeOfDutch 22 = .ok (.invokevirtual 269, 3) := dq_182 (b1 := 1) (b2 := 13) (by decide +kernel) (by decide)
theorem dX8_sizeOfDutch_25 : decode cX8_sizeOfDutch 25 = .ok (.imul, 1) := dq_104 (by decide +kernel)
theorem dX8_sizeOfDutch_26 : decode cX8_sizeOfDutch 26 = .ok (.ireturn, 1) := dq_172 (by decide +kernel)
theorem dX8_sizeOfDutch_27 : decode cX8_sizeOfDutch 27 = .ok (.aload_n 0, 1) := dq_42 (by decide +kernel)
theorem dX8_sizeOfDutch_28 : decode cX8_sizeOfDutch 28 = .ok (.iload_n 1, 1) := dq_27 (by decide +kernel)
theorem dX8_sizeOfDutch_29 : decode cX8_sizeOfDutch 29 = .ok (.invokevirtual 269, 3) := dq_182 (b1 := 1) (b2 := 13) (by decide +kernel) (by decide)
theorem dX8_sizeOfDutch_32 : decode cX8_sizeOfDutch 32 = .ok (.ireturn, 1) := dq_172 (by decide +kernel)
theorem dX8_sizeOfDutch_4 : decode cX8_sizeOfDutch 4 = .ok (.bipush 14, 2) := dq_16 (b1 := 14) (by decide +kernel) (by decide)
theorem dX8_sizeOfDutch_6 : decode cX8_sizeOfDutch 6 = .ok (.iload_n 1, 1) := dq_27 (by decide +kernel)
theorem dX8_sizeOfDutch_7 : decode cX8_sizeOfDutch 7 = .ok (.iadd, 1) := dq_96 (by decide +kernel)
theorem dX8_sizeOfDutch_8 : decode cX8_sizeOfDutch 8 = .ok (.iaload, 1) := dq_46 (by decide +kernel)
theorem dX8_sizeOfDutch_9 : decode cX8_sizeOfDutch 9 = .ok (.iconst 5, 1) := dq_8 (by decide +kernel)
theorem dX8_sizeOf_0 : decode cX8_sizeOf 0 = .ok (.aload_n 0, 1) := dq_42 (by decide +kernel)
theorem dX8_sizeOf_1 : decode cX8_sizeOf 1 = .ok (.getfield 19, 3) := dq_180 (b1 := 0) (b2 := 19) (by decide +kernel) (by decide)
theorem dX8_sizeOf_10 : decode cX8_sizeOf 10 = .ok (.iload_n 2, 1) := dq_28 (by decide +kernel)
theorem dX8_sizeOf_11 : decode cX8_sizeOf 11 = .ok (.iconst 2, 1) := dq_5 (by decide +kernel)
theorem dX8_sizeOf_12 : decode cX8_sizeOf 12 = .ok (.if_icmp .ne 16, 3) := dq_160 (b1 := 0) (b2 := 16) (by decide +kernel) (by decide)
theorem dX8_sizeOf_15 : decode cX8_sizeOf 15 = .ok (.aload_n 0, 1) := dq_42 (by decide +kernel)
theorem dX8_sizeOf_16 : decode cX8_sizeOf 16 = .ok (.bipush 12, 2) := dq_16 (b1 := 12) (by decide +kernel) (by decide)
theorem dX8_sizeOf_18 : decode cX8_sizeOf 18 = .ok (.invokevirtual 263, 3) := dq_182 (b1 := 1) (b2 := 7) (by decide +kernel) (by decide)
theorem dX8_sizeOf_21 : decode cX8_sizeOf 21 = .ok (.aload_n 0, 1) := dq_42 (by decide +kernel)
theorem dX8_sizeOf_22 : decode cX8_sizeOf 22 = .ok (.iload_n 1, 1) := dq_27 (by decide +kernel)
theorem dX8_sizeOf_23 : decode cX8_sizeOf 23 = .ok (.invokevirtual 281, 3) := dq_182 (b1 := 1) (b2 := 25) (by decide +kernel) (by decide)
theorem dX8_sizeOf_26 : decode cX8_sizeOf 26 = .ok (.ineg, 1) := dq_116 (by decide +kernel)
theorem dX8_sizeOf_27 : decode cX8_sizeOf 27 = .ok (.ireturn, 1) := dq_172 (by decide +kernel)
theorem dX8_sizeOf_28 : decode cX8_sizeOf 28 = .ok (.iload_n 2, 1) := dq_28 (by decide +kernel)
theorem dX8_sizeOf_29 : decode cX8_sizeOf 29 = .ok (.iconst 4, 1) := dq_7 (by decide +kernel)
theorem dX8_sizeOf_30 : decode cX8_sizeOf 30 = .ok (.if_icmp .lt 11, 3) := dq_161 (b1 := 0) (b2 := 11) (by decide +kernel) (by decide)
theorem dX8_sizeOf_33 : decode cX8_sizeOf 33 = .ok (.aload_n 0, 1) := dq_42 (by decide +kernel)
theorem dX8_sizeOf_34 : decode cX8_sizeOf 34 = .ok (.iload_n 1, 1) := dq_27 (by decide +kernel)
theorem dX8_sizeOf_35 : decode cX8_sizeOf 35 = .ok (.invokevirtual 275, 3) := dq_182 (b1 := 1) (b2 := 19) (by decide +kernel) (by decide)
theorem dX8_sizeOf_38 : decode cX8_sizeOf 38 = .ok (.goto 8, 3) := dq_167 (b1 := 0) (b2 := 8) (by decide +kernel) (by decide)
theorem dX8_sizeOf_4 : decode cX8_sizeOf 4 = .ok (.bipush 14, 2) := dq_16 (b1 := 14) (by decide +kernel) (by decide)
theorem dX8_sizeOf_41 : decode cX8_sizeOf 41 = .ok (.aload_n 0, 1) := dq_42 (by decide +kernel)
theorem dX8_sizeOf_42 : decode cX8_sizeOf 42 = .ok (.iload_n 1, 1) := dq_27 (by decide +kernel)
theorem dX8_sizeOf_43 : decode cX8_sizeOf 43 = .ok (.invokevirtual 281, 3) := dq_182 (b1 := 1) (b2 := 25) (by decide +kernel) (by decide)
theorem dX8_sizeOf_46 : decode cX8_sizeOf 46 = .ok (.ireturn, 1) := dq_172 (by decide +kernel)
theorem dX8_sizeOf_6 : decode cX8_sizeOf 6 = .ok (.iload_n 1, 1) := dq_27 (by decide +kernel)
theorem dX8_sizeOf_7 : decode cX8_sizeOf 7 = .ok (.iadd, 1) := dq_96 (by decide +kernel)
theorem dX8_sizeOf_8 : decode cX8_sizeOf 8 = .ok (.iaload, 1) := dq_46 (by decide +kernel)
theorem dX8_sizeOf_9 : decode cX8_sizeOf 9 = .ok (.istore_n 2, 1) := dq_61 (by decide +kernel)
theorem dX8_status_0 : decode cX8_status 0 = .ok (.aload_n 0, 1) := dq_42 (by decide +kernel)
theorem dX8_status_1 : decode cX8_status 1 = .ok (.getfield 50, 3) := dq_180 (b1 := 0) (b2 := 50) (by decide +kernel) (by decide)
theorem dX8_status_4 : decode cX8_status 4 = .ok (.ireturn, 1) := dq_172 (by decide +kernel)
theorem dX8_trace_0 : decode cX8_trace 0 = .ok (.iload_n 1, 1) := dq_27 (by decide +kernel)
theorem dX8_trace_1 : decode cX8_trace 1 = .ok (.i2l, 1) := dq_133 (by decide +kernel)
theorem dX8_trace_10 : decode cX8_trace 10 = .ok (.invokestatic 57, 3) := dq_184 (b1 := 0) (b2 := 57) (by decide +kernel) (by decide)
theorem dX8_trace_13 : decode cX8_trace 13 = .ok (.ifCond .eq 12, 3) := dq_153 (b1 := 0) (b2 := 12) (by decide +kernel) (by decide)
theorem dX8_trace_16 : decode cX8_trace 16 = .ok (.aload_n 0, 1) := dq_42 (by decide +kernel)
theorem dX8_trace_17 : decode cX8_trace 17 = .ok (.getfield 47, 3) := dq_180 (b1 := 0) (b2 := 47) (by decide +kernel) (by decide)
theorem dX8_trace_2 : decode cX8_trace 2 = .ok (.lconst 0, 1) := dq_9 (by decide +kernel)
theorem dX8_trace_20 : decode cX8_trace 20 = .ok (.iload_n 1, 1) := dq_27 (by decide +kernel)
theorem dX8_trace_21 : decode cX8_trace 21 = .ok (.iaload, 1) := dq_46 (by decide +kernel)
theorem dX8_trace_22 : decode cX8_trace 22 = .ok (.goto 5, 3) := dq_167 (b1 := 0) (b2 := 5) (by decide +kernel) (by decide)
theorem dX8_trace_25 : decode cX8_trace 25 = .ok (.ldc 187, 2) := dq_18 (b1 := 187) (by decide +kernel) (by decide)
theorem dX8_trace_27 : decode cX8_trace 27 = .ok (.ireturn, 1) := dq_172 (by decide +kernel)
theorem dX8_trace_3 : decode cX8_trace 3 = .ok (.aload_n 0, 1) := dq_42 (by decide +kernel)
theorem dX8_trace_4 : decode cX8_trace 4 = .ok (.getfield 260, 3) := dq_180 (b1 := 1) (b2 := 4) (by decide +kernel) (by decide)
theorem dX8_trace_7 : decode cX8_trace 7 = .ok (.iconst 1, 1) := dq_4 (by decide +kernel)
theorem dX8_trace_8 : decode cX8_trace 8 = .ok (.isub, 1) := dq_100 (by decide +kernel)
theorem dX8_trace_9 : decode cX8_trace 9 = .ok (.i2l, 1) := dq_133 (by decide +kernel)
theorem dX8_voiceMark_0 : decode cX8_voiceMark 0 = .ok (.aload_n 0, 1) := dq_42 (by decide +kernel)
theorem dX8_voiceMark_1 : decode cX8_voiceMark 1 = .ok (.bipush 21, 2) := dq_16 (b1 := 21) (by decide +kernel) (by decide)
theorem dX8_voiceMark_10 : decode cX8_voiceMark 10 = .ok (.invokevirtual 266, 3) := dq_182 (b1 := 1) (b2 := 10) (by decide +kernel) (by decide)
theorem dX8_voiceMark_13 : decode cX8_voiceMark 13 = .ok (.aload_n 0, 1) := dq_42 (by decide +kernel)
theorem dX8_voiceMark_14 : decode cX8_voiceMark 14 = .ok (.getfield 19, 3) := dq_180 (b1 := 0) (b2 := 19) (by decide +kernel) (by decide)
theorem dX8_voiceMark_17 : decode cX8_voiceMark 17 = .ok (.bipush 20, 2) := dq_16 (b1 := 20) (by decide +kernel) (by decide)
theorem dX8_voiceMark_19 : decode cX8_voiceMark 19 = .ok (.iload_n 1, 1) := dq_27 (by decide +kernel)
theorem dX8_voiceMark_20 : decode cX8_voiceMark 20 = .ok (.iadd, 1) := dq_96 (by decide +kernel)
theorem dX8_voiceMark_21 : decode cX8_voiceMark 21 = .ok (.iaload, 1) := dq_46 (by decide +kernel)
theorem dX8_voiceMark_22 : decode cX8_voiceMark 22 = .ok (.iadd, 1) := dq_96 (by decide +kernel)
theorem dX8_voiceMark_23 : decode cX8_voiceMark 23 = .ok (.ireturn, 1) := dq_172 (by decide +kernel)
theorem dX8_voiceMark_3 : decode cX8_voiceMark 3 = .ok (.invokevirtual 263, 3) := dq_182 (b1 := 1) (b2 := 7) (by decide +kernel) (by decide)
theorem dX8_voiceMark_6 : decode cX8_voiceMark 6 = .ok (.aload_n 0, 1) := dq_42 (by decide +kernel)
theorem dX8_voiceMark_7 : decode cX8_voiceMark 7 = .ok (.iload_n 1, 1) := dq_27 (by decide +kernel)
theorem dX8_voiceMark_8 : decode cX8_voiceMark 8 = .ok (.bipush 20, 2) := dq_16 (b1 := 20) (by decide +kernel) (by decide)
theorem dX8_voiceSize_0 : decode cX8_voiceSize 0 = .ok (.aload_n 0, 1) := dq_42 (by decide +kernel)
theorem dX8_voiceSize_1 : decode cX8_voiceSize 1 = .ok (.bipush 11, 2) := dq_16 (b1 := 11) (by decide +kernel) (by decide)
theorem dX8_voiceSize_10 : decode cX8_voiceSize 10 = .ok (.invokevirtual 266, 3) := dq_182 (b1 := 1) (b2 := 10) (by decide +kernel) (by decide)
theorem dX8_voiceSize_13 : decode cX8_voiceSize 13 = .ok (.istore_n 2, 1) := dq_61 (by decide +kernel)
theorem dX8_voiceSize_14 : decode cX8_voiceSize 14 = .ok (.iload_n 2, 1) := dq_28 (by decide +kernel)
theorem dX8_voiceSize_15 : decode cX8_voiceSize 15 = .ok (.aload_n 0, 1) := dq_42 (by decide +kernel)
theorem dX8_voiceSize_16 : decode cX8_voiceSize 16 = .ok (.iload_n 1, 1) := dq_27 (by decide +kernel)
theorem dX8_voiceSize_17 : decode cX8_voiceSize 17 = .ok (.invokevirtual 278, 3) := dq_182 (b1 := 1) (b2 := 22) (by decide +kernel) (by decide)
theorem dX8_voiceSize_20 : decode cX8_voiceSize 20 = .ok (.iadd, 1) := dq_96 (by decide +kernel)
theorem dX8_voiceSize_21 : decode cX8_voiceSize 21 = .ok (.ireturn, 1) := dq_172 (by decide +kernel)
theorem dX8_voiceSize_3 : decode cX8_voiceSize 3 = .ok (.invokevirtual 263, 3) := dq_182 (b1 := 1) (b2 := 7) (by decide +kernel) (by decide)
theorem dX8_voiceSize_6 : decode cX8_voiceSize 6 = .ok (.aload_n 0, 1) := dq_42 (by decide +kernel)
theorem dX8_voiceSize_7 : decode cX8_voiceSize 7 = .ok (.iload_n 1, 1) := dq_27 (by decide +kernel)
theorem dX8_voiceSize_8 : decode cX8_voiceSize 8 = .ok (.bipush 10, 2) := dq_16 (b1 := 10) (by decide +kernel) (by decide)
theorem mx_X8_as_23 : Cond.code yX8_find cX8_find 2 (some .int) ∈ wsX8_as := by unfold wsX8_as; exact List.mem_cons_of_mem _ (List.mem_append_left _ (List.mem_of_getElem? (i := 22) rfl))
theorem mx_X8_as_19 : Cond.fieldLink RX8 50 "MillTalkModel" "status" "I" ∈ wsX8_as := by unfold wsX8_as; exact List.mem_cons_of_mem _ (List.mem_append_left _ (List.mem_of_getElem? (i := 18) rfl))
theorem mx_X8_as_24 : Cond.constant RX8 54 (-1000010) ∈ wsX8_as := by unfold wsX8_as; exact List.mem_cons_of_mem _ (List.mem_append_left _ (List.mem_of_getElem? (i := 23) rfl))
theorem mb_X8_as_wsX80 {w : Cond} (h : w ∈ wsX80) : w ∈ wsX8_as := by unfold wsX8_as; exact List.mem_cons_of_mem _ (List.mem_append_right _ (h))
theorem ggX8_as_X8_find : GoodIn wsX8_as wsX8_find := goodIn_sub (by unfold wsX8_find; exact List.forall_mem_cons.mpr ⟨mx_X8_as_23, List.forall_mem_append.mpr ⟨List.forall_mem_cons.mpr ⟨mx_X8_as_19, List.forall_mem_cons.mpr ⟨mx_X8_as_24, fun _ h_ => absurd h_ List.not_mem_nil⟩⟩, (fun _ h_ => mb_X8_as_wsX80 h_)⟩⟩) (by decide +kernel)
theorem mx_X8_as_20 : Cond.methodLink RX8 68 yX8_find ∈ wsX8_as := by unfold wsX8_as; exact List.mem_cons_of_mem _ (List.mem_append_left _ (List.mem_of_getElem? (i := 19) rfl))
theorem mx_X8_as_21 : Cond.instanceMethod yX8_find ∈ wsX8_as := by unfold wsX8_as; exact List.mem_cons_of_mem _ (List.mem_append_left _ (List.mem_of_getElem? (i := 20) rfl))
theorem mx_X8_as_22 : Cond.selects RX8 yX8_find yX8_find ∈ wsX8_as := by unfold wsX8_as; exact List.mem_cons_of_mem _ (List.mem_append_left _ (List.mem_of_getElem? (i := 21) rfl))
theorem mx_X8_as_7 : Cond.initialized RX8 ∈ wsX8_as := by unfold wsX8_as; exact List.mem_cons_of_mem _ (List.mem_append_left _ (List.mem_of_getElem? (i := 6) rfl))
theorem gX8_as_X8_find : GoodIn wsX8_as (wsV RX8 68 RX8 yX8_find wsX8_find) := goodIn_app (goodIn_sub (List.forall_mem_cons.mpr ⟨mx_X8_as_20, List.forall_mem_cons.mpr ⟨mx_X8_as_21, List.forall_mem_cons.mpr ⟨mx_X8_as_22, List.forall_mem_cons.mpr ⟨mx_X8_as_7, fun _ h_ => absurd h_ List.not_mem_nil⟩⟩⟩⟩) (by decide +kernel)) ggX8_as_X8_find
theorem mx_X8_as_11 : Cond.code yX8_in cX8_in 6 (some .boolean) ∈ wsX8_as := by unfold wsX8_as; exact List.mem_cons_of_mem _ (List.mem_append_left _ (List.mem_of_getElem? (i := 10) rfl))
theorem ggX8_as_X8_in : GoodIn wsX8_as wsX8_in := goodIn_sub (by unfold wsX8_in; exact List.forall_mem_cons.mpr ⟨mx_X8_as_11, fun _ h_ => absurd h_ List.not_mem_nil⟩) (by decide +kernel)
set_option maxRecDepth 20000 in
theorem gX8_as_X8_in : GoodIn wsX8_as (va_wsS RX8 57 yX8_in wsX8_in) := goodIn_app (goodIn_of _ (by decide +kernel)) ggX8_as_X8_in
theorem mx_X8_as_14 : Cond.code yX8_isKind cX8_isKind 2 (some .boolean) ∈ wsX8_as := by unfold wsX8_as; exact List.mem_cons_of_mem _ (List.mem_append_left _ (List.mem_of_getElem? (i := 13) rfl))
theorem ggX8_as_X8_isKind : GoodIn wsX8_as wsX8_isKind := goodIn_sub (by unfold wsX8_isKind; exact List.forall_mem_cons.mpr ⟨mx_X8_as_14, fun _ h_ => absurd h_ List.not_mem_nil⟩) (by decide +kernel)
set_option maxRecDepth 20000 in
theorem gX8_as_X8_isKind : GoodIn wsX8_as (va_wsS RX8 257 yX8_isKind wsX8_isKind) := goodIn_app (goodIn_of _ (by decide +kernel)) ggX8_as_X8_isKind
theorem mx_X8_as_8 : Cond.code yX8_isSound cX8_isSound 2 (some .boolean) ∈ wsX8_as := by unfold wsX8_as; exact List.mem_cons_of_mem _ (List.mem_append_left _ (List.mem_of_getElem? (i := 7) rfl))
theorem mx_X8_as_3 : Cond.fieldLink RX8 19 "MillTalkModel" "st" "[I" ∈ wsX8_as := by unfold wsX8_as; exact List.mem_cons_of_mem _ (List.mem_append_left _ (List.mem_of_getElem? (i := 2) rfl))
theorem mx_X8_as_9 : Cond.methodLink RX8 57 yX8_in ∈ wsX8_as := by unfold wsX8_as; exact List.mem_cons_of_mem _ (List.mem_append_left _ (List.mem_of_getElem? (i := 8) rfl))
theorem mx_X8_as_10 : Cond.static yX8_in ∈ wsX8_as := by unfold wsX8_as; exact List.mem_cons_of_mem _ (List.mem_append_left _ (List.mem_of_getElem? (i := 9) rfl))
theorem ggX8_as_X8_isSound : GoodIn wsX8_as wsX8_isSound := goodIn_sub (by unfold wsX8_isSound; exact List.forall_mem_cons.mpr ⟨mx_X8_as_8, List.forall_mem_append.mpr ⟨List.forall_mem_cons.mpr ⟨mx_X8_as_3, List.forall_mem_cons.mpr ⟨mx_X8_as_9, List.forall_mem_cons.mpr ⟨mx_X8_as_10, List.forall_mem_cons.mpr ⟨mx_X8_as_7, List.forall_mem_cons.mpr ⟨mx_X8_as_11, fun _ h_ => absurd h_ List.not_mem_nil⟩⟩⟩⟩⟩, (fun _ h_ => mb_X8_as_wsX80 h_)⟩⟩) (by decide +kernel)
theorem mx_X8_as_4 : Cond.methodLink RX8 173 yX8_isSound ∈ wsX8_as := by unfold wsX8_as; exact List.mem_cons_of_mem _ (List.mem_append_left _ (List.mem_of_getElem? (i := 3) rfl))
theorem mx_X8_as_5 : Cond.instanceMethod yX8_isSound ∈ wsX8_as := by unfold wsX8_as; exact List.mem_cons_of_mem _ (List.mem_append_left _ (List.mem_of_getElem? (i := 4) rfl))
theorem mx_X8_as_6 : Cond.selects RX8 yX8_isSound yX8_isSound ∈ wsX8_as := by unfold wsX8_as; exact List.mem_cons_of_mem _ (List.mem_append_left _ (List.mem_of_getElem? (i := 5) rfl))
theorem gX8_as_X8_isSound : GoodIn wsX8_as (wsV RX8 173 RX8 yX8_isSound wsX8_isSound) := goodIn_app (goodIn_sub (List.forall_mem_cons.mpr ⟨mx_X8_as_4, List.forall_mem_cons.mpr ⟨mx_X8_as_5, List.forall_mem_cons.mpr ⟨mx_X8_as_6, List.forall_mem_cons.mpr ⟨mx_X8_as_7, fun _ h_ => absurd h_ List.not_mem_nil⟩⟩⟩⟩) (by decide +kernel)) ggX8_as_X8_isSound
theorem mx_X8_as_18 : Cond.code yX8_well cX8_well 2 (some .int) ∈ wsX8_as := by unfold wsX8_as; exact List.mem_cons_of_mem _ (List.mem_append_left _ (List.mem_of_getElem? (i := 17) rfl))
theorem ggX8_as_X8_well : GoodIn wsX8_as wsX8_well := goodIn_sub (by unfold wsX8_well; exact List.forall_mem_cons.mpr ⟨mx_X8_as_18, List.forall_mem_append.mpr ⟨List.forall_mem_cons.mpr ⟨mx_X8_as_19, fun _ h_ => absurd h_ List.not_mem_nil⟩, (fun _ h_ => mb_X8_as_wsX80 h_)⟩⟩) (by decide +kernel)
theorem mx_X8_as_15 : Cond.methodLink RX8 72 yX8_well ∈ wsX8_as := by unfold wsX8_as; exact List.mem_cons_of_mem _ (List.mem_append_left _ (List.mem_of_getElem? (i := 14) rfl))
theorem mx_X8_as_16 : Cond.instanceMethod yX8_well ∈ wsX8_as := by unfold wsX8_as; exact List.mem_cons_of_mem _ (List.mem_append_left _ (List.mem_of_getElem? (i := 15) rfl))
theorem mx_X8_as_17 : Cond.selects RX8 yX8_well yX8_well ∈ wsX8_as := by unfold wsX8_as; exact List.mem_cons_of_mem _ (List.mem_append_left _ (List.mem_of_getElem? (i := 16) rfl))
theorem gX8_as_X8_well : GoodIn wsX8_as (wsV RX8 72 RX8 yX8_well wsX8_well) := goodIn_app (goodIn_sub (List.forall_mem_cons.mpr ⟨mx_X8_as_15, List.forall_mem_cons.mpr ⟨mx_X8_as_16, List.forall_mem_cons.mpr ⟨mx_X8_as_17, List.forall_mem_cons.mpr ⟨mx_X8_as_7, fun _ h_ => absurd h_ List.not_mem_nil⟩⟩⟩⟩) (by decide +kernel)) ggX8_as_X8_well
theorem mb_X8_ask_wsX8_ask_r1 {w : Cond} (h : w ∈ wsX8_ask_r1) : w ∈ wsX8_ask := by unfold wsX8_ask; exact List.mem_cons_of_mem _ (List.mem_append_left _ (List.mem_append_left _ (h)))
theorem mx_X8_ask_11 : Cond.code yX8_in cX8_in 6 (some .boolean) ∈ wsX8_ask := mb_X8_ask_wsX8_ask_r1 (List.mem_of_getElem? (i := 10) rfl)
theorem ggX8_ask_X8_in : GoodIn wsX8_ask wsX8_in := goodIn_sub (by unfold wsX8_in; exact List.forall_mem_cons.mpr ⟨mx_X8_ask_11, fun _ h_ => absurd h_ List.not_mem_nil⟩) (by decide +kernel)
set_option maxRecDepth 20000 in
theorem gX8_ask_X8_in : GoodIn wsX8_ask (va_wsS RX8 57 yX8_in wsX8_in) := goodIn_app (goodIn_of _ (by decide +kernel)) ggX8_ask_X8_in
theorem mx_X8_ask_7 : Cond.code yX8_isSound cX8_isSound 2 (some .boolean) ∈ wsX8_ask := mb_X8_ask_wsX8_ask_r1 (List.mem_of_getElem? (i := 6) rfl)
theorem mx_X8_ask_8 : Cond.fieldLink RX8 19 "MillTalkModel" "st" "[I" ∈ wsX8_ask := mb_X8_ask_wsX8_ask_r1 (List.mem_of_getElem? (i := 7) rfl)
theorem mx_X8_ask_9 : Cond.methodLink RX8 57 yX8_in ∈ wsX8_ask := mb_X8_ask_wsX8_ask_r1 (List.mem_of_getElem? (i := 8) rfl)
theorem mx_X8_ask_10 : Cond.static yX8_in ∈ wsX8_ask := mb_X8_ask_wsX8_ask_r1 (List.mem_of_getElem? (i := 9) rfl)
theorem mx_X8_ask_6 : Cond.initialized RX8 ∈ wsX8_ask := mb_X8_ask_wsX8_ask_r1 (List.mem_of_getElem? (i := 5) rfl)
theorem mb_X8_ask_wsX80 {w : Cond} (h : w ∈ wsX80) : w ∈ wsX8_ask := by unfold wsX8_ask; exact List.mem_cons_of_mem _ (List.mem_append_right _ (h))
theorem ggX8_ask_X8_isSound : GoodIn wsX8_ask wsX8_isSound := goodIn_sub (by unfold wsX8_isSound; exact List.forall_mem_cons.mpr ⟨mx_X8_ask_7, List.forall_mem_append.mpr ⟨List.forall_mem_cons.mpr ⟨mx_X8_ask_8, List.forall_mem_cons.mpr ⟨mx_X8_ask_9, List.forall_mem_cons.mpr ⟨mx_X8_ask_10, List.forall_mem_cons.mpr ⟨mx_X8_ask_6, List.forall_mem_cons.mpr ⟨mx_X8_ask_11, fun _ h_ => absurd h_ List.not_mem_nil⟩⟩⟩⟩⟩, (fun _ h_ => mb_X8_ask_wsX80 h_)⟩⟩) (by decide +kernel)
theorem mx_X8_ask_3 : Cond.methodLink RX8 173 yX8_isSound ∈ wsX8_ask := mb_X8_ask_wsX8_ask_r1 (List.mem_of_getElem? (i := 2) rfl)
theorem mx_X8_ask_4 : Cond.instanceMethod yX8_isSound ∈ wsX8_ask := mb_X8_ask_wsX8_ask_r1 (List.mem_of_getElem? (i := 3) rfl)
theorem mx_X8_ask_5 : Cond.selects RX8 yX8_isSound yX8_isSound ∈ wsX8_ask := mb_X8_ask_wsX8_ask_r1 (List.mem_of_getElem? (i := 4) rfl)
theorem gX8_ask_X8_isSound : GoodIn wsX8_ask (wsV RX8 173 RX8 yX8_isSound wsX8_isSound) := goodIn_app (goodIn_sub (List.forall_mem_cons.mpr ⟨mx_X8_ask_3, List.forall_mem_cons.mpr ⟨mx_X8_ask_4, List.forall_mem_cons.mpr ⟨mx_X8_ask_5, List.forall_mem_cons.mpr ⟨mx_X8_ask_6, fun _ h_ => absurd h_ List.not_mem_nil⟩⟩⟩⟩) (by decide +kernel)) ggX8_ask_X8_isSound
theorem mb_X8_ask_wsX8_ask_r2 {w : Cond} (h : w ∈ wsX8_ask_r2) : w ∈ wsX8_ask := by unfold wsX8_ask; exact List.mem_cons_of_mem _ (List.mem_append_left _ (List.mem_append_right _ (h)))
theorem mx_X8_ask_32 : Cond.code yX8_markOf cX8_markOf 4 (some .int) ∈ wsX8_ask := mb_X8_ask_wsX8_ask_r2 (List.mem_of_getElem? (i := 7) rfl)
theorem mx_X8_ask_16 : Cond.methodLink RX8 263 yX8_begin ∈ wsX8_ask := mb_X8_ask_wsX8_ask_r1 (List.mem_of_getElem? (i := 15) rfl)
theorem mx_X8_ask_17 : Cond.instanceMethod yX8_begin ∈ wsX8_ask := mb_X8_ask_wsX8_ask_r1 (List.mem_of_getElem? (i := 16) rfl)
theorem mx_X8_ask_18 : Cond.selects RX8 yX8_begin yX8_begin ∈ wsX8_ask := mb_X8_ask_wsX8_ask_r1 (List.mem_of_getElem? (i := 17) rfl)
theorem mx_X8_ask_19 : Cond.code yX8_begin cX8_begin 2 none ∈ wsX8_ask := mb_X8_ask_wsX8_ask_r1 (List.mem_of_getElem? (i := 18) rfl)
theorem mx_X8_ask_2 : Cond.fieldLink RX8 260 "MillTalkModel" "traced" "I" ∈ wsX8_ask := mb_X8_ask_wsX8_ask_r1 (List.mem_of_getElem? (i := 1) rfl)
theorem mx_X8_ask_20 : Cond.fieldLink RX8 47 "MillTalkModel" "trace" "[I" ∈ wsX8_ask := mb_X8_ask_wsX8_ask_r1 (List.mem_of_getElem? (i := 19) rfl)
theorem mx_X8_ask_33 : Cond.methodLink RX8 272 yX8_voiceMark ∈ wsX8_ask := mb_X8_ask_wsX8_ask_r2 (List.mem_of_getElem? (i := 8) rfl)
theorem mx_X8_ask_34 : Cond.instanceMethod yX8_voiceMark ∈ wsX8_ask := mb_X8_ask_wsX8_ask_r2 (List.mem_of_getElem? (i := 9) rfl)
theorem mx_X8_ask_35 : Cond.selects RX8 yX8_voiceMark yX8_voiceMark ∈ wsX8_ask := mb_X8_ask_wsX8_ask_r2 (List.mem_of_getElem? (i := 10) rfl)
theorem mx_X8_ask_36 : Cond.code yX8_voiceMark cX8_voiceMark 2 (some .int) ∈ wsX8_ask := mb_X8_ask_wsX8_ask_r2 (List.mem_of_getElem? (i := 11) rfl)
theorem mx_X8_ask_25 : Cond.methodLink RX8 266 yX8_lent ∈ wsX8_ask := mb_X8_ask_wsX8_ask_r2 (List.mem_of_getElem? (i := 0) rfl)
theorem mx_X8_ask_26 : Cond.instanceMethod yX8_lent ∈ wsX8_ask := mb_X8_ask_wsX8_ask_r2 (List.mem_of_getElem? (i := 1) rfl)
theorem mx_X8_ask_27 : Cond.selects RX8 yX8_lent yX8_lent ∈ wsX8_ask := mb_X8_ask_wsX8_ask_r2 (List.mem_of_getElem? (i := 2) rfl)
theorem mx_X8_ask_28 : Cond.code yX8_lent cX8_lent 3 (some .int) ∈ wsX8_ask := mb_X8_ask_wsX8_ask_r2 (List.mem_of_getElem? (i := 3) rfl)
theorem mx_X8_ask_37 : Cond.methodLink RX8 275 yX8_sizeOfDutch ∈ wsX8_ask := mb_X8_ask_wsX8_ask_r2 (List.mem_of_getElem? (i := 12) rfl)
theorem mx_X8_ask_38 : Cond.instanceMethod yX8_sizeOfDutch ∈ wsX8_ask := mb_X8_ask_wsX8_ask_r2 (List.mem_of_getElem? (i := 13) rfl)
theorem mx_X8_ask_39 : Cond.selects RX8 yX8_sizeOfDutch yX8_sizeOfDutch ∈ wsX8_ask := mb_X8_ask_wsX8_ask_r2 (List.mem_of_getElem? (i := 14) rfl)
theorem mx_X8_ask_40 : Cond.code yX8_sizeOfDutch cX8_sizeOfDutch 2 (some .int) ∈ wsX8_ask := mb_X8_ask_wsX8_ask_r2 (List.mem_of_getElem? (i := 15) rfl)
theorem mx_X8_ask_41 : Cond.methodLink RX8 269 yX8_dutchSize ∈ wsX8_ask := mb_X8_ask_wsX8_ask_r2 (List.mem_of_getElem? (i := 16) rfl)
theorem mx_X8_ask_42 : Cond.instanceMethod yX8_dutchSize ∈ wsX8_ask := mb_X8_ask_wsX8_ask_r2 (List.mem_of_getElem? (i := 17) rfl)
theorem mx_X8_ask_43 : Cond.selects RX8 yX8_dutchSize yX8_dutchSize ∈ wsX8_ask := mb_X8_ask_wsX8_ask_r2 (List.mem_of_getElem? (i := 18) rfl)
theorem mx_X8_ask_44 : Cond.code yX8_dutchSize cX8_dutchSize 2 (some .int) ∈ wsX8_ask := mb_X8_ask_wsX8_ask_r2 (List.mem_of_getElem? (i := 19) rfl)
theorem ggX8_ask_X8_markOf : GoodIn wsX8_ask wsX8_markOf := goodIn_sub (by unfold wsX8_markOf; exact List.forall_mem_cons.mpr ⟨mx_X8_ask_32, List.forall_mem_append.mpr ⟨List.forall_mem_cons.mpr ⟨mx_X8_ask_8, List.forall_mem_cons.mpr ⟨mx_X8_ask_16, List.forall_mem_cons.mpr ⟨mx_X8_ask_17, List.forall_mem_cons.mpr ⟨mx_X8_ask_18, List.forall_mem_cons.mpr ⟨mx_X8_ask_6, List.forall_mem_cons.mpr ⟨mx_X8_ask_19, List.forall_mem_cons.mpr ⟨mx_X8_ask_2, List.forall_mem_cons.mpr ⟨mx_X8_ask_20, List.forall_mem_cons.mpr ⟨mx_X8_ask_33, List.forall_mem_cons.mpr ⟨mx_X8_ask_34, List.forall_mem_cons.mpr ⟨mx_X8_ask_35, List.forall_mem_cons.mpr ⟨mx_X8_ask_36, List.forall_mem_cons.mpr ⟨mx_X8_ask_25, List.forall_mem_cons.mpr ⟨mx_X8_ask_26, List.forall_mem_cons.mpr ⟨mx_X8_ask_27, List.forall_mem_cons.mpr ⟨mx_X8_ask_28, List.forall_mem_cons.mpr ⟨mx_X8_ask_37, List.forall_mem_cons.mpr ⟨mx_X8_ask_38, List.forall_mem_cons.mpr ⟨mx_X8_ask_39, List.forall_mem_cons.mpr ⟨mx_X8_ask_40, List.forall_mem_cons.mpr ⟨mx_X8_ask_41, List.forall_mem_cons.mpr ⟨mx_X8_ask_42, List.forall_mem_cons.mpr ⟨mx_X8_ask_43, List.forall_mem_cons.mpr ⟨mx_X8_ask_44, fun _ h_ => absurd h_ List.not_mem_nil⟩⟩⟩⟩⟩⟩⟩⟩⟩⟩⟩⟩⟩⟩⟩⟩⟩⟩⟩⟩⟩⟩⟩⟩, (fun _ h_ => mb_X8_ask_wsX80 h_)⟩⟩) (by decide +kernel)
theorem mx_X8_ask_29 : Cond.methodLink RX8 278 yX8_markOf ∈ wsX8_ask := mb_X8_ask_wsX8_ask_r2 (List.mem_of_getElem? (i := 4) rfl)
theorem mx_X8_ask_30 : Cond.instanceMethod yX8_markOf ∈ wsX8_ask := mb_X8_ask_wsX8_ask_r2 (List.mem_of_getElem? (i := 5) rfl)
theorem mx_X8_ask_31 : Cond.selects RX8 yX8_markOf yX8_markOf ∈ wsX8_ask := mb_X8_ask_wsX8_ask_r2 (List.mem_of_getElem? (i := 6) rfl)
theorem gX8_ask_X8_markOf : GoodIn wsX8_ask (wsV RX8 278 RX8 yX8_markOf wsX8_markOf) := goodIn_app (goodIn_sub (List.forall_mem_cons.mpr ⟨mx_X8_ask_29, List.forall_mem_cons.mpr ⟨mx_X8_ask_30, List.forall_mem_cons.mpr ⟨mx_X8_ask_31, List.forall_mem_cons.mpr ⟨mx_X8_ask_6, fun _ h_ => absurd h_ List.not_mem_nil⟩⟩⟩⟩) (by decide +kernel)) ggX8_ask_X8_markOf
theorem mx_X8_ask_15 : Cond.code yX8_sizeOf cX8_sizeOf 3 (some .int) ∈ wsX8_ask := mb_X8_ask_wsX8_ask_r1 (List.mem_of_getElem? (i := 14) rfl)
theorem mx_X8_ask_21 : Cond.methodLink RX8 281 yX8_voiceSize ∈ wsX8_ask := mb_X8_ask_wsX8_ask_r1 (List.mem_of_getElem? (i := 20) rfl)
theorem mx_X8_ask_22 : Cond.instanceMethod yX8_voiceSize ∈ wsX8_ask := mb_X8_ask_wsX8_ask_r1 (List.mem_of_getElem? (i := 21) rfl)
theorem mx_X8_ask_23 : Cond.selects RX8 yX8_voiceSize yX8_voiceSize ∈ wsX8_ask := mb_X8_ask_wsX8_ask_r1 (List.mem_of_getElem? (i := 22) rfl)
theorem mx_X8_ask_24 : Cond.code yX8_voiceSize cX8_voiceSize 3 (some .int) ∈ wsX8_ask := mb_X8_ask_wsX8_ask_r1 (List.mem_of_getElem? (i := 23) rfl)
theorem ggX8_ask_X8_sizeOf : GoodIn wsX8_ask wsX8_sizeOf := goodIn_sub (by unfold wsX8_sizeOf; exact List.forall_mem_cons.mpr ⟨mx_X8_ask_15, List.forall_mem_append.mpr ⟨List.forall_mem_append.mpr ⟨(by unfold wsX8_sizeOf_r1; exact List.forall_mem_cons.mpr ⟨mx_X8_ask_8, List.forall_mem_cons.mpr ⟨mx_X8_ask_16, List.forall_mem_cons.mpr ⟨mx_X8_ask_17, List.forall_mem_cons.mpr ⟨mx_X8_ask_18, List.forall_mem_cons.mpr ⟨mx_X8_ask_6, List.forall_mem_cons.mpr ⟨mx_X8_ask_19, List.forall_mem_cons.mpr ⟨mx_X8_ask_2, List.forall_mem_cons.mpr ⟨mx_X8_ask_20, List.forall_mem_cons.mpr ⟨mx_X8_ask_21, List.forall_mem_cons.mpr ⟨mx_X8_ask_22, List.forall_mem_cons.mpr ⟨mx_X8_ask_23, List.forall_mem_cons.mpr ⟨mx_X8_ask_24, List.forall_mem_cons.mpr ⟨mx_X8_ask_25, List.forall_mem_cons.mpr ⟨mx_X8_ask_26, List.forall_mem_cons.mpr ⟨mx_X8_ask_27, List.forall_mem_cons.mpr ⟨mx_X8_ask_28, List.forall_mem_cons.mpr ⟨mx_X8_ask_29, List.forall_mem_cons.mpr ⟨mx_X8_ask_30, List.forall_mem_cons.mpr ⟨mx_X8_ask_31, List.forall_mem_cons.mpr ⟨mx_X8_ask_32, List.forall_mem_cons.mpr ⟨mx_X8_ask_33, List.forall_mem_cons.mpr ⟨mx_X8_ask_34, List.forall_mem_cons.mpr ⟨mx_X8_ask_35, List.forall_mem_cons.mpr ⟨mx_X8_ask_36, fun _ h_ => absurd h_ List.not_mem_nil⟩⟩⟩⟩⟩⟩⟩⟩⟩⟩⟩⟩⟩⟩⟩⟩⟩⟩⟩⟩⟩⟩⟩⟩), (by unfold wsX8_sizeOf_r2; exact List.forall_mem_cons.mpr ⟨mx_X8_ask_37, List.forall_mem_cons.mpr ⟨mx_X8_ask_38, List.forall_mem_cons.mpr ⟨mx_X8_ask_39, List.forall_mem_cons.mpr ⟨mx_X8_ask_40, List.forall_mem_cons.mpr ⟨mx_X8_ask_41, List.forall_mem_cons.mpr ⟨mx_X8_ask_42, List.forall_mem_cons.mpr ⟨mx_X8_ask_43, List.forall_mem_cons.mpr ⟨mx_X8_ask_44, fun _ h_ => absurd h_ List.not_mem_nil⟩⟩⟩⟩⟩⟩⟩⟩)⟩, (fun _ h_ => mb_X8_ask_wsX80 h_)⟩⟩) (by decide +kernel)
theorem mx_X8_ask_12 : Cond.methodLink RX8 284 yX8_sizeOf ∈ wsX8_ask := mb_X8_ask_wsX8_ask_r1 (List.mem_of_getElem? (i := 11) rfl)
theorem mx_X8_ask_13 : Cond.instanceMethod yX8_sizeOf ∈ wsX8_ask := mb_X8_ask_wsX8_ask_r1 (List.mem_of_getElem? (i := 12) rfl)
theorem mx_X8_ask_14 : Cond.selects RX8 yX8_sizeOf yX8_sizeOf ∈ wsX8_ask := mb_X8_ask_wsX8_ask_r1 (List.mem_of_getElem? (i := 13) rfl)
theorem gX8_ask_X8_sizeOf : GoodIn wsX8_ask (wsV RX8 284 RX8 yX8_sizeOf wsX8_sizeOf) := goodIn_app (goodIn_sub (List.forall_mem_cons.mpr ⟨mx_X8_ask_12, List.forall_mem_cons.mpr ⟨mx_X8_ask_13, List.forall_mem_cons.mpr ⟨mx_X8_ask_14, List.forall_mem_cons.mpr ⟨mx_X8_ask_6, fun _ h_ => absurd h_ List.not_mem_nil⟩⟩⟩⟩) (by decide +kernel)) ggX8_ask_X8_sizeOf
theorem mx_X8_copy_17 : Cond.code yX8_find cX8_find 2 (some .int) ∈ wsX8_copy := by unfold wsX8_copy; exact List.mem_cons_of_mem _ (List.mem_append_left _ (List.mem_of_getElem? (i := 16) rfl))
theorem mx_X8_copy_18 : Cond.fieldLink RX8 50 "MillTalkModel" "status" "I" ∈ wsX8_copy := by unfold wsX8_copy; exact List.mem_cons_of_mem _ (List.mem_append_left _ (List.mem_of_getElem? (i := 17) rfl))
theorem mx_X8_copy_19 : Cond.constant RX8 54 (-1000010) ∈ wsX8_copy := by unfold wsX8_copy; exact List.mem_cons_of_mem _ (List.mem_append_left _ (List.mem_of_getElem? (i := 18) rfl))
theorem mb_X8_copy_wsX80 {w : Cond} (h : w ∈ wsX80) : w ∈ wsX8_copy := by unfold wsX8_copy; exact List.mem_cons_of_mem _ (List.mem_append_right _ (h))
theorem ggX8_copy_X8_find : GoodIn wsX8_copy wsX8_find := goodIn_sub (by unfold wsX8_find; exact List.forall_mem_cons.mpr ⟨mx_X8_copy_17, List.forall_mem_append.mpr ⟨List.forall_mem_cons.mpr ⟨mx_X8_copy_18, List.forall_mem_cons.mpr ⟨mx_X8_copy_19, fun _ h_ => absurd h_ List.not_mem_nil⟩⟩, (fun _ h_ => mb_X8_copy_wsX80 h_)⟩⟩) (by decide +kernel)
theorem mx_X8_copy_14 : Cond.methodLink RX8 68 yX8_find ∈ wsX8_copy := by unfold wsX8_copy; exact List.mem_cons_of_mem _ (List.mem_append_left _ (List.mem_of_getElem? (i := 13) rfl))
theorem mx_X8_copy_15 : Cond.instanceMethod yX8_find ∈ wsX8_copy := by unfold wsX8_copy; exact List.mem_cons_of_mem _ (List.mem_append_left _ (List.mem_of_getElem? (i := 14) rfl))
theorem mx_X8_copy_16 : Cond.selects RX8 yX8_find yX8_find ∈ wsX8_copy := by unfold wsX8_copy; exact List.mem_cons_of_mem _ (List.mem_append_left _ (List.mem_of_getElem? (i := 15) rfl))
theorem mx_X8_copy_8 : Cond.initialized RX8 ∈ wsX8_copy := by unfold wsX8_copy; exact List.mem_cons_of_mem _ (List.mem_append_left _ (List.mem_of_getElem? (i := 7) rfl))
theorem gX8_copy_X8_find : GoodIn wsX8_copy (wsV RX8 68 RX8 yX8_find wsX8_find) := goodIn_app (goodIn_sub (List.forall_mem_cons.mpr ⟨mx_X8_copy_14, List.forall_mem_cons.mpr ⟨mx_X8_copy_15, List.forall_mem_cons.mpr ⟨mx_X8_copy_16, List.forall_mem_cons.mpr ⟨mx_X8_copy_8, fun _ h_ => absurd h_ List.not_mem_nil⟩⟩⟩⟩) (by decide +kernel)) ggX8_copy_X8_find
theorem mx_X8_copy_13 : Cond.code yX8_in cX8_in 6 (some .boolean) ∈ wsX8_copy := by unfold wsX8_copy; exact List.mem_cons_of_mem _ (List.mem_append_left _ (List.mem_of_getElem? (i := 12) rfl))
theorem ggX8_copy_X8_in : GoodIn wsX8_copy wsX8_in := goodIn_sub (by unfold wsX8_in; exact List.forall_mem_cons.mpr ⟨mx_X8_copy_13, fun _ h_ => absurd h_ List.not_mem_nil⟩) (by decide +kernel)
set_option maxRecDepth 20000 in
theorem gX8_copy_X8_in : GoodIn wsX8_copy (va_wsS RX8 57 yX8_in wsX8_in) := goodIn_app (goodIn_of _ (by decide +kernel)) ggX8_copy_X8_in
theorem mx_X8_copy_9 : Cond.code yX8_isRow cX8_isRow 1 (some .boolean) ∈ wsX8_copy := by unfold wsX8_copy; exact List.mem_cons_of_mem _ (List.mem_append_left _ (List.mem_of_getElem? (i := 8) rfl))
theorem mx_X8_copy_10 : Cond.constantLong RX8 55 (7) ∈ wsX8_copy := by unfold wsX8_copy; exact List.mem_cons_of_mem _ (List.mem_append_left _ (List.mem_of_getElem? (i := 9) rfl))
theorem mx_X8_copy_11 : Cond.methodLink RX8 57 yX8_in ∈ wsX8_copy := by unfold wsX8_copy; exact List.mem_cons_of_mem _ (List.mem_append_left _ (List.mem_of_getElem? (i := 10) rfl))
theorem mx_X8_copy_12 : Cond.static yX8_in ∈ wsX8_copy := by unfold wsX8_copy; exact List.mem_cons_of_mem _ (List.mem_append_left _ (List.mem_of_getElem? (i := 11) rfl))
theorem ggX8_copy_X8_isRow : GoodIn wsX8_copy wsX8_isRow := goodIn_sub (by unfold wsX8_isRow; exact List.forall_mem_cons.mpr ⟨mx_X8_copy_9, List.forall_mem_cons.mpr ⟨mx_X8_copy_10, List.forall_mem_cons.mpr ⟨mx_X8_copy_11, List.forall_mem_cons.mpr ⟨mx_X8_copy_12, List.forall_mem_cons.mpr ⟨mx_X8_copy_8, List.forall_mem_cons.mpr ⟨mx_X8_copy_13, fun _ h_ => absurd h_ List.not_mem_nil⟩⟩⟩⟩⟩⟩) (by decide +kernel)
set_option maxRecDepth 20000 in
theorem gX8_copy_X8_isRow : GoodIn wsX8_copy (va_wsS RX8 61 yX8_isRow wsX8_isRow) := goodIn_app (goodIn_of _ (by decide +kernel)) ggX8_copy_X8_isRow
theorem mx_X8_copy_23 : Cond.code yX8_well cX8_well 2 (some .int) ∈ wsX8_copy := by unfold wsX8_copy; exact List.mem_cons_of_mem _ (List.mem_append_left _ (List.mem_of_getElem? (i := 22) rfl))
theorem ggX8_copy_X8_well : GoodIn wsX8_copy wsX8_well := goodIn_sub (by unfold wsX8_well; exact List.forall_mem_cons.mpr ⟨mx_X8_copy_23, List.forall_mem_append.mpr ⟨List.forall_mem_cons.mpr ⟨mx_X8_copy_18, fun _ h_ => absurd h_ List.not_mem_nil⟩, (fun _ h_ => mb_X8_copy_wsX80 h_)⟩⟩) (by decide +kernel)
theorem mx_X8_copy_20 : Cond.methodLink RX8 72 yX8_well ∈ wsX8_copy := by unfold wsX8_copy; exact List.mem_cons_of_mem _ (List.mem_append_left _ (List.mem_of_getElem? (i := 19) rfl))
theorem mx_X8_copy_21 : Cond.instanceMethod yX8_well ∈ wsX8_copy := by unfold wsX8_copy; exact List.mem_cons_of_mem _ (List.mem_append_left _ (List.mem_of_getElem? (i := 20) rfl))
theorem mx_X8_copy_22 : Cond.selects RX8 yX8_well yX8_well ∈ wsX8_copy := by unfold wsX8_copy; exact List.mem_cons_of_mem _ (List.mem_append_left _ (List.mem_of_getElem? (i := 21) rfl))
theorem gX8_copy_X8_well : GoodIn wsX8_copy (wsV RX8 72 RX8 yX8_well wsX8_well) := goodIn_app (goodIn_sub (List.forall_mem_cons.mpr ⟨mx_X8_copy_20, List.forall_mem_cons.mpr ⟨mx_X8_copy_21, List.forall_mem_cons.mpr ⟨mx_X8_copy_22, List.forall_mem_cons.mpr ⟨mx_X8_copy_8, fun _ h_ => absurd h_ List.not_mem_nil⟩⟩⟩⟩) (by decide +kernel)) ggX8_copy_X8_well
theorem mx_X8_count_13 : Cond.code yX8_ones cX8_ones 3 (some .int) ∈ wsX8_count := by unfold wsX8_count; exact List.mem_cons_of_mem _ (List.mem_append_left _ (List.mem_of_getElem? (i := 12) rfl))
theorem ggX8_count_X8_ones : GoodIn wsX8_count wsX8_ones := goodIn_sub (by unfold wsX8_ones; exact List.forall_mem_cons.mpr ⟨mx_X8_count_13, fun _ h_ => absurd h_ List.not_mem_nil⟩) (by decide +kernel)
set_option maxRecDepth 20000 in
theorem gX8_count_X8_ones : GoodIn wsX8_count (va_wsS RX8 254 yX8_ones wsX8_ones) := goodIn_app (goodIn_of _ (by decide +kernel)) ggX8_count_X8_ones
theorem mx_X8_count_10 : Cond.code yX8_those cX8_those 4 (some .int) ∈ wsX8_count := by unfold wsX8_count; exact List.mem_cons_of_mem _ (List.mem_append_left _ (List.mem_of_getElem? (i := 9) rfl))
theorem mx_X8_count_2 : Cond.fieldLink RX8 19 "MillTalkModel" "st" "[I" ∈ wsX8_count := by unfold wsX8_count; exact List.mem_cons_of_mem _ (List.mem_append_left _ (List.mem_of_getElem? (i := 1) rfl))
theorem mb_X8_count_wsX80 {w : Cond} (h : w ∈ wsX80) : w ∈ wsX8_count := by unfold wsX8_count; exact List.mem_cons_of_mem _ (List.mem_append_right _ (h))
theorem ggX8_count_X8_those : GoodIn wsX8_count wsX8_those := goodIn_sub (by unfold wsX8_those; exact List.forall_mem_cons.mpr ⟨mx_X8_count_10, List.forall_mem_append.mpr ⟨List.forall_mem_cons.mpr ⟨mx_X8_count_2, fun _ h_ => absurd h_ List.not_mem_nil⟩, (fun _ h_ => mb_X8_count_wsX80 h_)⟩⟩) (by decide +kernel)
theorem mx_X8_count_6 : Cond.methodLink RX8 182 yX8_those ∈ wsX8_count := by unfold wsX8_count; exact List.mem_cons_of_mem _ (List.mem_append_left _ (List.mem_of_getElem? (i := 5) rfl))
theorem mx_X8_count_7 : Cond.instanceMethod yX8_those ∈ wsX8_count := by unfold wsX8_count; exact List.mem_cons_of_mem _ (List.mem_append_left _ (List.mem_of_getElem? (i := 6) rfl))
theorem mx_X8_count_8 : Cond.selects RX8 yX8_those yX8_those ∈ wsX8_count := by unfold wsX8_count; exact List.mem_cons_of_mem _ (List.mem_append_left _ (List.mem_of_getElem? (i := 7) rfl))
theorem mx_X8_count_9 : Cond.initialized RX8 ∈ wsX8_count := by unfold wsX8_count; exact List.mem_cons_of_mem _ (List.mem_append_left _ (List.mem_of_getElem? (i := 8) rfl))
theorem gX8_count_X8_those : GoodIn wsX8_count (wsV RX8 182 RX8 yX8_those wsX8_those) := goodIn_app (goodIn_sub (List.forall_mem_cons.mpr ⟨mx_X8_count_6, List.forall_mem_cons.mpr ⟨mx_X8_count_7, List.forall_mem_cons.mpr ⟨mx_X8_count_8, List.forall_mem_cons.mpr ⟨mx_X8_count_9, fun _ h_ => absurd h_ List.not_mem_nil⟩⟩⟩⟩) (by decide +kernel)) ggX8_count_X8_those
theorem mx_X8_drop_14 : Cond.code yX8_find cX8_find 2 (some .int) ∈ wsX8_drop := by unfold wsX8_drop; exact List.mem_cons_of_mem _ (List.mem_append_left _ (List.mem_of_getElem? (i := 13) rfl))
theorem mx_X8_drop_15 : Cond.fieldLink RX8 50 "MillTalkModel" "status" "I" ∈ wsX8_drop := by unfold wsX8_drop; exact List.mem_cons_of_mem _ (List.mem_append_left _ (List.mem_of_getElem? (i := 14) rfl))
theorem mx_X8_drop_16 : Cond.constant RX8 54 (-1000010) ∈ wsX8_drop := by unfold wsX8_drop; exact List.mem_cons_of_mem _ (List.mem_append_left _ (List.mem_of_getElem? (i := 15) rfl))
theorem mb_X8_drop_wsX80 {w : Cond} (h : w ∈ wsX80) : w ∈ wsX8_drop := by unfold wsX8_drop; exact List.mem_cons_of_mem _ (List.mem_append_right _ (h))
theorem ggX8_drop_X8_find : GoodIn wsX8_drop wsX8_find := goodIn_sub (by unfold wsX8_find; exact List.forall_mem_cons.mpr ⟨mx_X8_drop_14, List.forall_mem_append.mpr ⟨List.forall_mem_cons.mpr ⟨mx_X8_drop_15, List.forall_mem_cons.mpr ⟨mx_X8_drop_16, fun _ h_ => absurd h_ List.not_mem_nil⟩⟩, (fun _ h_ => mb_X8_drop_wsX80 h_)⟩⟩) (by decide +kernel)
theorem mx_X8_drop_11 : Cond.methodLink RX8 68 yX8_find ∈ wsX8_drop := by unfold wsX8_drop; exact List.mem_cons_of_mem _ (List.mem_append_left _ (List.mem_of_getElem? (i := 10) rfl))
theorem mx_X8_drop_12 : Cond.instanceMethod yX8_find ∈ wsX8_drop := by unfold wsX8_drop; exact List.mem_cons_of_mem _ (List.mem_append_left _ (List.mem_of_getElem? (i := 11) rfl))
theorem mx_X8_drop_13 : Cond.selects RX8 yX8_find yX8_find ∈ wsX8_drop := by unfold wsX8_drop; exact List.mem_cons_of_mem _ (List.mem_append_left _ (List.mem_of_getElem? (i := 12) rfl))
theorem mx_X8_drop_5 : Cond.initialized RX8 ∈ wsX8_drop := by unfold wsX8_drop; exact List.mem_cons_of_mem _ (List.mem_append_left _ (List.mem_of_getElem? (i := 4) rfl))
theorem gX8_drop_X8_find : GoodIn wsX8_drop (wsV RX8 68 RX8 yX8_find wsX8_find) := goodIn_app (goodIn_sub (List.forall_mem_cons.mpr ⟨mx_X8_drop_11, List.forall_mem_cons.mpr ⟨mx_X8_drop_12, List.forall_mem_cons.mpr ⟨mx_X8_drop_13, List.forall_mem_cons.mpr ⟨mx_X8_drop_5, fun _ h_ => absurd h_ List.not_mem_nil⟩⟩⟩⟩) (by decide +kernel)) ggX8_drop_X8_find
theorem mx_X8_drop_6 : Cond.code yX8_isRow cX8_isRow 1 (some .boolean) ∈ wsX8_drop := by unfold wsX8_drop; exact List.mem_cons_of_mem _ (List.mem_append_left _ (List.mem_of_getElem? (i := 5) rfl))
theorem mx_X8_drop_7 : Cond.constantLong RX8 55 (7) ∈ wsX8_drop := by unfold wsX8_drop; exact List.mem_cons_of_mem _ (List.mem_append_left _ (List.mem_of_getElem? (i := 6) rfl))
theorem mx_X8_drop_8 : Cond.methodLink RX8 57 yX8_in ∈ wsX8_drop := by unfold wsX8_drop; exact List.mem_cons_of_mem _ (List.mem_append_left _ (List.mem_of_getElem? (i := 7) rfl))
theorem mx_X8_drop_9 : Cond.static yX8_in ∈ wsX8_drop := by unfold wsX8_drop; exact List.mem_cons_of_mem _ (List.mem_append_left _ (List.mem_of_getElem? (i := 8) rfl))
theorem mx_X8_drop_10 : Cond.code yX8_in cX8_in 6 (some .boolean) ∈ wsX8_drop := by unfold wsX8_drop; exact List.mem_cons_of_mem _ (List.mem_append_left _ (List.mem_of_getElem? (i := 9) rfl))
theorem ggX8_drop_X8_isRow : GoodIn wsX8_drop wsX8_isRow := goodIn_sub (by unfold wsX8_isRow; exact List.forall_mem_cons.mpr ⟨mx_X8_drop_6, List.forall_mem_cons.mpr ⟨mx_X8_drop_7, List.forall_mem_cons.mpr ⟨mx_X8_drop_8, List.forall_mem_cons.mpr ⟨mx_X8_drop_9, List.forall_mem_cons.mpr ⟨mx_X8_drop_5, List.forall_mem_cons.mpr ⟨mx_X8_drop_10, fun _ h_ => absurd h_ List.not_mem_nil⟩⟩⟩⟩⟩⟩) (by decide +kernel)
set_option maxRecDepth 20000 in
theorem gX8_drop_X8_isRow : GoodIn wsX8_drop (va_wsS RX8 61 yX8_isRow wsX8_isRow) := goodIn_app (goodIn_of _ (by decide +kernel)) ggX8_drop_X8_isRow
theorem mx_X8_drop_20 : Cond.code yX8_well cX8_well 2 (some .int) ∈ wsX8_drop := by unfold wsX8_drop; exact List.mem_cons_of_mem _ (List.mem_append_left _ (List.mem_of_getElem? (i := 19) rfl))
theorem ggX8_drop_X8_well : GoodIn wsX8_drop wsX8_well := goodIn_sub (by unfold wsX8_well; exact List.forall_mem_cons.mpr ⟨mx_X8_drop_20, List.forall_mem_append.mpr ⟨List.forall_mem_cons.mpr ⟨mx_X8_drop_15, fun _ h_ => absurd h_ List.not_mem_nil⟩, (fun _ h_ => mb_X8_drop_wsX80 h_)⟩⟩) (by decide +kernel)
theorem mx_X8_drop_17 : Cond.methodLink RX8 72 yX8_well ∈ wsX8_drop := by unfold wsX8_drop; exact List.mem_cons_of_mem _ (List.mem_append_left _ (List.mem_of_getElem? (i := 16) rfl))
theorem mx_X8_drop_18 : Cond.instanceMethod yX8_well ∈ wsX8_drop := by unfold wsX8_drop; exact List.mem_cons_of_mem _ (List.mem_append_left _ (List.mem_of_getElem? (i := 17) rfl))
theorem mx_X8_drop_19 : Cond.selects RX8 yX8_well yX8_well ∈ wsX8_drop := by unfold wsX8_drop; exact List.mem_cons_of_mem _ (List.mem_append_left _ (List.mem_of_getElem? (i := 18) rfl))
theorem gX8_drop_X8_well : GoodIn wsX8_drop (wsV RX8 72 RX8 yX8_well wsX8_well) := goodIn_app (goodIn_sub (List.forall_mem_cons.mpr ⟨mx_X8_drop_17, List.forall_mem_cons.mpr ⟨mx_X8_drop_18, List.forall_mem_cons.mpr ⟨mx_X8_drop_19, List.forall_mem_cons.mpr ⟨mx_X8_drop_5, fun _ h_ => absurd h_ List.not_mem_nil⟩⟩⟩⟩) (by decide +kernel)) ggX8_drop_X8_well
theorem mx_X8_dutchSize_5 : Cond.code yX8_begin cX8_begin 2 none ∈ wsX8_dutchSize := by unfold wsX8_dutchSize; exact List.mem_cons_of_mem _ (List.mem_append_left _ (List.mem_of_getElem? (i := 4) rfl))
theorem mx_X8_dutchSize_6 : Cond.fieldLink RX8 260 "MillTalkModel" "traced" "I" ∈ wsX8_dutchSize := by unfold wsX8_dutchSize; exact List.mem_cons_of_mem _ (List.mem_append_left _ (List.mem_of_getElem? (i := 5) rfl))
theorem mx_X8_dutchSize_7 : Cond.fieldLink RX8 47 "MillTalkModel" "trace" "[I" ∈ wsX8_dutchSize := by unfold wsX8_dutchSize; exact List.mem_cons_of_mem _ (List.mem_append_left _ (List.mem_of_getElem? (i := 6) rfl))
theorem mb_X8_dutchSize_wsX80 {w : Cond} (h : w ∈ wsX80) : w ∈ wsX8_dutchSize := by unfold wsX8_dutchSize; exact List.mem_cons_of_mem _ (List.mem_append_right _ (h))
theorem ggX8_dutchSize_X8_begin : GoodIn wsX8_dutchSize wsX8_begin := goodIn_sub (by unfold wsX8_begin; exact List.forall_mem_cons.mpr ⟨mx_X8_dutchSize_5, List.forall_mem_append.mpr ⟨List.forall_mem_cons.mpr ⟨mx_X8_dutchSize_6, List.forall_mem_cons.mpr ⟨mx_X8_dutchSize_7, fun _ h_ => absurd h_ List.not_mem_nil⟩⟩, (fun _ h_ => mb_X8_dutchSize_wsX80 h_)⟩⟩) (by decide +kernel)
theorem mx_X8_dutchSize_1 : Cond.methodLink RX8 263 yX8_begin ∈ wsX8_dutchSize := by unfold wsX8_dutchSize; exact List.mem_cons_of_mem _ (List.mem_append_left _ (List.mem_of_getElem? (i := 0) rfl))
theorem mx_X8_dutchSize_2 : Cond.instanceMethod yX8_begin ∈ wsX8_dutchSize := by unfold wsX8_dutchSize; exact List.mem_cons_of_mem _ (List.mem_append_left _ (List.mem_of_getElem? (i := 1) rfl))
theorem mx_X8_dutchSize_3 : Cond.selects RX8 yX8_begin yX8_begin ∈ wsX8_dutchSize := by unfold wsX8_dutchSize; exact List.mem_cons_of_mem _ (List.mem_append_left _ (List.mem_of_getElem? (i := 2) rfl))
theorem mx_X8_dutchSize_4 : Cond.initialized RX8 ∈ wsX8_dutchSize := by unfold wsX8_dutchSize; exact List.mem_cons_of_mem _ (List.mem_append_left _ (List.mem_of_getElem? (i := 3) rfl))
theorem gX8_dutchSize_X8_begin : GoodIn wsX8_dutchSize (wsV RX8 263 RX8 yX8_begin wsX8_begin) := goodIn_app (goodIn_sub (List.forall_mem_cons.mpr ⟨mx_X8_dutchSize_1, List.forall_mem_cons.mpr ⟨mx_X8_dutchSize_2, List.forall_mem_cons.mpr ⟨mx_X8_dutchSize_3, List.forall_mem_cons.mpr ⟨mx_X8_dutchSize_4, fun _ h_ => absurd h_ List.not_mem_nil⟩⟩⟩⟩) (by decide +kernel)) ggX8_dutchSize_X8_begin
theorem mx_X8_dutchSize_11 : Cond.code yX8_lent cX8_lent 3 (some .int) ∈ wsX8_dutchSize := by unfold wsX8_dutchSize; exact List.mem_cons_of_mem _ (List.mem_append_left _ (List.mem_of_getElem? (i := 10) rfl))
theorem mx_X8_dutchSize_12 : Cond.fieldLink RX8 19 "MillTalkModel" "st" "[I" ∈ wsX8_dutchSize := by unfold wsX8_dutchSize; exact List.mem_cons_of_mem _ (List.mem_append_left _ (List.mem_of_getElem? (i := 11) rfl))
theorem ggX8_dutchSize_X8_lent : GoodIn wsX8_dutchSize wsX8_lent := goodIn_sub (by unfold wsX8_lent; exact List.forall_mem_cons.mpr ⟨mx_X8_dutchSize_11, List.forall_mem_append.mpr ⟨List.forall_mem_cons.mpr ⟨mx_X8_dutchSize_12, List.forall_mem_cons.mpr ⟨mx_X8_dutchSize_1, List.forall_mem_cons.mpr ⟨mx_X8_dutchSize_2, List.forall_mem_cons.mpr ⟨mx_X8_dutchSize_3, List.forall_mem_cons.mpr ⟨mx_X8_dutchSize_4, List.forall_mem_cons.mpr ⟨mx_X8_dutchSize_5, List.forall_mem_cons.mpr ⟨mx_X8_dutchSize_6, List.forall_mem_cons.mpr ⟨mx_X8_dutchSize_7, fun _ h_ => absurd h_ List.not_mem_nil⟩⟩⟩⟩⟩⟩⟩⟩, (fun _ h_ => mb_X8_dutchSize_wsX80 h_)⟩⟩) (by decide +kernel)
theorem mx_X8_dutchSize_8 : Cond.methodLink RX8 266 yX8_lent ∈ wsX8_dutchSize := by unfold wsX8_dutchSize; exact List.mem_cons_of_mem _ (List.mem_append_left _ (List.mem_of_getElem? (i := 7) rfl))
theorem mx_X8_dutchSize_9 : Cond.instanceMethod yX8_lent ∈ wsX8_dutchSize := by unfold wsX8_dutchSize; exact List.mem_cons_of_mem _ (List.mem_append_left _ (List.mem_of_getElem? (i := 8) rfl))
theorem mx_X8_dutchSize_10 : Cond.selects RX8 yX8_lent yX8_lent ∈ wsX8_dutchSize := by unfold wsX8_dutchSize; exact List.mem_cons_of_mem _ (List.mem_append_left _ (List.mem_of_getElem? (i := 9) rfl))
theorem gX8_dutchSize_X8_lent : GoodIn wsX8_dutchSize (wsV RX8 266 RX8 yX8_lent wsX8_lent) := goodIn_app (goodIn_sub (List.forall_mem_cons.mpr ⟨mx_X8_dutchSize_8, List.forall_mem_cons.mpr ⟨mx_X8_dutchSize_9, List.forall_mem_cons.mpr ⟨mx_X8_dutchSize_10, List.forall_mem_cons.mpr ⟨mx_X8_dutchSize_4, fun _ h_ => absurd h_ List.not_mem_nil⟩⟩⟩⟩) (by decide +kernel)) ggX8_dutchSize_X8_lent
theorem mx_X8_feed_9 : Cond.code yX8_in cX8_in 6 (some .boolean) ∈ wsX8_feed := by unfold wsX8_feed; exact List.mem_cons_of_mem _ (List.mem_append_left _ (List.mem_of_getElem? (i := 8) rfl))
theorem ggX8_feed_X8_in : GoodIn wsX8_feed wsX8_in := goodIn_sub (by unfold wsX8_in; exact List.forall_mem_cons.mpr ⟨mx_X8_feed_9, fun _ h_ => absurd h_ List.not_mem_nil⟩) (by decide +kernel)
set_option maxRecDepth 20000 in
theorem gX8_feed_X8_in : GoodIn wsX8_feed (va_wsS RX8 57 yX8_in wsX8_in) := goodIn_app (goodIn_of _ (by decide +kernel)) ggX8_feed_X8_in
theorem mx_X8_image_10 : Cond.code yX8_in cX8_in 6 (some .boolean) ∈ wsX8_image := by unfold wsX8_image; exact List.mem_cons_of_mem _ (List.mem_append_left _ (List.mem_of_getElem? (i := 9) rfl))
theorem ggX8_image_X8_in : GoodIn wsX8_image wsX8_in := goodIn_sub (by unfold wsX8_in; exact List.forall_mem_cons.mpr ⟨mx_X8_image_10, fun _ h_ => absurd h_ List.not_mem_nil⟩) (by decide +kernel)
set_option maxRecDepth 20000 in
theorem gX8_image_X8_in : GoodIn wsX8_image (va_wsS RX8 57 yX8_in wsX8_in) := goodIn_app (goodIn_of _ (by decide +kernel)) ggX8_image_X8_in
theorem mx_X8_lent_6 : Cond.code yX8_begin cX8_begin 2 none ∈ wsX8_lent := by unfold wsX8_lent; exact List.mem_cons_of_mem _ (List.mem_append_left _ (List.mem_of_getElem? (i := 5) rfl))
theorem mx_X8_lent_7 : Cond.fieldLink RX8 260 "MillTalkModel" "traced" "I" ∈ wsX8_lent := by unfold wsX8_lent; exact List.mem_cons_of_mem _ (List.mem_append_left _ (List.mem_of_getElem? (i := 6) rfl))
theorem mx_X8_lent_8 : Cond.fieldLink RX8 47 "MillTalkModel" "trace" "[I" ∈ wsX8_lent := by unfold wsX8_lent; exact List.mem_cons_of_mem _ (List.mem_append_left _ (List.mem_of_getElem? (i := 7) rfl))
theorem mb_X8_lent_wsX80 {w : Cond} (h : w ∈ wsX80) : w ∈ wsX8_lent := by unfold wsX8_lent; exact List.mem_cons_of_mem _ (List.mem_append_right _ (h))
theorem ggX8_lent_X8_begin : GoodIn wsX8_lent wsX8_begin := goodIn_sub (by unfold wsX8_begin; exact List.forall_mem_cons.mpr ⟨mx_X8_lent_6, List.forall_mem_append.mpr ⟨List.forall_mem_cons.mpr ⟨mx_X8_lent_7, List.forall_mem_cons.mpr ⟨mx_X8_lent_8, fun _ h_ => absurd h_ List.not_mem_nil⟩⟩, (fun _ h_ => mb_X8_lent_wsX80 h_)⟩⟩) (by decide +kernel)
theorem mx_X8_lent_2 : Cond.methodLink RX8 263 yX8_begin ∈ wsX8_lent := by unfold wsX8_lent; exact List.mem_cons_of_mem _ (List.mem_append_left _ (List.mem_of_getElem? (i := 1) rfl))
theorem mx_X8_lent_3 : Cond.instanceMethod yX8_begin ∈ wsX8_lent := by unfold wsX8_lent; exact List.mem_cons_of_mem _ (List.mem_append_left _ (List.mem_of_getElem? (i := 2) rfl))
theorem mx_X8_lent_4 : Cond.selects RX8 yX8_begin yX8_begin ∈ wsX8_lent := by unfold wsX8_lent; exact List.mem_cons_of_mem _ (List.mem_append_left _ (List.mem_of_getElem? (i := 3) rfl))
theorem mx_X8_lent_5 : Cond.initialized RX8 ∈ wsX8_lent := by unfold wsX8_lent; exact List.mem_cons_of_mem _ (List.mem_append_left _ (List.mem_of_getElem? (i := 4) rfl))
theorem gX8_lent_X8_begin : GoodIn wsX8_lent (wsV RX8 263 RX8 yX8_begin wsX8_begin) := goodIn_app (goodIn_sub (List.forall_mem_cons.mpr ⟨mx_X8_lent_2, List.forall_mem_cons.mpr ⟨mx_X8_lent_3, List.forall_mem_cons.mpr ⟨mx_X8_lent_4, List.forall_mem_cons.mpr ⟨mx_X8_lent_5, fun _ h_ => absurd h_ List.not_mem_nil⟩⟩⟩⟩) (by decide +kernel)) ggX8_lent_X8_begin
theorem mx_X8_markOf_6 : Cond.code yX8_begin cX8_begin 2 none ∈ wsX8_markOf := by unfold wsX8_markOf; exact List.mem_cons_of_mem _ (List.mem_append_left _ (List.mem_of_getElem? (i := 5) rfl))
theorem mx_X8_markOf_7 : Cond.fieldLink RX8 260 "MillTalkModel" "traced" "I" ∈ wsX8_markOf := by unfold wsX8_markOf; exact List.mem_cons_of_mem _ (List.mem_append_left _ (List.mem_of_getElem? (i := 6) rfl))
theorem mx_X8_markOf_8 : Cond.fieldLink RX8 47 "MillTalkModel" "trace" "[I" ∈ wsX8_markOf := by unfold wsX8_markOf; exact List.mem_cons_of_mem _ (List.mem_append_left _ (List.mem_of_getElem? (i := 7) rfl))
theorem mb_X8_markOf_wsX80 {w : Cond} (h : w ∈ wsX80) : w ∈ wsX8_markOf := by unfold wsX8_markOf; exact List.mem_cons_of_mem _ (List.mem_append_right _ (h))
theorem ggX8_markOf_X8_begin : GoodIn wsX8_markOf wsX8_begin := goodIn_sub (by unfold wsX8_begin; exact List.forall_mem_cons.mpr ⟨mx_X8_markOf_6, List.forall_mem_append.mpr ⟨List.forall_mem_cons.mpr ⟨mx_X8_markOf_7, List.forall_mem_cons.mpr ⟨mx_X8_markOf_8, fun _ h_ => absurd h_ List.not_mem_nil⟩⟩, (fun _ h_ => mb_X8_markOf_wsX80 h_)⟩⟩) (by decide +kernel)
theorem mx_X8_markOf_2 : Cond.methodLink RX8 263 yX8_begin ∈ wsX8_markOf := by unfold wsX8_markOf; exact List.mem_cons_of_mem _ (List.mem_append_left _ (List.mem_of_getElem? (i := 1) rfl))
theorem mx_X8_markOf_3 : Cond.instanceMethod yX8_begin ∈ wsX8_markOf := by unfold wsX8_markOf; exact List.mem_cons_of_mem _ (List.mem_append_left _ (List.mem_of_getElem? (i := 2) rfl))
theorem mx_X8_markOf_4 : Cond.selects RX8 yX8_begin yX8_begin ∈ wsX8_markOf := by unfold wsX8_markOf; exact List.mem_cons_of_mem _ (List.mem_append_left _ (List.mem_of_getElem? (i := 3) rfl))
theorem mx_X8_markOf_5 : Cond.initialized RX8 ∈ wsX8_markOf := by unfold wsX8_markOf; exact List.mem_cons_of_mem _ (List.mem_append_left _ (List.mem_of_getElem? (i := 4) rfl))
theorem gX8_markOf_X8_begin : GoodIn wsX8_markOf (wsV RX8 263 RX8 yX8_begin wsX8_begin) := goodIn_app (goodIn_sub (List.forall_mem_cons.mpr ⟨mx_X8_markOf_2, List.forall_mem_cons.mpr ⟨mx_X8_markOf_3, List.forall_mem_cons.mpr ⟨mx_X8_markOf_4, List.forall_mem_cons.mpr ⟨mx_X8_markOf_5, fun _ h_ => absurd h_ List.not_mem_nil⟩⟩⟩⟩) (by decide +kernel)) ggX8_markOf_X8_begin
theorem mx_X8_markOf_16 : Cond.code yX8_lent cX8_lent 3 (some .int) ∈ wsX8_markOf := by unfold wsX8_markOf; exact List.mem_cons_of_mem _ (List.mem_append_left _ (List.mem_of_getElem? (i := 15) rfl))
theorem mx_X8_markOf_1 : Cond.fieldLink RX8 19 "MillTalkModel" "st" "[I" ∈ wsX8_markOf := by unfold wsX8_markOf; exact List.mem_cons_of_mem _ (List.mem_append_left _ (List.mem_of_getElem? (i := 0) rfl))
theorem ggX8_markOf_X8_lent : GoodIn wsX8_markOf wsX8_lent := goodIn_sub (by unfold wsX8_lent; exact List.forall_mem_cons.mpr ⟨mx_X8_markOf_16, List.forall_mem_append.mpr ⟨List.forall_mem_cons.mpr ⟨mx_X8_markOf_1, List.forall_mem_cons.mpr ⟨mx_X8_markOf_2, List.forall_mem_cons.mpr ⟨mx_X8_markOf_3, List.forall_mem_cons.mpr ⟨mx_X8_markOf_4, List.forall_mem_cons.mpr ⟨mx_X8_markOf_5, List.forall_mem_cons.mpr ⟨mx_X8_markOf_6, List.forall_mem_cons.mpr ⟨mx_X8_markOf_7, List.forall_mem_cons.mpr ⟨mx_X8_markOf_8, fun _ h_ => absurd h_ List.not_mem_nil⟩⟩⟩⟩⟩⟩⟩⟩, (fun _ h_ => mb_X8_markOf_wsX80 h_)⟩⟩) (by decide +kernel)
theorem mx_X8_markOf_13 : Cond.methodLink RX8 266 yX8_lent ∈ wsX8_markOf := by unfold wsX8_markOf; exact List.mem_cons_of_mem _ (List.mem_append_left _ (List.mem_of_getElem? (i := 12) rfl))
theorem mx_X8_markOf_14 : Cond.instanceMethod yX8_lent ∈ wsX8_markOf := by unfold wsX8_markOf; exact List.mem_cons_of_mem _ (List.mem_append_left _ (List.mem_of_getElem? (i := 13) rfl))
theorem mx_X8_markOf_15 : Cond.selects RX8 yX8_lent yX8_lent ∈ wsX8_markOf := by unfold wsX8_markOf; exact List.mem_cons_of_mem _ (List.mem_append_left _ (List.mem_of_getElem? (i := 14) rfl))
theorem gX8_markOf_X8_lent : GoodIn wsX8_markOf (wsV RX8 266 RX8 yX8_lent wsX8_lent) := goodIn_app (goodIn_sub (List.forall_mem_cons.mpr ⟨mx_X8_markOf_13, List.forall_mem_cons.mpr ⟨mx_X8_markOf_14, List.forall_mem_cons.mpr ⟨mx_X8_markOf_15, List.forall_mem_cons.mpr ⟨mx_X8_markOf_5, fun _ h_ => absurd h_ List.not_mem_nil⟩⟩⟩⟩) (by decide +kernel)) ggX8_markOf_X8_lent
theorem mx_X8_markOf_20 : Cond.code yX8_sizeOfDutch cX8_sizeOfDutch 2 (some .int) ∈ wsX8_markOf := by unfold wsX8_markOf; exact List.mem_cons_of_mem _ (List.mem_append_left _ (List.mem_of_getElem? (i := 19) rfl))
theorem mx_X8_markOf_21 : Cond.methodLink RX8 269 yX8_dutchSize ∈ wsX8_markOf := by unfold wsX8_markOf; exact List.mem_cons_of_mem _ (List.mem_append_left _ (List.mem_of_getElem? (i := 20) rfl))
theorem mx_X8_markOf_22 : Cond.instanceMethod yX8_dutchSize ∈ wsX8_markOf := by unfold wsX8_markOf; exact List.mem_cons_of_mem _ (List.mem_append_left _ (List.mem_of_getElem? (i := 21) rfl))
theorem mx_X8_markOf_23 : Cond.selects RX8 yX8_dutchSize yX8_dutchSize ∈ wsX8_markOf := by unfold wsX8_markOf; exact List.mem_cons_of_mem _ (List.mem_append_left _ (List.mem_of_getElem? (i := 22) rfl))
theorem mx_X8_markOf_24 : Cond.code yX8_dutchSize cX8_dutchSize 2 (some .int) ∈ wsX8_markOf := by unfold wsX8_markOf; exact List.mem_cons_of_mem _ (List.mem_append_left _ (List.mem_of_getElem? (i := 23) rfl))
theorem ggX8_markOf_X8_sizeOfDutch : GoodIn wsX8_markOf wsX8_sizeOfDutch := goodIn_sub (by unfold wsX8_sizeOfDutch; exact List.forall_mem_cons.mpr ⟨mx_X8_markOf_20, List.forall_mem_append.mpr ⟨List.forall_mem_cons.mpr ⟨mx_X8_markOf_1, List.forall_mem_cons.mpr ⟨mx_X8_markOf_2, List.forall_mem_cons.mpr ⟨mx_X8_markOf_3, List.forall_mem_cons.mpr ⟨mx_X8_markOf_4, List.forall_mem_cons.mpr ⟨mx_X8_markOf_5, List.forall_mem_cons.mpr ⟨mx_X8_markOf_6, List.forall_mem_cons.mpr ⟨mx_X8_markOf_7, List.forall_mem_cons.mpr ⟨mx_X8_markOf_8, List.forall_mem_cons.mpr ⟨mx_X8_markOf_21, List.forall_mem_cons.mpr ⟨mx_X8_markOf_22, List.forall_mem_cons.mpr ⟨mx_X8_markOf_23, List.forall_mem_cons.mpr ⟨mx_X8_markOf_24, List.forall_mem_cons.mpr ⟨mx_X8_markOf_13, List.forall_mem_cons.mpr ⟨mx_X8_markOf_14, List.forall_mem_cons.mpr ⟨mx_X8_markOf_15, List.forall_mem_cons.mpr ⟨mx_X8_markOf_16, fun _ h_ => absurd h_ List.not_mem_nil⟩⟩⟩⟩⟩⟩⟩⟩⟩⟩⟩⟩⟩⟩⟩⟩, (fun _ h_ => mb_X8_markOf_wsX80 h_)⟩⟩) (by decide +kernel)
theorem mx_X8_markOf_17 : Cond.methodLink RX8 275 yX8_sizeOfDutch ∈ wsX8_markOf := by unfold wsX8_markOf; exact List.mem_cons_of_mem _ (List.mem_append_left _ (List.mem_of_getElem? (i := 16) rfl))
theorem mx_X8_markOf_18 : Cond.instanceMethod yX8_sizeOfDutch ∈ wsX8_markOf := by unfold wsX8_markOf; exact List.mem_cons_of_mem _ (List.mem_append_left _ (List.mem_of_getElem? (i := 17) rfl))
theorem mx_X8_markOf_19 : Cond.selects RX8 yX8_sizeOfDutch yX8_sizeOfDutch ∈ wsX8_markOf := by unfold wsX8_markOf; exact List.mem_cons_of_mem _ (List.mem_append_left _ (List.mem_of_getElem? (i := 18) rfl))
theorem gX8_markOf_X8_sizeOfDutch : GoodIn wsX8_markOf (wsV RX8 275 RX8 yX8_sizeOfDutch wsX8_sizeOfDutch) := goodIn_app (goodIn_sub (List.forall_mem_cons.mpr ⟨mx_X8_markOf_17, List.forall_mem_cons.mpr ⟨mx_X8_markOf_18, List.forall_mem_cons.mpr ⟨mx_X8_markOf_19, List.forall_mem_cons.mpr ⟨mx_X8_markOf_5, fun _ h_ => absurd h_ List.not_mem_nil⟩⟩⟩⟩) (by decide +kernel)) ggX8_markOf_X8_sizeOfDutch
theorem mx_X8_markOf_12 : Cond.code yX8_voiceMark cX8_voiceMark 2 (some .int) ∈ wsX8_markOf := by unfold wsX8_markOf; exact List.mem_cons_of_mem _ (List.mem_append_left _ (List.mem_of_getElem? (i := 11) rfl))
theorem ggX8_markOf_X8_voiceMark : GoodIn wsX8_markOf wsX8_voiceMark := goodIn_sub (by unfold wsX8_voiceMark; exact List.forall_mem_cons.mpr ⟨mx_X8_markOf_12, List.forall_mem_append.mpr ⟨List.forall_mem_cons.mpr ⟨mx_X8_markOf_1, List.forall_mem_cons.mpr ⟨mx_X8_markOf_2, List.forall_mem_cons.mpr ⟨mx_X8_markOf_3, List.forall_mem_cons.mpr ⟨mx_X8_markOf_4, List.forall_mem_cons.mpr ⟨mx_X8_markOf_5, List.forall_mem_cons.mpr ⟨mx_X8_markOf_6, List.forall_mem_cons.mpr ⟨mx_X8_markOf_7, List.forall_mem_cons.mpr ⟨mx_X8_markOf_8, List.forall_mem_cons.mpr ⟨mx_X8_markOf_13, List.forall_mem_cons.mpr ⟨mx_X8_markOf_14, List.forall_mem_cons.mpr ⟨mx_X8_markOf_15, List.forall_mem_cons.mpr ⟨mx_X8_markOf_16, fun _ h_ => absurd h_ List.not_mem_nil⟩⟩⟩⟩⟩⟩⟩⟩⟩⟩⟩⟩, (fun _ h_ => mb_X8_markOf_wsX80 h_)⟩⟩) (by decide +kernel)
theorem mx_X8_markOf_9 : Cond.methodLink RX8 272 yX8_voiceMark ∈ wsX8_markOf := by unfold wsX8_markOf; exact List.mem_cons_of_mem _ (List.mem_append_left _ (List.mem_of_getElem? (i := 8) rfl))
theorem mx_X8_markOf_10 : Cond.instanceMethod yX8_voiceMark ∈ wsX8_markOf := by unfold wsX8_markOf; exact List.mem_cons_of_mem _ (List.mem_append_left _ (List.mem_of_getElem? (i := 9) rfl))
theorem mx_X8_markOf_11 : Cond.selects RX8 yX8_voiceMark yX8_voiceMark ∈ wsX8_markOf := by unfold wsX8_markOf; exact List.mem_cons_of_mem _ (List.mem_append_left _ (List.mem_of_getElem? (i := 10) rfl))
theorem gX8_markOf_X8_voiceMark : GoodIn wsX8_markOf (wsV RX8 272 RX8 yX8_voiceMark wsX8_voiceMark) := goodIn_app (goodIn_sub (List.forall_mem_cons.mpr ⟨mx_X8_markOf_9, List.forall_mem_cons.mpr ⟨mx_X8_markOf_10, List.forall_mem_cons.mpr ⟨mx_X8_markOf_11, List.forall_mem_cons.mpr ⟨mx_X8_markOf_5, fun _ h_ => absurd h_ List.not_mem_nil⟩⟩⟩⟩) (by decide +kernel)) ggX8_markOf_X8_voiceMark
theorem mx_X8_restore_10 : Cond.code yX8_in cX8_in 6 (some .boolean) ∈ wsX8_restore := by unfold wsX8_restore; exact List.mem_cons_of_mem _ (List.mem_append_left _ (List.mem_of_getElem? (i := 9) rfl))
theorem ggX8_restore_X8_in : GoodIn wsX8_restore wsX8_in := goodIn_sub (by unfold wsX8_in; exact List.forall_mem_cons.mpr ⟨mx_X8_restore_10, fun _ h_ => absurd h_ List.not_mem_nil⟩) (by decide +kernel)
set_option maxRecDepth 20000 in
theorem gX8_restore_X8_in : GoodIn wsX8_restore (va_wsS RX8 57 yX8_in wsX8_in) := goodIn_app (goodIn_of _ (by decide +kernel)) ggX8_restore_X8_in
theorem mx_X8_row_17 : Cond.code yX8_find cX8_find 2 (some .int) ∈ wsX8_row := by unfold wsX8_row; exact List.mem_cons_of_mem _ (List.mem_append_left _ (List.mem_of_getElem? (i := 16) rfl))
theorem mx_X8_row_18 : Cond.fieldLink RX8 50 "MillTalkModel" "status" "I" ∈ wsX8_row := by unfold wsX8_row; exact List.mem_cons_of_mem _ (List.mem_append_left _ (List.mem_of_getElem? (i := 17) rfl))
theorem mx_X8_row_19 : Cond.constant RX8 54 (-1000010) ∈ wsX8_row := by unfold wsX8_row; exact List.mem_cons_of_mem _ (List.mem_append_left _ (List.mem_of_getElem? (i := 18) rfl))
theorem mb_X8_row_wsX80 {w : Cond} (h : w ∈ wsX80) : w ∈ wsX8_row := by unfold wsX8_row; exact List.mem_cons_of_mem _ (List.mem_append_right _ (h))
theorem ggX8_row_X8_find : GoodIn wsX8_row wsX8_find := goodIn_sub (by unfold wsX8_find; exact List.forall_mem_cons.mpr ⟨mx_X8_row_17, List.forall_mem_append.mpr ⟨List.forall_mem_cons.mpr ⟨mx_X8_row_18, List.forall_mem_cons.mpr ⟨mx_X8_row_19, fun _ h_ => absurd h_ List.not_mem_nil⟩⟩, (fun _ h_ => mb_X8_row_wsX80 h_)⟩⟩) (by decide +kernel)
theorem mx_X8_row_14 : Cond.methodLink RX8 68 yX8_find ∈ wsX8_row := by unfold wsX8_row; exact List.mem_cons_of_mem _ (List.mem_append_left _ (List.mem_of_getElem? (i := 13) rfl))
theorem mx_X8_row_15 : Cond.instanceMethod yX8_find ∈ wsX8_row := by unfold wsX8_row; exact List.mem_cons_of_mem _ (List.mem_append_left _ (List.mem_of_getElem? (i := 14) rfl))
theorem mx_X8_row_16 : Cond.selects RX8 yX8_find yX8_find ∈ wsX8_row := by unfold wsX8_row; exact List.mem_cons_of_mem _ (List.mem_append_left _ (List.mem_of_getElem? (i := 15) rfl))
theorem mx_X8_row_8 : Cond.initialized RX8 ∈ wsX8_row := by unfold wsX8_row; exact List.mem_cons_of_mem _ (List.mem_append_left _ (List.mem_of_getElem? (i := 7) rfl))
theorem gX8_row_X8_find : GoodIn wsX8_row (wsV RX8 68 RX8 yX8_find wsX8_find) := goodIn_app (goodIn_sub (List.forall_mem_cons.mpr ⟨mx_X8_row_14, List.forall_mem_cons.mpr ⟨mx_X8_row_15, List.forall_mem_cons.mpr ⟨mx_X8_row_16, List.forall_mem_cons.mpr ⟨mx_X8_row_8, fun _ h_ => absurd h_ List.not_mem_nil⟩⟩⟩⟩) (by decide +kernel)) ggX8_row_X8_find
theorem mx_X8_row_13 : Cond.code yX8_in cX8_in 6 (some .boolean) ∈ wsX8_row := by unfold wsX8_row; exact List.mem_cons_of_mem _ (List.mem_append_left _ (List.mem_of_getElem? (i := 12) rfl))
theorem ggX8_row_X8_in : GoodIn wsX8_row wsX8_in := goodIn_sub (by unfold wsX8_in; exact List.forall_mem_cons.mpr ⟨mx_X8_row_13, fun _ h_ => absurd h_ List.not_mem_nil⟩) (by decide +kernel)
set_option maxRecDepth 20000 in
theorem gX8_row_X8_in : GoodIn wsX8_row (va_wsS RX8 57 yX8_in wsX8_in) := goodIn_app (goodIn_of _ (by decide +kernel)) ggX8_row_X8_in
theorem mx_X8_row_9 : Cond.code yX8_isRow cX8_isRow 1 (some .boolean) ∈ wsX8_row := by unfold wsX8_row; exact List.mem_cons_of_mem _ (List.mem_append_left _ (List.mem_of_getElem? (i := 8) rfl))
theorem mx_X8_row_10 : Cond.constantLong RX8 55 (7) ∈ wsX8_row := by unfold wsX8_row; exact List.mem_cons_of_mem _ (List.mem_append_left _ (List.mem_of_getElem? (i := 9) rfl))
theorem mx_X8_row_11 : Cond.methodLink RX8 57 yX8_in ∈ wsX8_row := by unfold wsX8_row; exact List.mem_cons_of_mem _ (List.mem_append_left _ (List.mem_of_getElem? (i := 10) rfl))
theorem mx_X8_row_12 : Cond.static yX8_in ∈ wsX8_row := by unfold wsX8_row; exact List.mem_cons_of_mem _ (List.mem_append_left _ (List.mem_of_getElem? (i := 11) rfl))
theorem ggX8_row_X8_isRow : GoodIn wsX8_row wsX8_isRow := goodIn_sub (by unfold wsX8_isRow; exact List.forall_mem_cons.mpr ⟨mx_X8_row_9, List.forall_mem_cons.mpr ⟨mx_X8_row_10, List.forall_mem_cons.mpr ⟨mx_X8_row_11, List.forall_mem_cons.mpr ⟨mx_X8_row_12, List.forall_mem_cons.mpr ⟨mx_X8_row_8, List.forall_mem_cons.mpr ⟨mx_X8_row_13, fun _ h_ => absurd h_ List.not_mem_nil⟩⟩⟩⟩⟩⟩) (by decide +kernel)
set_option maxRecDepth 20000 in
theorem gX8_row_X8_isRow : GoodIn wsX8_row (va_wsS RX8 61 yX8_isRow wsX8_isRow) := goodIn_app (goodIn_of _ (by decide +kernel)) ggX8_row_X8_isRow
theorem mx_X8_row_23 : Cond.code yX8_well cX8_well 2 (some .int) ∈ wsX8_row := by unfold wsX8_row; exact List.mem_cons_of_mem _ (List.mem_append_left _ (List.mem_of_getElem? (i := 22) rfl))
theorem ggX8_row_X8_well : GoodIn wsX8_row wsX8_well := goodIn_sub (by unfold wsX8_well; exact List.forall_mem_cons.mpr ⟨mx_X8_row_23, List.forall_mem_append.mpr ⟨List.forall_mem_cons.mpr ⟨mx_X8_row_18, fun _ h_ => absurd h_ List.not_mem_nil⟩, (fun _ h_ => mb_X8_row_wsX80 h_)⟩⟩) (by decide +kernel)
theorem mx_X8_row_20 : Cond.methodLink RX8 72 yX8_well ∈ wsX8_row := by unfold wsX8_row; exact List.mem_cons_of_mem _ (List.mem_append_left _ (List.mem_of_getElem? (i := 19) rfl))
theorem mx_X8_row_21 : Cond.instanceMethod yX8_well ∈ wsX8_row := by unfold wsX8_row; exact List.mem_cons_of_mem _ (List.mem_append_left _ (List.mem_of_getElem? (i := 20) rfl))
theorem mx_X8_row_22 : Cond.selects RX8 yX8_well yX8_well ∈ wsX8_row := by unfold wsX8_row; exact List.mem_cons_of_mem _ (List.mem_append_left _ (List.mem_of_getElem? (i := 21) rfl))
theorem gX8_row_X8_well : GoodIn wsX8_row (wsV RX8 72 RX8 yX8_well wsX8_well) := goodIn_app (goodIn_sub (List.forall_mem_cons.mpr ⟨mx_X8_row_20, List.forall_mem_cons.mpr ⟨mx_X8_row_21, List.forall_mem_cons.mpr ⟨mx_X8_row_22, List.forall_mem_cons.mpr ⟨mx_X8_row_8, fun _ h_ => absurd h_ List.not_mem_nil⟩⟩⟩⟩) (by decide +kernel)) ggX8_row_X8_well
theorem mb_X8_set_wsX8_set_r1 {w : Cond} (h : w ∈ wsX8_set_r1) : w ∈ wsX8_set := by unfold wsX8_set; exact List.mem_cons_of_mem _ (List.mem_append_left _ (List.mem_append_left _ (h)))
theorem mx_X8_set_21 : Cond.code yX8_asLane cX8_asLane 2 (some .int) ∈ wsX8_set := mb_X8_set_wsX8_set_r1 (List.mem_of_getElem? (i := 20) rfl)
theorem ggX8_set_X8_asLane : GoodIn wsX8_set wsX8_asLane := goodIn_sub (by unfold wsX8_asLane; exact List.forall_mem_cons.mpr ⟨mx_X8_set_21, fun _ h_ => absurd h_ List.not_mem_nil⟩) (by decide +kernel)
set_option maxRecDepth 20000 in
theorem gX8_set_X8_asLane : GoodIn wsX8_set (va_wsS RX8 75 yX8_asLane wsX8_asLane) := goodIn_app (goodIn_of _ (by decide +kernel)) ggX8_set_X8_asLane
theorem mx_X8_set_16 : Cond.code yX8_find cX8_find 2 (some .int) ∈ wsX8_set := mb_X8_set_wsX8_set_r1 (List.mem_of_getElem? (i := 15) rfl)
theorem mx_X8_set_17 : Cond.fieldLink RX8 50 "MillTalkModel" "status" "I" ∈ wsX8_set := mb_X8_set_wsX8_set_r1 (List.mem_of_getElem? (i := 16) rfl)
theorem mx_X8_set_18 : Cond.constant RX8 54 (-1000010) ∈ wsX8_set := mb_X8_set_wsX8_set_r1 (List.mem_of_getElem? (i := 17) rfl)
theorem mb_X8_set_wsX80 {w : Cond} (h : w ∈ wsX80) : w ∈ wsX8_set := by unfold wsX8_set; exact List.mem_cons_of_mem _ (List.mem_append_right _ (h))
theorem ggX8_set_X8_find : GoodIn wsX8_set wsX8_find := goodIn_sub (by unfold wsX8_find; exact List.forall_mem_cons.mpr ⟨mx_X8_set_16, List.forall_mem_append.mpr ⟨List.forall_mem_cons.mpr ⟨mx_X8_set_17, List.forall_mem_cons.mpr ⟨mx_X8_set_18, fun _ h_ => absurd h_ List.not_mem_nil⟩⟩, (fun _ h_ => mb_X8_set_wsX80 h_)⟩⟩) (by decide +kernel)
theorem mx_X8_set_13 : Cond.methodLink RX8 68 yX8_find ∈ wsX8_set := mb_X8_set_wsX8_set_r1 (List.mem_of_getElem? (i := 12) rfl)
theorem mx_X8_set_14 : Cond.instanceMethod yX8_find ∈ wsX8_set := mb_X8_set_wsX8_set_r1 (List.mem_of_getElem? (i := 13) rfl)
theorem mx_X8_set_15 : Cond.selects RX8 yX8_find yX8_find ∈ wsX8_set := mb_X8_set_wsX8_set_r1 (List.mem_of_getElem? (i := 14) rfl)
theorem mx_X8_set_7 : Cond.initialized RX8 ∈ wsX8_set := mb_X8_set_wsX8_set_r1 (List.mem_of_getElem? (i := 6) rfl)
theorem gX8_set_X8_find : GoodIn wsX8_set (wsV RX8 68 RX8 yX8_find wsX8_find) := goodIn_app (goodIn_sub (List.forall_mem_cons.mpr ⟨mx_X8_set_13, List.forall_mem_cons.mpr ⟨mx_X8_set_14, List.forall_mem_cons.mpr ⟨mx_X8_set_15, List.forall_mem_cons.mpr ⟨mx_X8_set_7, fun _ h_ => absurd h_ List.not_mem_nil⟩⟩⟩⟩) (by decide +kernel)) ggX8_set_X8_find
theorem mx_X8_set_12 : Cond.code yX8_in cX8_in 6 (some .boolean) ∈ wsX8_set := mb_X8_set_wsX8_set_r1 (List.mem_of_getElem? (i := 11) rfl)
theorem ggX8_set_X8_in : GoodIn wsX8_set wsX8_in := goodIn_sub (by unfold wsX8_in; exact List.forall_mem_cons.mpr ⟨mx_X8_set_12, fun _ h_ => absurd h_ List.not_mem_nil⟩) (by decide +kernel)
set_option maxRecDepth 20000 in
theorem gX8_set_X8_in : GoodIn wsX8_set (va_wsS RX8 57 yX8_in wsX8_in) := goodIn_app (goodIn_of _ (by decide +kernel)) ggX8_set_X8_in
theorem mx_X8_set_8 : Cond.code yX8_isRow cX8_isRow 1 (some .boolean) ∈ wsX8_set := mb_X8_set_wsX8_set_r1 (List.mem_of_getElem? (i := 7) rfl)
theorem mx_X8_set_9 : Cond.constantLong RX8 55 (7) ∈ wsX8_set := mb_X8_set_wsX8_set_r1 (List.mem_of_getElem? (i := 8) rfl)
theorem mx_X8_set_10 : Cond.methodLink RX8 57 yX8_in ∈ wsX8_set := mb_X8_set_wsX8_set_r1 (List.mem_of_getElem? (i := 9) rfl)
theorem mx_X8_set_11 : Cond.static yX8_in ∈ wsX8_set := mb_X8_set_wsX8_set_r1 (List.mem_of_getElem? (i := 10) rfl)
theorem ggX8_set_X8_isRow : GoodIn wsX8_set wsX8_isRow := goodIn_sub (by unfold wsX8_isRow; exact List.forall_mem_cons.mpr ⟨mx_X8_set_8, List.forall_mem_cons.mpr ⟨mx_X8_set_9, List.forall_mem_cons.mpr ⟨mx_X8_set_10, List.forall_mem_cons.mpr ⟨mx_X8_set_11, List.forall_mem_cons.mpr ⟨mx_X8_set_7, List.forall_mem_cons.mpr ⟨mx_X8_set_12, fun _ h_ => absurd h_ List.not_mem_nil⟩⟩⟩⟩⟩⟩) (by decide +kernel)
set_option maxRecDepth 20000 in
theorem gX8_set_X8_isRow : GoodIn wsX8_set (va_wsS RX8 61 yX8_isRow wsX8_isRow) := goodIn_app (goodIn_of _ (by decide +kernel)) ggX8_set_X8_isRow
theorem mb_X8_set_wsX8_set_r2 {w : Cond} (h : w ∈ wsX8_set_r2) : w ∈ wsX8_set := by unfold wsX8_set; exact List.mem_cons_of_mem _ (List.mem_append_left _ (List.mem_append_right _ (h)))
theorem mx_X8_set_25 : Cond.code yX8_well cX8_well 2 (some .int) ∈ wsX8_set := mb_X8_set_wsX8_set_r2 (List.mem_of_getElem? (i := 0) rfl)
theorem ggX8_set_X8_well : GoodIn wsX8_set wsX8_well := goodIn_sub (by unfold wsX8_well; exact List.forall_mem_cons.mpr ⟨mx_X8_set_25, List.forall_mem_append.mpr ⟨List.forall_mem_cons.mpr ⟨mx_X8_set_17, fun _ h_ => absurd h_ List.not_mem_nil⟩, (fun _ h_ => mb_X8_set_wsX80 h_)⟩⟩) (by decide +kernel)
theorem mx_X8_set_22 : Cond.methodLink RX8 72 yX8_well ∈ wsX8_set := mb_X8_set_wsX8_set_r1 (List.mem_of_getElem? (i := 21) rfl)
theorem mx_X8_set_23 : Cond.instanceMethod yX8_well ∈ wsX8_set := mb_X8_set_wsX8_set_r1 (List.mem_of_getElem? (i := 22) rfl)
theorem mx_X8_set_24 : Cond.selects RX8 yX8_well yX8_well ∈ wsX8_set := mb_X8_set_wsX8_set_r1 (List.mem_of_getElem? (i := 23) rfl)
theorem gX8_set_X8_well : GoodIn wsX8_set (wsV RX8 72 RX8 yX8_well wsX8_well) := goodIn_app (goodIn_sub (List.forall_mem_cons.mpr ⟨mx_X8_set_22, List.forall_mem_cons.mpr ⟨mx_X8_set_23, List.forall_mem_cons.mpr ⟨mx_X8_set_24, List.forall_mem_cons.mpr ⟨mx_X8_set_7, fun _ h_ => absurd h_ List.not_mem_nil⟩⟩⟩⟩) (by decide +kernel)) ggX8_set_X8_well
theorem mx_X8_sizeOfDutch_6 : Cond.code yX8_begin cX8_begin 2 none ∈ wsX8_sizeOfDutch := by unfold wsX8_sizeOfDutch; exact List.mem_cons_of_mem _ (List.mem_append_left _ (List.mem_of_getElem? (i := 5) rfl))
theorem mx_X8_sizeOfDutch_7 : Cond.fieldLink RX8 260 "MillTalkModel" "traced" "I" ∈ wsX8_sizeOfDutch := by unfold wsX8_sizeOfDutch; exact List.mem_cons_of_mem _ (List.mem_append_left _ (List.mem_of_getElem? (i := 6) rfl))
theorem mx_X8_sizeOfDutch_8 : Cond.fieldLink RX8 47 "MillTalkModel" "trace" "[I" ∈ wsX8_sizeOfDutch := by unfold wsX8_sizeOfDutch; exact List.mem_cons_of_mem _ (List.mem_append_left _ (List.mem_of_getElem? (i := 7) rfl))
theorem mb_X8_sizeOfDutch_wsX80 {w : Cond} (h : w ∈ wsX80) : w ∈ wsX8_sizeOfDutch := by unfold wsX8_sizeOfDutch; exact List.mem_cons_of_mem _ (List.mem_append_right _ (h))
theorem ggX8_sizeOfDutch_X8_begin : GoodIn wsX8_sizeOfDutch wsX8_begin := goodIn_sub (by unfold wsX8_begin; exact List.forall_mem_cons.mpr ⟨mx_X8_sizeOfDutch_6, List.forall_mem_append.mpr ⟨List.forall_mem_cons.mpr ⟨mx_X8_sizeOfDutch_7, List.forall_mem_cons.mpr ⟨mx_X8_sizeOfDutch_8, fun _ h_ => absurd h_ List.not_mem_nil⟩⟩, (fun _ h_ => mb_X8_sizeOfDutch_wsX80 h_)⟩⟩) (by decide +kernel)
theorem mx_X8_sizeOfDutch_2 : Cond.methodLink RX8 263 yX8_begin ∈ wsX8_sizeOfDutch := by unfold wsX8_sizeOfDutch; exact List.mem_cons_of_mem _ (List.mem_append_left _ (List.mem_of_getElem? (i := 1) rfl))
theorem mx_X8_sizeOfDutch_3 : Cond.instanceMethod yX8_begin ∈ wsX8_sizeOfDutch := by unfold wsX8_sizeOfDutch; exact List.mem_cons_of_mem _ (List.mem_append_left _ (List.mem_of_getElem? (i := 2) rfl))
theorem mx_X8_sizeOfDutch_4 : Cond.selects RX8 yX8_begin yX8_begin ∈ wsX8_sizeOfDutch := by unfold wsX8_sizeOfDutch; exact List.mem_cons_of_mem _ (List.mem_append_left _ (List.mem_of_getElem? (i := 3) rfl))
theorem mx_X8_sizeOfDutch_5 : Cond.initialized RX8 ∈ wsX8_sizeOfDutch := by unfold wsX8_sizeOfDutch; exact List.mem_cons_of_mem _ (List.mem_append_left _ (List.mem_of_getElem? (i := 4) rfl))
theorem gX8_sizeOfDutch_X8_begin : GoodIn wsX8_sizeOfDutch (wsV RX8 263 RX8 yX8_begin wsX8_begin) := goodIn_app (goodIn_sub (List.forall_mem_cons.mpr ⟨mx_X8_sizeOfDutch_2, List.forall_mem_cons.mpr ⟨mx_X8_sizeOfDutch_3, List.forall_mem_cons.mpr ⟨mx_X8_sizeOfDutch_4, List.forall_mem_cons.mpr ⟨mx_X8_sizeOfDutch_5, fun _ h_ => absurd h_ List.not_mem_nil⟩⟩⟩⟩) (by decide +kernel)) ggX8_sizeOfDutch_X8_begin
theorem mx_X8_sizeOfDutch_12 : Cond.code yX8_dutchSize cX8_dutchSize 2 (some .int) ∈ wsX8_sizeOfDutch := by unfold wsX8_sizeOfDutch; exact List.mem_cons_of_mem _ (List.mem_append_left _ (List.mem_of_getElem? (i := 11) rfl))
theorem mx_X8_sizeOfDutch_13 : Cond.methodLink RX8 266 yX8_lent ∈ wsX8_sizeOfDutch := by unfold wsX8_sizeOfDutch; exact List.mem_cons_of_mem _ (List.mem_append_left _ (List.mem_of_getElem? (i := 12) rfl))
theorem mx_X8_sizeOfDutch_14 : Cond.instanceMethod yX8_lent ∈ wsX8_sizeOfDutch := by unfold wsX8_sizeOfDutch; exact List.mem_cons_of_mem _ (List.mem_append_left _ (List.mem_of_getElem? (i := 13) rfl))
theorem mx_X8_sizeOfDutch_15 : Cond.selects RX8 yX8_lent yX8_lent ∈ wsX8_sizeOfDutch := by unfold wsX8_sizeOfDutch; exact List.mem_cons_of_mem _ (List.mem_append_left _ (List.mem_of_getElem? (i := 14) rfl))
theorem mx_X8_sizeOfDutch_16 : Cond.code yX8_lent cX8_lent 3 (some .int) ∈ wsX8_sizeOfDutch := by unfold wsX8_sizeOfDutch; exact List.mem_cons_of_mem _ (List.mem_append_left _ (List.mem_of_getElem? (i := 15) rfl))
theorem mx_X8_sizeOfDutch_1 : Cond.fieldLink RX8 19 "MillTalkModel" "st" "[I" ∈ wsX8_sizeOfDutch := by unfold wsX8_sizeOfDutch; exact List.mem_cons_of_mem _ (List.mem_append_left _ (List.mem_of_getElem? (i := 0) rfl))
theorem ggX8_sizeOfDutch_X8_dutchSize : GoodIn wsX8_sizeOfDutch wsX8_dutchSize := goodIn_sub (by unfold wsX8_dutchSize; exact List.forall_mem_cons.mpr ⟨mx_X8_sizeOfDutch_12, List.forall_mem_append.mpr ⟨List.forall_mem_cons.mpr ⟨mx_X8_sizeOfDutch_2, List.forall_mem_cons.mpr ⟨mx_X8_sizeOfDutch_3, List.forall_mem_cons.mpr ⟨mx_X8_sizeOfDutch_4, List.forall_mem_cons.mpr ⟨mx_X8_sizeOfDutch_5, List.forall_mem_cons.mpr ⟨mx_X8_sizeOfDutch_6, List.forall_mem_cons.mpr ⟨mx_X8_sizeOfDutch_7, List.forall_mem_cons.mpr ⟨mx_X8_sizeOfDutch_8, List.forall_mem_cons.mpr ⟨mx_X8_sizeOfDutch_13, List.forall_mem_cons.mpr ⟨mx_X8_sizeOfDutch_14, List.forall_mem_cons.mpr ⟨mx_X8_sizeOfDutch_15, List.forall_mem_cons.mpr ⟨mx_X8_sizeOfDutch_16, List.forall_mem_cons.mpr ⟨mx_X8_sizeOfDutch_1, fun _ h_ => absurd h_ List.not_mem_nil⟩⟩⟩⟩⟩⟩⟩⟩⟩⟩⟩⟩, (fun _ h_ => mb_X8_sizeOfDutch_wsX80 h_)⟩⟩) (by decide +kernel)
theorem mx_X8_sizeOfDutch_9 : Cond.methodLink RX8 269 yX8_dutchSize ∈ wsX8_sizeOfDutch := by unfold wsX8_sizeOfDutch; exact List.mem_cons_of_mem _ (List.mem_append_left _ (List.mem_of_getElem? (i := 8) rfl))
theorem mx_X8_sizeOfDutch_10 : Cond.instanceMethod yX8_dutchSize ∈ wsX8_sizeOfDutch := by unfold wsX8_sizeOfDutch; exact List.mem_cons_of_mem _ (List.mem_append_left _ (List.mem_of_getElem? (i := 9) rfl))
theorem mx_X8_sizeOfDutch_11 : Cond.selects RX8 yX8_dutchSize yX8_dutchSize ∈ wsX8_sizeOfDutch := by unfold wsX8_sizeOfDutch; exact List.mem_cons_of_mem _ (List.mem_append_left _ (List.mem_of_getElem? (i := 10) rfl))
theorem gX8_sizeOfDutch_X8_dutchSize : GoodIn wsX8_sizeOfDutch (wsV RX8 269 RX8 yX8_dutchSize wsX8_dutchSize) := goodIn_app (goodIn_sub (List.forall_mem_cons.mpr ⟨mx_X8_sizeOfDutch_9, List.forall_mem_cons.mpr ⟨mx_X8_sizeOfDutch_10, List.forall_mem_cons.mpr ⟨mx_X8_sizeOfDutch_11, List.forall_mem_cons.mpr ⟨mx_X8_sizeOfDutch_5, fun _ h_ => absurd h_ List.not_mem_nil⟩⟩⟩⟩) (by decide +kernel)) ggX8_sizeOfDutch_X8_dutchSize
theorem mb_X8_sizeOf_wsX8_sizeOf_r1 {w : Cond} (h : w ∈ wsX8_sizeOf_r1) : w ∈ wsX8_sizeOf := by unfold wsX8_sizeOf; exact List.mem_cons_of_mem _ (List.mem_append_left _ (List.mem_append_left _ (h)))
theorem mx_X8_sizeOf_6 : Cond.code yX8_begin cX8_begin 2 none ∈ wsX8_sizeOf := mb_X8_sizeOf_wsX8_sizeOf_r1 (List.mem_of_getElem? (i := 5) rfl)
theorem mx_X8_sizeOf_7 : Cond.fieldLink RX8 260 "MillTalkModel" "traced" "I" ∈ wsX8_sizeOf := mb_X8_sizeOf_wsX8_sizeOf_r1 (List.mem_of_getElem? (i := 6) rfl)
theorem mx_X8_sizeOf_8 : Cond.fieldLink RX8 47 "MillTalkModel" "trace" "[I" ∈ wsX8_sizeOf := mb_X8_sizeOf_wsX8_sizeOf_r1 (List.mem_of_getElem? (i := 7) rfl)
theorem mb_X8_sizeOf_wsX80 {w : Cond} (h : w ∈ wsX80) : w ∈ wsX8_sizeOf := by unfold wsX8_sizeOf; exact List.mem_cons_of_mem _ (List.mem_append_right _ (h))
theorem ggX8_sizeOf_X8_begin : GoodIn wsX8_sizeOf wsX8_begin := goodIn_sub (by unfold wsX8_begin; exact List.forall_mem_cons.mpr ⟨mx_X8_sizeOf_6, List.forall_mem_append.mpr ⟨List.forall_mem_cons.mpr ⟨mx_X8_sizeOf_7, List.forall_mem_cons.mpr ⟨mx_X8_sizeOf_8, fun _ h_ => absurd h_ List.not_mem_nil⟩⟩, (fun _ h_ => mb_X8_sizeOf_wsX80 h_)⟩⟩) (by decide +kernel)
theorem mx_X8_sizeOf_2 : Cond.methodLink RX8 263 yX8_begin ∈ wsX8_sizeOf := mb_X8_sizeOf_wsX8_sizeOf_r1 (List.mem_of_getElem? (i := 1) rfl)
theorem mx_X8_sizeOf_3 : Cond.instanceMethod yX8_begin ∈ wsX8_sizeOf := mb_X8_sizeOf_wsX8_sizeOf_r1 (List.mem_of_getElem? (i := 2) rfl)
theorem mx_X8_sizeOf_4 : Cond.selects RX8 yX8_begin yX8_begin ∈ wsX8_sizeOf := mb_X8_sizeOf_wsX8_sizeOf_r1 (List.mem_of_getElem? (i := 3) rfl)
theorem mx_X8_sizeOf_5 : Cond.initialized RX8 ∈ wsX8_sizeOf := mb_X8_sizeOf_wsX8_sizeOf_r1 (List.mem_of_getElem? (i := 4) rfl)
theorem gX8_sizeOf_X8_begin : GoodIn wsX8_sizeOf (wsV RX8 263 RX8 yX8_begin wsX8_begin) := goodIn_app (goodIn_sub (List.forall_mem_cons.mpr ⟨mx_X8_sizeOf_2, List.forall_mem_cons.mpr ⟨mx_X8_sizeOf_3, List.forall_mem_cons.mpr ⟨mx_X8_sizeOf_4, List.forall_mem_cons.mpr ⟨mx_X8_sizeOf_5, fun _ h_ => absurd h_ List.not_mem_nil⟩⟩⟩⟩) (by decide +kernel)) ggX8_sizeOf_X8_begin
theorem mb_X8_sizeOf_wsX8_sizeOf_r2 {w : Cond} (h : w ∈ wsX8_sizeOf_r2) : w ∈ wsX8_sizeOf := by unfold wsX8_sizeOf; exact List.mem_cons_of_mem _ (List.mem_append_left _ (List.mem_append_right _ (h)))
theorem mx_X8_sizeOf_28 : Cond.code yX8_sizeOfDutch cX8_sizeOfDutch 2 (some .int) ∈ wsX8_sizeOf := mb_X8_sizeOf_wsX8_sizeOf_r2 (List.mem_of_getElem? (i := 3) rfl)
theorem mx_X8_sizeOf_1 : Cond.fieldLink RX8 19 "MillTalkModel" "st" "[I" ∈ wsX8_sizeOf := mb_X8_sizeOf_wsX8_sizeOf_r1 (List.mem_of_getElem? (i := 0) rfl)
theorem mx_X8_sizeOf_29 : Cond.methodLink RX8 269 yX8_dutchSize ∈ wsX8_sizeOf := mb_X8_sizeOf_wsX8_sizeOf_r2 (List.mem_of_getElem? (i := 4) rfl)
theorem mx_X8_sizeOf_30 : Cond.instanceMethod yX8_dutchSize ∈ wsX8_sizeOf := mb_X8_sizeOf_wsX8_sizeOf_r2 (List.mem_of_getElem? (i := 5) rfl)
theorem mx_X8_sizeOf_31 : Cond.selects RX8 yX8_dutchSize yX8_dutchSize ∈ wsX8_sizeOf := mb_X8_sizeOf_wsX8_sizeOf_r2 (List.mem_of_getElem? (i := 6) rfl)
theorem mx_X8_sizeOf_32 : Cond.code yX8_dutchSize cX8_dutchSize 2 (some .int) ∈ wsX8_sizeOf := mb_X8_sizeOf_wsX8_sizeOf_r2 (List.mem_of_getElem? (i := 7) rfl)
theorem mx_X8_sizeOf_13 : Cond.methodLink RX8 266 yX8_lent ∈ wsX8_sizeOf := mb_X8_sizeOf_wsX8_sizeOf_r1 (List.mem_of_getElem? (i := 12) rfl)
theorem mx_X8_sizeOf_14 : Cond.instanceMethod yX8_lent ∈ wsX8_sizeOf := mb_X8_sizeOf_wsX8_sizeOf_r1 (List.mem_of_getElem? (i := 13) rfl)
theorem mx_X8_sizeOf_15 : Cond.selects RX8 yX8_lent yX8_lent ∈ wsX8_sizeOf := mb_X8_sizeOf_wsX8_sizeOf_r1 (List.mem_of_getElem? (i := 14) rfl)
theorem mx_X8_sizeOf_16 : Cond.code yX8_lent cX8_lent 3 (some .int) ∈ wsX8_sizeOf := mb_X8_sizeOf_wsX8_sizeOf_r1 (List.mem_of_getElem? (i := 15) rfl)
theorem ggX8_sizeOf_X8_sizeOfDutch : GoodIn wsX8_sizeOf wsX8_sizeOfDutch := goodIn_sub (by unfold wsX8_sizeOfDutch; exact List.forall_mem_cons.mpr ⟨mx_X8_sizeOf_28, List.forall_mem_append.mpr ⟨List.forall_mem_cons.mpr ⟨mx_X8_sizeOf_1, List.forall_mem_cons.mpr ⟨mx_X8_sizeOf_2, List.forall_mem_cons.mpr ⟨mx_X8_sizeOf_3, List.forall_mem_cons.mpr ⟨mx_X8_sizeOf_4, List.forall_mem_cons.mpr ⟨mx_X8_sizeOf_5, List.forall_mem_cons.mpr ⟨mx_X8_sizeOf_6, List.forall_mem_cons.mpr ⟨mx_X8_sizeOf_7, List.forall_mem_cons.mpr ⟨mx_X8_sizeOf_8, List.forall_mem_cons.mpr ⟨mx_X8_sizeOf_29, List.forall_mem_cons.mpr ⟨mx_X8_sizeOf_30, List.forall_mem_cons.mpr ⟨mx_X8_sizeOf_31, List.forall_mem_cons.mpr ⟨mx_X8_sizeOf_32, List.forall_mem_cons.mpr ⟨mx_X8_sizeOf_13, List.forall_mem_cons.mpr ⟨mx_X8_sizeOf_14, List.forall_mem_cons.mpr ⟨mx_X8_sizeOf_15, List.forall_mem_cons.mpr ⟨mx_X8_sizeOf_16, fun _ h_ => absurd h_ List.not_mem_nil⟩⟩⟩⟩⟩⟩⟩⟩⟩⟩⟩⟩⟩⟩⟩⟩, (fun _ h_ => mb_X8_sizeOf_wsX80 h_)⟩⟩) (by decide +kernel)
theorem mx_X8_sizeOf_25 : Cond.methodLink RX8 275 yX8_sizeOfDutch ∈ wsX8_sizeOf := mb_X8_sizeOf_wsX8_sizeOf_r2 (List.mem_of_getElem? (i := 0) rfl)
theorem mx_X8_sizeOf_26 : Cond.instanceMethod yX8_sizeOfDutch ∈ wsX8_sizeOf := mb_X8_sizeOf_wsX8_sizeOf_r2 (List.mem_of_getElem? (i := 1) rfl)
theorem mx_X8_sizeOf_27 : Cond.selects RX8 yX8_sizeOfDutch yX8_sizeOfDutch ∈ wsX8_sizeOf := mb_X8_sizeOf_wsX8_sizeOf_r2 (List.mem_of_getElem? (i := 2) rfl)
theorem gX8_sizeOf_X8_sizeOfDutch : GoodIn wsX8_sizeOf (wsV RX8 275 RX8 yX8_sizeOfDutch wsX8_sizeOfDutch) := goodIn_app (goodIn_sub (List.forall_mem_cons.mpr ⟨mx_X8_sizeOf_25, List.forall_mem_cons.mpr ⟨mx_X8_sizeOf_26, List.forall_mem_cons.mpr ⟨mx_X8_sizeOf_27, List.forall_mem_cons.mpr ⟨mx_X8_sizeOf_5, fun _ h_ => absurd h_ List.not_mem_nil⟩⟩⟩⟩) (by decide +kernel)) ggX8_sizeOf_X8_sizeOfDutch
theorem mx_X8_sizeOf_12 : Cond.code yX8_voiceSize cX8_voiceSize 3 (some .int) ∈ wsX8_sizeOf := mb_X8_sizeOf_wsX8_sizeOf_r1 (List.mem_of_getElem? (i := 11) rfl)
theorem mx_X8_sizeOf_17 : Cond.methodLink RX8 278 yX8_markOf ∈ wsX8_sizeOf := mb_X8_sizeOf_wsX8_sizeOf_r1 (List.mem_of_getElem? (i := 16) rfl)
theorem mx_X8_sizeOf_18 : Cond.instanceMethod yX8_markOf ∈ wsX8_sizeOf := mb_X8_sizeOf_wsX8_sizeOf_r1 (List.mem_of_getElem? (i := 17) rfl)
theorem mx_X8_sizeOf_19 : Cond.selects RX8 yX8_markOf yX8_markOf ∈ wsX8_sizeOf := mb_X8_sizeOf_wsX8_sizeOf_r1 (List.mem_of_getElem? (i := 18) rfl)
theorem mx_X8_sizeOf_20 : Cond.code yX8_markOf cX8_markOf 4 (some .int) ∈ wsX8_sizeOf := mb_X8_sizeOf_wsX8_sizeOf_r1 (List.mem_of_getElem? (i := 19) rfl)
theorem mx_X8_sizeOf_21 : Cond.methodLink RX8 272 yX8_voiceMark ∈ wsX8_sizeOf := mb_X8_sizeOf_wsX8_sizeOf_r1 (List.mem_of_getElem? (i := 20) rfl)
theorem mx_X8_sizeOf_22 : Cond.instanceMethod yX8_voiceMark ∈ wsX8_sizeOf := mb_X8_sizeOf_wsX8_sizeOf_r1 (List.mem_of_getElem? (i := 21) rfl)
theorem mx_X8_sizeOf_23 : Cond.selects RX8 yX8_voiceMark yX8_voiceMark ∈ wsX8_sizeOf := mb_X8_sizeOf_wsX8_sizeOf_r1 (List.mem_of_getElem? (i := 22) rfl)
theorem mx_X8_sizeOf_24 : Cond.code yX8_voiceMark cX8_voiceMark 2 (some .int) ∈ wsX8_sizeOf := mb_X8_sizeOf_wsX8_sizeOf_r1 (List.mem_of_getElem? (i := 23) rfl)
theorem ggX8_sizeOf_X8_voiceSize : GoodIn wsX8_sizeOf wsX8_voiceSize := goodIn_sub (by unfold wsX8_voiceSize; exact List.forall_mem_cons.mpr ⟨mx_X8_sizeOf_12, List.forall_mem_append.mpr ⟨List.forall_mem_append.mpr ⟨(by unfold wsX8_voiceSize_r1; exact List.forall_mem_cons.mpr ⟨mx_X8_sizeOf_2, List.forall_mem_cons.mpr ⟨mx_X8_sizeOf_3, List.forall_mem_cons.mpr ⟨mx_X8_sizeOf_4, List.forall_mem_cons.mpr ⟨mx_X8_sizeOf_5, List.forall_mem_cons.mpr ⟨mx_X8_sizeOf_6, List.forall_mem_cons.mpr ⟨mx_X8_sizeOf_7, List.forall_mem_cons.mpr ⟨mx_X8_sizeOf_8, List.forall_mem_cons.mpr ⟨mx_X8_sizeOf_13, List.forall_mem_cons.mpr ⟨mx_X8_sizeOf_14, List.forall_mem_cons.mpr ⟨mx_X8_sizeOf_15, List.forall_mem_cons.mpr ⟨mx_X8_sizeOf_16, List.forall_mem_cons.mpr ⟨mx_X8_sizeOf_1, List.forall_mem_cons.mpr ⟨mx_X8_sizeOf_17, List.forall_mem_cons.mpr ⟨mx_X8_sizeOf_18, List.forall_mem_cons.mpr ⟨mx_X8_sizeOf_19, List.forall_mem_cons.mpr ⟨mx_X8_sizeOf_20, List.forall_mem_cons.mpr ⟨mx_X8_sizeOf_21, List.forall_mem_cons.mpr ⟨mx_X8_sizeOf_22, List.forall_mem_cons.mpr ⟨mx_X8_sizeOf_23, List.forall_mem_cons.mpr ⟨mx_X8_sizeOf_24, List.forall_mem_cons.mpr ⟨mx_X8_sizeOf_25, List.forall_mem_cons.mpr ⟨mx_X8_sizeOf_26, List.forall_mem_cons.mpr ⟨mx_X8_sizeOf_27, List.forall_mem_cons.mpr ⟨mx_X8_sizeOf_28, fun _ h_ => absurd h_ List.not_mem_nil⟩⟩⟩⟩⟩⟩⟩⟩⟩⟩⟩⟩⟩⟩⟩⟩⟩⟩⟩⟩⟩⟩⟩⟩), (by unfold wsX8_voiceSize_r2; exact List.forall_mem_cons.mpr ⟨mx_X8_sizeOf_29, List.forall_mem_cons.mpr ⟨mx_X8_sizeOf_30, List.forall_mem_cons.mpr ⟨mx_X8_sizeOf_31, List.forall_mem_cons.mpr ⟨mx_X8_sizeOf_32, fun _ h_ => absurd h_ List.not_mem_nil⟩⟩⟩⟩)⟩, (fun _ h_ => mb_X8_sizeOf_wsX80 h_)⟩⟩) (by decide +kernel)
theorem mx_X8_sizeOf_9 : Cond.methodLink RX8 281 yX8_voiceSize ∈ wsX8_sizeOf := mb_X8_sizeOf_wsX8_sizeOf_r1 (List.mem_of_getElem? (i := 8) rfl)
theorem mx_X8_sizeOf_10 : Cond.instanceMethod yX8_voiceSize ∈ wsX8_sizeOf := mb_X8_sizeOf_wsX8_sizeOf_r1 (List.mem_of_getElem? (i := 9) rfl)
theorem mx_X8_sizeOf_11 : Cond.selects RX8 yX8_voiceSize yX8_voiceSize ∈ wsX8_sizeOf := mb_X8_sizeOf_wsX8_sizeOf_r1 (List.mem_of_getElem? (i := 10) rfl)
theorem gX8_sizeOf_X8_voiceSize : GoodIn wsX8_sizeOf (wsV RX8 281 RX8 yX8_voiceSize wsX8_voiceSize) := goodIn_app (goodIn_sub (List.forall_mem_cons.mpr ⟨mx_X8_sizeOf_9, List.forall_mem_cons.mpr ⟨mx_X8_sizeOf_10, List.forall_mem_cons.mpr ⟨mx_X8_sizeOf_11, List.forall_mem_cons.mpr ⟨mx_X8_sizeOf_5, fun _ h_ => absurd h_ List.not_mem_nil⟩⟩⟩⟩) (by decide +kernel)) ggX8_sizeOf_X8_voiceSize
theorem mx_X8_trace_7 : Cond.code yX8_in cX8_in 6 (some .boolean) ∈ wsX8_trace := by unfold wsX8_trace; exact List.mem_cons_of_mem _ (List.mem_append_left _ (List.mem_of_getElem? (i := 6) rfl))
theorem ggX8_trace_X8_in : GoodIn wsX8_trace wsX8_in := goodIn_sub (by unfold wsX8_in; exact List.forall_mem_cons.mpr ⟨mx_X8_trace_7, fun _ h_ => absurd h_ List.not_mem_nil⟩) (by decide +kernel)
set_option maxRecDepth 20000 in
theorem gX8_trace_X8_in : GoodIn wsX8_trace (va_wsS RX8 57 yX8_in wsX8_in) := goodIn_app (goodIn_of _ (by decide +kernel)) ggX8_trace_X8_in
theorem mx_X8_voiceMark_6 : Cond.code yX8_begin cX8_begin 2 none ∈ wsX8_voiceMark := by unfold wsX8_voiceMark; exact List.mem_cons_of_mem _ (List.mem_append_left _ (List.mem_of_getElem? (i := 5) rfl))
theorem mx_X8_voiceMark_7 : Cond.fieldLink RX8 260 "MillTalkModel" "traced" "I" ∈ wsX8_voiceMark := by unfold wsX8_voiceMark; exact List.mem_cons_of_mem _ (List.mem_append_left _ (List.mem_of_getElem? (i := 6) rfl))
theorem mx_X8_voiceMark_8 : Cond.fieldLink RX8 47 "MillTalkModel" "trace" "[I" ∈ wsX8_voiceMark := by unfold wsX8_voiceMark; exact List.mem_cons_of_mem _ (List.mem_append_left _ (List.mem_of_getElem? (i := 7) rfl))
theorem mb_X8_voiceMark_wsX80 {w : Cond} (h : w ∈ wsX80) : w ∈ wsX8_voiceMark := by unfold wsX8_voiceMark; exact List.mem_cons_of_mem _ (List.mem_append_right _ (h))
theorem ggX8_voiceMark_X8_begin : GoodIn wsX8_voiceMark wsX8_begin := goodIn_sub (by unfold wsX8_begin; exact List.forall_mem_cons.mpr ⟨mx_X8_voiceMark_6, List.forall_mem_append.mpr ⟨List.forall_mem_cons.mpr ⟨mx_X8_voiceMark_7, List.forall_mem_cons.mpr ⟨mx_X8_voiceMark_8, fun _ h_ => absurd h_ List.not_mem_nil⟩⟩, (fun _ h_ => mb_X8_voiceMark_wsX80 h_)⟩⟩) (by decide +kernel)
theorem mx_X8_voiceMark_2 : Cond.methodLink RX8 263 yX8_begin ∈ wsX8_voiceMark := by unfold wsX8_voiceMark; exact List.mem_cons_of_mem _ (List.mem_append_left _ (List.mem_of_getElem? (i := 1) rfl))
theorem mx_X8_voiceMark_3 : Cond.instanceMethod yX8_begin ∈ wsX8_voiceMark := by unfold wsX8_voiceMark; exact List.mem_cons_of_mem _ (List.mem_append_left _ (List.mem_of_getElem? (i := 2) rfl))
theorem mx_X8_voiceMark_4 : Cond.selects RX8 yX8_begin yX8_begin ∈ wsX8_voiceMark := by unfold wsX8_voiceMark; exact List.mem_cons_of_mem _ (List.mem_append_left _ (List.mem_of_getElem? (i := 3) rfl))
theorem mx_X8_voiceMark_5 : Cond.initialized RX8 ∈ wsX8_voiceMark := by unfold wsX8_voiceMark; exact List.mem_cons_of_mem _ (List.mem_append_left _ (List.mem_of_getElem? (i := 4) rfl))
theorem gX8_voiceMark_X8_begin : GoodIn wsX8_voiceMark (wsV RX8 263 RX8 yX8_begin wsX8_begin) := goodIn_app (goodIn_sub (List.forall_mem_cons.mpr ⟨mx_X8_voiceMark_2, List.forall_mem_cons.mpr ⟨mx_X8_voiceMark_3, List.forall_mem_cons.mpr ⟨mx_X8_voiceMark_4, List.forall_mem_cons.mpr ⟨mx_X8_voiceMark_5, fun _ h_ => absurd h_ List.not_mem_nil⟩⟩⟩⟩) (by decide +kernel)) ggX8_voiceMark_X8_begin
theorem mx_X8_voiceMark_12 : Cond.code yX8_lent cX8_lent 3 (some .int) ∈ wsX8_voiceMark := by unfold wsX8_voiceMark; exact List.mem_cons_of_mem _ (List.mem_append_left _ (List.mem_of_getElem? (i := 11) rfl))
theorem mx_X8_voiceMark_1 : Cond.fieldLink RX8 19 "MillTalkModel" "st" "[I" ∈ wsX8_voiceMark := by unfold wsX8_voiceMark; exact List.mem_cons_of_mem _ (List.mem_append_left _ (List.mem_of_getElem? (i := 0) rfl))
theorem ggX8_voiceMark_X8_lent : GoodIn wsX8_voiceMark wsX8_lent := goodIn_sub (by unfold wsX8_lent; exact List.forall_mem_cons.mpr ⟨mx_X8_voiceMark_12, List.forall_mem_append.mpr ⟨List.forall_mem_cons.mpr ⟨mx_X8_voiceMark_1, List.forall_mem_cons.mpr ⟨mx_X8_voiceMark_2, List.forall_mem_cons.mpr ⟨mx_X8_voiceMark_3, List.forall_mem_cons.mpr ⟨mx_X8_voiceMark_4, List.forall_mem_cons.mpr ⟨mx_X8_voiceMark_5, List.forall_mem_cons.mpr ⟨mx_X8_voiceMark_6, List.forall_mem_cons.mpr ⟨mx_X8_voiceMark_7, List.forall_mem_cons.mpr ⟨mx_X8_voiceMark_8, fun _ h_ => absurd h_ List.not_mem_nil⟩⟩⟩⟩⟩⟩⟩⟩, (fun _ h_ => mb_X8_voiceMark_wsX80 h_)⟩⟩) (by decide +kernel)
theorem mx_X8_voiceMark_9 : Cond.methodLink RX8 266 yX8_lent ∈ wsX8_voiceMark := by unfold wsX8_voiceMark; exact List.mem_cons_of_mem _ (List.mem_append_left _ (List.mem_of_getElem? (i := 8) rfl))
theorem mx_X8_voiceMark_10 : Cond.instanceMethod yX8_lent ∈ wsX8_voiceMark := by unfold wsX8_voiceMark; exact List.mem_cons_of_mem _ (List.mem_append_left _ (List.mem_of_getElem? (i := 9) rfl))
theorem mx_X8_voiceMark_11 : Cond.selects RX8 yX8_lent yX8_lent ∈ wsX8_voiceMark := by unfold wsX8_voiceMark; exact List.mem_cons_of_mem _ (List.mem_append_left _ (List.mem_of_getElem? (i := 10) rfl))
theorem gX8_voiceMark_X8_lent : GoodIn wsX8_voiceMark (wsV RX8 266 RX8 yX8_lent wsX8_lent) := goodIn_app (goodIn_sub (List.forall_mem_cons.mpr ⟨mx_X8_voiceMark_9, List.forall_mem_cons.mpr ⟨mx_X8_voiceMark_10, List.forall_mem_cons.mpr ⟨mx_X8_voiceMark_11, List.forall_mem_cons.mpr ⟨mx_X8_voiceMark_5, fun _ h_ => absurd h_ List.not_mem_nil⟩⟩⟩⟩) (by decide +kernel)) ggX8_voiceMark_X8_lent
theorem mb_X8_voiceSize_wsX8_voiceSize_r1 {w : Cond} (h : w ∈ wsX8_voiceSize_r1) : w ∈ wsX8_voiceSize := by unfold wsX8_voiceSize; exact List.mem_cons_of_mem _ (List.mem_append_left _ (List.mem_append_left _ (h)))
theorem mx_X8_voiceSize_5 : Cond.code yX8_begin cX8_begin 2 none ∈ wsX8_voiceSize := mb_X8_voiceSize_wsX8_voiceSize_r1 (List.mem_of_getElem? (i := 4) rfl)
theorem mx_X8_voiceSize_6 : Cond.fieldLink RX8 260 "MillTalkModel" "traced" "I" ∈ wsX8_voiceSize := mb_X8_voiceSize_wsX8_voiceSize_r1 (List.mem_of_getElem? (i := 5) rfl)
theorem mx_X8_voiceSize_7 : Cond.fieldLink RX8 47 "MillTalkModel" "trace" "[I" ∈ wsX8_voiceSize := mb_X8_voiceSize_wsX8_voiceSize_r1 (List.mem_of_getElem? (i := 6) rfl)
theorem mb_X8_voiceSize_wsX80 {w : Cond} (h : w ∈ wsX80) : w ∈ wsX8_voiceSize := by unfold wsX8_voiceSize; exact List.mem_cons_of_mem _ (List.mem_append_right _ (h))
theorem ggX8_voiceSize_X8_begin : GoodIn wsX8_voiceSize wsX8_begin := goodIn_sub (by unfold wsX8_begin; exact List.forall_mem_cons.mpr ⟨mx_X8_voiceSize_5, List.forall_mem_append.mpr ⟨List.forall_mem_cons.mpr ⟨mx_X8_voiceSize_6, List.forall_mem_cons.mpr ⟨mx_X8_voiceSize_7, fun _ h_ => absurd h_ List.not_mem_nil⟩⟩, (fun _ h_ => mb_X8_voiceSize_wsX80 h_)⟩⟩) (by decide +kernel)
theorem mx_X8_voiceSize_1 : Cond.methodLink RX8 263 yX8_begin ∈ wsX8_voiceSize := mb_X8_voiceSize_wsX8_voiceSize_r1 (List.mem_of_getElem? (i := 0) rfl)
theorem mx_X8_voiceSize_2 : Cond.instanceMethod yX8_begin ∈ wsX8_voiceSize := mb_X8_voiceSize_wsX8_voiceSize_r1 (List.mem_of_getElem? (i := 1) rfl)
theorem mx_X8_voiceSize_3 : Cond.selects RX8 yX8_begin yX8_begin ∈ wsX8_voiceSize := mb_X8_voiceSize_wsX8_voiceSize_r1 (List.mem_of_getElem? (i := 2) rfl)
theorem mx_X8_voiceSize_4 : Cond.initialized RX8 ∈ wsX8_voiceSize := mb_X8_voiceSize_wsX8_voiceSize_r1 (List.mem_of_getElem? (i := 3) rfl)
theorem gX8_voiceSize_X8_begin : GoodIn wsX8_voiceSize (wsV RX8 263 RX8 yX8_begin wsX8_begin) := goodIn_app (goodIn_sub (List.forall_mem_cons.mpr ⟨mx_X8_voiceSize_1, List.forall_mem_cons.mpr ⟨mx_X8_voiceSize_2, List.forall_mem_cons.mpr ⟨mx_X8_voiceSize_3, List.forall_mem_cons.mpr ⟨mx_X8_voiceSize_4, fun _ h_ => absurd h_ List.not_mem_nil⟩⟩⟩⟩) (by decide +kernel)) ggX8_voiceSize_X8_begin
theorem mx_X8_voiceSize_11 : Cond.code yX8_lent cX8_lent 3 (some .int) ∈ wsX8_voiceSize := mb_X8_voiceSize_wsX8_voiceSize_r1 (List.mem_of_getElem? (i := 10) rfl)
theorem mx_X8_voiceSize_12 : Cond.fieldLink RX8 19 "MillTalkModel" "st" "[I" ∈ wsX8_voiceSize := mb_X8_voiceSize_wsX8_voiceSize_r1 (List.mem_of_getElem? (i := 11) rfl)
theorem ggX8_voiceSize_X8_lent : GoodIn wsX8_voiceSize wsX8_lent := goodIn_sub (by unfold wsX8_lent; exact List.forall_mem_cons.mpr ⟨mx_X8_voiceSize_11, List.forall_mem_append.mpr ⟨List.forall_mem_cons.mpr ⟨mx_X8_voiceSize_12, List.forall_mem_cons.mpr ⟨mx_X8_voiceSize_1, List.forall_mem_cons.mpr ⟨mx_X8_voiceSize_2, List.forall_mem_cons.mpr ⟨mx_X8_voiceSize_3, List.forall_mem_cons.mpr ⟨mx_X8_voiceSize_4, List.forall_mem_cons.mpr ⟨mx_X8_voiceSize_5, List.forall_mem_cons.mpr ⟨mx_X8_voiceSize_6, List.forall_mem_cons.mpr ⟨mx_X8_voiceSize_7, fun _ h_ => absurd h_ List.not_mem_nil⟩⟩⟩⟩⟩⟩⟩⟩, (fun _ h_ => mb_X8_voiceSize_wsX80 h_)⟩⟩) (by decide +kernel)
theorem mx_X8_voiceSize_8 : Cond.methodLink RX8 266 yX8_lent ∈ wsX8_voiceSize := mb_X8_voiceSize_wsX8_voiceSize_r1 (List.mem_of_getElem? (i := 7) rfl)
theorem mx_X8_voiceSize_9 : Cond.instanceMethod yX8_lent ∈ wsX8_voiceSize := mb_X8_voiceSize_wsX8_voiceSize_r1 (List.mem_of_getElem? (i := 8) rfl)
theorem mx_X8_voiceSize_10 : Cond.selects RX8 yX8_lent yX8_lent ∈ wsX8_voiceSize := mb_X8_voiceSize_wsX8_voiceSize_r1 (List.mem_of_getElem? (i := 9) rfl)
theorem gX8_voiceSize_X8_lent : GoodIn wsX8_voiceSize (wsV RX8 266 RX8 yX8_lent wsX8_lent) := goodIn_app (goodIn_sub (List.forall_mem_cons.mpr ⟨mx_X8_voiceSize_8, List.forall_mem_cons.mpr ⟨mx_X8_voiceSize_9, List.forall_mem_cons.mpr ⟨mx_X8_voiceSize_10, List.forall_mem_cons.mpr ⟨mx_X8_voiceSize_4, fun _ h_ => absurd h_ List.not_mem_nil⟩⟩⟩⟩) (by decide +kernel)) ggX8_voiceSize_X8_lent
theorem mx_X8_voiceSize_16 : Cond.code yX8_markOf cX8_markOf 4 (some .int) ∈ wsX8_voiceSize := mb_X8_voiceSize_wsX8_voiceSize_r1 (List.mem_of_getElem? (i := 15) rfl)
theorem mx_X8_voiceSize_17 : Cond.methodLink RX8 272 yX8_voiceMark ∈ wsX8_voiceSize := mb_X8_voiceSize_wsX8_voiceSize_r1 (List.mem_of_getElem? (i := 16) rfl)
theorem mx_X8_voiceSize_18 : Cond.instanceMethod yX8_voiceMark ∈ wsX8_voiceSize := mb_X8_voiceSize_wsX8_voiceSize_r1 (List.mem_of_getElem? (i := 17) rfl)
theorem mx_X8_voiceSize_19 : Cond.selects RX8 yX8_voiceMark yX8_voiceMark ∈ wsX8_voiceSize := mb_X8_voiceSize_wsX8_voiceSize_r1 (List.mem_of_getElem? (i := 18) rfl)
theorem mx_X8_voiceSize_20 : Cond.code yX8_voiceMark cX8_voiceMark 2 (some .int) ∈ wsX8_voiceSize := mb_X8_voiceSize_wsX8_voiceSize_r1 (List.mem_of_getElem? (i := 19) rfl)
theorem mx_X8_voiceSize_21 : Cond.methodLink RX8 275 yX8_sizeOfDutch ∈ wsX8_voiceSize := mb_X8_voiceSize_wsX8_voiceSize_r1 (List.mem_of_getElem? (i := 20) rfl)
theorem mx_X8_voiceSize_22 : Cond.instanceMethod yX8_sizeOfDutch ∈ wsX8_voiceSize := mb_X8_voiceSize_wsX8_voiceSize_r1 (List.mem_of_getElem? (i := 21) rfl)
theorem mx_X8_voiceSize_23 : Cond.selects RX8 yX8_sizeOfDutch yX8_sizeOfDutch ∈ wsX8_voiceSize := mb_X8_voiceSize_wsX8_voiceSize_r1 (List.mem_of_getElem? (i := 22) rfl)
theorem mx_X8_voiceSize_24 : Cond.code yX8_sizeOfDutch cX8_sizeOfDutch 2 (some .int) ∈ wsX8_voiceSize := mb_X8_voiceSize_wsX8_voiceSize_r1 (List.mem_of_getElem? (i := 23) rfl)
theorem mb_X8_voiceSize_wsX8_voiceSize_r2 {w : Cond} (h : w ∈ wsX8_voiceSize_r2) : w ∈ wsX8_voiceSize := by unfold wsX8_voiceSize; exact List.mem_cons_of_mem _ (List.mem_append_left _ (List.mem_append_right _ (h)))
theorem mx_X8_voiceSize_25 : Cond.methodLink RX8 269 yX8_dutchSize ∈ wsX8_voiceSize := mb_X8_voiceSize_wsX8_voiceSize_r2 (List.mem_of_getElem? (i := 0) rfl)
theorem mx_X8_voiceSize_26 : Cond.instanceMethod yX8_dutchSize ∈ wsX8_voiceSize := mb_X8_voiceSize_wsX8_voiceSize_r2 (List.mem_of_getElem? (i := 1) rfl)
theorem mx_X8_voiceSize_27 : Cond.selects RX8 yX8_dutchSize yX8_dutchSize ∈ wsX8_voiceSize := mb_X8_voiceSize_wsX8_voiceSize_r2 (List.mem_of_getElem? (i := 2) rfl)
theorem mx_X8_voiceSize_28 : Cond.code yX8_dutchSize cX8_dutchSize 2 (some .int) ∈ wsX8_voiceSize := mb_X8_voiceSize_wsX8_voiceSize_r2 (List.mem_of_getElem? (i := 3) rfl)
theorem ggX8_voiceSize_X8_markOf : GoodIn wsX8_voiceSize wsX8_markOf := goodIn_sub (by unfold wsX8_markOf; exact List.forall_mem_cons.mpr ⟨mx_X8_voiceSize_16, List.forall_mem_append.mpr ⟨List.forall_mem_cons.mpr ⟨mx_X8_voiceSize_12, List.forall_mem_cons.mpr ⟨mx_X8_voiceSize_1, List.forall_mem_cons.mpr ⟨mx_X8_voiceSize_2, List.forall_mem_cons.mpr ⟨mx_X8_voiceSize_3, List.forall_mem_cons.mpr ⟨mx_X8_voiceSize_4, List.forall_mem_cons.mpr ⟨mx_X8_voiceSize_5, List.forall_mem_cons.mpr ⟨mx_X8_voiceSize_6, List.forall_mem_cons.mpr ⟨mx_X8_voiceSize_7, List.forall_mem_cons.mpr ⟨mx_X8_voiceSize_17, List.forall_mem_cons.mpr ⟨mx_X8_voiceSize_18, List.forall_mem_cons.mpr ⟨mx_X8_voiceSize_19, List.forall_mem_cons.mpr ⟨mx_X8_voiceSize_20, List.forall_mem_cons.mpr ⟨mx_X8_voiceSize_8, List.forall_mem_cons.mpr ⟨mx_X8_voiceSize_9, List.forall_mem_cons.mpr ⟨mx_X8_voiceSize_10, List.forall_mem_cons.mpr ⟨mx_X8_voiceSize_11, List.forall_mem_cons.mpr ⟨mx_X8_voiceSize_21, List.forall_mem_cons.mpr ⟨mx_X8_voiceSize_22, List.forall_mem_cons.mpr ⟨mx_X8_voiceSize_23, List.forall_mem_cons.mpr ⟨mx_X8_voiceSize_24, List.forall_mem_cons.mpr ⟨mx_X8_voiceSize_25, List.forall_mem_cons.mpr ⟨mx_X8_voiceSize_26, List.forall_mem_cons.mpr ⟨mx_X8_voiceSize_27, List.forall_mem_cons.mpr ⟨mx_X8_voiceSize_28, fun _ h_ => absurd h_ List.not_mem_nil⟩⟩⟩⟩⟩⟩⟩⟩⟩⟩⟩⟩⟩⟩⟩⟩⟩⟩⟩⟩⟩⟩⟩⟩, (fun _ h_ => mb_X8_voiceSize_wsX80 h_)⟩⟩) (by decide +kernel)
theorem mx_X8_voiceSize_13 : Cond.methodLink RX8 278 yX8_markOf ∈ wsX8_voiceSize := mb_X8_voiceSize_wsX8_voiceSize_r1 (List.mem_of_getElem? (i := 12) rfl)
theorem mx_X8_voiceSize_14 : Cond.instanceMethod yX8_markOf ∈ wsX8_voiceSize := mb_X8_voiceSize_wsX8_voiceSize_r1 (List.mem_of_getElem? (i := 13) rfl)
theorem mx_X8_voiceSize_15 : Cond.selects RX8 yX8_markOf yX8_markOf ∈ wsX8_voiceSize := mb_X8_voiceSize_wsX8_voiceSize_r1 (List.mem_of_getElem? (i := 14) rfl)
theorem gX8_voiceSize_X8_markOf : GoodIn wsX8_voiceSize (wsV RX8 278 RX8 yX8_markOf wsX8_markOf) := goodIn_app (goodIn_sub (List.forall_mem_cons.mpr ⟨mx_X8_voiceSize_13, List.forall_mem_cons.mpr ⟨mx_X8_voiceSize_14, List.forall_mem_cons.mpr ⟨mx_X8_voiceSize_15, List.forall_mem_cons.mpr ⟨mx_X8_voiceSize_4, fun _ h_ => absurd h_ List.not_mem_nil⟩⟩⟩⟩) (by decide +kernel)) ggX8_voiceSize_X8_markOf
theorem i_X8_as_X8 : ∀ w ∈ u_ws RX8 TX8 24, w ∈ wsX8_as := fun _ h_ => mb_X8_as_wsX80 h_
theorem i_X8_ask_X8 : ∀ w ∈ u_ws RX8 TX8 24, w ∈ wsX8_ask := fun _ h_ => mb_X8_ask_wsX80 h_
theorem mb_X8_begin_wsX80 {w : Cond} (h : w ∈ wsX80) : w ∈ wsX8_begin := by unfold wsX8_begin; exact List.mem_cons_of_mem _ (List.mem_append_right _ (h))
theorem i_X8_begin_X8 : ∀ w ∈ u_ws RX8 TX8 24, w ∈ wsX8_begin := fun _ h_ => mb_X8_begin_wsX80 h_
theorem i_X8_copy_X8 : ∀ w ∈ u_ws RX8 TX8 24, w ∈ wsX8_copy := fun _ h_ => mb_X8_copy_wsX80 h_
theorem i_X8_count_X8 : ∀ w ∈ u_ws RX8 TX8 24, w ∈ wsX8_count := fun _ h_ => mb_X8_count_wsX80 h_
theorem i_X8_drop_X8 : ∀ w ∈ u_ws RX8 TX8 24, w ∈ wsX8_drop := fun _ h_ => mb_X8_drop_wsX80 h_
theorem mb_X8_fault_wsX80 {w : Cond} (h : w ∈ wsX80) : w ∈ wsX8_fault := by unfold wsX8_fault; exact List.mem_cons_of_mem _ (List.mem_append_right _ (h))
theorem i_X8_fault_X8 : ∀ w ∈ u_ws RX8 TX8 24, w ∈ wsX8_fault := fun _ h_ => mb_X8_fault_wsX80 h_
theorem mb_X8_feed_wsX80 {w : Cond} (h : w ∈ wsX80) : w ∈ wsX8_feed := by unfold wsX8_feed; exact List.mem_cons_of_mem _ (List.mem_append_right _ (h))
theorem i_X8_feed_X8 : ∀ w ∈ u_ws RX8 TX8 24, w ∈ wsX8_feed := fun _ h_ => mb_X8_feed_wsX80 h_
theorem mb_X8_image_wsX80 {w : Cond} (h : w ∈ wsX80) : w ∈ wsX8_image := by unfold wsX8_image; exact List.mem_cons_of_mem _ (List.mem_append_right _ (h))
theorem i_X8_image_X8 : ∀ w ∈ u_ws RX8 TX8 24, w ∈ wsX8_image := fun _ h_ => mb_X8_image_wsX80 h_
theorem i_X8_lent_X8 : ∀ w ∈ u_ws RX8 TX8 24, w ∈ wsX8_lent := fun _ h_ => mb_X8_lent_wsX80 h_
theorem i_X8_markOf_X8 : ∀ w ∈ u_ws RX8 TX8 24, w ∈ wsX8_markOf := fun _ h_ => mb_X8_markOf_wsX80 h_
theorem mb_X8_restore_wsX80 {w : Cond} (h : w ∈ wsX80) : w ∈ wsX8_restore := by unfold wsX8_restore; exact List.mem_cons_of_mem _ (List.mem_append_right _ (h))
theorem i_X8_restore_X8 : ∀ w ∈ u_ws RX8 TX8 24, w ∈ wsX8_restore := fun _ h_ => mb_X8_restore_wsX80 h_
theorem i_X8_row_X8 : ∀ w ∈ u_ws RX8 TX8 24, w ∈ wsX8_row := fun _ h_ => mb_X8_row_wsX80 h_
theorem i_X8_set_X8 : ∀ w ∈ u_ws RX8 TX8 24, w ∈ wsX8_set := fun _ h_ => mb_X8_set_wsX80 h_
theorem i_X8_sizeOf_X8 : ∀ w ∈ u_ws RX8 TX8 24, w ∈ wsX8_sizeOf := fun _ h_ => mb_X8_sizeOf_wsX80 h_
theorem i_X8_sizeOfDutch_X8 : ∀ w ∈ u_ws RX8 TX8 24, w ∈ wsX8_sizeOfDutch := fun _ h_ => mb_X8_sizeOfDutch_wsX80 h_
theorem mb_X8_status_wsX80 {w : Cond} (h : w ∈ wsX80) : w ∈ wsX8_status := by unfold wsX8_status; exact List.mem_cons_of_mem _ (List.mem_append_right _ (h))
theorem i_X8_status_X8 : ∀ w ∈ u_ws RX8 TX8 24, w ∈ wsX8_status := fun _ h_ => mb_X8_status_wsX80 h_
theorem mb_X8_trace_wsX80 {w : Cond} (h : w ∈ wsX80) : w ∈ wsX8_trace := by unfold wsX8_trace; exact List.mem_cons_of_mem _ (List.mem_append_right _ (h))
theorem i_X8_trace_X8 : ∀ w ∈ u_ws RX8 TX8 24, w ∈ wsX8_trace := fun _ h_ => mb_X8_trace_wsX80 h_
theorem i_X8_voiceMark_X8 : ∀ w ∈ u_ws RX8 TX8 24, w ∈ wsX8_voiceMark := fun _ h_ => mb_X8_voiceMark_wsX80 h_
theorem mx_X8_count_1 : Cond.fieldLink RX8 13 "MillTalkModel" "sizes" "[I" ∈ wsX8_count := by unfold wsX8_count; exact List.mem_cons_of_mem _ (List.mem_append_left _ (List.mem_of_getElem? (i := 0) rfl))
theorem mx_X8_count_3 : Cond.fieldLink RX8 142 "MillTalkModel" "actMany" "I" ∈ wsX8_count := by unfold wsX8_count; exact List.mem_cons_of_mem _ (List.mem_append_left _ (List.mem_of_getElem? (i := 2) rfl))
theorem mx_X8_count_4 : Cond.fieldLink RX8 81 "MillTalkModel" "bytes" "I" ∈ wsX8_count := by unfold wsX8_count; exact List.mem_cons_of_mem _ (List.mem_append_left _ (List.mem_of_getElem? (i := 3) rfl))
theorem mx_X8_count_5 : Cond.constant RX8 67 (-1000001) ∈ wsX8_count := by unfold wsX8_count; exact List.mem_cons_of_mem _ (List.mem_append_left _ (List.mem_of_getElem? (i := 4) rfl))
theorem mx_X8_status_1 : Cond.fieldLink RX8 50 "MillTalkModel" "status" "I" ∈ wsX8_status := by unfold wsX8_status; exact List.mem_cons_of_mem _ (List.mem_append_left _ (List.mem_of_getElem? (i := 0) rfl))
theorem mx_X8_fault_1 : Cond.fieldLink RX8 134 "MillTalkModel" "latest" "I" ∈ wsX8_fault := by unfold wsX8_fault; exact List.mem_cons_of_mem _ (List.mem_append_left _ (List.mem_of_getElem? (i := 0) rfl))
theorem mx_X8_trace_1 : Cond.fieldLink RX8 260 "MillTalkModel" "traced" "I" ∈ wsX8_trace := by unfold wsX8_trace; exact List.mem_cons_of_mem _ (List.mem_append_left _ (List.mem_of_getElem? (i := 0) rfl))
theorem mx_X8_trace_3 : Cond.constant RX8 187 (-1000000) ∈ wsX8_trace := by unfold wsX8_trace; exact List.mem_cons_of_mem _ (List.mem_append_left _ (List.mem_of_getElem? (i := 2) rfl))
theorem mx_X8_trace_2 : Cond.fieldLink RX8 47 "MillTalkModel" "trace" "[I" ∈ wsX8_trace := by unfold wsX8_trace; exact List.mem_cons_of_mem _ (List.mem_append_left _ (List.mem_of_getElem? (i := 1) rfl))
theorem mx_X8_image_1 : Cond.constant RX8 67 (-1000001) ∈ wsX8_image := by unfold wsX8_image; exact List.mem_cons_of_mem _ (List.mem_append_left _ (List.mem_of_getElem? (i := 0) rfl))
theorem mx_X8_image_2 : Cond.fieldLink RX8 138 "MillTalkModel" "isThere" "Z" ∈ wsX8_image := by unfold wsX8_image; exact List.mem_cons_of_mem _ (List.mem_append_left _ (List.mem_of_getElem? (i := 1) rfl))
theorem mx_X8_image_4 : Cond.fieldLink RX8 44 "MillTalkModel" "kept" "[I" ∈ wsX8_image := by unfold wsX8_image; exact List.mem_cons_of_mem _ (List.mem_append_left _ (List.mem_of_getElem? (i := 3) rfl))
theorem mx_X8_image_5 : Cond.fieldLink RX8 19 "MillTalkModel" "st" "[I" ∈ wsX8_image := by unfold wsX8_image; exact List.mem_cons_of_mem _ (List.mem_append_left _ (List.mem_of_getElem? (i := 4) rfl))
theorem mx_X8_image_6 : Cond.fieldLink RX8 40 "MillTalkModel" "isKept" "[Z" ∈ wsX8_image := by unfold wsX8_image; exact List.mem_cons_of_mem _ (List.mem_append_left _ (List.mem_of_getElem? (i := 5) rfl))
theorem mx_X8_image_3 : Cond.constant RX8 161 (-1000002) ∈ wsX8_image := by unfold wsX8_image; exact List.mem_cons_of_mem _ (List.mem_append_left _ (List.mem_of_getElem? (i := 2) rfl))
theorem mx_X8_restore_1 : Cond.constant RX8 67 (-1000001) ∈ wsX8_restore := by unfold wsX8_restore; exact List.mem_cons_of_mem _ (List.mem_append_left _ (List.mem_of_getElem? (i := 0) rfl))
theorem mx_X8_restore_2 : Cond.fieldLink RX8 40 "MillTalkModel" "isKept" "[Z" ∈ wsX8_restore := by unfold wsX8_restore; exact List.mem_cons_of_mem _ (List.mem_append_left _ (List.mem_of_getElem? (i := 1) rfl))
theorem mx_X8_restore_4 : Cond.fieldLink RX8 19 "MillTalkModel" "st" "[I" ∈ wsX8_restore := by unfold wsX8_restore; exact List.mem_cons_of_mem _ (List.mem_append_left _ (List.mem_of_getElem? (i := 3) rfl))
theorem mx_X8_restore_5 : Cond.fieldLink RX8 44 "MillTalkModel" "kept" "[I" ∈ wsX8_restore := by unfold wsX8_restore; exact List.mem_cons_of_mem _ (List.mem_append_left _ (List.mem_of_getElem? (i := 4) rfl))
theorem mx_X8_restore_6 : Cond.fieldLink RX8 142 "MillTalkModel" "actMany" "I" ∈ wsX8_restore := by unfold wsX8_restore; exact List.mem_cons_of_mem _ (List.mem_append_left _ (List.mem_of_getElem? (i := 5) rfl))
theorem mx_X8_restore_3 : Cond.constant RX8 161 (-1000002) ∈ wsX8_restore := by unfold wsX8_restore; exact List.mem_cons_of_mem _ (List.mem_append_left _ (List.mem_of_getElem? (i := 2) rfl))
theorem mx_X8_as_2 : Cond.constant RX8 67 (-1000001) ∈ wsX8_as := by unfold wsX8_as; exact List.mem_cons_of_mem _ (List.mem_append_left _ (List.mem_of_getElem? (i := 1) rfl))
theorem mx_X8_as_1 : Cond.constantLong RX8 250 (5) ∈ wsX8_as := by unfold wsX8_as; exact List.mem_cons_of_mem _ (List.mem_append_left _ (List.mem_of_getElem? (i := 0) rfl))
theorem mx_X8_begin_1 : Cond.fieldLink RX8 260 "MillTalkModel" "traced" "I" ∈ wsX8_begin := by unfold wsX8_begin; exact List.mem_cons_of_mem _ (List.mem_append_left _ (List.mem_of_getElem? (i := 0) rfl))
theorem mx_X8_begin_2 : Cond.fieldLink RX8 47 "MillTalkModel" "trace" "[I" ∈ wsX8_begin := by unfold wsX8_begin; exact List.mem_cons_of_mem _ (List.mem_append_left _ (List.mem_of_getElem? (i := 1) rfl))
theorem mx_X8_lent_1 : Cond.fieldLink RX8 19 "MillTalkModel" "st" "[I" ∈ wsX8_lent := by unfold wsX8_lent; exact List.mem_cons_of_mem _ (List.mem_append_left _ (List.mem_of_getElem? (i := 0) rfl))
theorem mx_X8_ask_1 : Cond.constant RX8 67 (-1000001) ∈ wsX8_ask := mb_X8_ask_wsX8_ask_r1 (List.mem_of_getElem? (i := 0) rfl)
theorem mx_X8_feed_1 : Cond.constantLong RX8 79 (255) ∈ wsX8_feed := by unfold wsX8_feed; exact List.mem_cons_of_mem _ (List.mem_append_left _ (List.mem_of_getElem? (i := 0) rfl))
theorem mx_X8_feed_2 : Cond.constant RX8 67 (-1000001) ∈ wsX8_feed := by unfold wsX8_feed; exact List.mem_cons_of_mem _ (List.mem_append_left _ (List.mem_of_getElem? (i := 1) rfl))
theorem mx_X8_feed_3 : Cond.fieldLink RX8 81 "MillTalkModel" "bytes" "I" ∈ wsX8_feed := by unfold wsX8_feed; exact List.mem_cons_of_mem _ (List.mem_append_left _ (List.mem_of_getElem? (i := 2) rfl))
theorem mx_X8_feed_5 : Cond.fieldLink RX8 25 "MillTalkModel" "tape" "[I" ∈ wsX8_feed := by unfold wsX8_feed; exact List.mem_cons_of_mem _ (List.mem_append_left _ (List.mem_of_getElem? (i := 4) rfl))
theorem mx_X8_feed_4 : Cond.constant RX8 84 (-1000003) ∈ wsX8_feed := by unfold wsX8_feed; exact List.mem_cons_of_mem _ (List.mem_append_left _ (List.mem_of_getElem? (i := 3) rfl))
theorem mx_X8_row_2 : Cond.constant RX8 67 (-1000001) ∈ wsX8_row := by unfold wsX8_row; exact List.mem_cons_of_mem _ (List.mem_append_left _ (List.mem_of_getElem? (i := 1) rfl))
theorem mx_X8_row_1 : Cond.constantLong RX8 65 (2) ∈ wsX8_row := by unfold wsX8_row; exact List.mem_cons_of_mem _ (List.mem_append_left _ (List.mem_of_getElem? (i := 0) rfl))
theorem mx_X8_row_3 : Cond.fieldLink RX8 7 "MillTalkModel" "lanes" "[I" ∈ wsX8_row := by unfold wsX8_row; exact List.mem_cons_of_mem _ (List.mem_append_left _ (List.mem_of_getElem? (i := 2) rfl))
theorem mx_X8_row_4 : Cond.fieldLink RX8 13 "MillTalkModel" "sizes" "[I" ∈ wsX8_row := by unfold wsX8_row; exact List.mem_cons_of_mem _ (List.mem_append_left _ (List.mem_of_getElem? (i := 3) rfl))
theorem mx_X8_row_5 : Cond.fieldLink RX8 16 "MillTalkModel" "items" "[I" ∈ wsX8_row := by unfold wsX8_row; exact List.mem_cons_of_mem _ (List.mem_append_left _ (List.mem_of_getElem? (i := 4) rfl))
theorem mx_X8_set_1 : Cond.constant RX8 67 (-1000001) ∈ wsX8_set := mb_X8_set_wsX8_set_r1 (List.mem_of_getElem? (i := 0) rfl)
theorem mx_X8_set_2 : Cond.fieldLink RX8 13 "MillTalkModel" "sizes" "[I" ∈ wsX8_set := mb_X8_set_wsX8_set_r1 (List.mem_of_getElem? (i := 1) rfl)
theorem mx_X8_set_3 : Cond.fieldLink RX8 16 "MillTalkModel" "items" "[I" ∈ wsX8_set := mb_X8_set_wsX8_set_r1 (List.mem_of_getElem? (i := 2) rfl)
theorem mx_X8_set_4 : Cond.fieldLink RX8 7 "MillTalkModel" "lanes" "[I" ∈ wsX8_set := mb_X8_set_wsX8_set_r1 (List.mem_of_getElem? (i := 3) rfl)
theorem mx_X8_copy_1 : Cond.constant RX8 67 (-1000001) ∈ wsX8_copy := by unfold wsX8_copy; exact List.mem_cons_of_mem _ (List.mem_append_left _ (List.mem_of_getElem? (i := 0) rfl))
theorem mx_X8_copy_2 : Cond.fieldLink RX8 13 "MillTalkModel" "sizes" "[I" ∈ wsX8_copy := by unfold wsX8_copy; exact List.mem_cons_of_mem _ (List.mem_append_left _ (List.mem_of_getElem? (i := 1) rfl))
theorem mx_X8_copy_3 : Cond.fieldLink RX8 7 "MillTalkModel" "lanes" "[I" ∈ wsX8_copy := by unfold wsX8_copy; exact List.mem_cons_of_mem _ (List.mem_append_left _ (List.mem_of_getElem? (i := 2) rfl))
theorem mx_X8_copy_4 : Cond.fieldLink RX8 22 "MillTalkModel" "moved" "[I" ∈ wsX8_copy := by unfold wsX8_copy; exact List.mem_cons_of_mem _ (List.mem_append_left _ (List.mem_of_getElem? (i := 3) rfl))
theorem mx_X8_copy_5 : Cond.fieldLink RX8 16 "MillTalkModel" "items" "[I" ∈ wsX8_copy := by unfold wsX8_copy; exact List.mem_cons_of_mem _ (List.mem_append_left _ (List.mem_of_getElem? (i := 4) rfl))
theorem mx_X8_drop_1 : Cond.constant RX8 67 (-1000001) ∈ wsX8_drop := by unfold wsX8_drop; exact List.mem_cons_of_mem _ (List.mem_append_left _ (List.mem_of_getElem? (i := 0) rfl))
theorem mx_X8_drop_2 : Cond.fieldLink RX8 13 "MillTalkModel" "sizes" "[I" ∈ wsX8_drop := by unfold wsX8_drop; exact List.mem_cons_of_mem _ (List.mem_append_left _ (List.mem_of_getElem? (i := 1) rfl))
