theorem lf_X8_lacks_1 {ms : Int32} {fz : Nat → Int32} {j : Nat} {b : Nat} {a0 : Int32} {msn_3 : Int32} {r_3 : Int32} (hsz9 : ∀ j : Nat, j < 8 → fz j = -1 ∨ ∃ q : Nat, q ≤ 40 ∧ fz j = nI q) (hj : j < 8) (hb12 : b ≤ 12) (hs_1 : fz j = -1) (hF_3_0 : (msn_3 : Int32) = 1) (h_3 : r_3 = (-1000010 - 1)) : msn_3 = lkS (fz j) a0 (nI b) ms := by
  first
  | assumption
  | exact Eq.trans (by assumption) (lk_1 (by assumption))
  | exact lk_m hs_1 hq_1
theorem lf_X8_lacks_2 {fz : Nat → Int32} {j : Nat} {b : Nat} {msn_3 : Int32} {r_3 : Int32} (hsz9 : ∀ j : Nat, j < 8 → fz j = -1 ∨ ∃ q : Nat, q ≤ 40 ∧ fz j = nI q) (hj : j < 8) (hb12 : b ≤ 12) (hs_1 : fz j = -1) (hF_3_0 : (msn_3 : Int32) = 1) (h_3 : r_3 = (-1000010 - 1)) : fz j = -1 := by
  first
  | assumption
  | exact Eq.trans (by assumption) (lk_1 (by assumption))
  | exact lk_m hs_1 hq_1
theorem lf_X8_lacks_3 {ms : Int32} {fz : Nat → Int32} {j : Nat} {b : Nat} {a0 : Int32} {q_1 : Nat} {v_6 : Int32} {msn_9 : Int32} {r_9 : Int32} (hsz9 : ∀ j : Nat, j < 8 → fz j = -1 ∨ ∃ q : Nat, q ≤ 40 ∧ fz j = nI q) (hj : j < 8) (hb12 : b ≤ 12) (hs_1 : fz j = nI q_1) (hq_1 : q_1 ≤ 40) (e_6 : v_6 = ((nI q_1) - (nI b))) (f_7_0_0 : ((a0).toInt64 < 0 ∨ (v_6).toInt64 < (a0).toInt64)) (q_7 : (a0 < 0 ∨ v_6 < a0)) (hF_9_0 : (msn_9 : Int32) = 2) (h_9 : r_9 = (-1000010 - 2)) : msn_9 = lkS (fz j) a0 (nI b) ms := by
  first
  | assumption
  | exact Eq.trans (by assumption) (lk_1 (by assumption))
  | exact Eq.trans (by assumption) (lk_2 (lk_m hs_1 hq_1) (fun z => (lk_p hs_1 hq_1 hb12 e_6).mpr z f_7_0_0))
  | exact fun z => (lk_p hs_1 hq_1 hb12 e_6).mpr z f_7_0_0
  | exact lk_m hs_1 hq_1
theorem lf_X8_lacks_4 {fz : Nat → Int32} {j : Nat} {b : Nat} {a0 : Int32} {q_1 : Nat} {v_6 : Int32} {msn_9 : Int32} {r_9 : Int32} (hsz9 : ∀ j : Nat, j < 8 → fz j = -1 ∨ ∃ q : Nat, q ≤ 40 ∧ fz j = nI q) (hj : j < 8) (hb12 : b ≤ 12) (hs_1 : fz j = nI q_1) (hq_1 : q_1 ≤ 40) (e_6 : v_6 = ((nI q_1) - (nI b))) (f_7_0_0 : ((a0).toInt64 < 0 ∨ (v_6).toInt64 < (a0).toInt64)) (q_7 : (a0 < 0 ∨ v_6 < a0)) (hF_9_0 : (msn_9 : Int32) = 2) (h_9 : r_9 = (-1000010 - 2)) : ¬ fz j = -1 := by
  first
  | assumption
  | exact Eq.trans (by assumption) (lk_1 (by assumption))
  | exact Eq.trans (by assumption) (lk_2 (lk_m hs_1 hq_1) (fun z => (lk_p hs_1 hq_1 hb12 e_6).mpr z f_7_0_0))
  | exact fun z => (lk_p hs_1 hq_1 hb12 e_6).mpr z f_7_0_0
  | exact lk_m hs_1 hq_1
theorem lf_X8_lacks_5 {fz : Nat → Int32} {j : Nat} {b : Nat} {a0 : Int32} {q_1 : Nat} {v_6 : Int32} {msn_9 : Int32} {r_9 : Int32} (hsz9 : ∀ j : Nat, j < 8 → fz j = -1 ∨ ∃ q : Nat, q ≤ 40 ∧ fz j = nI q) (hj : j < 8) (hb12 : b ≤ 12) (hs_1 : fz j = nI q_1) (hq_1 : q_1 ≤ 40) (e_6 : v_6 = ((nI q_1) - (nI b))) (f_7_0_0 : ((a0).toInt64 < 0 ∨ (v_6).toInt64 < (a0).toInt64)) (q_7 : (a0 < 0 ∨ v_6 < a0)) (hF_9_0 : (msn_9 : Int32) = 2) (h_9 : r_9 = (-1000010 - 2)) : ¬ plc (fz j) a0 (nI b) := by
  first
  | assumption
  | exact Eq.trans (by assumption) (lk_1 (by assumption))
  | exact Eq.trans (by assumption) (lk_2 (lk_m hs_1 hq_1) (fun z => (lk_p hs_1 hq_1 hb12 e_6).mpr z f_7_0_0))
  | exact fun z => (lk_p hs_1 hq_1 hb12 e_6).mpr z f_7_0_0
  | exact lk_m hs_1 hq_1
theorem lf_X8_lacks_6 {ms : Int32} {fz : Nat → Int32} {j : Nat} {b : Nat} {a0 : Int32} {q_1 : Nat} {v_6 : Int32} (hsz9 : ∀ j : Nat, j < 8 → fz j = -1 ∨ ∃ q : Nat, q ≤ 40 ∧ fz j = nI q) (hj : j < 8) (hb12 : b ≤ 12) (hs_1 : fz j = nI q_1) (hq_1 : q_1 ≤ 40) (e_6 : v_6 = ((nI q_1) - (nI b))) (f_7_1_0 : (¬ ((a0).toInt64 < 0 ∨ (v_6).toInt64 < (a0).toInt64))) (q_7 : ¬ (a0 < 0 ∨ v_6 < a0)) : ms = lkS (fz j) a0 (nI b) ms := by
  first
  | assumption
  | exact Eq.trans (by assumption) (lk_1 (by assumption))
  | exact lk_3 (lk_m hs_1 hq_1) ((lk_p hs_1 hq_1 hb12 e_6).mp f_7_1_0)
  | exact (lk_p hs_1 hq_1 hb12 e_6).mp f_7_1_0
  | exact lk_m hs_1 hq_1
theorem lf_X8_lacks_7 {fz : Nat → Int32} {j : Nat} {b : Nat} {a0 : Int32} {q_1 : Nat} {v_6 : Int32} (hsz9 : ∀ j : Nat, j < 8 → fz j = -1 ∨ ∃ q : Nat, q ≤ 40 ∧ fz j = nI q) (hj : j < 8) (hb12 : b ≤ 12) (hs_1 : fz j = nI q_1) (hq_1 : q_1 ≤ 40) (e_6 : v_6 = ((nI q_1) - (nI b))) (f_7_1_0 : (¬ ((a0).toInt64 < 0 ∨ (v_6).toInt64 < (a0).toInt64))) (q_7 : ¬ (a0 < 0 ∨ v_6 < a0)) : ¬ fz j = -1 := by
  first
  | assumption
  | exact Eq.trans (by assumption) (lk_1 (by assumption))
  | exact lk_3 (lk_m hs_1 hq_1) ((lk_p hs_1 hq_1 hb12 e_6).mp f_7_1_0)
  | exact (lk_p hs_1 hq_1 hb12 e_6).mp f_7_1_0
  | exact lk_m hs_1 hq_1
theorem lf_X8_lacks_8 {fz : Nat → Int32} {j : Nat} {b : Nat} {a0 : Int32} {q_1 : Nat} {v_6 : Int32} (hsz9 : ∀ j : Nat, j < 8 → fz j = -1 ∨ ∃ q : Nat, q ≤ 40 ∧ fz j = nI q) (hj : j < 8) (hb12 : b ≤ 12) (hs_1 : fz j = nI q_1) (hq_1 : q_1 ≤ 40) (e_6 : v_6 = ((nI q_1) - (nI b))) (f_7_1_0 : (¬ ((a0).toInt64 < 0 ∨ (v_6).toInt64 < (a0).toInt64))) (q_7 : ¬ (a0 < 0 ∨ v_6 < a0)) : plc (fz j) a0 (nI b) := by
  first
  | assumption
  | exact Eq.trans (by assumption) (lk_1 (by assumption))
  | exact lk_3 (lk_m hs_1 hq_1) ((lk_p hs_1 hq_1 hb12 e_6).mp f_7_1_0)
  | exact (lk_p hs_1 hq_1 hb12 e_6).mp f_7_1_0
  | exact lk_m hs_1 hq_1
set_option maxHeartbeats 4000000 in
set_option maxRecDepth 100000 in
theorem r_X8_lacks (l : Launch) (dC : Nat → ClassId) (dI : Nat → Nat → Nat) (cI cZ cL cJ : ClassId) (sz : Nat) (mo : Nat) (m_la : Nat) (m_sz : Nat) (m_it : Nat) (m_st : Nat) (m_mv : Nat) (m_tp : Nat) (m_rd : Nat) (m_ac : Nat) (m_as : Nat) (m_wo : Nat) (m_ik : Nat) (m_ke : Nat) (m_tr : Nat) (ms : Int32) (mt : Int32) (ml : Int32) (mk : Int32) (mv : Int32) (mb : Int32) (mw : Int32) (mz : Nat) (mp : Nat) (ma : Nat) (mx : Nat) (fz : Nat → Int32) (j : Nat) (b : Nat) (a0 : Int32) (hsz9 : ∀ j : Nat, j < 8 → fz j = -1 ∨ ∃ q : Nat, q ≤ 40 ∧ fz j = nI q) (hj : j < 8) (hb12 : b ≤ 12) : Met l yX8_lacks wsX8_lacks ({ frames := 1, cells := 0, slots := 0, locals := 25 }) (va_Pc [.ref mo, .int (nI j), .int a0, .int (nI b)] (fun U => U.heap.size = sz ∧ va_P (dC, dI) vwCl [(xo_8_rrriirrriiiiiiirrirrrrri mo m_la m_sz m_it ms mt m_st m_mv m_tp (nI mz) ml (nI mp) mk mv mb mw m_rd m_ac (nI ma) m_as m_wo m_ik m_ke m_tr (nI mx)), (xI m_sz cI 8 fz)] U.heap ∧ va_K (dC, dI) vwCl [(cI, .int), (cZ, .boolean), (cL, .object RX3), (cJ, .array .int)] U ∧ va_D (fun _ => True) [(xo_8_rrriirrriiiiiiirrirrrrri mo m_la m_sz m_it ms mt m_st m_mv m_tp (nI mz) ml (nI mp) mk mv mb mw m_rd m_ac (nI ma) m_as m_wo m_ik m_ke m_tr (nI mx)), (xI m_sz cI 8 fz)])) (va_Qi (fun r (_ : Unit) => (r = 0 ∧ ¬ fz j = -1 ∧ plc (fz j) a0 (nI b) ∧ hpF a0 (nI b)) ∨ (r = (-1000011) ∧ fz j = -1) ∨ (r = (-1000012) ∧ ¬ fz j = -1 ∧ ¬ plc (fz j) a0 (nI b))) (fun (_ : Unit) t => ∃ (msn : Int32), va_P (dC, dI) vwCl [(xo_8_rrriirrriiiiiiirrirrrrri mo m_la m_sz m_it msn mt m_st m_mv m_tp (nI mz) ml (nI mp) mk mv mb mw m_rd m_ac (nI ma) m_as m_wo m_ik m_ke m_tr (nI mx)), (xI m_sz cI 8 fz)] t.heap ∧ va_D (va_A [(xo_8_rrriirrriiiiiiirrirrrrri mo m_la m_sz m_it ms mt m_st m_mv m_tp (nI mz) ml (nI mp) mk mv mb mw m_rd m_ac (nI ma) m_as m_wo m_ik m_ke m_tr (nI mx)), (xI m_sz cI 8 fz)] sz) [(xo_8_rrriirrriiiiiiirrirrrrri mo m_la m_sz m_it msn mt m_st m_mv m_tp (nI mz) ml (nI mp) mk mv mb mw m_rd m_ac (nI ma) m_as m_wo m_ik m_ke m_tr (nI mx)), (xI m_sz cI 8 fz)] ∧ msn = lkS (fz j) a0 (nI b) ms) (va_A [(xo_8_rrriirrriiiiiiirrirrrrri mo m_la m_sz m_it ms mt m_st m_mv m_tp (nI mz) ml (nI mp) mk mv mb mw m_rd m_ac (nI ma) m_as m_wo m_ik m_ke m_tr (nI mx)), (xI m_sz cI 8 fz)] sz)) 0 0 (va_A [(xo_8_rrriirrriiiiiiirrirrrrri mo m_la m_sz m_it ms mt m_st m_mv m_tp (nI mz) ml (nI mp) mk mv mb mw m_rd m_ac (nI ma) m_as m_wo m_ik m_ke m_tr (nI mx)), (xI m_sz cI 8 fz)] sz) := by
  refine Met.ofW (cc := cX8_lacks) (maxL := 4) (ret := (some .int)) (by decide) rfl ?_
  intro p e s m args below meth c s₁ B hml hv
  obtain ⟨rfl, hsz, hP, hK, hD0⟩ := hv
  have hx := B.exec
  have hb := B.bytes
  have hr := B.returns
  have hts := atoms_spec (ws := wsX8_lacks) B.pre
  have hown : s.vm.findClass RX8 = some m.cls := findClass_of_methodNamed B.named
  have hlocks := B.notSynchronized
  subst hsz
  have hD := hD0.self (sz := s.heap.size)
  generalize hAe : va_A [(xo_8_rrriirrriiiiiiirrirrrrri mo m_la m_sz m_it ms mt m_st m_mv m_tp (nI mz) ml (nI mp) mk mv mb mw m_rd m_ac (nI ma) m_as m_wo m_ik m_ke m_tr (nI mx)), (xI m_sz cI 8 fz)] s.heap.size = A at hD ⊢
  have hA : ∀ q : Nat, s.heap.size ≤ q → A q := fun q h => by rw [← hAe]; exact Or.inr h
  have hS : va_S A s.heap s.heap [] := va_S.rf
  have hP : va_P (dC, dI) vwCl [(xo_8_rrriirrriiiiiiirrirrrrri mo m_la m_sz m_it ms mt m_st m_mv m_tp (nI mz) ml (nI mp) mk mv mb mw m_rd m_ac (nI ma) m_as m_wo m_ik m_ke m_tr (nI mx)), (xI m_sz cI 8 fz)] s.heap := hP
  have hl := lv_entry ([.ref mo, .int (nI j), .int a0, .int (nI b)]) (n := 4) (Nat.le_of_ble_eq_true rfl)
  rw [lg_entry_eq]
  generalize (lg_sl ([.ref mo, .int (nI j), .int a0, .int (nI b)]) ++ List.replicate (4 - (lg_sl ([.ref mo, .int (nI j), .int a0, .int (nI b)])).length) Slot.unset).toArray = ls at hl ⊢
  have hl : lv_has ls 4 [(0, .ref mo), (1, .int (nI j)), (2, .int a0), (3, .int (nI b))] := hl
  refine lv_aload_n hx hb dX8_lacks_0 rfl (lv_at hl 0 rfl) ?_
  refine va_get (D := (dC, dI)) (ci := 8) (v := .ref m_sz) (C := RX8) (T := TX8) (N := 24) hx hb hts i_X8_lacks_X8 hown hK hP 0 rfl rfl 1 (by decide) (hts _ mx_X8_lacks_1) (fun _ h9 => h9) rfl dX8_lacks_1 ?_
  refine lv_iload_n hx hb dX8_lacks_4 rfl (lv_at hl 1 rfl) ?_
  refine va_iald hx hb hK hP 1 0 rfl rfl (vp_in_nI (by omega) (by omega)) dX8_lacks_5 ?_
  refine lv_topi (fun v_1 e_1 => ?_)
  rw [nI_clamp (by omega)] at e_1
  rcases hsz9 j (by omega) with hs_1 | ⟨q_1, hq_1, hs_1⟩
  · obtain rfl : v_1 = -1 := e_1.trans hs_1
    refine lv_if_ge (tgt := 15) hx hb dX8_lacks_6 (by decide) (fun c_ => absurd c_ (by decide)) (fun _ => ?_)
    refine lv_aload_n hx hb dX8_lacks_9 rfl (lv_at hl 0 rfl) ?_
    refine lv_iconst (v := 1) hx hb dX8_lacks_10 (by decide) ?_
    have hc_3 := cutW (wc := [(xo_8_rrriirrriiiiiiirrirrrrri mo m_la m_sz m_it ms mt m_st m_mv m_tp (nI mz) ml (nI mp) mk mv mb mw m_rd m_ac (nI ma) m_as m_wo m_ik m_ke m_tr (nI mx))]) hP hD hS hA [0] (by decide +kernel) rfl
    refine va_calli (va_runV (As := [.int 1]) (rest := []) ⟨hx, hb, hml, hown, hts⟩ (r_X8_find l dC dI cI cZ cL cJ s.heap.size mo m_la m_sz m_it m_st m_mv m_tp m_rd m_ac m_as m_wo m_ik m_ke m_tr ms mt ml mk mv mb mw mz mp ma mx 1 ) (cwV 1 hts gX8_lacks_X8_find rfl rfl rfl (by decide +kernel) ⟨Nat.le_of_ble_eq_true rfl, Nat.le_of_ble_eq_true rfl⟩) (pvW 8 0 hK hP rfl rfl hc_3) rfl rfl hl.1 rfl (lv_room (Nat.le_of_ble_eq_true rfl)) dX8_lacks_11 ⟨Nat.le_of_ble_eq_true rfl, Nat.le_of_ble_eq_true rfl⟩) hS (fun q _ h => hc_3.2.2 q h) hc_3.2.2 (fun r_3 u_3 t_3 H1 locs ht hvm h_3 hB hz1 hk1 hS => ?_)
    refine xl_1_3 hB (fun msn_3 hP1 hD1 hF_3_0 => ?_)
    clear hB
    rw [ht] at hP1
    obtain ⟨hP, hD⟩ := va_join (wr := [(xI m_sz cI 8 fz)]) (w1 := [(xo_8_rrriirrriiiiiiirrirrrrri mo m_la m_sz m_it msn_3 mt m_st m_mv m_tp (nI mz) ml (nI mp) mk mv mb mw m_rd m_ac (nI ma) m_as m_wo m_ik m_ke m_tr (nI mx))]) hP hD [0] [1] rfl rfl (by decide +kernel) (by decide +kernel) hk1 hc_3.2.2 hP1 hD1
    generalize H1 = H at hP hS ⊢
    have hP : va_P (dC, dI) vwCl [(xI m_sz cI 8 fz), (xo_8_rrriirrriiiiiiirrirrrrri mo m_la m_sz m_it msn_3 mt m_st m_mv m_tp (nI mz) ml (nI mp) mk mv mb mw m_rd m_ac (nI ma) m_as m_wo m_ik m_ke m_tr (nI mx))] H := hP
    have hD := dto hP hD
    have hX9 := cut2 (wc := [(xo_8_rrriirrriiiiiiirrirrrrri mo m_la m_sz m_it msn_3 mt m_st m_mv m_tp (nI mz) ml (nI mp) mk mv mb mw m_rd m_ac (nI ma) m_as m_wo m_ik m_ke m_tr (nI mx)), (xI m_sz cI 8 fz)]) hP hD [1, 0] (by decide +kernel) rfl
    exact W.iret (v := r_3) hx hb hr (fun t ht hW => ⟨⟨r_3, (), rfl, Or.inr (Or.inl ⟨h_3.trans (by decide), (lf_X8_lacks_2 hsz9 hj hb12 hs_1 hF_3_0 h_3)⟩), ⟨msn_3, va_Ht ht hX9.1, hX9.2, (lf_X8_lacks_1 hsz9 hj hb12 hs_1 hF_3_0 h_3)⟩⟩, hS.F ht⟩) hS.2.2 dX8_lacks_14
  · obtain rfl : v_1 = nI q_1 := e_1.trans hs_1
    refine lv_if_ge (tgt := 15) hx hb dX8_lacks_6 (by decide) (fun _ => ?_) (fun c_ => absurd ((nI_leI (a := 0) (b := q_1) (by omega) (by omega)).mpr (by omega)) c_)
    refine lv_iload_n hx hb dX8_lacks_15 rfl (lv_at hl 2 rfl) ?_
    refine lv_i2l hx hb dX8_lacks_16 rfl ?_
    refine lv_lconst (v := 0) hx hb dX8_lacks_17 (by decide) ?_
    refine lv_aload_n hx hb dX8_lacks_18 rfl (lv_at hl 0 rfl) ?_
    refine va_get (D := (dC, dI)) (ci := 8) (v := .ref m_sz) (C := RX8) (T := TX8) (N := 24) hx hb hts i_X8_lacks_X8 hown hK hP 0 rfl rfl 1 (by decide) (hts _ mx_X8_lacks_1) (fun _ h9 => h9) rfl dX8_lacks_19 ?_
    refine lv_iload_n hx hb dX8_lacks_22 rfl (lv_at hl 1 rfl) ?_
    refine va_iald hx hb hK hP 1 0 rfl rfl (vp_in_nI (by omega) (by omega)) dX8_lacks_23 ?_
    refine lv_topi (fun v_5 e_5 => ?_)
    obtain rfl : v_5 = (nI q_1) := e_5.trans (by rw [nI_clamp (by omega)]; exact hs_1)
    refine lv_iload_n hx hb dX8_lacks_24 rfl (lv_at hl 3 rfl) ?_
    refine lv_isub hx hb dX8_lacks_25 ?_
    refine lv_topi (fun v_6 e_6 => ?_)
    refine lv_i2l hx hb dX8_lacks_26 rfl ?_
    have hPc_7 := hP.sub (ws' := []) [] rfl
    refine vp_callSi (W.runS (As := [.long (a0).toInt64, .long 0, .long (v_6).toInt64]) (rest := []) ⟨hx, hb, hml, hown, hts⟩ (r_X8_in l dC dI cI cZ cL cJ ((a0).toInt64) 0 ((v_6).toInt64) ) (va_cwS 3 hts gX8_lacks_X8_in rfl rfl rfl (by decide +kernel) ⟨Nat.le_of_ble_eq_true rfl, Nat.le_of_ble_eq_true rfl⟩) (psP hK hPc_7) rfl rfl hl.1 rfl (lv_room (Nat.le_of_ble_eq_true rfl)) dX8_lacks_27 ⟨Nat.le_of_ble_eq_true rfl, Nat.le_of_ble_eq_true rfl⟩) (fun r_7 h_7 => ?_)
    rcases h_7 with ⟨h_7, f_7_0_0⟩ | ⟨h_7, f_7_1_0⟩
    · subst h_7
      have q_7 : (a0 < 0 ∨ v_6 < a0) := (in32 (x := a0) (l := 0) (u := v_6) (by decide) rfl).mp f_7_0_0
      refine lv_if_eq (tgt := 37) hx hb dX8_lacks_30 (by decide) (fun _ => ?_) (fun c_ => absurd (by decide) c_)
      refine lv_aload_n hx hb dX8_lacks_37 rfl (lv_at hl 0 rfl) ?_
      refine lv_iconst (v := 2) hx hb dX8_lacks_38 (by decide) ?_
      have hc_9 := cutW (wc := [(xo_8_rrriirrriiiiiiirrirrrrri mo m_la m_sz m_it ms mt m_st m_mv m_tp (nI mz) ml (nI mp) mk mv mb mw m_rd m_ac (nI ma) m_as m_wo m_ik m_ke m_tr (nI mx))]) hP hD hS hA [0] (by decide +kernel) rfl
      refine va_calli (va_runV (As := [.int 2]) (rest := []) ⟨hx, hb, hml, hown, hts⟩ (r_X8_find l dC dI cI cZ cL cJ s.heap.size mo m_la m_sz m_it m_st m_mv m_tp m_rd m_ac m_as m_wo m_ik m_ke m_tr ms mt ml mk mv mb mw mz mp ma mx 2 ) (cwV 1 hts gX8_lacks_X8_find rfl rfl rfl (by decide +kernel) ⟨Nat.le_of_ble_eq_true rfl, Nat.le_of_ble_eq_true rfl⟩) (pvW 8 0 hK hP rfl rfl hc_9) rfl rfl hl.1 rfl (lv_room (Nat.le_of_ble_eq_true rfl)) dX8_lacks_39 ⟨Nat.le_of_ble_eq_true rfl, Nat.le_of_ble_eq_true rfl⟩) hS (fun q _ h => hc_9.2.2 q h) hc_9.2.2 (fun r_9 u_9 t_9 H1 locs ht hvm h_9 hB hz1 hk1 hS => ?_)
      refine xl_1_3 hB (fun msn_9 hP1 hD1 hF_9_0 => ?_)
      clear hB
      rw [ht] at hP1
      obtain ⟨hP, hD⟩ := va_join (wr := [(xI m_sz cI 8 fz)]) (w1 := [(xo_8_rrriirrriiiiiiirrirrrrri mo m_la m_sz m_it msn_9 mt m_st m_mv m_tp (nI mz) ml (nI mp) mk mv mb mw m_rd m_ac (nI ma) m_as m_wo m_ik m_ke m_tr (nI mx))]) hP hD [0] [1] rfl rfl (by decide +kernel) (by decide +kernel) hk1 hc_9.2.2 hP1 hD1
      generalize H1 = H at hP hS ⊢
      have hP : va_P (dC, dI) vwCl [(xI m_sz cI 8 fz), (xo_8_rrriirrriiiiiiirrirrrrri mo m_la m_sz m_it msn_9 mt m_st m_mv m_tp (nI mz) ml (nI mp) mk mv mb mw m_rd m_ac (nI ma) m_as m_wo m_ik m_ke m_tr (nI mx))] H := hP
      have hD := dto hP hD
      have hX9 := cut2 (wc := [(xo_8_rrriirrriiiiiiirrirrrrri mo m_la m_sz m_it msn_9 mt m_st m_mv m_tp (nI mz) ml (nI mp) mk mv mb mw m_rd m_ac (nI ma) m_as m_wo m_ik m_ke m_tr (nI mx)), (xI m_sz cI 8 fz)]) hP hD [1, 0] (by decide +kernel) rfl
      exact W.iret (v := r_9) hx hb hr (fun t ht hW => ⟨⟨r_9, (), rfl, Or.inr (Or.inr ⟨h_9.trans (by decide), (lf_X8_lacks_4 hsz9 hj hb12 hs_1 hq_1 e_6 f_7_0_0 q_7 hF_9_0 h_9), (lf_X8_lacks_5 hsz9 hj hb12 hs_1 hq_1 e_6 f_7_0_0 q_7 hF_9_0 h_9)⟩), ⟨msn_9, va_Ht ht hX9.1, hX9.2, (lf_X8_lacks_3 hsz9 hj hb12 hs_1 hq_1 e_6 f_7_0_0 q_7 hF_9_0 h_9)⟩⟩, hS.F ht⟩) hS.2.2 dX8_lacks_42
    · subst h_7
      have q_7 : ¬ (a0 < 0 ∨ v_6 < a0) := fun q_ => f_7_1_0 ((in32 (x := a0) (l := 0) (u := v_6) (by decide) rfl).mpr q_)
      have hd_7 := dif_in (q := q_1) (b := b) (by omega) (by omega) e_6 f_7_1_0
      refine lv_if_eq (tgt := 37) hx hb dX8_lacks_30 (by decide) (fun c_ => absurd c_ (by decide)) (fun _ => ?_)
      refine lv_iconst (v := 0) hx hb dX8_lacks_33 (by decide) ?_
      refine lv_goto (tgt := 42) hx hb dX8_lacks_34 (by decide) ?_
      have hX9 := cut2 (wc := [(xo_8_rrriirrriiiiiiirrirrrrri mo m_la m_sz m_it ms mt m_st m_mv m_tp (nI mz) ml (nI mp) mk mv mb mw m_rd m_ac (nI ma) m_as m_wo m_ik m_ke m_tr (nI mx)), (xI m_sz cI 8 fz)]) hP hD [0, 1] (by decide +kernel) rfl
      exact W.iret (v := 0) hx hb hr (fun t ht hW => ⟨⟨0, (), rfl, Or.inl ⟨rfl, (lf_X8_lacks_7 hsz9 hj hb12 hs_1 hq_1 e_6 f_7_1_0 q_7), (lf_X8_lacks_8 hsz9 hj hb12 hs_1 hq_1 e_6 f_7_1_0 q_7), hd_7⟩, ⟨ms, va_Ht ht hX9.1, hX9.2, (lf_X8_lacks_6 hsz9 hj hb12 hs_1 hq_1 e_6 f_7_1_0 q_7)⟩⟩, hS.F ht⟩) hS.2.2 dX8_lacks_42
theorem lf_X8_isSo_1 {fs : Nat → Int32} {w9 : Nat} {k9 : Nat} {h9 : Nat} {fi_ : Nat → Int32} {i : Nat} {a : Nat} {b : Nat} {w_16 : Nat} {w_17 : Nat → Int32} {ii : Nat} {fsn_36 : Nat → Int32} {v_38 : Int32} (hM : okM fs w9 k9 h9) (hw1 : 1 ≤ w9) (hh9 : h9 < 1000000000) (hi : i < 6) (hab : a + b ≤ 320) (hii : ii < b) (haf_0 : (w_17 = mGo ii fs)) (haf_1 : (w_16 = 1 ↔ ftB (m38 fs) i (fun uq => fi_ (a + uq)) ii = true)) (hnb_w_16 : w_16 ≤ 1) (hMl : okM w_17 w9 k9 (h9 + ii)) (hF_36_0 : okM fsn_36 w9 k9 ((h9 + ii) + 1)) (hF_36_1 : fsn_36 = mH w_17) (e_38 : v_38 = fsn_36 (26 + i)) (c_39 : ¬ (v_38 = 0)) (c_40 : w_16 = 0) : fsn_36 = mGo (ii + 1) fs := by
  exact hF_36_1.trans (congrArg mH haf_0)
theorem lf_X8_isSo_2 {fs : Nat → Int32} {w9 : Nat} {k9 : Nat} {h9 : Nat} {fi_ : Nat → Int32} {i : Nat} {a : Nat} {b : Nat} {w_16 : Nat} {w_17 : Nat → Int32} {ii : Nat} {fsn_36 : Nat → Int32} {v_38 : Int32} (hM : okM fs w9 k9 h9) (hw1 : 1 ≤ w9) (hh9 : h9 < 1000000000) (hi : i < 6) (hab : a + b ≤ 320) (hii : ii < b) (haf_0 : (w_17 = mGo ii fs)) (haf_1 : (w_16 = 1 ↔ ftB (m38 fs) i (fun uq => fi_ (a + uq)) ii = true)) (hnb_w_16 : w_16 ≤ 1) (hMl : okM w_17 w9 k9 (h9 + ii)) (hF_36_0 : okM fsn_36 w9 k9 ((h9 + ii) + 1)) (hF_36_1 : fsn_36 = mH w_17) (e_38 : v_38 = fsn_36 (26 + i)) (c_39 : ¬ (v_38 = 0)) (c_40 : w_16 = 0) : 0 = 1 ↔ ftB (m38 fs) i (fun uq => fi_ (a + uq)) (ii + 1) = true := by
  exact so_0 haf_1 c_40
theorem lf_X8_isSo_3 {fs : Nat → Int32} {w9 : Nat} {k9 : Nat} {h9 : Nat} {fi_ : Nat → Int32} {i : Nat} {a : Nat} {b : Nat} {w_16 : Nat} {w_17 : Nat → Int32} {ii : Nat} {fsn_36 : Nat → Int32} {v_38 : Int32} {v_42 : Int32} (hM : okM fs w9 k9 h9) (hw1 : 1 ≤ w9) (hh9 : h9 < 1000000000) (hi : i < 6) (hab : a + b ≤ 320) (hii : ii < b) (haf_0 : (w_17 = mGo ii fs)) (haf_1 : (w_16 = 1 ↔ ftB (m38 fs) i (fun uq => fi_ (a + uq)) ii = true)) (hnb_w_16 : w_16 ≤ 1) (hMl : okM w_17 w9 k9 (h9 + ii)) (hF_36_0 : okM fsn_36 w9 k9 ((h9 + ii) + 1)) (hF_36_1 : fsn_36 = mH w_17) (e_38 : v_38 = fsn_36 (26 + i)) (c_39 : ¬ (v_38 = 0)) (c_40 : ¬ (w_16 = 0)) (e_42 : v_42 = fi_ (a + ii)) (c_43 : ¬ (v_42 = 99)) : fsn_36 = mGo (ii + 1) fs := by
  exact hF_36_1.trans (congrArg mH haf_0)
theorem lf_X8_isSo_4 {fs : Nat → Int32} {w9 : Nat} {k9 : Nat} {h9 : Nat} {fi_ : Nat → Int32} {i : Nat} {a : Nat} {b : Nat} {w_16 : Nat} {w_17 : Nat → Int32} {ii : Nat} {fsn_36 : Nat → Int32} {v_38 : Int32} {v_42 : Int32} (hM : okM fs w9 k9 h9) (hw1 : 1 ≤ w9) (hh9 : h9 < 1000000000) (hi : i < 6) (hab : a + b ≤ 320) (hii : ii < b) (haf_0 : (w_17 = mGo ii fs)) (haf_1 : (w_16 = 1 ↔ ftB (m38 fs) i (fun uq => fi_ (a + uq)) ii = true)) (hnb_w_16 : w_16 ≤ 1) (hMl : okM w_17 w9 k9 (h9 + ii)) (hF_36_0 : okM fsn_36 w9 k9 ((h9 + ii) + 1)) (hF_36_1 : fsn_36 = mH w_17) (e_38 : v_38 = fsn_36 (26 + i)) (c_39 : ¬ (v_38 = 0)) (c_40 : ¬ (w_16 = 0)) (e_42 : v_42 = fi_ (a + ii)) (c_43 : ¬ (v_42 = 99)) : 0 = 1 ↔ ftB (m38 fs) i (fun uq => fi_ (a + uq)) (ii + 1) = true := by
  first
  | exact so_0 haf_1 c_40
  | exact so_n ((so_99 (G := (fun uq => fi_ (a + uq))) (soM_h hM hw1 hi (hF_36_1.trans (congrArg mH haf_0))) e_38 c_39 e_42).2 c_43)
  | exact so_y haf_1 hnb_w_16 c_40 ((so_99 (G := (fun uq => fi_ (a + uq))) (soM_h hM hw1 hi (hF_36_1.trans (congrArg mH haf_0))) e_38 c_39 e_42).1 c_43)
theorem lf_X8_isSo_5 {fs : Nat → Int32} {w9 : Nat} {k9 : Nat} {h9 : Nat} {fi_ : Nat → Int32} {i : Nat} {a : Nat} {b : Nat} {w_16 : Nat} {w_17 : Nat → Int32} {ii : Nat} {fsn_36 : Nat → Int32} {v_38 : Int32} {v_42 : Int32} (hM : okM fs w9 k9 h9) (hw1 : 1 ≤ w9) (hh9 : h9 < 1000000000) (hi : i < 6) (hab : a + b ≤ 320) (hii : ii < b) (haf_0 : (w_17 = mGo ii fs)) (haf_1 : (w_16 = 1 ↔ ftB (m38 fs) i (fun uq => fi_ (a + uq)) ii = true)) (hnb_w_16 : w_16 ≤ 1) (hMl : okM w_17 w9 k9 (h9 + ii)) (hF_36_0 : okM fsn_36 w9 k9 ((h9 + ii) + 1)) (hF_36_1 : fsn_36 = mH w_17) (e_38 : v_38 = fsn_36 (26 + i)) (c_39 : ¬ (v_38 = 0)) (c_40 : ¬ (w_16 = 0)) (e_42 : v_42 = fi_ (a + ii)) (c_43 : v_42 = 99) : fsn_36 = mGo (ii + 1) fs := by
  exact hF_36_1.trans (congrArg mH haf_0)
theorem lf_X8_isSo_6 {fs : Nat → Int32} {w9 : Nat} {k9 : Nat} {h9 : Nat} {fi_ : Nat → Int32} {i : Nat} {a : Nat} {b : Nat} {w_16 : Nat} {w_17 : Nat → Int32} {ii : Nat} {fsn_36 : Nat → Int32} {v_38 : Int32} {v_42 : Int32} (hM : okM fs w9 k9 h9) (hw1 : 1 ≤ w9) (hh9 : h9 < 1000000000) (hi : i < 6) (hab : a + b ≤ 320) (hii : ii < b) (haf_0 : (w_17 = mGo ii fs)) (haf_1 : (w_16 = 1 ↔ ftB (m38 fs) i (fun uq => fi_ (a + uq)) ii = true)) (hnb_w_16 : w_16 ≤ 1) (hMl : okM w_17 w9 k9 (h9 + ii)) (hF_36_0 : okM fsn_36 w9 k9 ((h9 + ii) + 1)) (hF_36_1 : fsn_36 = mH w_17) (e_38 : v_38 = fsn_36 (26 + i)) (c_39 : ¬ (v_38 = 0)) (c_40 : ¬ (w_16 = 0)) (e_42 : v_42 = fi_ (a + ii)) (c_43 : v_42 = 99) : 1 = 1 ↔ ftB (m38 fs) i (fun uq => fi_ (a + uq)) (ii + 1) = true := by
  first
  | exact so_0 haf_1 c_40
  | exact so_n ((so_99 (G := (fun uq => fi_ (a + uq))) (soM_h hM hw1 hi (hF_36_1.trans (congrArg mH haf_0))) e_38 c_39 e_42).2 c_43)
  | exact so_y haf_1 hnb_w_16 c_40 ((so_99 (G := (fun uq => fi_ (a + uq))) (soM_h hM hw1 hi (hF_36_1.trans (congrArg mH haf_0))) e_38 c_39 e_42).1 c_43)
theorem lf_X8_isSo_7 {fs : Nat → Int32} {w9 : Nat} {k9 : Nat} {h9 : Nat} {fi_ : Nat → Int32} {i : Nat} {a : Nat} {b : Nat} {w_16 : Nat} {w_17 : Nat → Int32} {ii : Nat} {fsn_36 : Nat → Int32} {v_38 : Int32} {v_45 : Int32} (hM : okM fs w9 k9 h9) (hw1 : 1 ≤ w9) (hh9 : h9 < 1000000000) (hi : i < 6) (hab : a + b ≤ 320) (hii : ii < b) (haf_0 : (w_17 = mGo ii fs)) (haf_1 : (w_16 = 1 ↔ ftB (m38 fs) i (fun uq => fi_ (a + uq)) ii = true)) (hnb_w_16 : w_16 ≤ 1) (hMl : okM w_17 w9 k9 (h9 + ii)) (hF_36_0 : okM fsn_36 w9 k9 ((h9 + ii) + 1)) (hF_36_1 : fsn_36 = mH w_17) (e_38 : v_38 = fsn_36 (26 + i)) (c_39 : v_38 = 0) (e_45 : v_45 = fsn_36 (20 + i)) (c_46 : w_16 = 0) : fsn_36 = mGo (ii + 1) fs := by
  exact hF_36_1.trans (congrArg mH haf_0)
theorem lf_X8_isSo_8 {fs : Nat → Int32} {w9 : Nat} {k9 : Nat} {h9 : Nat} {fi_ : Nat → Int32} {i : Nat} {a : Nat} {b : Nat} {w_16 : Nat} {w_17 : Nat → Int32} {ii : Nat} {fsn_36 : Nat → Int32} {v_38 : Int32} {v_45 : Int32} (hM : okM fs w9 k9 h9) (hw1 : 1 ≤ w9) (hh9 : h9 < 1000000000) (hi : i < 6) (hab : a + b ≤ 320) (hii : ii < b) (haf_0 : (w_17 = mGo ii fs)) (haf_1 : (w_16 = 1 ↔ ftB (m38 fs) i (fun uq => fi_ (a + uq)) ii = true)) (hnb_w_16 : w_16 ≤ 1) (hMl : okM w_17 w9 k9 (h9 + ii)) (hF_36_0 : okM fsn_36 w9 k9 ((h9 + ii) + 1)) (hF_36_1 : fsn_36 = mH w_17) (e_38 : v_38 = fsn_36 (26 + i)) (c_39 : v_38 = 0) (e_45 : v_45 = fsn_36 (20 + i)) (c_46 : w_16 = 0) : 0 = 1 ↔ ftB (m38 fs) i (fun uq => fi_ (a + uq)) (ii + 1) = true := by
  exact so_0 haf_1 c_46
theorem lf_X8_isSo_9 {fs : Nat → Int32} {w9 : Nat} {k9 : Nat} {h9 : Nat} {fi_ : Nat → Int32} {i : Nat} {a : Nat} {b : Nat} {w_16 : Nat} {w_17 : Nat → Int32} {ii : Nat} {fsn_36 : Nat → Int32} {v_38 : Int32} {v_45 : Int32} {v_48 : Int32} (hM : okM fs w9 k9 h9) (hw1 : 1 ≤ w9) (hh9 : h9 < 1000000000) (hi : i < 6) (hab : a + b ≤ 320) (hii : ii < b) (haf_0 : (w_17 = mGo ii fs)) (haf_1 : (w_16 = 1 ↔ ftB (m38 fs) i (fun uq => fi_ (a + uq)) ii = true)) (hnb_w_16 : w_16 ≤ 1) (hMl : okM w_17 w9 k9 (h9 + ii)) (hF_36_0 : okM fsn_36 w9 k9 ((h9 + ii) + 1)) (hF_36_1 : fsn_36 = mH w_17) (e_38 : v_38 = fsn_36 (26 + i)) (c_39 : v_38 = 0) (e_45 : v_45 = fsn_36 (20 + i)) (c_46 : ¬ (w_16 = 0)) (e_48 : v_48 = fi_ (a + ii)) (c_49 : ¬ (v_48 = v_45)) : fsn_36 = mGo (ii + 1) fs := by
  exact hF_36_1.trans (congrArg mH haf_0)
theorem lf_X8_isSo_10 {fs : Nat → Int32} {w9 : Nat} {k9 : Nat} {h9 : Nat} {fi_ : Nat → Int32} {i : Nat} {a : Nat} {b : Nat} {w_16 : Nat} {w_17 : Nat → Int32} {ii : Nat} {fsn_36 : Nat → Int32} {v_38 : Int32} {v_45 : Int32} {v_48 : Int32} (hM : okM fs w9 k9 h9) (hw1 : 1 ≤ w9) (hh9 : h9 < 1000000000) (hi : i < 6) (hab : a + b ≤ 320) (hii : ii < b) (haf_0 : (w_17 = mGo ii fs)) (haf_1 : (w_16 = 1 ↔ ftB (m38 fs) i (fun uq => fi_ (a + uq)) ii = true)) (hnb_w_16 : w_16 ≤ 1) (hMl : okM w_17 w9 k9 (h9 + ii)) (hF_36_0 : okM fsn_36 w9 k9 ((h9 + ii) + 1)) (hF_36_1 : fsn_36 = mH w_17) (e_38 : v_38 = fsn_36 (26 + i)) (c_39 : v_38 = 0) (e_45 : v_45 = fsn_36 (20 + i)) (c_46 : ¬ (w_16 = 0)) (e_48 : v_48 = fi_ (a + ii)) (c_49 : ¬ (v_48 = v_45)) : 0 = 1 ↔ ftB (m38 fs) i (fun uq => fi_ (a + uq)) (ii + 1) = true := by
  first
  | exact so_0 haf_1 c_46
  | exact so_n ((so_at (G := (fun uq => fi_ (a + uq))) (soM_h hM hw1 hi (hF_36_1.trans (congrArg mH haf_0))) e_38 c_39 e_45 e_48).2 c_49)
  | exact so_y haf_1 hnb_w_16 c_46 ((so_at (G := (fun uq => fi_ (a + uq))) (soM_h hM hw1 hi (hF_36_1.trans (congrArg mH haf_0))) e_38 c_39 e_45 e_48).1 c_49)
theorem lf_X8_isSo_11 {fs : Nat → Int32} {w9 : Nat} {k9 : Nat} {h9 : Nat} {fi_ : Nat → Int32} {i : Nat} {a : Nat} {b : Nat} {w_16 : Nat} {w_17 : Nat → Int32} {ii : Nat} {fsn_36 : Nat → Int32} {v_38 : Int32} {v_45 : Int32} {v_48 : Int32} (hM : okM fs w9 k9 h9) (hw1 : 1 ≤ w9) (hh9 : h9 < 1000000000) (hi : i < 6) (hab : a + b ≤ 320) (hii : ii < b) (haf_0 : (w_17 = mGo ii fs)) (haf_1 : (w_16 = 1 ↔ ftB (m38 fs) i (fun uq => fi_ (a + uq)) ii = true)) (hnb_w_16 : w_16 ≤ 1) (hMl : okM w_17 w9 k9 (h9 + ii)) (hF_36_0 : okM fsn_36 w9 k9 ((h9 + ii) + 1)) (hF_36_1 : fsn_36 = mH w_17) (e_38 : v_38 = fsn_36 (26 + i)) (c_39 : v_38 = 0) (e_45 : v_45 = fsn_36 (20 + i)) (c_46 : ¬ (w_16 = 0)) (e_48 : v_48 = fi_ (a + ii)) (c_49 : v_48 = v_45) : fsn_36 = mGo (ii + 1) fs := by
  exact hF_36_1.trans (congrArg mH haf_0)
theorem lf_X8_isSo_12 {fs : Nat → Int32} {w9 : Nat} {k9 : Nat} {h9 : Nat} {fi_ : Nat → Int32} {i : Nat} {a : Nat} {b : Nat} {w_16 : Nat} {w_17 : Nat → Int32} {ii : Nat} {fsn_36 : Nat → Int32} {v_38 : Int32} {v_45 : Int32} {v_48 : Int32} (hM : okM fs w9 k9 h9) (hw1 : 1 ≤ w9) (hh9 : h9 < 1000000000) (hi : i < 6) (hab : a + b ≤ 320) (hii : ii < b) (haf_0 : (w_17 = mGo ii fs)) (haf_1 : (w_16 = 1 ↔ ftB (m38 fs) i (fun uq => fi_ (a + uq)) ii = true)) (hnb_w_16 : w_16 ≤ 1) (hMl : okM w_17 w9 k9 (h9 + ii)) (hF_36_0 : okM fsn_36 w9 k9 ((h9 + ii) + 1)) (hF_36_1 : fsn_36 = mH w_17) (e_38 : v_38 = fsn_36 (26 + i)) (c_39 : v_38 = 0) (e_45 : v_45 = fsn_36 (20 + i)) (c_46 : ¬ (w_16 = 0)) (e_48 : v_48 = fi_ (a + ii)) (c_49 : v_48 = v_45) : 1 = 1 ↔ ftB (m38 fs) i (fun uq => fi_ (a + uq)) (ii + 1) = true := by
  first
  | exact so_0 haf_1 c_46
  | exact so_n ((so_at (G := (fun uq => fi_ (a + uq))) (soM_h hM hw1 hi (hF_36_1.trans (congrArg mH haf_0))) e_38 c_39 e_45 e_48).2 c_49)
  | exact so_y haf_1 hnb_w_16 c_46 ((so_at (G := (fun uq => fi_ (a + uq))) (soM_h hM hw1 hi (hF_36_1.trans (congrArg mH haf_0))) e_38 c_39 e_45 e_48).1 c_49)
set_option maxHeartbeats 4000000 in
set_option maxRecDepth 100000 in
theorem r_X8_isSo (l : Launch) (dC : Nat → ClassId) (dI : Nat → Nat → Nat) (cI cZ cL cJ : ClassId) (sz : Nat) (mo : Nat) (m_la : Nat) (m_sz : Nat) (m_it : Nat) (m_st : Nat) (m_mv : Nat) (m_tp : Nat) (m_rd : Nat) (m_ac : Nat) (m_as : Nat) (m_wo : Nat) (m_ik : Nat) (m_ke : Nat) (m_tr : Nat) (ms : Int32) (mt : Int32) (ml : Int32) (mk : Int32) (mv : Int32) (mb : Int32) (mw : Int32) (mz : Nat) (mp : Nat) (ma : Nat) (mx : Nat) (fs : Nat → Int32) (w9 : Nat) (k9 : Nat) (h9 : Nat) (fa : Nat → Int32) (fi_ : Nat → Int32) (i : Nat) (a : Nat) (b : Nat) (hM : okM fs w9 k9 h9) (hw1 : 1 ≤ w9) (hh9 : h9 < 1000000000) (hi : i < 6) (hab : a + b ≤ 320) : Met l yX8_isSo wsX8_isSo ({ frames := 4, cells := 0, slots := 0, locals := 95 }) (va_Pc [.ref mo, .int (nI i), .int (nI a), .int (nI b)] (fun U => U.heap.size = sz ∧ va_P (dC, dI) vwCl [(xo_8_rrriirrriiiiiiirrirrrrri mo m_la m_sz m_it ms mt m_st m_mv m_tp (nI mz) ml (nI mp) mk mv mb mw m_rd m_ac (nI ma) m_as m_wo m_ik m_ke m_tr (nI mx)), (xI m_st cI 38 fs), (xI m_as cI 38 fa), (xI m_it cI 320 fi_)] U.heap ∧ va_K (dC, dI) vwCl [(cI, .int), (cZ, .boolean), (cL, .object RX3), (cJ, .array .int)] U ∧ va_D (fun _ => True) [(xo_8_rrriirrriiiiiiirrirrrrri mo m_la m_sz m_it ms mt m_st m_mv m_tp (nI mz) ml (nI mp) mk mv mb mw m_rd m_ac (nI ma) m_as m_wo m_ik m_ke m_tr (nI mx)), (xI m_st cI 38 fs), (xI m_as cI 38 fa), (xI m_it cI 320 fi_)])) (va_Qi (fun r (_ : Unit) => ∃ z : Nat, r = nI z ∧ z ≤ 1 ∧ (z = 1 ↔ ftB (m38 fs) i (fun uq => fi_ (a + uq)) b = true)) (fun (_ : Unit) t => ∃ (fsn : Nat → Int32), va_P (dC, dI) vwCl [(xo_8_rrriirrriiiiiiirrirrrrri mo m_la m_sz m_it ms mt m_st m_mv m_tp (nI mz) ml (nI mp) mk mv mb mw m_rd m_ac (nI ma) m_as m_wo m_ik m_ke m_tr (nI mx)), (xI m_st cI 38 fsn), (xI m_as cI 38 fa), (xI m_it cI 320 fi_)] t.heap ∧ va_D (va_A [(xo_8_rrriirrriiiiiiirrirrrrri mo m_la m_sz m_it ms mt m_st m_mv m_tp (nI mz) ml (nI mp) mk mv mb mw m_rd m_ac (nI ma) m_as m_wo m_ik m_ke m_tr (nI mx)), (xI m_st cI 38 fs), (xI m_as cI 38 fa), (xI m_it cI 320 fi_)] sz) [(xo_8_rrriirrriiiiiiirrirrrrri mo m_la m_sz m_it ms mt m_st m_mv m_tp (nI mz) ml (nI mp) mk mv mb mw m_rd m_ac (nI ma) m_as m_wo m_ik m_ke m_tr (nI mx)), (xI m_st cI 38 fsn), (xI m_as cI 38 fa), (xI m_it cI 320 fi_)] ∧ (∀ j : Nat, j < 38 → fsn j = fa j)) (va_A [(xo_8_rrriirrriiiiiiirrirrrrri mo m_la m_sz m_it ms mt m_st m_mv m_tp (nI mz) ml (nI mp) mk mv mb mw m_rd m_ac (nI ma) m_as m_wo m_ik m_ke m_tr (nI mx)), (xI m_st cI 38 fs), (xI m_as cI 38 fa), (xI m_it cI 320 fi_)] sz)) 0 0 (va_A [(xo_8_rrriirrriiiiiiirrirrrrri mo m_la m_sz m_it ms mt m_st m_mv m_tp (nI mz) ml (nI mp) mk mv mb mw m_rd m_ac (nI ma) m_as m_wo m_ik m_ke m_tr (nI mx)), (xI m_st cI 38 fs), (xI m_as cI 38 fa), (xI m_it cI 320 fi_)] sz) := by
  refine Met.ofW (cc := cX8_isSo) (maxL := 7) (ret := (some .boolean)) (by decide) rfl ?_
  intro p e s m args below meth c s₁ B hml hv
  obtain ⟨rfl, hsz, hP, hK, hD0⟩ := hv
  have hx := B.exec
  have hb := B.bytes
  have hr := B.returns
  have hts := atoms_spec (ws := wsX8_isSo) B.pre
  have hown : s.vm.findClass RX8 = some m.cls := findClass_of_methodNamed B.named
  have hlocks := B.notSynchronized
  subst hsz
  have hD := hD0.self (sz := s.heap.size)
  generalize hAe : va_A [(xo_8_rrriirrriiiiiiirrirrrrri mo m_la m_sz m_it ms mt m_st m_mv m_tp (nI mz) ml (nI mp) mk mv mb mw m_rd m_ac (nI ma) m_as m_wo m_ik m_ke m_tr (nI mx)), (xI m_st cI 38 fs), (xI m_as cI 38 fa), (xI m_it cI 320 fi_)] s.heap.size = A at hD ⊢
  have hA : ∀ q : Nat, s.heap.size ≤ q → A q := fun q h => by rw [← hAe]; exact Or.inr h
  have hS : va_S A s.heap s.heap [] := va_S.rf
  have hP : va_P (dC, dI) vwCl [(xo_8_rrriirrriiiiiiirrirrrrri mo m_la m_sz m_it ms mt m_st m_mv m_tp (nI mz) ml (nI mp) mk mv mb mw m_rd m_ac (nI ma) m_as m_wo m_ik m_ke m_tr (nI mx)), (xI m_st cI 38 fs), (xI m_as cI 38 fa), (xI m_it cI 320 fi_)] s.heap := hP
  have hl := lv_entry ([.ref mo, .int (nI i), .int (nI a), .int (nI b)]) (n := 7) (Nat.le_of_ble_eq_true rfl)
  rw [lg_entry_eq]
  generalize (lg_sl ([.ref mo, .int (nI i), .int (nI a), .int (nI b)]) ++ List.replicate (7 - (lg_sl ([.ref mo, .int (nI i), .int (nI a), .int (nI b)])).length) Slot.unset).toArray = ls at hl ⊢
  have hl : lv_has ls 7 [(0, .ref mo), (1, .int (nI i)), (2, .int (nI a)), (3, .int (nI b))] := hl
  have hk6 := hM.2.2.2.2.1
  have hw6 := hM.2.2.2.1
  refine lv_iconst (v := 1) hx hb dX8_isSo_0 (by decide) ?_
  refine lv_istore (lv' := [(4, .int 1), (0, .ref mo), (1, .int (nI i)), (2, .int (nI a)), (3, .int (nI b))]) hx hb dX8_isSo_1 hl (by decide) rfl (fun ls hl => ?_)
  refine lv_iconst (v := 0) hx hb dX8_isSo_3 (by decide) ?_
  refine lv_istore (lv' := [(5, .int 0), (4, .int 1), (0, .ref mo), (1, .int (nI i)), (2, .int (nI a)), (3, .int (nI b))]) hx hb dX8_isSo_4 hl (by decide) rfl (fun ls hl => ?_)
  refine lp_go (σ := (Nat) × (Nat → Int32)) (fun ii (st : (Nat) × (Nat → Int32)) H locs ls => match st with | (w_16, w_17) => lv_has ls 7 [(5, .int (nI ii)), (4, .int (nI w_16)), (0, .ref mo), (1, .int (nI i)), (2, .int (nI a)), (3, .int (nI b))] ∧ va_P (dC, dI) vwCl [(xo_8_rrriirrriiiiiiirrirrrrri mo m_la m_sz m_it ms mt m_st m_mv m_tp (nI mz) ml (nI mp) mk mv mb mw m_rd m_ac (nI ma) m_as m_wo m_ik m_ke m_tr (nI mx)), (xI m_st cI 38 w_17), (xI m_as cI 38 fa), (xI m_it cI 320 fi_)] H ∧ va_D A [(xo_8_rrriirrriiiiiiirrirrrrri mo m_la m_sz m_it ms mt m_st m_mv m_tp (nI mz) ml (nI mp) mk mv mb mw m_rd m_ac (nI ma) m_as m_wo m_ik m_ke m_tr (nI mx)), (xI m_st cI 38 w_17), (xI m_as cI 38 fa), (xI m_it cI 320 fi_)] ∧ va_S A s.heap H locs ∧ okM w_17 w9 k9 (h9 + ii) ∧ (w_17 = mGo ii fs) ∧ (w_16 = 1 ↔ ftB (m38 fs) i (fun uq => fi_ (a + uq)) ii = true) ∧ w_16 ≤ 1) b ?_ ?_ 0 (by omega) (1, fs) ⟨lv_sub hl [0, 1, 2, 3, 4, 5] rfl, hP.sub (ws' := [(xo_8_rrriirrriiiiiiirrirrrrri mo m_la m_sz m_it ms mt m_st m_mv m_tp (nI mz) ml (nI mp) mk mv mb mw m_rd m_ac (nI ma) m_as m_wo m_ik m_ke m_tr (nI mx)), (xI m_st cI 38 fs), (xI m_as cI 38 fa), (xI m_it cI 320 fi_)]) [0, 1, 2, 3] rfl, hD.sub (ws' := [(xo_8_rrriirrriiiiiiirrirrrrri mo m_la m_sz m_it ms mt m_st m_mv m_tp (nI mz) ml (nI mp) mk mv mb mw m_rd m_ac (nI ma) m_as m_wo m_ik m_ke m_tr (nI mx)), (xI m_st cI 38 fs), (xI m_as cI 38 fa), (xI m_it cI 320 fi_)]) [0, 1, 2, 3] (by decide +kernel) rfl, hS, hM, rfl, ⟨fun _ => rfl, fun _ => rfl⟩, (by omega)⟩
  · rintro ii ⟨w_16, w_17⟩ H locs ls hii ⟨hl, hP, hD, hS, hMl, haf_0, haf_1, hnb_w_16⟩ ih
    refine lv_iload hx hb dX8_isSo_6 (lv_at hl 0 rfl) ?_
    refine lv_iload_n hx hb dX8_isSo_8 rfl (lv_at hl 5 rfl) ?_
    refine lv_icmp_ge (tgt := 77) hx hb dX8_isSo_9 (by decide) (fun c_ => absurd c_ (fun q_ => absurd ((nI_leI (a := b) (b := ii) (by omega) (by omega)).mp q_) (by omega))) (fun _ => ?_)
    refine lv_aload_n hx hb dX8_isSo_12 rfl (lv_at hl 2 rfl) ?_
    have hc_36 := cutW (wc := [(xo_8_rrriirrriiiiiiirrirrrrri mo m_la m_sz m_it ms mt m_st m_mv m_tp (nI mz) ml (nI mp) mk mv mb mw m_rd m_ac (nI ma) m_as m_wo m_ik m_ke m_tr (nI mx)), (xI m_st cI 38 w_17)]) hP hD hS hA [0, 1] (by decide +kernel) rfl
    refine va_calli (va_runV (As := []) (rest := []) ⟨hx, hb, hml, hown, hts⟩ (r_X8_oneHour l dC dI cI cZ cL cJ H.size mo m_la m_sz m_it m_st m_mv m_tp m_rd m_ac m_as m_wo m_ik m_ke m_tr ms mt ml mk mv mb mw mz mp ma mx w_17 w9 k9 (h9 + ii) (hMl) (by omega) (by omega)) (cwV 0 hts gX8_isSo_X8_oneHour rfl rfl rfl (by decide +kernel) ⟨Nat.le_of_ble_eq_true rfl, Nat.le_of_ble_eq_true rfl⟩) (pvW 8 0 hK hP rfl rfl hc_36) rfl rfl hl.1 rfl (lv_room (Nat.le_of_ble_eq_true rfl)) dX8_isSo_13 ⟨Nat.le_of_ble_eq_true rfl, Nat.le_of_ble_eq_true rfl⟩) hS (fun q _ h => hc_36.2.2 q h) hc_36.2.2 (fun r_36 u_36 t_36 H1 locs ht hvm h_36 hB hz1 hk1 hS => ?_)
    refine xl_1_4 hB (fun fsn_36 hP1 hD1 hF_36_0 hF_36_1 => ?_)
    clear hB
    rw [ht] at hP1
    obtain ⟨hP, hD⟩ := va_join (wr := [(xI m_as cI 38 fa), (xI m_it cI 320 fi_)]) (w1 := [(xo_8_rrriirrriiiiiiirrirrrrri mo m_la m_sz m_it ms mt m_st m_mv m_tp (nI mz) ml (nI mp) mk mv mb mw m_rd m_ac (nI ma) m_as m_wo m_ik m_ke m_tr (nI mx)), (xI m_st cI 38 fsn_36)]) hP hD [0, 1] [2, 3] rfl rfl (by decide +kernel) (by decide +kernel) hk1 hc_36.2.2 hP1 hD1
    generalize H1 = H at hP hS ⊢
    have hP : va_P (dC, dI) vwCl [(xI m_as cI 38 fa), (xI m_it cI 320 fi_), (xo_8_rrriirrriiiiiiirrirrrrri mo m_la m_sz m_it ms mt m_st m_mv m_tp (nI mz) ml (nI mp) mk mv mb mw m_rd m_ac (nI ma) m_as m_wo m_ik m_ke m_tr (nI mx)), (xI m_st cI 38 fsn_36)] H := hP
    have hD := dto hP hD
    refine lv_pop hx hb dX8_isSo_16 rfl ?_
    refine lv_aload_n hx hb dX8_isSo_17 rfl (lv_at hl 2 rfl) ?_
    refine va_get (D := (dC, dI)) (ci := 8) (v := .ref m_st) (C := RX8) (T := TX8) (N := 24) hx hb hts i_X8_isSo_X8 hown hK hP 2 rfl rfl 5 (by decide) (hts _ mx_X8_isSo_1) (fun _ h9 => h9) rfl dX8_isSo_18 ?_
    refine lv_bipush (v := 26) hx hb dX8_isSo_21 (by decide) ?_
    refine lv_iload_n hx hb dX8_isSo_23 rfl (lv_at hl 3 rfl) ?_
    refine lv_iadd hx hb dX8_isSo_24 ?_
    refine lv_topi (fun v_37 e_37 => ?_)
    obtain rfl : v_37 = (nI (26 + i)) := (e_37).trans (nI_add 26 i)
    refine va_iald hx hb hK hP 3 0 rfl rfl (vp_in_nI (by omega) (by omega)) dX8_isSo_25 ?_
    refine lv_topi (fun v_38 e_38 => ?_)
    have e_38 : v_38 = fsn_36 (26 + i) := e_38.trans (congrArg fsn_36 (nI_clamp (by omega)))
    refine lv_if_ne (tgt := 41) hx hb dX8_isSo_26 (by decide) (fun c_39 => ?_) (fun c_39 => ?_)
    · skip
      refine lv_bipush (v := 99) hx hb dX8_isSo_41 (by decide) ?_
      refine lv_istore (lv' := [(6, .int 99), (5, .int (nI ii)), (4, .int (nI w_16)), (0, .ref mo), (1, .int (nI i)), (2, .int (nI a)), (3, .int (nI b))]) hx hb dX8_isSo_43 hl (by decide) rfl (fun ls hl => ?_)
      refine lv_iload hx hb dX8_isSo_45 (lv_at hl 2 rfl) ?_
      refine lv_if_eq (tgt := 68) hx hb dX8_isSo_47 (by decide) (fun c_40 => ?_) (fun c_40 => ?_)
      · have c_40 : w_16 = 0 := (nI_eq (a := w_16) (b := 0) (by omega) (by omega)).mp c_40
        refine lv_iconst (v := 0) hx hb dX8_isSo_68 (by decide) ?_
        refine lv_istore (lv' := [(4, .int 0), (6, .int 99), (5, .int (nI ii)), (0, .ref mo), (1, .int (nI i)), (2, .int (nI a)), (3, .int (nI b))]) hx hb dX8_isSo_69 hl (by decide) rfl (fun ls hl => ?_)
        refine lv_iinc (v := (nI (ii + 1))) (lv' := [(5, .int (nI (ii + 1))), (4, .int 0), (6, .int 99), (0, .ref mo), (1, .int (nI i)), (2, .int (nI a)), (3, .int (nI b))]) hx hb dX8_isSo_71 hl (k := 2) rfl (nI_add ii 1) (by decide) rfl (fun ls hl => ?_)
        refine lv_goto (tgt := 6) hx hb dX8_isSo_74 (by decide) ?_
        exact ih (0, fsn_36) _ _ _ ⟨lv_sub hl [0, 1, 3, 4, 5, 6] rfl, hP.sub (ws' := [(xo_8_rrriirrriiiiiiirrirrrrri mo m_la m_sz m_it ms mt m_st m_mv m_tp (nI mz) ml (nI mp) mk mv mb mw m_rd m_ac (nI ma) m_as m_wo m_ik m_ke m_tr (nI mx)), (xI m_st cI 38 fsn_36), (xI m_as cI 38 fa), (xI m_it cI 320 fi_)]) [2, 3, 0, 1] rfl, hD.sub (ws' := [(xo_8_rrriirrriiiiiiirrirrrrri mo m_la m_sz m_it ms mt m_st m_mv m_tp (nI mz) ml (nI mp) mk mv mb mw m_rd m_ac (nI ma) m_as m_wo m_ik m_ke m_tr (nI mx)), (xI m_st cI 38 fsn_36), (xI m_as cI 38 fa), (xI m_it cI 320 fi_)]) [2, 3, 0, 1] (by decide +kernel) rfl, hS, hF_36_0, (lf_X8_isSo_1 hM hw1 hh9 hi hab hii haf_0 haf_1 hnb_w_16 hMl hF_36_0 hF_36_1 e_38 c_39 c_40), (lf_X8_isSo_2 hM hw1 hh9 hi hab hii haf_0 haf_1 hnb_w_16 hMl hF_36_0 hF_36_1 e_38 c_39 c_40), (by omega)⟩
      · have c_40 : ¬ (w_16 = 0) := fun q_ => c_40 ((nI_eq (a := w_16) (b := 0) (by omega) (by omega)).mpr q_)
        refine lv_aload_n hx hb dX8_isSo_50 rfl (lv_at hl 3 rfl) ?_
        refine va_get (D := (dC, dI)) (ci := 8) (v := .ref m_it) (C := RX8) (T := TX8) (N := 24) hx hb hts i_X8_isSo_X8 hown hK hP 2 rfl rfl 2 (by decide) (hts _ mx_X8_isSo_2) (fun _ h9 => h9) rfl dX8_isSo_51 ?_
        refine lv_iload_n hx hb dX8_isSo_54 rfl (lv_at hl 5 rfl) ?_
        refine lv_iload hx hb dX8_isSo_55 (lv_at hl 1 rfl) ?_
        refine lv_iadd hx hb dX8_isSo_57 ?_
        refine lv_topi (fun v_41 e_41 => ?_)
        obtain rfl : v_41 = (nI (a + ii)) := (e_41).trans (nI_add a ii)
        refine va_iald hx hb hK hP 1 0 rfl rfl (vp_in_nI (by omega) (by omega)) dX8_isSo_58 ?_
        refine lv_topi (fun v_42 e_42 => ?_)
        have e_42 : v_42 = fi_ (a + ii) := e_42.trans (congrArg fi_ (nI_clamp (by omega)))
        refine lv_iload hx hb dX8_isSo_59 (lv_at hl 0 rfl) ?_
        refine lv_icmp_ne (tgt := 68) hx hb dX8_isSo_61 (by decide) (fun c_43 => ?_) (fun c_43 => ?_)
        · skip
          refine lv_iconst (v := 0) hx hb dX8_isSo_68 (by decide) ?_
          refine lv_istore (lv' := [(4, .int 0), (6, .int 99), (5, .int (nI ii)), (0, .ref mo), (1, .int (nI i)), (2, .int (nI a)), (3, .int (nI b))]) hx hb dX8_isSo_69 hl (by decide) rfl (fun ls hl => ?_)
          refine lv_iinc (v := (nI (ii + 1))) (lv' := [(5, .int (nI (ii + 1))), (4, .int 0), (6, .int 99), (0, .ref mo), (1, .int (nI i)), (2, .int (nI a)), (3, .int (nI b))]) hx hb dX8_isSo_71 hl (k := 2) rfl (nI_add ii 1) (by decide) rfl (fun ls hl => ?_)
          refine lv_goto (tgt := 6) hx hb dX8_isSo_74 (by decide) ?_
          exact ih (0, fsn_36) _ _ _ ⟨lv_sub hl [0, 1, 3, 4, 5, 6] rfl, hP.sub (ws' := [(xo_8_rrriirrriiiiiiirrirrrrri mo m_la m_sz m_it ms mt m_st m_mv m_tp (nI mz) ml (nI mp) mk mv mb mw m_rd m_ac (nI ma) m_as m_wo m_ik m_ke m_tr (nI mx)), (xI m_st cI 38 fsn_36), (xI m_as cI 38 fa), (xI m_it cI 320 fi_)]) [2, 3, 0, 1] rfl, hD.sub (ws' := [(xo_8_rrriirrriiiiiiirrirrrrri mo m_la m_sz m_it ms mt m_st m_mv m_tp (nI mz) ml (nI mp) mk mv mb mw m_rd m_ac (nI ma) m_as m_wo m_ik m_ke m_tr (nI mx)), (xI m_st cI 38 fsn_36), (xI m_as cI 38 fa), (xI m_it cI 320 fi_)]) [2, 3, 0, 1] (by decide +kernel) rfl, hS, hF_36_0, (lf_X8_isSo_3 hM hw1 hh9 hi hab hii haf_0 haf_1 hnb_w_16 hMl hF_36_0 hF_36_1 e_38 c_39 c_40 e_42 c_43), (lf_X8_isSo_4 hM hw1 hh9 hi hab hii haf_0 haf_1 hnb_w_16 hMl hF_36_0 hF_36_1 e_38 c_39 c_40 e_42 c_43), (by omega)⟩
        · skip
          refine lv_iconst (v := 1) hx hb dX8_isSo_64 (by decide) ?_
          refine lv_goto (tgt := 69) hx hb dX8_isSo_65 (by decide) ?_
          refine lv_istore (lv' := [(4, .int 1), (6, .int 99), (5, .int (nI ii)), (0, .ref mo), (1, .int (nI i)), (2, .int (nI a)), (3, .int (nI b))]) hx hb dX8_isSo_69 hl (by decide) rfl (fun ls hl => ?_)
          refine lv_iinc (v := (nI (ii + 1))) (lv' := [(5, .int (nI (ii + 1))), (4, .int 1), (6, .int 99), (0, .ref mo), (1, .int (nI i)), (2, .int (nI a)), (3, .int (nI b))]) hx hb dX8_isSo_71 hl (k := 2) rfl (nI_add ii 1) (by decide) rfl (fun ls hl => ?_)
          refine lv_goto (tgt := 6) hx hb dX8_isSo_74 (by decide) ?_
          exact ih (1, fsn_36) _ _ _ ⟨lv_sub hl [0, 1, 3, 4, 5, 6] rfl, hP.sub (ws' := [(xo_8_rrriirrriiiiiiirrirrrrri mo m_la m_sz m_it ms mt m_st m_mv m_tp (nI mz) ml (nI mp) mk mv mb mw m_rd m_ac (nI ma) m_as m_wo m_ik m_ke m_tr (nI mx)), (xI m_st cI 38 fsn_36), (xI m_as cI 38 fa), (xI m_it cI 320 fi_)]) [2, 3, 0, 1] rfl, hD.sub (ws' := [(xo_8_rrriirrriiiiiiirrirrrrri mo m_la m_sz m_it ms mt m_st m_mv m_tp (nI mz) ml (nI mp) mk mv mb mw m_rd m_ac (nI ma) m_as m_wo m_ik m_ke m_tr (nI mx)), (xI m_st cI 38 fsn_36), (xI m_as cI 38 fa), (xI m_it cI 320 fi_)]) [2, 3, 0, 1] (by decide +kernel) rfl, hS, hF_36_0, (lf_X8_isSo_5 hM hw1 hh9 hi hab hii haf_0 haf_1 hnb_w_16 hMl hF_36_0 hF_36_1 e_38 c_39 c_40 e_42 c_43), (lf_X8_isSo_6 hM hw1 hh9 hi hab hii haf_0 haf_1 hnb_w_16 hMl hF_36_0 hF_36_1 e_38 c_39 c_40 e_42 c_43), (by omega)⟩
    · skip
      refine lv_aload_n hx hb dX8_isSo_29 rfl (lv_at hl 2 rfl) ?_
      refine va_get (D := (dC, dI)) (ci := 8) (v := .ref m_st) (C := RX8) (T := TX8) (N := 24) hx hb hts i_X8_isSo_X8 hown hK hP 2 rfl rfl 5 (by decide) (hts _ mx_X8_isSo_1) (fun _ h9 => h9) rfl dX8_isSo_30 ?_
      refine lv_bipush (v := 20) hx hb dX8_isSo_33 (by decide) ?_
      refine lv_iload_n hx hb dX8_isSo_35 rfl (lv_at hl 3 rfl) ?_
      refine lv_iadd hx hb dX8_isSo_36 ?_
      refine lv_topi (fun v_44 e_44 => ?_)
      obtain rfl : v_44 = (nI (20 + i)) := (e_44).trans (nI_add 20 i)
      refine va_iald hx hb hK hP 3 0 rfl rfl (vp_in_nI (by omega) (by omega)) dX8_isSo_37 ?_
      refine lv_topi (fun v_45 e_45 => ?_)
      have e_45 : v_45 = fsn_36 (20 + i) := e_45.trans (congrArg fsn_36 (nI_clamp (by omega)))
      refine lv_goto (tgt := 43) hx hb dX8_isSo_38 (by decide) ?_
      refine lv_istore (lv' := [(6, .int v_45), (5, .int (nI ii)), (4, .int (nI w_16)), (0, .ref mo), (1, .int (nI i)), (2, .int (nI a)), (3, .int (nI b))]) hx hb dX8_isSo_43 hl (by decide) rfl (fun ls hl => ?_)
      refine lv_iload hx hb dX8_isSo_45 (lv_at hl 2 rfl) ?_
      refine lv_if_eq (tgt := 68) hx hb dX8_isSo_47 (by decide) (fun c_46 => ?_) (fun c_46 => ?_)
      · have c_46 : w_16 = 0 := (nI_eq (a := w_16) (b := 0) (by omega) (by omega)).mp c_46
        refine lv_iconst (v := 0) hx hb dX8_isSo_68 (by decide) ?_
        refine lv_istore (lv' := [(4, .int 0), (6, .int v_45), (5, .int (nI ii)), (0, .ref mo), (1, .int (nI i)), (2, .int (nI a)), (3, .int (nI b))]) hx hb dX8_isSo_69 hl (by decide) rfl (fun ls hl => ?_)
        refine lv_iinc (v := (nI (ii + 1))) (lv' := [(5, .int (nI (ii + 1))), (4, .int 0), (6, .int v_45), (0, .ref mo), (1, .int (nI i)), (2, .int (nI a)), (3, .int (nI b))]) hx hb dX8_isSo_71 hl (k := 2) rfl (nI_add ii 1) (by decide) rfl (fun ls hl => ?_)
        refine lv_goto (tgt := 6) hx hb dX8_isSo_74 (by decide) ?_
        exact ih (0, fsn_36) _ _ _ ⟨lv_sub hl [0, 1, 3, 4, 5, 6] rfl, hP.sub (ws' := [(xo_8_rrriirrriiiiiiirrirrrrri mo m_la m_sz m_it ms mt m_st m_mv m_tp (nI mz) ml (nI mp) mk mv mb mw m_rd m_ac (nI ma) m_as m_wo m_ik m_ke m_tr (nI mx)), (xI m_st cI 38 fsn_36), (xI m_as cI 38 fa), (xI m_it cI 320 fi_)]) [2, 3, 0, 1] rfl, hD.sub (ws' := [(xo_8_rrriirrriiiiiiirrirrrrri mo m_la m_sz m_it ms mt m_st m_mv m_tp (nI mz) ml (nI mp) mk mv mb mw m_rd m_ac (nI ma) m_as m_wo m_ik m_ke m_tr (nI mx)), (xI m_st cI 38 fsn_36), (xI m_as cI 38 fa), (xI m_it cI 320 fi_)]) [2, 3, 0, 1] (by decide +kernel) rfl, hS, hF_36_0, (lf_X8_isSo_7 hM hw1 hh9 hi hab hii haf_0 haf_1 hnb_w_16 hMl hF_36_0 hF_36_1 e_38 c_39 e_45 c_46), (lf_X8_isSo_8 hM hw1 hh9 hi hab hii haf_0 haf_1 hnb_w_16 hMl hF_36_0 hF_36_1 e_38 c_39 e_45 c_46), (by omega)⟩
      · have c_46 : ¬ (w_16 = 0) := fun q_ => c_46 ((nI_eq (a := w_16) (b := 0) (by omega) (by omega)).mpr q_)
        refine lv_aload_n hx hb dX8_isSo_50 rfl (lv_at hl 3 rfl) ?_
        refine va_get (D := (dC, dI)) (ci := 8) (v := .ref m_it) (C := RX8) (T := TX8) (N := 24) hx hb hts i_X8_isSo_X8 hown hK hP 2 rfl rfl 2 (by decide) (hts _ mx_X8_isSo_2) (fun _ h9 => h9) rfl dX8_isSo_51 ?_
        refine lv_iload_n hx hb dX8_isSo_54 rfl (lv_at hl 5 rfl) ?_
        refine lv_iload hx hb dX8_isSo_55 (lv_at hl 1 rfl) ?_
        refine lv_iadd hx hb dX8_isSo_57 ?_
        refine lv_topi (fun v_47 e_47 => ?_)
        obtain rfl : v_47 = (nI (a + ii)) := (e_47).trans (nI_add a ii)
        refine va_iald hx hb hK hP 1 0 rfl rfl (vp_in_nI (by omega) (by omega)) dX8_isSo_58 ?_
        refine lv_topi (fun v_48 e_48 => ?_)
        have e_48 : v_48 = fi_ (a + ii) := e_48.trans (congrArg fi_ (nI_clamp (by omega)))
        refine lv_iload hx hb dX8_isSo_59 (lv_at hl 0 rfl) ?_
        refine lv_icmp_ne (tgt := 68) hx hb dX8_isSo_61 (by decide) (fun c_49 => ?_) (fun c_49 => ?_)
        · skip
          refine lv_iconst (v := 0) hx hb dX8_isSo_68 (by decide) ?_
          refine lv_istore (lv' := [(4, .int 0), (6, .int v_45), (5, .int (nI ii)), (0, .ref mo), (1, .int (nI i)), (2, .int (nI a)), (3, .int (nI b))]) hx hb dX8_isSo_69 hl (by decide) rfl (fun ls hl => ?_)
          refine lv_iinc (v := (nI (ii + 1))) (lv' := [(5, .int (nI (ii + 1))), (4, .int 0), (6, .int v_45), (0, .ref mo), (1, .int (nI i)), (2, .int (nI a)), (3, .int (nI b))]) hx hb dX8_isSo_71 hl (k := 2) rfl (nI_add ii 1) (by decide) rfl (fun ls hl => ?_)
          refine lv_goto (tgt := 6) hx hb dX8_isSo_74 (by decide) ?_
          exact ih (0, fsn_36) _ _ _ ⟨lv_sub hl [0, 1, 3, 4, 5, 6] rfl, hP.sub (ws' := [(xo_8_rrriirrriiiiiiirrirrrrri mo m_la m_sz m_it ms mt m_st m_mv m_tp (nI mz) ml (nI mp) mk mv mb mw m_rd m_ac (nI ma) m_as m_wo m_ik m_ke m_tr (nI mx)), (xI m_st cI 38 fsn_36), (xI m_as cI 38 fa), (xI m_it cI 320 fi_)]) [2, 3, 0, 1] rfl, hD.sub (ws' := [(xo_8_rrriirrriiiiiiirrirrrrri mo m_la m_sz m_it ms mt m_st m_mv m_tp (nI mz) ml (nI mp) mk mv mb mw m_rd m_ac (nI ma) m_as m_wo m_ik m_ke m_tr (nI mx)), (xI m_st cI 38 fsn_36), (xI m_as cI 38 fa), (xI m_it cI 320 fi_)]) [2, 3, 0, 1] (by decide +kernel) rfl, hS, hF_36_0, (lf_X8_isSo_9 hM hw1 hh9 hi hab hii haf_0 haf_1 hnb_w_16 hMl hF_36_0 hF_36_1 e_38 c_39 e_45 c_46 e_48 c_49), (lf_X8_isSo_10 hM hw1 hh9 hi hab hii haf_0 haf_1 hnb_w_16 hMl hF_36_0 hF_36_1 e_38 c_39 e_45 c_46 e_48 c_49), (by omega)⟩
        · skip
          refine lv_iconst (v := 1) hx hb dX8_isSo_64 (by decide) ?_
          refine lv_goto (tgt := 69) hx hb dX8_isSo_65 (by decide) ?_
          refine lv_istore (lv' := [(4, .int 1), (6, .int v_45), (5, .int (nI ii)), (0, .ref mo), (1, .int (nI i)), (2, .int (nI a)), (3, .int (nI b))]) hx hb dX8_isSo_69 hl (by decide) rfl (fun ls hl => ?_)
          refine lv_iinc (v := (nI (ii + 1))) (lv' := [(5, .int (nI (ii + 1))), (4, .int 1), (6, .int v_45), (0, .ref mo), (1, .int (nI i)), (2, .int (nI a)), (3, .int (nI b))]) hx hb dX8_isSo_71 hl (k := 2) rfl (nI_add ii 1) (by decide) rfl (fun ls hl => ?_)
          refine lv_goto (tgt := 6) hx hb dX8_isSo_74 (by decide) ?_
          exact ih (1, fsn_36) _ _ _ ⟨lv_sub hl [0, 1, 3, 4, 5, 6] rfl, hP.sub (ws' := [(xo_8_rrriirrriiiiiiirrirrrrri mo m_la m_sz m_it ms mt m_st m_mv m_tp (nI mz) ml (nI mp) mk mv mb mw m_rd m_ac (nI ma) m_as m_wo m_ik m_ke m_tr (nI mx)), (xI m_st cI 38 fsn_36), (xI m_as cI 38 fa), (xI m_it cI 320 fi_)]) [2, 3, 0, 1] rfl, hD.sub (ws' := [(xo_8_rrriirrriiiiiiirrirrrrri mo m_la m_sz m_it ms mt m_st m_mv m_tp (nI mz) ml (nI mp) mk mv mb mw m_rd m_ac (nI ma) m_as m_wo m_ik m_ke m_tr (nI mx)), (xI m_st cI 38 fsn_36), (xI m_as cI 38 fa), (xI m_it cI 320 fi_)]) [2, 3, 0, 1] (by decide +kernel) rfl, hS, hF_36_0, (lf_X8_isSo_11 hM hw1 hh9 hi hab hii haf_0 haf_1 hnb_w_16 hMl hF_36_0 hF_36_1 e_38 c_39 e_45 c_46 e_48 c_49), (lf_X8_isSo_12 hM hw1 hh9 hi hab hii haf_0 haf_1 hnb_w_16 hMl hF_36_0 hF_36_1 e_38 c_39 e_45 c_46 e_48 c_49), (by omega)⟩
  · rintro ⟨w_16, w_17⟩ H locs ls ⟨hl, hP, hD, hS, hMl, haf_0, haf_1, hnb_w_16⟩
    refine lv_iload hx hb dX8_isSo_6 (lv_at hl 0 rfl) ?_
    refine lv_iload_n hx hb dX8_isSo_8 rfl (lv_at hl 5 rfl) ?_
    refine lv_icmp_ge (tgt := 77) hx hb dX8_isSo_9 (by decide) (fun _ => ?_) (fun c_ => absurd ((nI_leI (a := b) (b := b) (by omega) (by omega)).mpr (by omega)) c_)
    refine lv_aload_n hx hb dX8_isSo_77 rfl (lv_at hl 2 rfl) ?_
    have hc_51 := cutW (wc := [(xo_8_rrriirrriiiiiiirrirrrrri mo m_la m_sz m_it ms mt m_st m_mv m_tp (nI mz) ml (nI mp) mk mv mb mw m_rd m_ac (nI ma) m_as m_wo m_ik m_ke m_tr (nI mx)), (xI m_st cI 38 w_17), (xI m_as cI 38 fa)]) hP hD hS hA [0, 1, 2] (by decide +kernel) rfl
    refine va_callv (va_runV (As := []) (rest := []) ⟨hx, hb, hml, hown, hts⟩ (r_X8_takeBack l dC dI cI cZ cL cJ H.size mo m_la m_sz m_it m_st m_mv m_tp m_rd m_ac m_as m_wo m_ik m_ke m_tr ms mt ml mk mv mb mw mz mp ma mx w_17 fa ) (cwV 0 hts gX8_isSo_X8_takeBack rfl rfl rfl (by decide +kernel) ⟨Nat.le_of_ble_eq_true rfl, Nat.le_of_ble_eq_true rfl⟩) (pvW 8 0 hK hP rfl rfl hc_51) rfl rfl hl.1 rfl (lv_room (Nat.le_of_ble_eq_true rfl)) dX8_isSo_78 ⟨Nat.le_of_ble_eq_true rfl, Nat.le_of_ble_eq_true rfl⟩) hS (fun q _ h => hc_51.2.2 q h) hc_51.2.2 (fun u_51 t_51 H1 locs ht hvm h_51 hB hz1 hk1 hS => ?_)
    refine xl_1_3 hB (fun fsn_51 hP1 hD1 hF_51_0 => ?_)
    clear hB
    rw [ht] at hP1
    obtain ⟨hP, hD⟩ := va_join (wr := [(xI m_it cI 320 fi_)]) (w1 := [(xo_8_rrriirrriiiiiiirrirrrrri mo m_la m_sz m_it ms mt m_st m_mv m_tp (nI mz) ml (nI mp) mk mv mb mw m_rd m_ac (nI ma) m_as m_wo m_ik m_ke m_tr (nI mx)), (xI m_st cI 38 fsn_51), (xI m_as cI 38 fa)]) hP hD [0, 1, 2] [3] rfl rfl (by decide +kernel) (by decide +kernel) hk1 hc_51.2.2 hP1 hD1
    generalize H1 = H at hP hS ⊢
    have hP : va_P (dC, dI) vwCl [(xI m_it cI 320 fi_), (xo_8_rrriirrriiiiiiirrirrrrri mo m_la m_sz m_it ms mt m_st m_mv m_tp (nI mz) ml (nI mp) mk mv mb mw m_rd m_ac (nI ma) m_as m_wo m_ik m_ke m_tr (nI mx)), (xI m_st cI 38 fsn_51), (xI m_as cI 38 fa)] H := hP
    have hD := dto hP hD
    refine lv_iload hx hb dX8_isSo_81 (lv_at hl 1 rfl) ?_
    have hX9 := cut2 (wc := [(xo_8_rrriirrriiiiiiirrirrrrri mo m_la m_sz m_it ms mt m_st m_mv m_tp (nI mz) ml (nI mp) mk mv mb mw m_rd m_ac (nI ma) m_as m_wo m_ik m_ke m_tr (nI mx)), (xI m_st cI 38 fsn_51), (xI m_as cI 38 fa), (xI m_it cI 320 fi_)]) hP hD [1, 2, 3, 0] (by decide +kernel) rfl
    exact W.zret (v := (nI w_16)) hx hb hr (by rcases (show w_16 = 0 ∨ w_16 = 1 by omega) with e_ | e_ <;> rw [e_] <;> decide) (fun t ht hW => ⟨⟨(nI w_16), (), rfl, ⟨w_16, rfl, (by omega), haf_1⟩, ⟨fsn_51, va_Ht ht hX9.1, hX9.2, hF_51_0⟩⟩, hS.F ht⟩) hS.2.2 dX8_isSo_83
theorem lf_X8_fits_1 {fs : Nat → Int32} {w9 : Nat} {k9 : Nat} {h9 : Nat} {fi_ : Nat → Int32} {wh : Nat} {lo_ : Nat} {hg : Nat} {i : Nat} {a : Nat} {b : Nat} {fan_1 : Nat → Int32} {w_9 : Int32} {w_10 : Nat → Int32} {ii : Nat} {g_21 : Nat → Int32} {fsn_22 : Nat → Int32} {j_22 : Nat} {v_24 : Int32} (hM : okM fs w9 k9 h9) (hw1 : 1 ≤ w9) (hh9 : h9 < 1000000000) (hi : i < 6) (hab : a + b ≤ 320) (hwh : wh < 32) (hwh0 : wh ≠ 0) (hwh3 : wh ≠ 3) (hwh4 : wh ≠ 4) (hwh5 : wh ≠ 5) (hlo : lo_ ≤ hg + 1) (hhg : hg ≤ 100) (hb12 : b ≤ 12) (hik : i < k9) (hF_1_0 : (∀ j : Nat, j < 38 → fan_1 j = fs j)) (hii : ii < (hg + 1)) (haf_0 : (w_9 = fitU (m38 fs) wh i (fun uq => fi_ (a + uq)) b lo_ ii)) (haf_1 : (lo_ ≤ ii)) (haf_2 : (m38 w_10 = m38 fs)) (hMl : okM w_10 w9 k9 h9) (hu_21 : g_21 = upd w_10 wh (nI ii)) (hF_22_0 : (∀ j : Nat, j < 38 → fsn_22 j = fan_1 j)) (hz_22_0 : j_22 ≤ 1) (hz_22_1 : (j_22 = 1 ↔ ftB (m38 g_21) i (fun uq => fi_ (a + uq)) b = true)) (c_23 : j_22 = 0) (e_24 : v_24 = (w_9 ||| 0)) : v_24 = fitU (m38 fs) wh i (fun uq => fi_ (a + uq)) b lo_ (ii + 1) := by
  first
  | assumption
  | exact fu_n (by omega) haf_0 (fun q => by rw [(fm_u hwh haf_2 hu_21)] at q; have q2 := hz_22_1.mpr q; omega) e_24
theorem lf_X8_fits_2 {fs : Nat → Int32} {w9 : Nat} {k9 : Nat} {h9 : Nat} {fi_ : Nat → Int32} {wh : Nat} {lo_ : Nat} {hg : Nat} {i : Nat} {a : Nat} {b : Nat} {fan_1 : Nat → Int32} {w_9 : Int32} {w_10 : Nat → Int32} {ii : Nat} {g_21 : Nat → Int32} {fsn_22 : Nat → Int32} {j_22 : Nat} {v_25 : Int32} {v_26 : Int32} (hM : okM fs w9 k9 h9) (hw1 : 1 ≤ w9) (hh9 : h9 < 1000000000) (hi : i < 6) (hab : a + b ≤ 320) (hwh : wh < 32) (hwh0 : wh ≠ 0) (hwh3 : wh ≠ 3) (hwh4 : wh ≠ 4) (hwh5 : wh ≠ 5) (hlo : lo_ ≤ hg + 1) (hhg : hg ≤ 100) (hb12 : b ≤ 12) (hik : i < k9) (hF_1_0 : (∀ j : Nat, j < 38 → fan_1 j = fs j)) (hii : ii < (hg + 1)) (haf_0 : (w_9 = fitU (m38 fs) wh i (fun uq => fi_ (a + uq)) b lo_ ii)) (haf_1 : (lo_ ≤ ii)) (haf_2 : (m38 w_10 = m38 fs)) (hMl : okM w_10 w9 k9 h9) (hu_21 : g_21 = upd w_10 wh (nI ii)) (hF_22_0 : (∀ j : Nat, j < 38 → fsn_22 j = fan_1 j)) (hz_22_0 : j_22 ≤ 1) (hz_22_1 : (j_22 = 1 ↔ ftB (m38 g_21) i (fun uq => fi_ (a + uq)) b = true)) (c_23 : ¬ (j_22 = 0)) (e_25 : v_25 = ((1 : Int32) <<< (((nI ii) : Int32) &&& 31))) (e_26 : v_26 = (w_9 ||| v_25)) : v_26 = fitU (m38 fs) wh i (fun uq => fi_ (a + uq)) b lo_ (ii + 1) := by
  first
  | assumption
  | exact fu_y (by omega) haf_0 (by rw [(fm_u hwh haf_2 hu_21)]; exact hz_22_1.mp (by omega)) e_25 e_26
theorem lf_X8_fits_3 {fs : Nat → Int32} {w9 : Nat} {k9 : Nat} {h9 : Nat} {fi_ : Nat → Int32} {wh : Nat} {lo_ : Nat} {hg : Nat} {i : Nat} {a : Nat} {b : Nat} {fan_1 : Nat → Int32} {w_9 : Int32} {w_10 : Nat → Int32} {msn_28 : Int32} {r_28 : Int32} (hM : okM fs w9 k9 h9) (hw1 : 1 ≤ w9) (hh9 : h9 < 1000000000) (hi : i < 6) (hab : a + b ≤ 320) (hwh : wh < 32) (hwh0 : wh ≠ 0) (hwh3 : wh ≠ 3) (hwh4 : wh ≠ 4) (hwh5 : wh ≠ 5) (hlo : lo_ ≤ hg + 1) (hhg : hg ≤ 100) (hb12 : b ≤ 12) (hik : i < k9) (hF_1_0 : (∀ j : Nat, j < 38 → fan_1 j = fs j)) (haf_0 : (w_9 = fitU (m38 fs) wh i (fun uq => fi_ (a + uq)) b lo_ (hg + 1))) (haf_1 : (lo_ ≤ (hg + 1))) (haf_2 : (m38 w_10 = m38 fs)) (hMl : okM w_10 w9 k9 h9) (hF_28_0 : (msn_28 : Int32) = 0) (h_28 : r_28 = w_9) : (msn_28 : Int32) = 0 := by
  first
  | assumption
  | exact h_28.trans haf_0
theorem lf_X8_fits_4 {fs : Nat → Int32} {w9 : Nat} {k9 : Nat} {h9 : Nat} {fi_ : Nat → Int32} {wh : Nat} {lo_ : Nat} {hg : Nat} {i : Nat} {a : Nat} {b : Nat} {fan_1 : Nat → Int32} {w_9 : Int32} {w_10 : Nat → Int32} {msn_28 : Int32} {r_28 : Int32} (hM : okM fs w9 k9 h9) (hw1 : 1 ≤ w9) (hh9 : h9 < 1000000000) (hi : i < 6) (hab : a + b ≤ 320) (hwh : wh < 32) (hwh0 : wh ≠ 0) (hwh3 : wh ≠ 3) (hwh4 : wh ≠ 4) (hwh5 : wh ≠ 5) (hlo : lo_ ≤ hg + 1) (hhg : hg ≤ 100) (hb12 : b ≤ 12) (hik : i < k9) (hF_1_0 : (∀ j : Nat, j < 38 → fan_1 j = fs j)) (haf_0 : (w_9 = fitU (m38 fs) wh i (fun uq => fi_ (a + uq)) b lo_ (hg + 1))) (haf_1 : (lo_ ≤ (hg + 1))) (haf_2 : (m38 w_10 = m38 fs)) (hMl : okM w_10 w9 k9 h9) (hF_28_0 : (msn_28 : Int32) = 0) (h_28 : r_28 = w_9) : r_28 = (fitU (m38 fs) wh i (fun uq => fi_ (a + uq)) b lo_ (hg + 1)) := by
  first
  | assumption
  | exact h_28.trans haf_0
set_option maxHeartbeats 4000000 in
set_option maxRecDepth 100000 in
theorem r_X8_fits (l : Launch) (dC : Nat → ClassId) (dI : Nat → Nat → Nat) (cI cZ cL cJ : ClassId) (sz : Nat) (mo : Nat) (m_la : Nat) (m_sz : Nat) (m_it : Nat) (m_st : Nat) (m_mv : Nat) (m_tp : Nat) (m_rd : Nat) (m_ac : Nat) (m_as : Nat) (m_wo : Nat) (m_ik : Nat) (m_ke : Nat) (m_tr : Nat) (ms : Int32) (mt : Int32) (ml : Int32) (mk : Int32) (mv : Int32) (mb : Int32) (mw : Int32) (mz : Nat) (mp : Nat) (ma : Nat) (mx : Nat) (fs : Nat → Int32) (w9 : Nat) (k9 : Nat) (h9 : Nat) (fa : Nat → Int32) (fi_ : Nat → Int32) (wh : Nat) (lo_ : Nat) (hg : Nat) (i : Nat) (a : Nat) (b : Nat) (hM : okM fs w9 k9 h9) (hw1 : 1 ≤ w9) (hh9 : h9 < 1000000000) (hi : i < 6) (hab : a + b ≤ 320) (hwh : wh < 32) (hwh0 : wh ≠ 0) (hwh3 : wh ≠ 3) (hwh4 : wh ≠ 4) (hwh5 : wh ≠ 5) (hlo : lo_ ≤ hg + 1) (hhg : hg ≤ 100) (hb12 : b ≤ 12) (hik : i < k9) : Met l yX8_fits wsX8_fits ({ frames := 5, cells := 0, slots := 0, locals := 121 }) (va_Pc [.ref mo, .int (nI wh), .int (nI lo_), .int (nI hg), .int (nI i), .int (nI a), .int (nI b)] (fun U => U.heap.size = sz ∧ va_P (dC, dI) vwCl [(xo_8_rrriirrriiiiiiirrirrrrri mo m_la m_sz m_it ms mt m_st m_mv m_tp (nI mz) ml (nI mp) mk mv mb mw m_rd m_ac (nI ma) m_as m_wo m_ik m_ke m_tr (nI mx)), (xI m_st cI 38 fs), (xI m_as cI 38 fa), (xI m_it cI 320 fi_)] U.heap ∧ va_K (dC, dI) vwCl [(cI, .int), (cZ, .boolean), (cL, .object RX3), (cJ, .array .int)] U ∧ va_D (fun _ => True) [(xo_8_rrriirrriiiiiiirrirrrrri mo m_la m_sz m_it ms mt m_st m_mv m_tp (nI mz) ml (nI mp) mk mv mb mw m_rd m_ac (nI ma) m_as m_wo m_ik m_ke m_tr (nI mx)), (xI m_st cI 38 fs), (xI m_as cI 38 fa), (xI m_it cI 320 fi_)])) (va_Qi (fun r (_ : Unit) => r = (fitU (m38 fs) wh i (fun uq => fi_ (a + uq)) b lo_ (hg + 1))) (fun (_ : Unit) t => ∃ (fsn : Nat → Int32) (fan : Nat → Int32) (msn : Int32), va_P (dC, dI) vwCl [(xo_8_rrriirrriiiiiiirrirrrrri mo m_la m_sz m_it msn mt m_st m_mv m_tp (nI mz) ml (nI mp) mk mv mb mw m_rd m_ac (nI ma) m_as m_wo m_ik m_ke m_tr (nI mx)), (xI m_st cI 38 fsn), (xI m_as cI 38 fan), (xI m_it cI 320 fi_)] t.heap ∧ va_D (va_A [(xo_8_rrriirrriiiiiiirrirrrrri mo m_la m_sz m_it ms mt m_st m_mv m_tp (nI mz) ml (nI mp) mk mv mb mw m_rd m_ac (nI ma) m_as m_wo m_ik m_ke m_tr (nI mx)), (xI m_st cI 38 fs), (xI m_as cI 38 fa), (xI m_it cI 320 fi_)] sz) [(xo_8_rrriirrriiiiiiirrirrrrri mo m_la m_sz m_it msn mt m_st m_mv m_tp (nI mz) ml (nI mp) mk mv mb mw m_rd m_ac (nI ma) m_as m_wo m_ik m_ke m_tr (nI mx)), (xI m_st cI 38 fsn), (xI m_as cI 38 fan), (xI m_it cI 320 fi_)] ∧ okM fsn w9 k9 h9 ∧ m38 fsn = m38 fs ∧ (msn : Int32) = 0) (va_A [(xo_8_rrriirrriiiiiiirrirrrrri mo m_la m_sz m_it ms mt m_st m_mv m_tp (nI mz) ml (nI mp) mk mv mb mw m_rd m_ac (nI ma) m_as m_wo m_ik m_ke m_tr (nI mx)), (xI m_st cI 38 fs), (xI m_as cI 38 fa), (xI m_it cI 320 fi_)] sz)) 0 0 (va_A [(xo_8_rrriirrriiiiiiirrirrrrri mo m_la m_sz m_it ms mt m_st m_mv m_tp (nI mz) ml (nI mp) mk mv mb mw m_rd m_ac (nI ma) m_as m_wo m_ik m_ke m_tr (nI mx)), (xI m_st cI 38 fs), (xI m_as cI 38 fa), (xI m_it cI 320 fi_)] sz) := by
  refine Met.ofW (cc := cX8_fits) (maxL := 9) (ret := (some .int)) (by decide) rfl ?_
  intro p e s m args below meth c s₁ B hml hv
  obtain ⟨rfl, hsz, hP, hK, hD0⟩ := hv
  have hx := B.exec
  have hb := B.bytes
  have hr := B.returns
  have hts := atoms_spec (ws := wsX8_fits) B.pre
  have hown : s.vm.findClass RX8 = some m.cls := findClass_of_methodNamed B.named
  have hlocks := B.notSynchronized
  subst hsz
  have hD := hD0.self (sz := s.heap.size)
  generalize hAe : va_A [(xo_8_rrriirrriiiiiiirrirrrrri mo m_la m_sz m_it ms mt m_st m_mv m_tp (nI mz) ml (nI mp) mk mv mb mw m_rd m_ac (nI ma) m_as m_wo m_ik m_ke m_tr (nI mx)), (xI m_st cI 38 fs), (xI m_as cI 38 fa), (xI m_it cI 320 fi_)] s.heap.size = A at hD ⊢
  have hA : ∀ q : Nat, s.heap.size ≤ q → A q := fun q h => by rw [← hAe]; exact Or.inr h
  have hS : va_S A s.heap s.heap [] := va_S.rf
  have hP : va_P (dC, dI) vwCl [(xo_8_rrriirrriiiiiiirrirrrrri mo m_la m_sz m_it ms mt m_st m_mv m_tp (nI mz) ml (nI mp) mk mv mb mw m_rd m_ac (nI ma) m_as m_wo m_ik m_ke m_tr (nI mx)), (xI m_st cI 38 fs), (xI m_as cI 38 fa), (xI m_it cI 320 fi_)] s.heap := hP
  have hl := lv_entry ([.ref mo, .int (nI wh), .int (nI lo_), .int (nI hg), .int (nI i), .int (nI a), .int (nI b)]) (n := 9) (Nat.le_of_ble_eq_true rfl)
  rw [lg_entry_eq]
  generalize (lg_sl ([.ref mo, .int (nI wh), .int (nI lo_), .int (nI hg), .int (nI i), .int (nI a), .int (nI b)]) ++ List.replicate (9 - (lg_sl ([.ref mo, .int (nI wh), .int (nI lo_), .int (nI hg), .int (nI i), .int (nI a), .int (nI b)])).length) Slot.unset).toArray = ls at hl ⊢
  have hl : lv_has ls 9 [(0, .ref mo), (1, .int (nI wh)), (2, .int (nI lo_)), (3, .int (nI hg)), (4, .int (nI i)), (5, .int (nI a)), (6, .int (nI b))] := hl
  have hk6 := hM.2.2.2.2.1
  have hw6 := hM.2.2.2.1
  refine lv_aload_n hx hb dX8_fits_0 rfl (lv_at hl 0 rfl) ?_
  have hc_1 := cutW (wc := [(xo_8_rrriirrriiiiiiirrirrrrri mo m_la m_sz m_it ms mt m_st m_mv m_tp (nI mz) ml (nI mp) mk mv mb mw m_rd m_ac (nI ma) m_as m_wo m_ik m_ke m_tr (nI mx)), (xI m_st cI 38 fs), (xI m_as cI 38 fa)]) hP hD hS hA [0, 1, 2] (by decide +kernel) rfl
  refine va_callv (va_runV (As := []) (rest := []) ⟨hx, hb, hml, hown, hts⟩ (r_X8_putAside l dC dI cI cZ cL cJ s.heap.size mo m_la m_sz m_it m_st m_mv m_tp m_rd m_ac m_as m_wo m_ik m_ke m_tr ms mt ml mk mv mb mw mz mp ma mx fs fa ) (cwV 0 hts gX8_fits_X8_putAside rfl rfl rfl (by decide +kernel) ⟨Nat.le_of_ble_eq_true rfl, Nat.le_of_ble_eq_true rfl⟩) (pvW 8 0 hK hP rfl rfl hc_1) rfl rfl hl.1 rfl (lv_room (Nat.le_of_ble_eq_true rfl)) dX8_fits_1 ⟨Nat.le_of_ble_eq_true rfl, Nat.le_of_ble_eq_true rfl⟩) hS (fun q _ h => hc_1.2.2 q h) hc_1.2.2 (fun u_1 t_1 H1 locs ht hvm h_1 hB hz1 hk1 hS => ?_)
  refine xl_1_3 hB (fun fan_1 hP1 hD1 hF_1_0 => ?_)
  clear hB
  rw [ht] at hP1
  obtain ⟨hP, hD⟩ := va_join (wr := [(xI m_it cI 320 fi_)]) (w1 := [(xo_8_rrriirrriiiiiiirrirrrrri mo m_la m_sz m_it ms mt m_st m_mv m_tp (nI mz) ml (nI mp) mk mv mb mw m_rd m_ac (nI ma) m_as m_wo m_ik m_ke m_tr (nI mx)), (xI m_st cI 38 fs), (xI m_as cI 38 fan_1)]) hP hD [0, 1, 2] [3] rfl rfl (by decide +kernel) (by decide +kernel) hk1 hc_1.2.2 hP1 hD1
  generalize H1 = H at hP hS ⊢
  have hP : va_P (dC, dI) vwCl [(xI m_it cI 320 fi_), (xo_8_rrriirrriiiiiiirrirrrrri mo m_la m_sz m_it ms mt m_st m_mv m_tp (nI mz) ml (nI mp) mk mv mb mw m_rd m_ac (nI ma) m_as m_wo m_ik m_ke m_tr (nI mx)), (xI m_st cI 38 fs), (xI m_as cI 38 fan_1)] H := hP
  have hD := dto hP hD
  have hA_1 := okM_eq hM hF_1_0
  refine lv_iconst (v := 0) hx hb dX8_fits_4 (by decide) ?_
  refine lv_istore (lv' := [(7, .int 0), (0, .ref mo), (1, .int (nI wh)), (2, .int (nI lo_)), (3, .int (nI hg)), (4, .int (nI i)), (5, .int (nI a)), (6, .int (nI b))]) hx hb dX8_fits_5 hl (by decide) rfl (fun ls hl => ?_)
  refine lv_iload_n hx hb dX8_fits_7 rfl (lv_at hl 3 rfl) ?_
  refine lv_istore (lv' := [(8, .int (nI lo_)), (7, .int 0), (0, .ref mo), (1, .int (nI wh)), (2, .int (nI lo_)), (3, .int (nI hg)), (4, .int (nI i)), (5, .int (nI a)), (6, .int (nI b))]) hx hb dX8_fits_8 hl (by decide) rfl (fun ls hl => ?_)
  refine lp_go (σ := (Int32) × (Nat → Int32)) (fun ii (st : (Int32) × (Nat → Int32)) H locs ls => match st with | (w_9, w_10) => lv_has ls 9 [(8, .int (nI ii)), (7, .int w_9), (0, .ref mo), (1, .int (nI wh)), (2, .int (nI lo_)), (3, .int (nI hg)), (4, .int (nI i)), (5, .int (nI a)), (6, .int (nI b))] ∧ va_P (dC, dI) vwCl [(xI m_it cI 320 fi_), (xo_8_rrriirrriiiiiiirrirrrrri mo m_la m_sz m_it ms mt m_st m_mv m_tp (nI mz) ml (nI mp) mk mv mb mw m_rd m_ac (nI ma) m_as m_wo m_ik m_ke m_tr (nI mx)), (xI m_st cI 38 w_10), (xI m_as cI 38 fan_1)] H ∧ va_D A [(xI m_it cI 320 fi_), (xo_8_rrriirrriiiiiiirrirrrrri mo m_la m_sz m_it ms mt m_st m_mv m_tp (nI mz) ml (nI mp) mk mv mb mw m_rd m_ac (nI ma) m_as m_wo m_ik m_ke m_tr (nI mx)), (xI m_st cI 38 w_10), (xI m_as cI 38 fan_1)] ∧ va_S A s.heap H locs ∧ okM w_10 w9 k9 h9 ∧ (w_9 = fitU (m38 fs) wh i (fun uq => fi_ (a + uq)) b lo_ ii) ∧ (lo_ ≤ ii) ∧ (m38 w_10 = m38 fs)) (hg + 1) ?_ ?_ lo_ (by omega) (0, fs) ⟨lv_sub hl [0, 1, 2, 3, 4, 5, 6, 7, 8] rfl, hP.sub (ws' := [(xI m_it cI 320 fi_), (xo_8_rrriirrriiiiiiirrirrrrri mo m_la m_sz m_it ms mt m_st m_mv m_tp (nI mz) ml (nI mp) mk mv mb mw m_rd m_ac (nI ma) m_as m_wo m_ik m_ke m_tr (nI mx)), (xI m_st cI 38 fs), (xI m_as cI 38 fan_1)]) [0, 1, 2, 3] rfl, hD.sub (ws' := [(xI m_it cI 320 fi_), (xo_8_rrriirrriiiiiiirrirrrrri mo m_la m_sz m_it ms mt m_st m_mv m_tp (nI mz) ml (nI mp) mk mv mb mw m_rd m_ac (nI ma) m_as m_wo m_ik m_ke m_tr (nI mx)), (xI m_st cI 38 fs), (xI m_as cI 38 fan_1)]) [0, 1, 2, 3] (by decide +kernel) rfl, hS, hM, (fu_lo _).symm, (Nat.le_refl _), rfl⟩
  · rintro ii ⟨w_9, w_10⟩ H locs ls hii ⟨hl, hP, hD, hS, hMl, haf_0, haf_1, haf_2⟩ ih
    refine lv_iload hx hb dX8_fits_10 (lv_at hl 0 rfl) ?_
    refine lv_iload_n hx hb dX8_fits_12 rfl (lv_at hl 5 rfl) ?_
    refine lv_icmp_gt (tgt := 56) hx hb dX8_fits_13 (by decide) (fun c_ => absurd c_ (fun q_ => absurd ((nI_ltI (a := hg) (b := ii) (by omega) (by omega)).mp q_) (by omega))) (fun _ => ?_)
    refine lv_aload_n hx hb dX8_fits_16 rfl (lv_at hl 2 rfl) ?_
    refine va_get (D := (dC, dI)) (ci := 8) (v := .ref m_st) (C := RX8) (T := TX8) (N := 24) hx hb hts i_X8_fits_X8 hown hK hP 1 rfl rfl 5 (by decide) (hts _ mx_X8_fits_1) (fun _ h9 => h9) rfl dX8_fits_17 ?_
    refine lv_iload_n hx hb dX8_fits_20 rfl (lv_at hl 3 rfl) ?_
    refine lv_iload hx hb dX8_fits_21 (lv_at hl 0 rfl) ?_
    refine va_iast hx hb hK hP hD hS 2 0 rfl rfl (vp_in_nI (by omega) (by omega)) dX8_fits_23 (fun H locs hP hD hS => ?_)
    generalize hg_21 : upd w_10 ((nI wh) : Int32).toNatClampNeg (nI ii) = g_21 at hP hD
    have hu_21 : g_21 = upd w_10 wh (nI ii) := (by rw [← hg_21, nI_clamp (by omega)])
    have hM_21 : okM g_21 w9 k9 h9 := okM_off (i := wh) hMl hg_21 (by omega) (by omega) (by omega) (by omega) (by omega)
    have hP : va_P (dC, dI) vwCl [(xI m_it cI 320 fi_), (xo_8_rrriirrriiiiiiirrirrrrri mo m_la m_sz m_it ms mt m_st m_mv m_tp (nI mz) ml (nI mp) mk mv mb mw m_rd m_ac (nI ma) m_as m_wo m_ik m_ke m_tr (nI mx)), (xI m_st cI 38 g_21), (xI m_as cI 38 fan_1)] H := hP
    have hD := dto hP hD
    refine lv_iload hx hb dX8_fits_24 (lv_at hl 1 rfl) ?_
    refine lv_aload_n hx hb dX8_fits_26 rfl (lv_at hl 2 rfl) ?_
    refine lv_iload hx hb dX8_fits_27 (lv_at hl 6 rfl) ?_
    refine lv_iload hx hb dX8_fits_29 (lv_at hl 7 rfl) ?_
    refine lv_iload hx hb dX8_fits_31 (lv_at hl 8 rfl) ?_
    have hc_22 := cutW (wc := [(xo_8_rrriirrriiiiiiirrirrrrri mo m_la m_sz m_it ms mt m_st m_mv m_tp (nI mz) ml (nI mp) mk mv mb mw m_rd m_ac (nI ma) m_as m_wo m_ik m_ke m_tr (nI mx)), (xI m_st cI 38 g_21), (xI m_as cI 38 fan_1), (xI m_it cI 320 fi_)]) hP hD hS hA [1, 2, 3, 0] (by decide +kernel) rfl
    refine va_calli (va_runV (As := [.int (nI i), .int (nI a), .int (nI b)]) (rest := [.int w_9]) ⟨hx, hb, hml, hown, hts⟩ (r_X8_isSo l dC dI cI cZ cL cJ H.size mo m_la m_sz m_it m_st m_mv m_tp m_rd m_ac m_as m_wo m_ik m_ke m_tr ms mt ml mk mv mb mw mz mp ma mx g_21 w9 k9 h9 fan_1 fi_ i a b (hM_21) (by omega) (by omega) (by omega) (by omega)) (cwV 3 hts gX8_fits_X8_isSo rfl rfl rfl (by decide +kernel) ⟨Nat.le_of_ble_eq_true rfl, Nat.le_of_ble_eq_true rfl⟩) (pvW 8 1 hK hP rfl rfl hc_22) rfl rfl hl.1 rfl (lv_room (Nat.le_of_ble_eq_true rfl)) dX8_fits_33 ⟨Nat.le_of_ble_eq_true rfl, Nat.le_of_ble_eq_true rfl⟩) hS (fun q _ h => hc_22.2.2 q h) hc_22.2.2 (fun r_22 u_22 t_22 H1 locs ht hvm h_22 hB hz1 hk1 hS => ?_)
    refine xl_1_3 hB (fun fsn_22 hP1 hD1 hF_22_0 => ?_)
    clear hB
    rw [ht] at hP1
    obtain ⟨hP, hD⟩ := va_join (wr := []) (w1 := [(xo_8_rrriirrriiiiiiirrirrrrri mo m_la m_sz m_it ms mt m_st m_mv m_tp (nI mz) ml (nI mp) mk mv mb mw m_rd m_ac (nI ma) m_as m_wo m_ik m_ke m_tr (nI mx)), (xI m_st cI 38 fsn_22), (xI m_as cI 38 fan_1), (xI m_it cI 320 fi_)]) hP hD [1, 2, 3, 0] [] rfl rfl (by decide +kernel) (by decide +kernel) hk1 hc_22.2.2 hP1 hD1
    generalize H1 = H at hP hS ⊢
    have hP : va_P (dC, dI) vwCl [(xo_8_rrriirrriiiiiiirrirrrrri mo m_la m_sz m_it ms mt m_st m_mv m_tp (nI mz) ml (nI mp) mk mv mb mw m_rd m_ac (nI ma) m_as m_wo m_ik m_ke m_tr (nI mx)), (xI m_st cI 38 fsn_22), (xI m_as cI 38 fan_1), (xI m_it cI 320 fi_)] H := hP
    have hD := dto hP hD
    have hT_22 := okM_eq hA_1 hF_22_0
    obtain ⟨j_22, rfl, hz_22_0, hz_22_1⟩ := h_22
    refine lv_if_eq (tgt := 46) hx hb dX8_fits_36 (by decide) (fun c_23 => ?_) (fun c_23 => ?_)
    · have c_23 : j_22 = 0 := (nI_eq (a := j_22) (b := 0) (by omega) (by omega)).mp c_23
      refine lv_iconst (v := 0) hx hb dX8_fits_46 (by decide) ?_
      refine lv_ior hx hb dX8_fits_47 ?_
      refine lv_topi (fun v_24 e_24 => ?_)
      refine lv_istore (lv' := [(7, .int v_24), (8, .int (nI ii)), (0, .ref mo), (1, .int (nI wh)), (2, .int (nI lo_)), (3, .int (nI hg)), (4, .int (nI i)), (5, .int (nI a)), (6, .int (nI b))]) hx hb dX8_fits_48 hl (by decide) rfl (fun ls hl => ?_)
      refine lv_iinc (v := (nI (ii + 1))) (lv' := [(8, .int (nI (ii + 1))), (7, .int v_24), (0, .ref mo), (1, .int (nI wh)), (2, .int (nI lo_)), (3, .int (nI hg)), (4, .int (nI i)), (5, .int (nI a)), (6, .int (nI b))]) hx hb dX8_fits_50 hl (k := 1) rfl (nI_add ii 1) (by decide) rfl (fun ls hl => ?_)
      refine lv_goto (tgt := 10) hx hb dX8_fits_53 (by decide) ?_
      exact ih (v_24, fsn_22) _ _ _ ⟨lv_sub hl [0, 1, 2, 3, 4, 5, 6, 7, 8] rfl, hP.sub (ws' := [(xI m_it cI 320 fi_), (xo_8_rrriirrriiiiiiirrirrrrri mo m_la m_sz m_it ms mt m_st m_mv m_tp (nI mz) ml (nI mp) mk mv mb mw m_rd m_ac (nI ma) m_as m_wo m_ik m_ke m_tr (nI mx)), (xI m_st cI 38 fsn_22), (xI m_as cI 38 fan_1)]) [3, 0, 1, 2] rfl, hD.sub (ws' := [(xI m_it cI 320 fi_), (xo_8_rrriirrriiiiiiirrirrrrri mo m_la m_sz m_it ms mt m_st m_mv m_tp (nI mz) ml (nI mp) mk mv mb mw m_rd m_ac (nI ma) m_as m_wo m_ik m_ke m_tr (nI mx)), (xI m_st cI 38 fsn_22), (xI m_as cI 38 fan_1)]) [3, 0, 1, 2] (by decide +kernel) rfl, hS, hT_22, (lf_X8_fits_1 hM hw1 hh9 hi hab hwh hwh0 hwh3 hwh4 hwh5 hlo hhg hb12 hik hF_1_0 hii haf_0 haf_1 haf_2 hMl hu_21 hF_22_0 hz_22_0 hz_22_1 c_23 e_24), (by omega), ((m38_eq hF_22_0).trans ((m38_eq hF_1_0).trans rfl))⟩
    · have c_23 : ¬ (j_22 = 0) := fun q_ => c_23 ((nI_eq (a := j_22) (b := 0) (by omega) (by omega)).mpr q_)
      refine lv_iconst (v := 1) hx hb dX8_fits_39 (by decide) ?_
      refine lv_iload hx hb dX8_fits_40 (lv_at hl 0 rfl) ?_
      refine lv_ishl hx hb dX8_fits_42 ?_
      refine lv_topi (fun v_25 e_25 => ?_)
      refine lv_goto (tgt := 47) hx hb dX8_fits_43 (by decide) ?_
      refine lv_ior hx hb dX8_fits_47 ?_
      refine lv_topi (fun v_26 e_26 => ?_)
      refine lv_istore (lv' := [(7, .int v_26), (8, .int (nI ii)), (0, .ref mo), (1, .int (nI wh)), (2, .int (nI lo_)), (3, .int (nI hg)), (4, .int (nI i)), (5, .int (nI a)), (6, .int (nI b))]) hx hb dX8_fits_48 hl (by decide) rfl (fun ls hl => ?_)
      refine lv_iinc (v := (nI (ii + 1))) (lv' := [(8, .int (nI (ii + 1))), (7, .int v_26), (0, .ref mo), (1, .int (nI wh)), (2, .int (nI lo_)), (3, .int (nI hg)), (4, .int (nI i)), (5, .int (nI a)), (6, .int (nI b))]) hx hb dX8_fits_50 hl (k := 1) rfl (nI_add ii 1) (by decide) rfl (fun ls hl => ?_)
      refine lv_goto (tgt := 10) hx hb dX8_fits_53 (by decide) ?_
      exact ih (v_26, fsn_22) _ _ _ ⟨lv_sub hl [0, 1, 2, 3, 4, 5, 6, 7, 8] rfl, hP.sub (ws' := [(xI m_it cI 320 fi_), (xo_8_rrriirrriiiiiiirrirrrrri mo m_la m_sz m_it ms mt m_st m_mv m_tp (nI mz) ml (nI mp) mk mv mb mw m_rd m_ac (nI ma) m_as m_wo m_ik m_ke m_tr (nI mx)), (xI m_st cI 38 fsn_22), (xI m_as cI 38 fan_1)]) [3, 0, 1, 2] rfl, hD.sub (ws' := [(xI m_it cI 320 fi_), (xo_8_rrriirrriiiiiiirrirrrrri mo m_la m_sz m_it ms mt m_st m_mv m_tp (nI mz) ml (nI mp) mk mv mb mw m_rd m_ac (nI ma) m_as m_wo m_ik m_ke m_tr (nI mx)), (xI m_st cI 38 fsn_22), (xI m_as cI 38 fan_1)]) [3, 0, 1, 2] (by decide +kernel) rfl, hS, hT_22, (lf_X8_fits_2 hM hw1 hh9 hi hab hwh hwh0 hwh3 hwh4 hwh5 hlo hhg hb12 hik hF_1_0 hii haf_0 haf_1 haf_2 hMl hu_21 hF_22_0 hz_22_0 hz_22_1 c_23 e_25 e_26), (by omega), ((m38_eq hF_22_0).trans ((m38_eq hF_1_0).trans rfl))⟩
  · rintro ⟨w_9, w_10⟩ H locs ls ⟨hl, hP, hD, hS, hMl, haf_0, haf_1, haf_2⟩
    refine lv_iload hx hb dX8_fits_10 (lv_at hl 0 rfl) ?_
    refine lv_iload_n hx hb dX8_fits_12 rfl (lv_at hl 5 rfl) ?_
    refine lv_icmp_gt (tgt := 56) hx hb dX8_fits_13 (by decide) (fun _ => ?_) (fun c_ => absurd ((nI_ltI (a := hg) (b := (hg + 1)) (by omega) (by omega)).mpr (by omega)) c_)
    refine lv_aload_n hx hb dX8_fits_56 rfl (lv_at hl 2 rfl) ?_
    refine lv_iload hx hb dX8_fits_57 (lv_at hl 1 rfl) ?_
    have hc_28 := cutW (wc := [(xo_8_rrriirrriiiiiiirrirrrrri mo m_la m_sz m_it ms mt m_st m_mv m_tp (nI mz) ml (nI mp) mk mv mb mw m_rd m_ac (nI ma) m_as m_wo m_ik m_ke m_tr (nI mx))]) hP hD hS hA [1] (by decide +kernel) rfl
    refine va_calli (va_runV (As := [.int w_9]) (rest := []) ⟨hx, hb, hml, hown, hts⟩ (r_X8_well l dC dI cI cZ cL cJ H.size mo m_la m_sz m_it m_st m_mv m_tp m_rd m_ac m_as m_wo m_ik m_ke m_tr ms mt ml mk mv mb mw mz mp ma mx w_9 ) (cwV 1 hts gX8_fits_X8_well rfl rfl rfl (by decide +kernel) ⟨Nat.le_of_ble_eq_true rfl, Nat.le_of_ble_eq_true rfl⟩) (pvW 8 1 hK hP rfl rfl hc_28) rfl rfl hl.1 rfl (lv_room (Nat.le_of_ble_eq_true rfl)) dX8_fits_59 ⟨Nat.le_of_ble_eq_true rfl, Nat.le_of_ble_eq_true rfl⟩) hS (fun q _ h => hc_28.2.2 q h) hc_28.2.2 (fun r_28 u_28 t_28 H1 locs ht hvm h_28 hB hz1 hk1 hS => ?_)
    refine xl_1_3 hB (fun msn_28 hP1 hD1 hF_28_0 => ?_)
    clear hB
    rw [ht] at hP1
    obtain ⟨hP, hD⟩ := va_join (wr := [(xI m_it cI 320 fi_), (xI m_st cI 38 w_10), (xI m_as cI 38 fan_1)]) (w1 := [(xo_8_rrriirrriiiiiiirrirrrrri mo m_la m_sz m_it msn_28 mt m_st m_mv m_tp (nI mz) ml (nI mp) mk mv mb mw m_rd m_ac (nI ma) m_as m_wo m_ik m_ke m_tr (nI mx))]) hP hD [1] [0, 2, 3] rfl rfl (by decide +kernel) (by decide +kernel) hk1 hc_28.2.2 hP1 hD1
    generalize H1 = H at hP hS ⊢
    have hP : va_P (dC, dI) vwCl [(xI m_it cI 320 fi_), (xI m_st cI 38 w_10), (xI m_as cI 38 fan_1), (xo_8_rrriirrriiiiiiirrirrrrri mo m_la m_sz m_it msn_28 mt m_st m_mv m_tp (nI mz) ml (nI mp) mk mv mb mw m_rd m_ac (nI ma) m_as m_wo m_ik m_ke m_tr (nI mx))] H := hP
    have hD := dto hP hD
    have hX9 := cut2 (wc := [(xo_8_rrriirrriiiiiiirrirrrrri mo m_la m_sz m_it msn_28 mt m_st m_mv m_tp (nI mz) ml (nI mp) mk mv mb mw m_rd m_ac (nI ma) m_as m_wo m_ik m_ke m_tr (nI mx)), (xI m_st cI 38 w_10), (xI m_as cI 38 fan_1), (xI m_it cI 320 fi_)]) hP hD [3, 1, 2, 0] (by decide +kernel) rfl
    exact W.iret (v := r_28) hx hb hr (fun t ht hW => ⟨⟨r_28, (), rfl, (lf_X8_fits_4 hM hw1 hh9 hi hab hwh hwh0 hwh3 hwh4 hwh5 hlo hhg hb12 hik hF_1_0 haf_0 haf_1 haf_2 hMl hF_28_0 h_28), ⟨w_10, fan_1, msn_28, va_Ht ht hX9.1, hX9.2, hMl, haf_2, (lf_X8_fits_3 hM hw1 hh9 hi hab hwh hwh0 hwh3 hwh4 hwh5 hlo hhg hb12 hik hF_1_0 haf_0 haf_1 haf_2 hMl hF_28_0 h_28)⟩⟩, hS.F ht⟩) hS.2.2 dX8_fits_62
theorem lf_X8_who_1 {ms : Int32} {mt : Int32} {ma : Nat} {fs : Nat → Int32} {w9 : Nat} {k9 : Nat} {h9 : Nat} {fz : Nat → Int32} {fn_ : Nat → Int32} {a0 : Int32} {a1 : Int32} {a2 : Int32} {a3 : Int32} {a4 : Int32} (hM : okM fs w9 k9 h9) (hT : ¬ mt = 0 → 1 ≤ k9) (h999 : h9 ≤ 999) (hT0 : mt = 0 → fs 0 = 0 ∧ ma = 0) (hsz9 : ∀ j : Nat, j < 8 → fz j = -1 ∨ ∃ q : Nat, q ≤ 40 ∧ fz j = nI q) (hln9 : ∀ j : Nat, j < 8 → ¬ fz j = -1 → ¬ fn_ j = -1) (f_1_0_0 : ¬ sB (nI k9) a0) : ms = f_who (m38 fs) (mbl fn_ fz) (mbn fz) a0 a1 a2 a3 a4 ms := by
  first
  | exact (who_b (r := m38 fs) (I := (fun _ _ => 0)) (Rl := mbl fn_ fz) (Rn := mbn fz) (i := a3) (sg := ms) (Or.inl (whM_b1 hM.2.1 f_1_0_0))).2
  | exact (who_b (r := m38 fs) (I := (fun _ _ => 0)) (Rl := mbl fn_ fz) (Rn := mbn fz) (i := a3) (sg := ms) (Or.inr (Or.inr (Or.inr q_12)))).2
theorem lf_X8_who_2 {mt : Int32} {ma : Nat} {fs : Nat → Int32} {w9 : Nat} {k9 : Nat} {h9 : Nat} {fi_ : Nat → Int32} {fz : Nat → Int32} {fn_ : Nat → Int32} {a0 : Int32} {a1 : Int32} {a2 : Int32} {a3 : Int32} {a4 : Int32} (hM : okM fs w9 k9 h9) (hT : ¬ mt = 0 → 1 ≤ k9) (h999 : h9 ≤ 999) (hT0 : mt = 0 → fs 0 = 0 ∧ ma = 0) (hsz9 : ∀ j : Nat, j < 8 → fz j = -1 ∨ ∃ q : Nat, q ≤ 40 ∧ fz j = nI q) (hln9 : ∀ j : Nat, j < 8 → ¬ fz j = -1 → ¬ fn_ j = -1) (f_1_0_0 : ¬ sB (nI k9) a0) : (-1000001) = (a_who (m38 fs) (mbl fn_ fz) (mbn fz) (itM fi_) a0 a1 a2 a3 a4) := by
  first
  | exact (who_b (r := m38 fs) (I := (itM fi_)) (Rl := mbl fn_ fz) (Rn := mbn fz) (i := a3) (sg := 0) (Or.inl (whM_b1 hM.2.1 f_1_0_0))).1
  | exact (who_b (r := m38 fs) (I := (fun _ _ => 0)) (Rl := mbl fn_ fz) (Rn := mbn fz) (i := a3) (sg := ms) (Or.inl (whM_b1 hM.2.1 f_1_0_0))).2
  | exact (who_b (r := m38 fs) (I := (itM fi_)) (Rl := mbl fn_ fz) (Rn := mbn fz) (i := a3) (sg := 0) (Or.inr (Or.inr (Or.inr q_12)))).1
  | exact (who_b (r := m38 fs) (I := (fun _ _ => 0)) (Rl := mbl fn_ fz) (Rn := mbn fz) (i := a3) (sg := ms) (Or.inr (Or.inr (Or.inr q_12)))).2
theorem lf_X8_who_3 {ms : Int32} {mt : Int32} {ma : Nat} {fs : Nat → Int32} {w9 : Nat} {k9 : Nat} {h9 : Nat} {fz : Nat → Int32} {fn_ : Nat → Int32} {a1 : Int32} {a2 : Int32} {a3 : Int32} {a4 : Int32} {j_1 : Nat} (hM : okM fs w9 k9 h9) (hT : ¬ mt = 0 → 1 ≤ k9) (h999 : h9 ≤ 999) (hT0 : mt = 0 → fs 0 = 0 ∧ ma = 0) (hsz9 : ∀ j : Nat, j < 8 → fz j = -1 ∨ ∃ q : Nat, q ≤ 40 ∧ fz j = nI q) (hln9 : ∀ j : Nat, j < 8 → ¬ fz j = -1 → ¬ fn_ j = -1) (hj_1 : j_1 < k9) (hkn1 : 1 ≤ k9) (hw1 : 1 ≤ w9) (h01 : ¬ fs 0 = 0) (f_5_0_0 : (a1 < 0 ∨ 1 < a1)) : ms = f_who (m38 fs) (mbl fn_ fz) (mbn fz) (nI j_1) a1 a2 a3 a4 ms := by
  first
  | exact (who_b (r := m38 fs) (I := (fun _ _ => 0)) (Rl := mbl fn_ fz) (Rn := mbn fz) (i := a3) (sg := ms) (Or.inr (Or.inl f_5_0_0))).2
  | exact (who_b (r := m38 fs) (I := (fun _ _ => 0)) (Rl := mbl fn_ fz) (Rn := mbn fz) (i := a3) (sg := ms) (Or.inr (Or.inr (Or.inr q_12)))).2
theorem lf_X8_who_4 {mt : Int32} {ma : Nat} {fs : Nat → Int32} {w9 : Nat} {k9 : Nat} {h9 : Nat} {fi_ : Nat → Int32} {fz : Nat → Int32} {fn_ : Nat → Int32} {a1 : Int32} {a2 : Int32} {a3 : Int32} {a4 : Int32} {j_1 : Nat} (hM : okM fs w9 k9 h9) (hT : ¬ mt = 0 → 1 ≤ k9) (h999 : h9 ≤ 999) (hT0 : mt = 0 → fs 0 = 0 ∧ ma = 0) (hsz9 : ∀ j : Nat, j < 8 → fz j = -1 ∨ ∃ q : Nat, q ≤ 40 ∧ fz j = nI q) (hln9 : ∀ j : Nat, j < 8 → ¬ fz j = -1 → ¬ fn_ j = -1) (hj_1 : j_1 < k9) (hkn1 : 1 ≤ k9) (hw1 : 1 ≤ w9) (h01 : ¬ fs 0 = 0) (f_5_0_0 : (a1 < 0 ∨ 1 < a1)) : (-1000001) = (a_who (m38 fs) (mbl fn_ fz) (mbn fz) (itM fi_) (nI j_1) a1 a2 a3 a4) := by
  first
  | exact (who_b (r := m38 fs) (I := (itM fi_)) (Rl := mbl fn_ fz) (Rn := mbn fz) (i := a3) (sg := 0) (Or.inr (Or.inl f_5_0_0))).1
  | exact (who_b (r := m38 fs) (I := (fun _ _ => 0)) (Rl := mbl fn_ fz) (Rn := mbn fz) (i := a3) (sg := ms) (Or.inr (Or.inl f_5_0_0))).2
  | exact (who_b (r := m38 fs) (I := (itM fi_)) (Rl := mbl fn_ fz) (Rn := mbn fz) (i := a3) (sg := 0) (Or.inr (Or.inr (Or.inr q_12)))).1
  | exact (who_b (r := m38 fs) (I := (fun _ _ => 0)) (Rl := mbl fn_ fz) (Rn := mbn fz) (i := a3) (sg := ms) (Or.inr (Or.inr (Or.inr q_12)))).2
theorem lf_X8_who_5 {ms : Int32} {mt : Int32} {ma : Nat} {fs : Nat → Int32} {w9 : Nat} {k9 : Nat} {h9 : Nat} {fz : Nat → Int32} {fn_ : Nat → Int32} {a1 : Int32} {a2 : Int32} {a3 : Int32} {a4 : Int32} {j_1 : Nat} (hM : okM fs w9 k9 h9) (hT : ¬ mt = 0 → 1 ≤ k9) (h999 : h9 ≤ 999) (hT0 : mt = 0 → fs 0 = 0 ∧ ma = 0) (hsz9 : ∀ j : Nat, j < 8 → fz j = -1 ∨ ∃ q : Nat, q ≤ 40 ∧ fz j = nI q) (hln9 : ∀ j : Nat, j < 8 → ¬ fz j = -1 → ¬ fn_ j = -1) (hj_1 : j_1 < k9) (hkn1 : 1 ≤ k9) (hw1 : 1 ≤ w9) (h01 : ¬ fs 0 = 0) (f_5_1_0 : (¬ (a1 < 0 ∨ 1 < a1))) (f_8_0_0 : (a2 < 0 ∨ 8 ≤ a2)) : ms = f_who (m38 fs) (mbl fn_ fz) (mbn fz) (nI j_1) a1 a2 a3 a4 ms := by
  first
  | exact (who_b (r := m38 fs) (I := (fun _ _ => 0)) (Rl := mbl fn_ fz) (Rn := mbn fz) (i := a3) (sg := ms) (Or.inr (Or.inr (Or.inl f_8_0_0)))).2
  | exact (who_b (r := m38 fs) (I := (fun _ _ => 0)) (Rl := mbl fn_ fz) (Rn := mbn fz) (i := a3) (sg := ms) (Or.inr (Or.inr (Or.inr q_12)))).2
theorem lf_X8_who_6 {mt : Int32} {ma : Nat} {fs : Nat → Int32} {w9 : Nat} {k9 : Nat} {h9 : Nat} {fi_ : Nat → Int32} {fz : Nat → Int32} {fn_ : Nat → Int32} {a1 : Int32} {a2 : Int32} {a3 : Int32} {a4 : Int32} {j_1 : Nat} (hM : okM fs w9 k9 h9) (hT : ¬ mt = 0 → 1 ≤ k9) (h999 : h9 ≤ 999) (hT0 : mt = 0 → fs 0 = 0 ∧ ma = 0) (hsz9 : ∀ j : Nat, j < 8 → fz j = -1 ∨ ∃ q : Nat, q ≤ 40 ∧ fz j = nI q) (hln9 : ∀ j : Nat, j < 8 → ¬ fz j = -1 → ¬ fn_ j = -1) (hj_1 : j_1 < k9) (hkn1 : 1 ≤ k9) (hw1 : 1 ≤ w9) (h01 : ¬ fs 0 = 0) (f_5_1_0 : (¬ (a1 < 0 ∨ 1 < a1))) (f_8_0_0 : (a2 < 0 ∨ 8 ≤ a2)) : (-1000001) = (a_who (m38 fs) (mbl fn_ fz) (mbn fz) (itM fi_) (nI j_1) a1 a2 a3 a4) := by
  first
  | exact (who_b (r := m38 fs) (I := (itM fi_)) (Rl := mbl fn_ fz) (Rn := mbn fz) (i := a3) (sg := 0) (Or.inr (Or.inr (Or.inl f_8_0_0)))).1
  | exact (who_b (r := m38 fs) (I := (fun _ _ => 0)) (Rl := mbl fn_ fz) (Rn := mbn fz) (i := a3) (sg := ms) (Or.inr (Or.inr (Or.inl f_8_0_0)))).2
  | exact (who_b (r := m38 fs) (I := (itM fi_)) (Rl := mbl fn_ fz) (Rn := mbn fz) (i := a3) (sg := 0) (Or.inr (Or.inr (Or.inr q_12)))).1
  | exact (who_b (r := m38 fs) (I := (fun _ _ => 0)) (Rl := mbl fn_ fz) (Rn := mbn fz) (i := a3) (sg := ms) (Or.inr (Or.inr (Or.inr q_12)))).2
theorem lf_X8_who_7 {ms : Int32} {mt : Int32} {ma : Nat} {fs : Nat → Int32} {w9 : Nat} {k9 : Nat} {h9 : Nat} {fz : Nat → Int32} {fn_ : Nat → Int32} {a1 : Int32} {a3 : Int32} {a4 : Int32} {j_1 : Nat} {j_8 : Nat} (hM : okM fs w9 k9 h9) (hT : ¬ mt = 0 → 1 ≤ k9) (h999 : h9 ≤ 999) (hT0 : mt = 0 → fs 0 = 0 ∧ ma = 0) (hsz9 : ∀ j : Nat, j < 8 → fz j = -1 ∨ ∃ q : Nat, q ≤ 40 ∧ fz j = nI q) (hln9 : ∀ j : Nat, j < 8 → ¬ fz j = -1 → ¬ fn_ j = -1) (hj_1 : j_1 < k9) (hkn1 : 1 ≤ k9) (hw1 : 1 ≤ w9) (h01 : ¬ fs 0 = 0) (f_5_1_0 : (¬ (a1 < 0 ∨ 1 < a1))) (hj_8 : j_8 < 8) (f_12_0_0 : ((a4).toInt64 < 1 ∨ 12 < (a4).toInt64)) (q_12 : (a4 < 1 ∨ 12 < a4)) : ms = f_who (m38 fs) (mbl fn_ fz) (mbn fz) (nI j_1) a1 (nI j_8) a3 a4 ms := by
  exact (who_b (r := m38 fs) (I := (fun _ _ => 0)) (Rl := mbl fn_ fz) (Rn := mbn fz) (i := a3) (sg := ms) (Or.inr (Or.inr (Or.inr q_12)))).2
theorem lf_X8_who_8 {mt : Int32} {ma : Nat} {fs : Nat → Int32} {w9 : Nat} {k9 : Nat} {h9 : Nat} {fi_ : Nat → Int32} {fz : Nat → Int32} {fn_ : Nat → Int32} {a1 : Int32} {a3 : Int32} {a4 : Int32} {j_1 : Nat} {j_8 : Nat} (hM : okM fs w9 k9 h9) (hT : ¬ mt = 0 → 1 ≤ k9) (h999 : h9 ≤ 999) (hT0 : mt = 0 → fs 0 = 0 ∧ ma = 0) (hsz9 : ∀ j : Nat, j < 8 → fz j = -1 ∨ ∃ q : Nat, q ≤ 40 ∧ fz j = nI q) (hln9 : ∀ j : Nat, j < 8 → ¬ fz j = -1 → ¬ fn_ j = -1) (hj_1 : j_1 < k9) (hkn1 : 1 ≤ k9) (hw1 : 1 ≤ w9) (h01 : ¬ fs 0 = 0) (f_5_1_0 : (¬ (a1 < 0 ∨ 1 < a1))) (hj_8 : j_8 < 8) (f_12_0_0 : ((a4).toInt64 < 1 ∨ 12 < (a4).toInt64)) (q_12 : (a4 < 1 ∨ 12 < a4)) : (-1000001) = (a_who (m38 fs) (mbl fn_ fz) (mbn fz) (itM fi_) (nI j_1) a1 (nI j_8) a3 a4) := by
  first
  | exact (who_b (r := m38 fs) (I := (itM fi_)) (Rl := mbl fn_ fz) (Rn := mbn fz) (i := a3) (sg := 0) (Or.inr (Or.inr (Or.inr q_12)))).1
  | exact (who_b (r := m38 fs) (I := (fun _ _ => 0)) (Rl := mbl fn_ fz) (Rn := mbn fz) (i := a3) (sg := ms) (Or.inr (Or.inr (Or.inr q_12)))).2
theorem lf_X8_who_9 {ms : Int32} {mt : Int32} {ma : Nat} {fs : Nat → Int32} {w9 : Nat} {k9 : Nat} {h9 : Nat} {fi_ : Nat → Int32} {fz : Nat → Int32} {fn_ : Nat → Int32} {a1 : Int32} {j_1 : Nat} {j_8 : Nat} {j_12 : Nat} {msn_18 : Int32} {pa_19 : Nat} {pb_19 : Nat} {c_25 : Nat} {fsn_28 : Nat → Int32} {msn_28 : Int32} {r_28 : Int32} (hM : okM fs w9 k9 h9) (hT : ¬ mt = 0 → 1 ≤ k9) (h999 : h9 ≤ 999) (hT0 : mt = 0 → fs 0 = 0 ∧ ma = 0) (hsz9 : ∀ j : Nat, j < 8 → fz j = -1 ∨ ∃ q : Nat, q ≤ 40 ∧ fz j = nI q) (hln9 : ∀ j : Nat, j < 8 → ¬ fz j = -1 → ¬ fn_ j = -1) (hj_1 : j_1 < k9) (hkn1 : 1 ≤ k9) (hw1 : 1 ≤ w9) (h01 : ¬ fs 0 = 0) (f_5_1_0 : (¬ (a1 < 0 ∨ 1 < a1))) (hj_8 : j_8 < 8) (f_12_1_0 : (¬ (((nI j_12)).toInt64 < 1 ∨ 12 < ((nI j_12)).toInt64))) (q_12 : ¬ ((nI j_12) < 1 ∨ 12 < (nI j_12))) (hj_12 : j_12 ≤ 12) (e_16 : (0 : Int32) = fs (26 + j_1)) (hF_18_0 : msn_18 = lkS (fz j_8) (nI pa_19) (nI j_12) ms) (f_18_0_0 : ¬ fz j_8 = -1) (f_18_0_1 : plc (fz j_8) (nI pa_19) (nI j_12)) (hab_19 : pa_19 + pb_19 ≤ 40) (eb_19 : j_12 = pb_19) (c_23 : ¬ (a1 = 0)) (hc1_25 : c_25 ≤ 15) (hc2_25 : (1 ≤ k9 → 1 ≤ c_25)) (hce_25 : fs 0 = nI c_25) (hF_28_0 : okM fsn_28 w9 k9 h9) (hF_28_1 : m38 fsn_28 = m38 fs) (hF_28_2 : (msn_28 : Int32) = 0) (h_28 : r_28 = (fitU (m38 fs) (20 + j_1) j_1 (fun uq => fi_ (((40 * j_8) + pa_19) + uq)) j_12 0 ((c_25 - 1) + 1))) : msn_28 = f_who (m38 fs) (mbl fn_ fz) (mbn fz) (nI j_1) a1 (nI j_8) (nI pa_19) (nI j_12) ms := by
  exact hF_28_2.trans ((whM_g (I := (fun _ _ => 0)) (sg := ms) (i := (nI pa_19)) hM hln9 hsz9 hj_1 f_5_1_0 hj_8 q_12 hj_12).2.trans (hr_3 (sg := ms) e_16.symm f_18_0_0 f_18_0_1).2).symm
theorem lf_X8_who_10 {ms : Int32} {mt : Int32} {ma : Nat} {fs : Nat → Int32} {w9 : Nat} {k9 : Nat} {h9 : Nat} {fi_ : Nat → Int32} {fz : Nat → Int32} {fn_ : Nat → Int32} {a1 : Int32} {j_1 : Nat} {j_8 : Nat} {j_12 : Nat} {msn_18 : Int32} {pa_19 : Nat} {pb_19 : Nat} {c_25 : Nat} {fsn_28 : Nat → Int32} {msn_28 : Int32} {r_28 : Int32} (hM : okM fs w9 k9 h9) (hT : ¬ mt = 0 → 1 ≤ k9) (h999 : h9 ≤ 999) (hT0 : mt = 0 → fs 0 = 0 ∧ ma = 0) (hsz9 : ∀ j : Nat, j < 8 → fz j = -1 ∨ ∃ q : Nat, q ≤ 40 ∧ fz j = nI q) (hln9 : ∀ j : Nat, j < 8 → ¬ fz j = -1 → ¬ fn_ j = -1) (hj_1 : j_1 < k9) (hkn1 : 1 ≤ k9) (hw1 : 1 ≤ w9) (h01 : ¬ fs 0 = 0) (f_5_1_0 : (¬ (a1 < 0 ∨ 1 < a1))) (hj_8 : j_8 < 8) (f_12_1_0 : (¬ (((nI j_12)).toInt64 < 1 ∨ 12 < ((nI j_12)).toInt64))) (q_12 : ¬ ((nI j_12) < 1 ∨ 12 < (nI j_12))) (hj_12 : j_12 ≤ 12) (e_16 : (0 : Int32) = fs (26 + j_1)) (hF_18_0 : msn_18 = lkS (fz j_8) (nI pa_19) (nI j_12) ms) (f_18_0_0 : ¬ fz j_8 = -1) (f_18_0_1 : plc (fz j_8) (nI pa_19) (nI j_12)) (hab_19 : pa_19 + pb_19 ≤ 40) (eb_19 : j_12 = pb_19) (c_23 : ¬ (a1 = 0)) (hc1_25 : c_25 ≤ 15) (hc2_25 : (1 ≤ k9 → 1 ≤ c_25)) (hce_25 : fs 0 = nI c_25) (hF_28_0 : okM fsn_28 w9 k9 h9) (hF_28_1 : m38 fsn_28 = m38 fs) (hF_28_2 : (msn_28 : Int32) = 0) (h_28 : r_28 = (fitU (m38 fs) (20 + j_1) j_1 (fun uq => fi_ (((40 * j_8) + pa_19) + uq)) j_12 0 ((c_25 - 1) + 1))) : r_28 = (a_who (m38 fs) (mbl fn_ fz) (mbn fz) (itM fi_) (nI j_1) a1 (nI j_8) (nI pa_19) (nI j_12)) := by
  first
  | exact hF_28_2.trans ((whM_g (I := (fun _ _ => 0)) (sg := ms) (i := (nI pa_19)) hM hln9 hsz9 hj_1 f_5_1_0 hj_8 q_12 hj_12).2.trans (hr_3 (sg := ms) e_16.symm f_18_0_0 f_18_0_1).2).symm
  | exact h_28.trans ((clM_fit hj_8 (by omega)).trans ((congrArg _ (clM_up hce_25 (hc2_25 hkn1) hc1_25)).trans (tri_1 (whM_g (I := (itM fi_)) (sg := 0) (i := (nI pa_19)) hM hln9 hsz9 hj_1 f_5_1_0 hj_8 q_12 hj_12).1 (hr_3 (sg := 0) e_16.symm f_18_0_0 f_18_0_1).1 c_23)))
theorem lf_X8_who_11 {ms : Int32} {mt : Int32} {ma : Nat} {fs : Nat → Int32} {w9 : Nat} {k9 : Nat} {h9 : Nat} {fi_ : Nat → Int32} {fz : Nat → Int32} {fn_ : Nat → Int32} {j_1 : Nat} {j_8 : Nat} {j_12 : Nat} {msn_18 : Int32} {pa_19 : Nat} {pb_19 : Nat} {fsn_30 : Nat → Int32} {msn_30 : Int32} {r_30 : Int32} (hM : okM fs w9 k9 h9) (hT : ¬ mt = 0 → 1 ≤ k9) (h999 : h9 ≤ 999) (hT0 : mt = 0 → fs 0 = 0 ∧ ma = 0) (hsz9 : ∀ j : Nat, j < 8 → fz j = -1 ∨ ∃ q : Nat, q ≤ 40 ∧ fz j = nI q) (hln9 : ∀ j : Nat, j < 8 → ¬ fz j = -1 → ¬ fn_ j = -1) (hj_1 : j_1 < k9) (hkn1 : 1 ≤ k9) (hw1 : 1 ≤ w9) (h01 : ¬ fs 0 = 0) (f_5_1_0 : (¬ ((0 : Int32) < 0 ∨ 1 < (0 : Int32)))) (hj_8 : j_8 < 8) (f_12_1_0 : (¬ (((nI j_12)).toInt64 < 1 ∨ 12 < ((nI j_12)).toInt64))) (q_12 : ¬ ((nI j_12) < 1 ∨ 12 < (nI j_12))) (hj_12 : j_12 ≤ 12) (e_16 : (0 : Int32) = fs (26 + j_1)) (hF_18_0 : msn_18 = lkS (fz j_8) (nI pa_19) (nI j_12) ms) (f_18_0_0 : ¬ fz j_8 = -1) (f_18_0_1 : plc (fz j_8) (nI pa_19) (nI j_12)) (hab_19 : pa_19 + pb_19 ≤ 40) (eb_19 : j_12 = pb_19) (hF_30_0 : okM fsn_30 w9 k9 h9) (hF_30_1 : m38 fsn_30 = m38 fs) (hF_30_2 : (msn_30 : Int32) = 0) (h_30 : r_30 = (fitU (m38 fs) (14 + j_1) j_1 (fun uq => fi_ (((40 * j_8) + pa_19) + uq)) j_12 1 (5 + 1))) : msn_30 = f_who (m38 fs) (mbl fn_ fz) (mbn fz) (nI j_1) (0 : Int32) (nI j_8) (nI pa_19) (nI j_12) ms := by
  exact hF_30_2.trans ((whM_g (I := (fun _ _ => 0)) (sg := ms) (i := (nI pa_19)) hM hln9 hsz9 hj_1 f_5_1_0 hj_8 q_12 hj_12).2.trans (hr_3 (sg := ms) e_16.symm f_18_0_0 f_18_0_1).2).symm
theorem lf_X8_who_12 {ms : Int32} {mt : Int32} {ma : Nat} {fs : Nat → Int32} {w9 : Nat} {k9 : Nat} {h9 : Nat} {fi_ : Nat → Int32} {fz : Nat → Int32} {fn_ : Nat → Int32} {j_1 : Nat} {j_8 : Nat} {j_12 : Nat} {msn_18 : Int32} {pa_19 : Nat} {pb_19 : Nat} {fsn_30 : Nat → Int32} {msn_30 : Int32} {r_30 : Int32} (hM : okM fs w9 k9 h9) (hT : ¬ mt = 0 → 1 ≤ k9) (h999 : h9 ≤ 999) (hT0 : mt = 0 → fs 0 = 0 ∧ ma = 0) (hsz9 : ∀ j : Nat, j < 8 → fz j = -1 ∨ ∃ q : Nat, q ≤ 40 ∧ fz j = nI q) (hln9 : ∀ j : Nat, j < 8 → ¬ fz j = -1 → ¬ fn_ j = -1) (hj_1 : j_1 < k9) (hkn1 : 1 ≤ k9) (hw1 : 1 ≤ w9) (h01 : ¬ fs 0 = 0) (f_5_1_0 : (¬ ((0 : Int32) < 0 ∨ 1 < (0 : Int32)))) (hj_8 : j_8 < 8) (f_12_1_0 : (¬ (((nI j_12)).toInt64 < 1 ∨ 12 < ((nI j_12)).toInt64))) (q_12 : ¬ ((nI j_12) < 1 ∨ 12 < (nI j_12))) (hj_12 : j_12 ≤ 12) (e_16 : (0 : Int32) = fs (26 + j_1)) (hF_18_0 : msn_18 = lkS (fz j_8) (nI pa_19) (nI j_12) ms) (f_18_0_0 : ¬ fz j_8 = -1) (f_18_0_1 : plc (fz j_8) (nI pa_19) (nI j_12)) (hab_19 : pa_19 + pb_19 ≤ 40) (eb_19 : j_12 = pb_19) (hF_30_0 : okM fsn_30 w9 k9 h9) (hF_30_1 : m38 fsn_30 = m38 fs) (hF_30_2 : (msn_30 : Int32) = 0) (h_30 : r_30 = (fitU (m38 fs) (14 + j_1) j_1 (fun uq => fi_ (((40 * j_8) + pa_19) + uq)) j_12 1 (5 + 1))) : r_30 = (a_who (m38 fs) (mbl fn_ fz) (mbn fz) (itM fi_) (nI j_1) (0 : Int32) (nI j_8) (nI pa_19) (nI j_12)) := by
  first
  | exact hF_30_2.trans ((whM_g (I := (fun _ _ => 0)) (sg := ms) (i := (nI pa_19)) hM hln9 hsz9 hj_1 f_5_1_0 hj_8 q_12 hj_12).2.trans (hr_3 (sg := ms) e_16.symm f_18_0_0 f_18_0_1).2).symm
  | exact h_30.trans ((clM_fit hj_8 (by omega)).trans (tri_0 (whM_g (I := (itM fi_)) (sg := 0) (i := (nI pa_19)) hM hln9 hsz9 hj_1 f_5_1_0 hj_8 q_12 hj_12).1 (hr_3 (sg := 0) e_16.symm f_18_0_0 f_18_0_1).1 rfl))
theorem lf_X8_who_13 {ms : Int32} {mt : Int32} {ma : Nat} {fs : Nat → Int32} {w9 : Nat} {k9 : Nat} {h9 : Nat} {fz : Nat → Int32} {fn_ : Nat → Int32} {a1 : Int32} {a3 : Int32} {j_1 : Nat} {j_8 : Nat} {j_12 : Nat} {msn_18 : Int32} {v_32 : Int32} (hM : okM fs w9 k9 h9) (hT : ¬ mt = 0 → 1 ≤ k9) (h999 : h9 ≤ 999) (hT0 : mt = 0 → fs 0 = 0 ∧ ma = 0) (hsz9 : ∀ j : Nat, j < 8 → fz j = -1 ∨ ∃ q : Nat, q ≤ 40 ∧ fz j = nI q) (hln9 : ∀ j : Nat, j < 8 → ¬ fz j = -1 → ¬ fn_ j = -1) (hj_1 : j_1 < k9) (hkn1 : 1 ≤ k9) (hw1 : 1 ≤ w9) (h01 : ¬ fs 0 = 0) (f_5_1_0 : (¬ (a1 < 0 ∨ 1 < a1))) (hj_8 : j_8 < 8) (f_12_1_0 : (¬ (((nI j_12)).toInt64 < 1 ∨ 12 < ((nI j_12)).toInt64))) (q_12 : ¬ ((nI j_12) < 1 ∨ 12 < (nI j_12))) (hj_12 : j_12 ≤ 12) (e_16 : (0 : Int32) = fs (26 + j_1)) (hF_18_0 : msn_18 = lkS (fz j_8) a3 (nI j_12) ms) (f_18_1_0 : fz j_8 = -1) (e_32 : v_32 = ((nI (40 * j_8)) + a3)) : msn_18 = f_who (m38 fs) (mbl fn_ fz) (mbn fz) (nI j_1) a1 (nI j_8) a3 (nI j_12) ms := by
  exact hF_18_0.trans ((lk_1 f_18_1_0).symm.trans ((whM_g (I := (fun _ _ => 0)) (sg := ms) (i := a3) hM hln9 hsz9 hj_1 f_5_1_0 hj_8 q_12 hj_12).2.trans (hr_1 e_16.symm f_18_1_0).2).symm)
theorem lf_X8_who_14 {ms : Int32} {mt : Int32} {ma : Nat} {fs : Nat → Int32} {w9 : Nat} {k9 : Nat} {h9 : Nat} {fi_ : Nat → Int32} {fz : Nat → Int32} {fn_ : Nat → Int32} {a1 : Int32} {a3 : Int32} {j_1 : Nat} {j_8 : Nat} {j_12 : Nat} {msn_18 : Int32} {v_32 : Int32} (hM : okM fs w9 k9 h9) (hT : ¬ mt = 0 → 1 ≤ k9) (h999 : h9 ≤ 999) (hT0 : mt = 0 → fs 0 = 0 ∧ ma = 0) (hsz9 : ∀ j : Nat, j < 8 → fz j = -1 ∨ ∃ q : Nat, q ≤ 40 ∧ fz j = nI q) (hln9 : ∀ j : Nat, j < 8 → ¬ fz j = -1 → ¬ fn_ j = -1) (hj_1 : j_1 < k9) (hkn1 : 1 ≤ k9) (hw1 : 1 ≤ w9) (h01 : ¬ fs 0 = 0) (f_5_1_0 : (¬ (a1 < 0 ∨ 1 < a1))) (hj_8 : j_8 < 8) (f_12_1_0 : (¬ (((nI j_12)).toInt64 < 1 ∨ 12 < ((nI j_12)).toInt64))) (q_12 : ¬ ((nI j_12) < 1 ∨ 12 < (nI j_12))) (hj_12 : j_12 ≤ 12) (e_16 : (0 : Int32) = fs (26 + j_1)) (hF_18_0 : msn_18 = lkS (fz j_8) a3 (nI j_12) ms) (f_18_1_0 : fz j_8 = -1) (e_32 : v_32 = ((nI (40 * j_8)) + a3)) : (-1000011) = (a_who (m38 fs) (mbl fn_ fz) (mbn fz) (itM fi_) (nI j_1) a1 (nI j_8) a3 (nI j_12)) := by
  first
  | exact tri_r (whM_g (I := (itM fi_)) (sg := 0) (i := a3) hM hln9 hsz9 hj_1 f_5_1_0 hj_8 q_12 hj_12).1 (hr_1 (sg := 0) e_16.symm f_18_1_0).1 (by decide)
  | exact hF_18_0.trans ((lk_1 f_18_1_0).symm.trans ((whM_g (I := (fun _ _ => 0)) (sg := ms) (i := a3) hM hln9 hsz9 hj_1 f_5_1_0 hj_8 q_12 hj_12).2.trans (hr_1 e_16.symm f_18_1_0).2).symm)
theorem lf_X8_who_15 {ms : Int32} {mt : Int32} {ma : Nat} {fs : Nat → Int32} {w9 : Nat} {k9 : Nat} {h9 : Nat} {fz : Nat → Int32} {fn_ : Nat → Int32} {a1 : Int32} {a3 : Int32} {j_1 : Nat} {j_8 : Nat} {j_12 : Nat} {msn_18 : Int32} {v_35 : Int32} (hM : okM fs w9 k9 h9) (hT : ¬ mt = 0 → 1 ≤ k9) (h999 : h9 ≤ 999) (hT0 : mt = 0 → fs 0 = 0 ∧ ma = 0) (hsz9 : ∀ j : Nat, j < 8 → fz j = -1 ∨ ∃ q : Nat, q ≤ 40 ∧ fz j = nI q) (hln9 : ∀ j : Nat, j < 8 → ¬ fz j = -1 → ¬ fn_ j = -1) (hj_1 : j_1 < k9) (hkn1 : 1 ≤ k9) (hw1 : 1 ≤ w9) (h01 : ¬ fs 0 = 0) (f_5_1_0 : (¬ (a1 < 0 ∨ 1 < a1))) (hj_8 : j_8 < 8) (f_12_1_0 : (¬ (((nI j_12)).toInt64 < 1 ∨ 12 < ((nI j_12)).toInt64))) (q_12 : ¬ ((nI j_12) < 1 ∨ 12 < (nI j_12))) (hj_12 : j_12 ≤ 12) (e_16 : (0 : Int32) = fs (26 + j_1)) (hF_18_0 : msn_18 = lkS (fz j_8) a3 (nI j_12) ms) (f_18_2_0 : ¬ fz j_8 = -1) (f_18_2_1 : ¬ plc (fz j_8) a3 (nI j_12)) (e_35 : v_35 = ((nI (40 * j_8)) + a3)) : msn_18 = f_who (m38 fs) (mbl fn_ fz) (mbn fz) (nI j_1) a1 (nI j_8) a3 (nI j_12) ms := by
  exact hF_18_0.trans ((lk_2 f_18_2_0 f_18_2_1).symm.trans ((whM_g (I := (fun _ _ => 0)) (sg := ms) (i := a3) hM hln9 hsz9 hj_1 f_5_1_0 hj_8 q_12 hj_12).2.trans (hr_2 e_16.symm f_18_2_0 f_18_2_1).2).symm)
theorem lf_X8_who_16 {ms : Int32} {mt : Int32} {ma : Nat} {fs : Nat → Int32} {w9 : Nat} {k9 : Nat} {h9 : Nat} {fi_ : Nat → Int32} {fz : Nat → Int32} {fn_ : Nat → Int32} {a1 : Int32} {a3 : Int32} {j_1 : Nat} {j_8 : Nat} {j_12 : Nat} {msn_18 : Int32} {v_35 : Int32} (hM : okM fs w9 k9 h9) (hT : ¬ mt = 0 → 1 ≤ k9) (h999 : h9 ≤ 999) (hT0 : mt = 0 → fs 0 = 0 ∧ ma = 0) (hsz9 : ∀ j : Nat, j < 8 → fz j = -1 ∨ ∃ q : Nat, q ≤ 40 ∧ fz j = nI q) (hln9 : ∀ j : Nat, j < 8 → ¬ fz j = -1 → ¬ fn_ j = -1) (hj_1 : j_1 < k9) (hkn1 : 1 ≤ k9) (hw1 : 1 ≤ w9) (h01 : ¬ fs 0 = 0) (f_5_1_0 : (¬ (a1 < 0 ∨ 1 < a1))) (hj_8 : j_8 < 8) (f_12_1_0 : (¬ (((nI j_12)).toInt64 < 1 ∨ 12 < ((nI j_12)).toInt64))) (q_12 : ¬ ((nI j_12) < 1 ∨ 12 < (nI j_12))) (hj_12 : j_12 ≤ 12) (e_16 : (0 : Int32) = fs (26 + j_1)) (hF_18_0 : msn_18 = lkS (fz j_8) a3 (nI j_12) ms) (f_18_2_0 : ¬ fz j_8 = -1) (f_18_2_1 : ¬ plc (fz j_8) a3 (nI j_12)) (e_35 : v_35 = ((nI (40 * j_8)) + a3)) : (-1000012) = (a_who (m38 fs) (mbl fn_ fz) (mbn fz) (itM fi_) (nI j_1) a1 (nI j_8) a3 (nI j_12)) := by
  first
  | exact tri_r (whM_g (I := (itM fi_)) (sg := 0) (i := a3) hM hln9 hsz9 hj_1 f_5_1_0 hj_8 q_12 hj_12).1 (hr_2 (sg := 0) e_16.symm f_18_2_0 f_18_2_1).1 (by decide)
  | exact hF_18_0.trans ((lk_2 f_18_2_0 f_18_2_1).symm.trans ((whM_g (I := (fun _ _ => 0)) (sg := ms) (i := a3) hM hln9 hsz9 hj_1 f_5_1_0 hj_8 q_12 hj_12).2.trans (hr_2 e_16.symm f_18_2_0 f_18_2_1).2).symm)
theorem lf_X8_who_17 {ms : Int32} {mt : Int32} {ma : Nat} {fs : Nat → Int32} {w9 : Nat} {k9 : Nat} {h9 : Nat} {fz : Nat → Int32} {fn_ : Nat → Int32} {a1 : Int32} {a3 : Int32} {j_1 : Nat} {j_8 : Nat} {j_12 : Nat} {v_16 : Int32} (hM : okM fs w9 k9 h9) (hT : ¬ mt = 0 → 1 ≤ k9) (h999 : h9 ≤ 999) (hT0 : mt = 0 → fs 0 = 0 ∧ ma = 0) (hsz9 : ∀ j : Nat, j < 8 → fz j = -1 ∨ ∃ q : Nat, q ≤ 40 ∧ fz j = nI q) (hln9 : ∀ j : Nat, j < 8 → ¬ fz j = -1 → ¬ fn_ j = -1) (hj_1 : j_1 < k9) (hkn1 : 1 ≤ k9) (hw1 : 1 ≤ w9) (h01 : ¬ fs 0 = 0) (f_5_1_0 : (¬ (a1 < 0 ∨ 1 < a1))) (hj_8 : j_8 < 8) (f_12_1_0 : (¬ (((nI j_12)).toInt64 < 1 ∨ 12 < ((nI j_12)).toInt64))) (q_12 : ¬ ((nI j_12) < 1 ∨ 12 < (nI j_12))) (hj_12 : j_12 ≤ 12) (e_16 : v_16 = fs (26 + j_1)) (c_17 : ¬ (v_16 = 0)) : ms = f_who (m38 fs) (mbl fn_ fz) (mbn fz) (nI j_1) a1 (nI j_8) a3 (nI j_12) ms := by
  exact ((whM_g (I := (fun _ _ => 0)) (sg := ms) (i := a3) hM hln9 hsz9 hj_1 f_5_1_0 hj_8 q_12 hj_12).2.trans (hr_0 (by rw [← e_16]; exact c_17)).2).symm
theorem lf_X8_who_18 {mt : Int32} {ma : Nat} {fs : Nat → Int32} {w9 : Nat} {k9 : Nat} {h9 : Nat} {fi_ : Nat → Int32} {fz : Nat → Int32} {fn_ : Nat → Int32} {a1 : Int32} {a3 : Int32} {j_1 : Nat} {j_8 : Nat} {j_12 : Nat} {v_16 : Int32} (hM : okM fs w9 k9 h9) (hT : ¬ mt = 0 → 1 ≤ k9) (h999 : h9 ≤ 999) (hT0 : mt = 0 → fs 0 = 0 ∧ ma = 0) (hsz9 : ∀ j : Nat, j < 8 → fz j = -1 ∨ ∃ q : Nat, q ≤ 40 ∧ fz j = nI q) (hln9 : ∀ j : Nat, j < 8 → ¬ fz j = -1 → ¬ fn_ j = -1) (hj_1 : j_1 < k9) (hkn1 : 1 ≤ k9) (hw1 : 1 ≤ w9) (h01 : ¬ fs 0 = 0) (f_5_1_0 : (¬ (a1 < 0 ∨ 1 < a1))) (hj_8 : j_8 < 8) (f_12_1_0 : (¬ (((nI j_12)).toInt64 < 1 ∨ 12 < ((nI j_12)).toInt64))) (q_12 : ¬ ((nI j_12) < 1 ∨ 12 < (nI j_12))) (hj_12 : j_12 ≤ 12) (e_16 : v_16 = fs (26 + j_1)) (c_17 : ¬ (v_16 = 0)) : (-1000002) = (a_who (m38 fs) (mbl fn_ fz) (mbn fz) (itM fi_) (nI j_1) a1 (nI j_8) a3 (nI j_12)) := by
  first
  | exact tri_r (whM_g (I := (itM fi_)) (sg := 0) (i := a3) hM hln9 hsz9 hj_1 f_5_1_0 hj_8 q_12 hj_12).1 (hr_0 (sg := 0) (by rw [← e_16]; exact c_17)).1 (by decide)
  | exact ((whM_g (I := (fun _ _ => 0)) (sg := ms) (i := a3) hM hln9 hsz9 hj_1 f_5_1_0 hj_8 q_12 hj_12).2.trans (hr_0 (by rw [← e_16]; exact c_17)).2).symm
set_option maxHeartbeats 4000000 in
set_option maxRecDepth 100000 in
theorem r_X8_who (l : Launch) (dC : Nat → ClassId) (dI : Nat → Nat → Nat) (cI cZ cL cJ : ClassId) (sz : Nat) (mo : Nat) (m_la : Nat) (m_sz : Nat) (m_it : Nat) (m_st : Nat) (m_mv : Nat) (m_tp : Nat) (m_rd : Nat) (m_ac : Nat) (m_as : Nat) (m_wo : Nat) (m_ik : Nat) (m_ke : Nat) (m_tr : Nat) (ms : Int32) (mt : Int32) (ml : Int32) (mk : Int32) (mv : Int32) (mb : Int32) (mw : Int32) (mz : Nat) (mp : Nat) (ma : Nat) (mx : Nat) (fs : Nat → Int32) (w9 : Nat) (k9 : Nat) (h9 : Nat) (fa : Nat → Int32) (fi_ : Nat → Int32) (fz : Nat → Int32) (fn_ : Nat → Int32) (a0 : Int32) (a1 : Int32) (a2 : Int32) (a3 : Int32) (a4 : Int32) (hM : okM fs w9 k9 h9) (hT : ¬ mt = 0 → 1 ≤ k9) (h999 : h9 ≤ 999) (hT0 : mt = 0 → fs 0 = 0 ∧ ma = 0) (hsz9 : ∀ j : Nat, j < 8 → fz j = -1 ∨ ∃ q : Nat, q ≤ 40 ∧ fz j = nI q) (hln9 : ∀ j : Nat, j < 8 → ¬ fz j = -1 → ¬ fn_ j = -1) : Met l yX8_who wsX8_who ({ frames := 6, cells := 0, slots := 0, locals := 149 }) (va_Pc [.ref mo, .int a0, .int a1, .int a2, .int a3, .int a4] (fun U => U.heap.size = sz ∧ va_P (dC, dI) vwCl [(xo_8_rrriirrriiiiiiirrirrrrri mo m_la m_sz m_it ms mt m_st m_mv m_tp (nI mz) ml (nI mp) mk mv mb mw m_rd m_ac (nI ma) m_as m_wo m_ik m_ke m_tr (nI mx)), (xI m_st cI 38 fs), (xI m_as cI 38 fa), (xI m_it cI 320 fi_), (xI m_sz cI 8 fz), (xI m_la cI 8 fn_)] U.heap ∧ va_K (dC, dI) vwCl [(cI, .int), (cZ, .boolean), (cL, .object RX3), (cJ, .array .int)] U ∧ va_D (fun _ => True) [(xo_8_rrriirrriiiiiiirrirrrrri mo m_la m_sz m_it ms mt m_st m_mv m_tp (nI mz) ml (nI mp) mk mv mb mw m_rd m_ac (nI ma) m_as m_wo m_ik m_ke m_tr (nI mx)), (xI m_st cI 38 fs), (xI m_as cI 38 fa), (xI m_it cI 320 fi_), (xI m_sz cI 8 fz), (xI m_la cI 8 fn_)])) (va_Qi (fun r (_ : Unit) => r = (a_who (m38 fs) (mbl fn_ fz) (mbn fz) (itM fi_) a0 a1 a2 a3 a4)) (fun (_ : Unit) t => ∃ (fsn : Nat → Int32) (fan : Nat → Int32) (msn : Int32), va_P (dC, dI) vwCl [(xo_8_rrriirrriiiiiiirrirrrrri mo m_la m_sz m_it msn mt m_st m_mv m_tp (nI mz) ml (nI mp) mk mv mb mw m_rd m_ac (nI ma) m_as m_wo m_ik m_ke m_tr (nI mx)), (xI m_st cI 38 fsn), (xI m_as cI 38 fan), (xI m_it cI 320 fi_), (xI m_sz cI 8 fz), (xI m_la cI 8 fn_)] t.heap ∧ va_D (va_A [(xo_8_rrriirrriiiiiiirrirrrrri mo m_la m_sz m_it ms mt m_st m_mv m_tp (nI mz) ml (nI mp) mk mv mb mw m_rd m_ac (nI ma) m_as m_wo m_ik m_ke m_tr (nI mx)), (xI m_st cI 38 fs), (xI m_as cI 38 fa), (xI m_it cI 320 fi_), (xI m_sz cI 8 fz), (xI m_la cI 8 fn_)] sz) [(xo_8_rrriirrriiiiiiirrirrrrri mo m_la m_sz m_it msn mt m_st m_mv m_tp (nI mz) ml (nI mp) mk mv mb mw m_rd m_ac (nI ma) m_as m_wo m_ik m_ke m_tr (nI mx)), (xI m_st cI 38 fsn), (xI m_as cI 38 fan), (xI m_it cI 320 fi_), (xI m_sz cI 8 fz), (xI m_la cI 8 fn_)] ∧ okM fsn w9 k9 h9 ∧ m38 fsn = m38 fs ∧ msn = f_who (m38 fs) (mbl fn_ fz) (mbn fz) a0 a1 a2 a3 a4 ms) (va_A [(xo_8_rrriirrriiiiiiirrirrrrri mo m_la m_sz m_it ms mt m_st m_mv m_tp (nI mz) ml (nI mp) mk mv mb mw m_rd m_ac (nI ma) m_as m_wo m_ik m_ke m_tr (nI mx)), (xI m_st cI 38 fs), (xI m_as cI 38 fa), (xI m_it cI 320 fi_), (xI m_sz cI 8 fz), (xI m_la cI 8 fn_)] sz)) 0 0 (va_A [(xo_8_rrriirrriiiiiiirrirrrrri mo m_la m_sz m_it ms mt m_st m_mv m_tp (nI mz) ml (nI mp) mk mv mb mw m_rd m_ac (nI ma) m_as m_wo m_ik m_ke m_tr (nI mx)), (xI m_st cI 38 fs), (xI m_as cI 38 fa), (xI m_it cI 320 fi_), (xI m_sz cI 8 fz), (xI m_la cI 8 fn_)] sz) := by
  refine Met.ofW (cc := cX8_who) (maxL := 8) (ret := (some .int)) (by decide) rfl ?_
  intro p e s m args below meth c s₁ B hml hv
  obtain ⟨rfl, hsz, hP, hK, hD0⟩ := hv
  have hx := B.exec
  have hb := B.bytes
  have hr := B.returns
  have hts := atoms_spec (ws := wsX8_who) B.pre
  have hown : s.vm.findClass RX8 = some m.cls := findClass_of_methodNamed B.named
  have hlocks := B.notSynchronized
  subst hsz
  have hD := hD0.self (sz := s.heap.size)
  generalize hAe : va_A [(xo_8_rrriirrriiiiiiirrirrrrri mo m_la m_sz m_it ms mt m_st m_mv m_tp (nI mz) ml (nI mp) mk mv mb mw m_rd m_ac (nI ma) m_as m_wo m_ik m_ke m_tr (nI mx)), (xI m_st cI 38 fs), (xI m_as cI 38 fa), (xI m_it cI 320 fi_), (xI m_sz cI 8 fz), (xI m_la cI 8 fn_)] s.heap.size = A at hD ⊢
  have hA : ∀ q : Nat, s.heap.size ≤ q → A q := fun q h => by rw [← hAe]; exact Or.inr h
  have hS : va_S A s.heap s.heap [] := va_S.rf
  have hP : va_P (dC, dI) vwCl [(xo_8_rrriirrriiiiiiirrirrrrri mo m_la m_sz m_it ms mt m_st m_mv m_tp (nI mz) ml (nI mp) mk mv mb mw m_rd m_ac (nI ma) m_as m_wo m_ik m_ke m_tr (nI mx)), (xI m_st cI 38 fs), (xI m_as cI 38 fa), (xI m_it cI 320 fi_), (xI m_sz cI 8 fz), (xI m_la cI 8 fn_)] s.heap := hP
  have hl := lv_entry ([.ref mo, .int a0, .int a1, .int a2, .int a3, .int a4]) (n := 8) (Nat.le_of_ble_eq_true rfl)
  rw [lg_entry_eq]
  generalize (lg_sl ([.ref mo, .int a0, .int a1, .int a2, .int a3, .int a4]) ++ List.replicate (8 - (lg_sl ([.ref mo, .int a0, .int a1, .int a2, .int a3, .int a4])).length) Slot.unset).toArray = ls at hl ⊢
  have hl : lv_has ls 8 [(0, .ref mo), (1, .int a0), (2, .int a1), (3, .int a2), (4, .int a3), (5, .int a4)] := hl
  have hk6 := hM.2.2.2.2.1
  have hw6 := hM.2.2.2.1
  refine lv_aload_n hx hb dX8_who_0 rfl (lv_at hl 0 rfl) ?_
  refine lv_iload_n hx hb dX8_who_1 rfl (lv_at hl 1 rfl) ?_
  have hPc_1 := hP.sub (ws' := [(xo_8_rrriirrriiiiiiirrirrrrri mo m_la m_sz m_it ms mt m_st m_mv m_tp (nI mz) ml (nI mp) mk mv mb mw m_rd m_ac (nI ma) m_as m_wo m_ik m_ke m_tr (nI mx)), (xI m_st cI 38 fs)]) [0, 1] rfl
  refine vp_callSi (W.runV (As := [.int a0]) (rest := []) ⟨hx, hb, hml, hown, hts⟩ (r_X8_isSound l dC dI cI cZ cL cJ mo m_la m_sz m_it m_st m_mv m_tp m_rd m_ac m_as m_wo m_ik m_ke m_tr ms mt ml mk mv mb mw mz mp ma mx fs w9 k9 h9 a0 (hM)) (cwV 1 hts gX8_who_X8_isSound rfl rfl rfl (by decide +kernel) ⟨Nat.le_of_ble_eq_true rfl, Nat.le_of_ble_eq_true rfl⟩) (pvP 8 0 hK hP rfl rfl hPc_1) rfl rfl hl.1 rfl (lv_room (Nat.le_of_ble_eq_true rfl)) dX8_who_2 ⟨Nat.le_of_ble_eq_true rfl, Nat.le_of_ble_eq_true rfl⟩) (fun r_1 h_1 => ?_)
  rcases h_1 with ⟨h_1, f_1_0_0⟩ | ⟨h_1, f_1_1_0⟩
  · subst h_1
    refine lv_if_eq (tgt := 35) hx hb dX8_who_5 (by decide) (fun _ => ?_) (fun c_ => absurd (by decide) c_)
    refine lv_ldc (own := RX8) (v := (-1000001)) hx hb hown (hts _ mx_X8_who_2) dX8_who_35 ?_
    have hX9 := cut2 (wc := [(xo_8_rrriirrriiiiiiirrirrrrri mo m_la m_sz m_it ms mt m_st m_mv m_tp (nI mz) ml (nI mp) mk mv mb mw m_rd m_ac (nI ma) m_as m_wo m_ik m_ke m_tr (nI mx)), (xI m_st cI 38 fs), (xI m_as cI 38 fa), (xI m_it cI 320 fi_), (xI m_sz cI 8 fz), (xI m_la cI 8 fn_)]) hP hD [0, 1, 2, 3, 4, 5] (by decide +kernel) rfl
    exact W.iret (v := (-1000001)) hx hb hr (fun t ht hW => ⟨⟨(-1000001), (), rfl, (lf_X8_who_2 hM hT h999 hT0 hsz9 hln9 f_1_0_0), ⟨fs, fa, ms, va_Ht ht hX9.1, hX9.2, hM, rfl, (lf_X8_who_1 hM hT h999 hT0 hsz9 hln9 f_1_0_0)⟩⟩, hS.F ht⟩) hS.2.2 dX8_who_37
  · subst h_1
    obtain ⟨j_1, hj_1, rfl⟩ := vp_in_of f_1_1_0 (by omega)
    have hkn1 : 1 ≤ k9 := by omega
    have hw1 := hM.2.2.2.2.2.1.mp hkn1
    have h01 : ¬ fs 0 = 0 := cell_nz hM hkn1
    refine lv_if_eq (tgt := 35) hx hb dX8_who_5 (by decide) (fun c_ => absurd c_ (by decide)) (fun _ => ?_)
    refine lv_iload_n hx hb dX8_who_8 rfl (lv_at hl 2 rfl) ?_
    have hPc_5 := hP.sub (ws' := []) [] rfl
    refine vp_callSi (W.runS (As := [.int a1]) (rest := []) ⟨hx, hb, hml, hown, hts⟩ (r_X8_isWhat l dC dI cI cZ cL cJ a1 ) (va_cwS 1 hts gX8_who_X8_isWhat rfl rfl rfl (by decide +kernel) ⟨Nat.le_of_ble_eq_true rfl, Nat.le_of_ble_eq_true rfl⟩) (psP hK hPc_5) rfl rfl hl.1 rfl (lv_room (Nat.le_of_ble_eq_true rfl)) dX8_who_9 ⟨Nat.le_of_ble_eq_true rfl, Nat.le_of_ble_eq_true rfl⟩) (fun r_5 h_5 => ?_)
    rcases h_5 with ⟨h_5, f_5_0_0⟩ | ⟨h_5, f_5_1_0⟩
    · subst h_5
      refine lv_if_eq (tgt := 35) hx hb dX8_who_12 (by decide) (fun _ => ?_) (fun c_ => absurd (by decide) c_)
      refine lv_ldc (own := RX8) (v := (-1000001)) hx hb hown (hts _ mx_X8_who_2) dX8_who_35 ?_
      have hX9 := cut2 (wc := [(xo_8_rrriirrriiiiiiirrirrrrri mo m_la m_sz m_it ms mt m_st m_mv m_tp (nI mz) ml (nI mp) mk mv mb mw m_rd m_ac (nI ma) m_as m_wo m_ik m_ke m_tr (nI mx)), (xI m_st cI 38 fs), (xI m_as cI 38 fa), (xI m_it cI 320 fi_), (xI m_sz cI 8 fz), (xI m_la cI 8 fn_)]) hP hD [0, 1, 2, 3, 4, 5] (by decide +kernel) rfl
      exact W.iret (v := (-1000001)) hx hb hr (fun t ht hW => ⟨⟨(-1000001), (), rfl, (lf_X8_who_4 hM hT h999 hT0 hsz9 hln9 hj_1 hkn1 hw1 h01 f_5_0_0), ⟨fs, fa, ms, va_Ht ht hX9.1, hX9.2, hM, rfl, (lf_X8_who_3 hM hT h999 hT0 hsz9 hln9 hj_1 hkn1 hw1 h01 f_5_0_0)⟩⟩, hS.F ht⟩) hS.2.2 dX8_who_37
    · subst h_5
      refine lv_if_eq (tgt := 35) hx hb dX8_who_12 (by decide) (fun c_ => absurd c_ (by decide)) (fun _ => ?_)
      refine lv_iload_n hx hb dX8_who_15 rfl (lv_at hl 3 rfl) ?_
      have hPc_8 := hP.sub (ws' := []) [] rfl
      refine vp_callSi (W.runS (As := [.int a2]) (rest := []) ⟨hx, hb, hml, hown, hts⟩ (r_X8_isRow l dC dI cI cZ cL cJ a2 ) (va_cwS 1 hts gX8_who_X8_isRow rfl rfl rfl (by decide +kernel) ⟨Nat.le_of_ble_eq_true rfl, Nat.le_of_ble_eq_true rfl⟩) (psP hK hPc_8) rfl rfl hl.1 rfl (lv_room (Nat.le_of_ble_eq_true rfl)) dX8_who_16 ⟨Nat.le_of_ble_eq_true rfl, Nat.le_of_ble_eq_true rfl⟩) (fun r_8 h_8 => ?_)
      rcases h_8 with ⟨h_8, f_8_0_0⟩ | ⟨h_8, f_8_1_0⟩
      · subst h_8
        refine lv_if_eq (tgt := 35) hx hb dX8_who_19 (by decide) (fun _ => ?_) (fun c_ => absurd (by decide) c_)
        refine lv_ldc (own := RX8) (v := (-1000001)) hx hb hown (hts _ mx_X8_who_2) dX8_who_35 ?_
        have hX9 := cut2 (wc := [(xo_8_rrriirrriiiiiiirrirrrrri mo m_la m_sz m_it ms mt m_st m_mv m_tp (nI mz) ml (nI mp) mk mv mb mw m_rd m_ac (nI ma) m_as m_wo m_ik m_ke m_tr (nI mx)), (xI m_st cI 38 fs), (xI m_as cI 38 fa), (xI m_it cI 320 fi_), (xI m_sz cI 8 fz), (xI m_la cI 8 fn_)]) hP hD [0, 1, 2, 3, 4, 5] (by decide +kernel) rfl
        exact W.iret (v := (-1000001)) hx hb hr (fun t ht hW => ⟨⟨(-1000001), (), rfl, (lf_X8_who_6 hM hT h999 hT0 hsz9 hln9 hj_1 hkn1 hw1 h01 f_5_1_0 f_8_0_0), ⟨fs, fa, ms, va_Ht ht hX9.1, hX9.2, hM, rfl, (lf_X8_who_5 hM hT h999 hT0 hsz9 hln9 hj_1 hkn1 hw1 h01 f_5_1_0 f_8_0_0)⟩⟩, hS.F ht⟩) hS.2.2 dX8_who_37
      · subst h_8
        obtain ⟨j_8, hj_8, rfl⟩ := vp_in_of f_8_1_0 (by omega)
        refine lv_if_eq (tgt := 35) hx hb dX8_who_19 (by decide) (fun c_ => absurd c_ (by decide)) (fun _ => ?_)
        refine lv_iload hx hb dX8_who_22 (lv_at hl 5 rfl) ?_
        refine lv_i2l hx hb dX8_who_24 rfl ?_
        refine lv_lconst (v := 1) hx hb dX8_who_25 (by decide) ?_
        refine lv_ldc2 (own := RX8) (v := 12) hx hb hown (hts _ mx_X8_who_1) dX8_who_26 ?_
        have hPc_12 := hP.sub (ws' := []) [] rfl
        refine vp_callSi (W.runS (As := [.long (a4).toInt64, .long 1, .long 12]) (rest := []) ⟨hx, hb, hml, hown, hts⟩ (r_X8_in l dC dI cI cZ cL cJ ((a4).toInt64) 1 12 ) (va_cwS 3 hts gX8_who_X8_in rfl rfl rfl (by decide +kernel) ⟨Nat.le_of_ble_eq_true rfl, Nat.le_of_ble_eq_true rfl⟩) (psP hK hPc_12) rfl rfl hl.1 rfl (lv_room (Nat.le_of_ble_eq_true rfl)) dX8_who_29 ⟨Nat.le_of_ble_eq_true rfl, Nat.le_of_ble_eq_true rfl⟩) (fun r_12 h_12 => ?_)
        rcases h_12 with ⟨h_12, f_12_0_0⟩ | ⟨h_12, f_12_1_0⟩
        · subst h_12
          have q_12 : (a4 < 1 ∨ 12 < a4) := (in32 (x := a4) (l := 1) (u := 12) (by decide) (by decide)).mp f_12_0_0
          refine lv_if_ne (tgt := 38) hx hb dX8_who_32 (by decide) (fun c_ => absurd (by decide) c_) (fun _ => ?_)
          refine lv_ldc (own := RX8) (v := (-1000001)) hx hb hown (hts _ mx_X8_who_2) dX8_who_35 ?_
          have hX9 := cut2 (wc := [(xo_8_rrriirrriiiiiiirrirrrrri mo m_la m_sz m_it ms mt m_st m_mv m_tp (nI mz) ml (nI mp) mk mv mb mw m_rd m_ac (nI ma) m_as m_wo m_ik m_ke m_tr (nI mx)), (xI m_st cI 38 fs), (xI m_as cI 38 fa), (xI m_it cI 320 fi_), (xI m_sz cI 8 fz), (xI m_la cI 8 fn_)]) hP hD [0, 1, 2, 3, 4, 5] (by decide +kernel) rfl
          exact W.iret (v := (-1000001)) hx hb hr (fun t ht hW => ⟨⟨(-1000001), (), rfl, (lf_X8_who_8 hM hT h999 hT0 hsz9 hln9 hj_1 hkn1 hw1 h01 f_5_1_0 hj_8 f_12_0_0 q_12), ⟨fs, fa, ms, va_Ht ht hX9.1, hX9.2, hM, rfl, (lf_X8_who_7 hM hT h999 hT0 hsz9 hln9 hj_1 hkn1 hw1 h01 f_5_1_0 hj_8 f_12_0_0 q_12)⟩⟩, hS.F ht⟩) hS.2.2 dX8_who_37
        · subst h_12
          have q_12 : ¬ (a4 < 1 ∨ 12 < a4) := fun q_ => f_12_1_0 ((in32 (x := a4) (l := 1) (u := 12) (by decide) (by decide)).mpr q_)
          obtain ⟨j_12, hj_12, hl_12, rfl⟩ := in64 (lo := 1) (n := 12) rfl rfl (by decide) f_12_1_0
          refine lv_if_ne (tgt := 38) hx hb dX8_who_32 (by decide) (fun _ => ?_) (fun c_ => absurd c_ (by decide))
          refine lv_aload_n hx hb dX8_who_38 rfl (lv_at hl 0 rfl) ?_
          refine va_get (D := (dC, dI)) (ci := 8) (v := .ref m_st) (C := RX8) (T := TX8) (N := 24) hx hb hts i_X8_who_X8 hown hK hP 0 rfl rfl 5 (by decide) (hts _ mx_X8_who_3) (fun _ h9 => h9) rfl dX8_who_39 ?_
          refine lv_bipush (v := 26) hx hb dX8_who_42 (by decide) ?_
          refine lv_iload_n hx hb dX8_who_44 rfl (lv_at hl 1 rfl) ?_
          refine lv_iadd hx hb dX8_who_45 ?_
          refine lv_topi (fun v_15 e_15 => ?_)
          obtain rfl : v_15 = (nI (26 + j_1)) := (e_15).trans (nI_add 26 j_1)
          refine va_iald hx hb hK hP 1 0 rfl rfl (vp_in_nI (by omega) (by omega)) dX8_who_46 ?_
          refine lv_topi (fun v_16 e_16 => ?_)
          have e_16 : v_16 = fs (26 + j_1) := e_16.trans (congrArg fs (nI_clamp (by omega)))
          refine lv_if_eq (tgt := 53) hx hb dX8_who_47 (by decide) (fun c_17 => ?_) (fun c_17 => ?_)
          · skip
            subst c_17
            refine lv_aload_n hx hb dX8_who_53 rfl (lv_at hl 0 rfl) ?_
            refine lv_iload_n hx hb dX8_who_54 rfl (lv_at hl 3 rfl) ?_
            refine lv_iload hx hb dX8_who_55 (lv_at hl 4 rfl) ?_
            refine lv_iload hx hb dX8_who_57 (lv_at hl 5 rfl) ?_
            have hc_18 := cutW (wc := [(xo_8_rrriirrriiiiiiirrirrrrri mo m_la m_sz m_it ms mt m_st m_mv m_tp (nI mz) ml (nI mp) mk mv mb mw m_rd m_ac (nI ma) m_as m_wo m_ik m_ke m_tr (nI mx)), (xI m_sz cI 8 fz)]) hP hD hS hA [0, 4] (by decide +kernel) rfl
            refine va_calli (va_runV (As := [.int (nI j_8), .int a3, .int (nI j_12)]) (rest := []) ⟨hx, hb, hml, hown, hts⟩ (r_X8_lacks l dC dI cI cZ cL cJ s.heap.size mo m_la m_sz m_it m_st m_mv m_tp m_rd m_ac m_as m_wo m_ik m_ke m_tr ms mt ml mk mv mb mw mz mp ma mx fz j_8 j_12 a3 (hsz9) (by omega) (by omega)) (cwV 3 hts gX8_who_X8_lacks rfl rfl rfl (by decide +kernel) ⟨Nat.le_of_ble_eq_true rfl, Nat.le_of_ble_eq_true rfl⟩) (pvW 8 0 hK hP rfl rfl hc_18) rfl rfl hl.1 rfl (lv_room (Nat.le_of_ble_eq_true rfl)) dX8_who_59 ⟨Nat.le_of_ble_eq_true rfl, Nat.le_of_ble_eq_true rfl⟩) hS (fun q _ h => hc_18.2.2 q h) hc_18.2.2 (fun r_18 u_18 t_18 H1 locs ht hvm h_18 hB hz1 hk1 hS => ?_)
            refine xl_1_3 hB (fun msn_18 hP1 hD1 hF_18_0 => ?_)
            clear hB
            rw [ht] at hP1
            obtain ⟨hP, hD⟩ := va_join (wr := [(xI m_st cI 38 fs), (xI m_as cI 38 fa), (xI m_it cI 320 fi_), (xI m_la cI 8 fn_)]) (w1 := [(xo_8_rrriirrriiiiiiirrirrrrri mo m_la m_sz m_it msn_18 mt m_st m_mv m_tp (nI mz) ml (nI mp) mk mv mb mw m_rd m_ac (nI ma) m_as m_wo m_ik m_ke m_tr (nI mx)), (xI m_sz cI 8 fz)]) hP hD [0, 4] [1, 2, 3, 5] rfl rfl (by decide +kernel) (by decide +kernel) hk1 hc_18.2.2 hP1 hD1
            generalize H1 = H at hP hS ⊢
            have hP : va_P (dC, dI) vwCl [(xI m_st cI 38 fs), (xI m_as cI 38 fa), (xI m_it cI 320 fi_), (xI m_la cI 8 fn_), (xo_8_rrriirrriiiiiiirrirrrrri mo m_la m_sz m_it msn_18 mt m_st m_mv m_tp (nI mz) ml (nI mp) mk mv mb mw m_rd m_ac (nI ma) m_as m_wo m_ik m_ke m_tr (nI mx)), (xI m_sz cI 8 fz)] H := hP
            have hD := dto hP hD
            rcases h_18 with ⟨h_18, f_18_0_0, f_18_0_1, f_18_0_2⟩ | ⟨h_18, f_18_1_0⟩ | ⟨h_18, f_18_2_0, f_18_2_1⟩
            · subst h_18
              obtain ⟨pa_19, pb_19, ea_19, eb_19, hab_19⟩ := f_18_0_2
              subst ea_19
              have eb_19 : j_12 = pb_19 := nI_inj eb_19 (by omega) (by omega)
              refine lv_istore (lv' := [(6, .int 0), (0, .ref mo), (1, .int (nI j_1)), (2, .int a1), (3, .int (nI j_8)), (4, .int (nI pa_19)), (5, .int (nI j_12))]) hx hb dX8_who_62 hl (by decide) rfl (fun ls hl => ?_)
              refine lv_bipush (v := 40) hx hb dX8_who_64 (by decide) ?_
              refine lv_iload_n hx hb dX8_who_66 rfl (lv_at hl 4 rfl) ?_
              refine lv_imul hx hb dX8_who_67 ?_
              refine lv_topi (fun v_20 e_20 => ?_)
              obtain rfl : v_20 = (nI (40 * j_8)) := (e_20).trans (pk_mul 40 j_8)
              refine lv_iload hx hb dX8_who_68 (lv_at hl 5 rfl) ?_
              refine lv_iadd hx hb dX8_who_70 ?_
              refine lv_topi (fun v_21 e_21 => ?_)
              obtain rfl : v_21 = (nI ((40 * j_8) + pa_19)) := (e_21).trans (nI_add (40 * j_8) pa_19)
              refine lv_istore (lv' := [(7, .int (nI ((40 * j_8) + pa_19))), (6, .int 0), (0, .ref mo), (1, .int (nI j_1)), (2, .int a1), (3, .int (nI j_8)), (4, .int (nI pa_19)), (5, .int (nI j_12))]) hx hb dX8_who_71 hl (by decide) rfl (fun ls hl => ?_)
              refine lv_iload hx hb dX8_who_73 (lv_at hl 1 rfl) ?_
              refine lv_if_ge (tgt := 83) hx hb dX8_who_75 (by decide) (fun _ => ?_) (fun c_ => absurd (by decide) c_)
              refine lv_iload_n hx hb dX8_who_83 rfl (lv_at hl 4 rfl) ?_
              refine lv_if_ne (tgt := 105) hx hb dX8_who_84 (by decide) (fun c_23 => ?_) (fun c_23 => ?_)
              · skip
                refine lv_aload_n hx hb dX8_who_105 rfl (lv_at hl 2 rfl) ?_
                refine lv_bipush (v := 20) hx hb dX8_who_106 (by decide) ?_
                refine lv_iload_n hx hb dX8_who_108 rfl (lv_at hl 3 rfl) ?_
                refine lv_iadd hx hb dX8_who_109 ?_
                refine lv_topi (fun v_24 e_24 => ?_)
                obtain rfl : v_24 = (nI (20 + j_1)) := (e_24).trans (nI_add 20 j_1)
                refine lv_iconst (v := 0) hx hb dX8_who_110 (by decide) ?_
                refine lv_aload_n hx hb dX8_who_111 rfl (lv_at hl 2 rfl) ?_
                refine va_get (D := (dC, dI)) (ci := 8) (v := .ref m_st) (C := RX8) (T := TX8) (N := 24) hx hb hts i_X8_who_X8 hown hK hP 4 rfl rfl 5 (by decide) (hts _ mx_X8_who_3) (fun _ h9 => h9) rfl dX8_who_112 ?_
                refine lv_iconst (v := 0) hx hb dX8_who_115 (by decide) ?_
                refine va_iald hx hb hK hP 0 0 rfl rfl (by unfold vp_in; decide) dX8_who_116 ?_
                obtain ⟨c_25, hc1_25, hc2_25, hce_25⟩ := hM.2.2.2.2.2.2.1
                refine lv_topi (fun v_26 e_26 => ?_)
                obtain rfl : v_26 = (nI c_25) := (e_26).trans hce_25
                refine lv_iconst (v := 1) hx hb dX8_who_117 (by decide) ?_
                refine lv_isub hx hb dX8_who_118 ?_
                refine lv_topi (fun v_27 e_27 => ?_)
                obtain rfl : v_27 = (nI (c_25 - 1)) := (e_27).trans (pk_sub (a := c_25) (b := 1) (by omega))
                refine lv_iload_n hx hb dX8_who_119 rfl (lv_at hl 3 rfl) ?_
                refine lv_iload hx hb dX8_who_120 (lv_at hl 0 rfl) ?_
                refine lv_iload hx hb dX8_who_122 (lv_at hl 7 rfl) ?_
                have hc_28 := cutW (wc := [(xo_8_rrriirrriiiiiiirrirrrrri mo m_la m_sz m_it msn_18 mt m_st m_mv m_tp (nI mz) ml (nI mp) mk mv mb mw m_rd m_ac (nI ma) m_as m_wo m_ik m_ke m_tr (nI mx)), (xI m_st cI 38 fs), (xI m_as cI 38 fa), (xI m_it cI 320 fi_)]) hP hD hS hA [4, 0, 1, 2] (by decide +kernel) rfl
                refine va_calli (va_runV (As := [.int (nI (20 + j_1)), .int 0, .int (nI (c_25 - 1)), .int (nI j_1), .int (nI ((40 * j_8) + pa_19)), .int (nI j_12)]) (rest := []) ⟨hx, hb, hml, hown, hts⟩ (r_X8_fits l dC dI cI cZ cL cJ H.size mo m_la m_sz m_it m_st m_mv m_tp m_rd m_ac m_as m_wo m_ik m_ke m_tr msn_18 mt ml mk mv mb mw mz mp ma mx fs w9 k9 h9 fa fi_ (20 + j_1) 0 (c_25 - 1) j_1 ((40 * j_8) + pa_19) j_12 (hM) (by omega) (by omega) (by omega) (by omega) (by omega) (by omega) (by omega) (by omega) (by omega) (by omega) (by omega) (by omega) (by omega)) (cwV 6 hts gX8_who_X8_fits rfl rfl rfl (by decide +kernel) ⟨Nat.le_of_ble_eq_true rfl, Nat.le_of_ble_eq_true rfl⟩) (pvW 8 4 hK hP rfl rfl hc_28) rfl rfl hl.1 rfl (lv_room (Nat.le_of_ble_eq_true rfl)) dX8_who_124 ⟨Nat.le_of_ble_eq_true rfl, Nat.le_of_ble_eq_true rfl⟩) hS (fun q _ h => hc_28.2.2 q h) hc_28.2.2 (fun r_28 u_28 t_28 H1 locs ht hvm h_28 hB hz1 hk1 hS => ?_)
                refine xl_3_5 hB (fun fsn_28 fan_28 msn_28 hP1 hD1 hF_28_0 hF_28_1 hF_28_2 => ?_)
                clear hB
                rw [ht] at hP1
                obtain ⟨hP, hD⟩ := va_join (wr := [(xI m_la cI 8 fn_), (xI m_sz cI 8 fz)]) (w1 := [(xo_8_rrriirrriiiiiiirrirrrrri mo m_la m_sz m_it msn_28 mt m_st m_mv m_tp (nI mz) ml (nI mp) mk mv mb mw m_rd m_ac (nI ma) m_as m_wo m_ik m_ke m_tr (nI mx)), (xI m_st cI 38 fsn_28), (xI m_as cI 38 fan_28), (xI m_it cI 320 fi_)]) hP hD [4, 0, 1, 2] [3, 5] rfl rfl (by decide +kernel) (by decide +kernel) hk1 hc_28.2.2 hP1 hD1
                generalize H1 = H at hP hS ⊢
                have hP : va_P (dC, dI) vwCl [(xI m_la cI 8 fn_), (xI m_sz cI 8 fz), (xo_8_rrriirrriiiiiiirrirrrrri mo m_la m_sz m_it msn_28 mt m_st m_mv m_tp (nI mz) ml (nI mp) mk mv mb mw m_rd m_ac (nI ma) m_as m_wo m_ik m_ke m_tr (nI mx)), (xI m_st cI 38 fsn_28), (xI m_as cI 38 fan_28), (xI m_it cI 320 fi_)] H := hP
                have hD := dto hP hD
                have hX9 := cut2 (wc := [(xo_8_rrriirrriiiiiiirrirrrrri mo m_la m_sz m_it msn_28 mt m_st m_mv m_tp (nI mz) ml (nI mp) mk mv mb mw m_rd m_ac (nI ma) m_as m_wo m_ik m_ke m_tr (nI mx)), (xI m_st cI 38 fsn_28), (xI m_as cI 38 fan_28), (xI m_it cI 320 fi_), (xI m_sz cI 8 fz), (xI m_la cI 8 fn_)]) hP hD [2, 3, 4, 5, 1, 0] (by decide +kernel) rfl
                exact W.iret (v := r_28) hx hb hr (fun t ht hW => ⟨⟨r_28, (), rfl, (lf_X8_who_10 hM hT h999 hT0 hsz9 hln9 hj_1 hkn1 hw1 h01 f_5_1_0 hj_8 f_12_1_0 q_12 hj_12 e_16 hF_18_0 f_18_0_0 f_18_0_1 hab_19 eb_19 c_23 hc1_25 hc2_25 hce_25 hF_28_0 hF_28_1 hF_28_2 h_28), ⟨fsn_28, fan_28, msn_28, va_Ht ht hX9.1, hX9.2, hF_28_0, hF_28_1, (lf_X8_who_9 hM hT h999 hT0 hsz9 hln9 hj_1 hkn1 hw1 h01 f_5_1_0 hj_8 f_12_1_0 q_12 hj_12 e_16 hF_18_0 f_18_0_0 f_18_0_1 hab_19 eb_19 c_23 hc1_25 hc2_25 hce_25 hF_28_0 hF_28_1 hF_28_2 h_28)⟩⟩, hS.F ht⟩) hS.2.2 dX8_who_127
              · skip
                subst c_23
                refine lv_aload_n hx hb dX8_who_87 rfl (lv_at hl 2 rfl) ?_
                refine lv_bipush (v := 14) hx hb dX8_who_88 (by decide) ?_
                refine lv_iload_n hx hb dX8_who_90 rfl (lv_at hl 3 rfl) ?_
                refine lv_iadd hx hb dX8_who_91 ?_
                refine lv_topi (fun v_29 e_29 => ?_)
                obtain rfl : v_29 = (nI (14 + j_1)) := (e_29).trans (nI_add 14 j_1)
                refine lv_iconst (v := 1) hx hb dX8_who_92 (by decide) ?_
                refine lv_iconst (v := 5) hx hb dX8_who_93 (by decide) ?_
                refine lv_iload_n hx hb dX8_who_94 rfl (lv_at hl 3 rfl) ?_
                refine lv_iload hx hb dX8_who_95 (lv_at hl 0 rfl) ?_
                refine lv_iload hx hb dX8_who_97 (lv_at hl 7 rfl) ?_
                have hc_30 := cutW (wc := [(xo_8_rrriirrriiiiiiirrirrrrri mo m_la m_sz m_it msn_18 mt m_st m_mv m_tp (nI mz) ml (nI mp) mk mv mb mw m_rd m_ac (nI ma) m_as m_wo m_ik m_ke m_tr (nI mx)), (xI m_st cI 38 fs), (xI m_as cI 38 fa), (xI m_it cI 320 fi_)]) hP hD hS hA [4, 0, 1, 2] (by decide +kernel) rfl
                refine va_calli (va_runV (As := [.int (nI (14 + j_1)), .int 1, .int 5, .int (nI j_1), .int (nI ((40 * j_8) + pa_19)), .int (nI j_12)]) (rest := []) ⟨hx, hb, hml, hown, hts⟩ (r_X8_fits l dC dI cI cZ cL cJ H.size mo m_la m_sz m_it m_st m_mv m_tp m_rd m_ac m_as m_wo m_ik m_ke m_tr msn_18 mt ml mk mv mb mw mz mp ma mx fs w9 k9 h9 fa fi_ (14 + j_1) 1 5 j_1 ((40 * j_8) + pa_19) j_12 (hM) (by omega) (by omega) (by omega) (by omega) (by omega) (by omega) (by omega) (by omega) (by omega) (by omega) (by omega) (by omega) (by omega)) (cwV 6 hts gX8_who_X8_fits rfl rfl rfl (by decide +kernel) ⟨Nat.le_of_ble_eq_true rfl, Nat.le_of_ble_eq_true rfl⟩) (pvW 8 4 hK hP rfl rfl hc_30) rfl rfl hl.1 rfl (lv_room (Nat.le_of_ble_eq_true rfl)) dX8_who_99 ⟨Nat.le_of_ble_eq_true rfl, Nat.le_of_ble_eq_true rfl⟩) hS (fun q _ h => hc_30.2.2 q h) hc_30.2.2 (fun r_30 u_30 t_30 H1 locs ht hvm h_30 hB hz1 hk1 hS => ?_)
                refine xl_3_5 hB (fun fsn_30 fan_30 msn_30 hP1 hD1 hF_30_0 hF_30_1 hF_30_2 => ?_)
                clear hB
                rw [ht] at hP1
                obtain ⟨hP, hD⟩ := va_join (wr := [(xI m_la cI 8 fn_), (xI m_sz cI 8 fz)]) (w1 := [(xo_8_rrriirrriiiiiiirrirrrrri mo m_la m_sz m_it msn_30 mt m_st m_mv m_tp (nI mz) ml (nI mp) mk mv mb mw m_rd m_ac (nI ma) m_as m_wo m_ik m_ke m_tr (nI mx)), (xI m_st cI 38 fsn_30), (xI m_as cI 38 fan_30), (xI m_it cI 320 fi_)]) hP hD [4, 0, 1, 2] [3, 5] rfl rfl (by decide +kernel) (by decide +kernel) hk1 hc_30.2.2 hP1 hD1
                generalize H1 = H at hP hS ⊢
                have hP : va_P (dC, dI) vwCl [(xI m_la cI 8 fn_), (xI m_sz cI 8 fz), (xo_8_rrriirrriiiiiiirrirrrrri mo m_la m_sz m_it msn_30 mt m_st m_mv m_tp (nI mz) ml (nI mp) mk mv mb mw m_rd m_ac (nI ma) m_as m_wo m_ik m_ke m_tr (nI mx)), (xI m_st cI 38 fsn_30), (xI m_as cI 38 fan_30), (xI m_it cI 320 fi_)] H := hP
                have hD := dto hP hD
                refine lv_goto (tgt := 127) hx hb dX8_who_102 (by decide) ?_
                have hX9 := cut2 (wc := [(xo_8_rrriirrriiiiiiirrirrrrri mo m_la m_sz m_it msn_30 mt m_st m_mv m_tp (nI mz) ml (nI mp) mk mv mb mw m_rd m_ac (nI ma) m_as m_wo m_ik m_ke m_tr (nI mx)), (xI m_st cI 38 fsn_30), (xI m_as cI 38 fan_30), (xI m_it cI 320 fi_), (xI m_sz cI 8 fz), (xI m_la cI 8 fn_)]) hP hD [2, 3, 4, 5, 1, 0] (by decide +kernel) rfl
                exact W.iret (v := r_30) hx hb hr (fun t ht hW => ⟨⟨r_30, (), rfl, (lf_X8_who_12 hM hT h999 hT0 hsz9 hln9 hj_1 hkn1 hw1 h01 f_5_1_0 hj_8 f_12_1_0 q_12 hj_12 e_16 hF_18_0 f_18_0_0 f_18_0_1 hab_19 eb_19 hF_30_0 hF_30_1 hF_30_2 h_30), ⟨fsn_30, fan_30, msn_30, va_Ht ht hX9.1, hX9.2, hF_30_0, hF_30_1, (lf_X8_who_11 hM hT h999 hT0 hsz9 hln9 hj_1 hkn1 hw1 h01 f_5_1_0 hj_8 f_12_1_0 q_12 hj_12 e_16 hF_18_0 f_18_0_0 f_18_0_1 hab_19 eb_19 hF_30_0 hF_30_1 hF_30_2 h_30)⟩⟩, hS.F ht⟩) hS.2.2 dX8_who_127
            · subst h_18
              refine lv_istore (lv' := [(6, .int (-1000011)), (0, .ref mo), (1, .int (nI j_1)), (2, .int a1), (3, .int (nI j_8)), (4, .int a3), (5, .int (nI j_12))]) hx hb dX8_who_62 hl (by decide) rfl (fun ls hl => ?_)
              refine lv_bipush (v := 40) hx hb dX8_who_64 (by decide) ?_
              refine lv_iload_n hx hb dX8_who_66 rfl (lv_at hl 4 rfl) ?_
              refine lv_imul hx hb dX8_who_67 ?_
              refine lv_topi (fun v_31 e_31 => ?_)
              obtain rfl : v_31 = (nI (40 * j_8)) := (e_31).trans (pk_mul 40 j_8)
              refine lv_iload hx hb dX8_who_68 (lv_at hl 5 rfl) ?_
              refine lv_iadd hx hb dX8_who_70 ?_
              refine lv_topi (fun v_32 e_32 => ?_)
              refine lv_istore (lv' := [(7, .int v_32), (6, .int (-1000011)), (0, .ref mo), (1, .int (nI j_1)), (2, .int a1), (3, .int (nI j_8)), (4, .int a3), (5, .int (nI j_12))]) hx hb dX8_who_71 hl (by decide) rfl (fun ls hl => ?_)
              refine lv_iload hx hb dX8_who_73 (lv_at hl 1 rfl) ?_
              refine lv_if_ge (tgt := 83) hx hb dX8_who_75 (by decide) (fun c_ => absurd c_ (by decide)) (fun _ => ?_)
              refine lv_iload hx hb dX8_who_78 (lv_at hl 1 rfl) ?_
              refine lv_goto (tgt := 127) hx hb dX8_who_80 (by decide) ?_
              have hX9 := cut2 (wc := [(xo_8_rrriirrriiiiiiirrirrrrri mo m_la m_sz m_it msn_18 mt m_st m_mv m_tp (nI mz) ml (nI mp) mk mv mb mw m_rd m_ac (nI ma) m_as m_wo m_ik m_ke m_tr (nI mx)), (xI m_st cI 38 fs), (xI m_as cI 38 fa), (xI m_it cI 320 fi_), (xI m_sz cI 8 fz), (xI m_la cI 8 fn_)]) hP hD [4, 0, 1, 2, 5, 3] (by decide +kernel) rfl
              exact W.iret (v := (-1000011)) hx hb hr (fun t ht hW => ⟨⟨(-1000011), (), rfl, (lf_X8_who_14 hM hT h999 hT0 hsz9 hln9 hj_1 hkn1 hw1 h01 f_5_1_0 hj_8 f_12_1_0 q_12 hj_12 e_16 hF_18_0 f_18_1_0 e_32), ⟨fs, fa, msn_18, va_Ht ht hX9.1, hX9.2, hM, rfl, (lf_X8_who_13 hM hT h999 hT0 hsz9 hln9 hj_1 hkn1 hw1 h01 f_5_1_0 hj_8 f_12_1_0 q_12 hj_12 e_16 hF_18_0 f_18_1_0 e_32)⟩⟩, hS.F ht⟩) hS.2.2 dX8_who_127
            · subst h_18
              refine lv_istore (lv' := [(6, .int (-1000012)), (0, .ref mo), (1, .int (nI j_1)), (2, .int a1), (3, .int (nI j_8)), (4, .int a3), (5, .int (nI j_12))]) hx hb dX8_who_62 hl (by decide) rfl (fun ls hl => ?_)
              refine lv_bipush (v := 40) hx hb dX8_who_64 (by decide) ?_
              refine lv_iload_n hx hb dX8_who_66 rfl (lv_at hl 4 rfl) ?_
              refine lv_imul hx hb dX8_who_67 ?_
              refine lv_topi (fun v_34 e_34 => ?_)
              obtain rfl : v_34 = (nI (40 * j_8)) := (e_34).trans (pk_mul 40 j_8)
              refine lv_iload hx hb dX8_who_68 (lv_at hl 5 rfl) ?_
              refine lv_iadd hx hb dX8_who_70 ?_
              refine lv_topi (fun v_35 e_35 => ?_)
              refine lv_istore (lv' := [(7, .int v_35), (6, .int (-1000012)), (0, .ref mo), (1, .int (nI j_1)), (2, .int a1), (3, .int (nI j_8)), (4, .int a3), (5, .int (nI j_12))]) hx hb dX8_who_71 hl (by decide) rfl (fun ls hl => ?_)
              refine lv_iload hx hb dX8_who_73 (lv_at hl 1 rfl) ?_
              refine lv_if_ge (tgt := 83) hx hb dX8_who_75 (by decide) (fun c_ => absurd c_ (by decide)) (fun _ => ?_)
              refine lv_iload hx hb dX8_who_78 (lv_at hl 1 rfl) ?_
              refine lv_goto (tgt := 127) hx hb dX8_who_80 (by decide) ?_
              have hX9 := cut2 (wc := [(xo_8_rrriirrriiiiiiirrirrrrri mo m_la m_sz m_it msn_18 mt m_st m_mv m_tp (nI mz) ml (nI mp) mk mv mb mw m_rd m_ac (nI ma) m_as m_wo m_ik m_ke m_tr (nI mx)), (xI m_st cI 38 fs), (xI m_as cI 38 fa), (xI m_it cI 320 fi_), (xI m_sz cI 8 fz), (xI m_la cI 8 fn_)]) hP hD [4, 0, 1, 2, 5, 3] (by decide +kernel) rfl
              exact W.iret (v := (-1000012)) hx hb hr (fun t ht hW => ⟨⟨(-1000012), (), rfl, (lf_X8_who_16 hM hT h999 hT0 hsz9 hln9 hj_1 hkn1 hw1 h01 f_5_1_0 hj_8 f_12_1_0 q_12 hj_12 e_16 hF_18_0 f_18_2_0 f_18_2_1 e_35), ⟨fs, fa, msn_18, va_Ht ht hX9.1, hX9.2, hM, rfl, (lf_X8_who_15 hM hT h999 hT0 hsz9 hln9 hj_1 hkn1 hw1 h01 f_5_1_0 hj_8 f_12_1_0 q_12 hj_12 e_16 hF_18_0 f_18_2_0 f_18_2_1 e_35)⟩⟩, hS.F ht⟩) hS.2.2 dX8_who_127
          · skip
            refine lv_ldc (own := RX8) (v := (-1000002)) hx hb hown (hts _ mx_X8_who_4) dX8_who_50 ?_
            have hX9 := cut2 (wc := [(xo_8_rrriirrriiiiiiirrirrrrri mo m_la m_sz m_it ms mt m_st m_mv m_tp (nI mz) ml (nI mp) mk mv mb mw m_rd m_ac (nI ma) m_as m_wo m_ik m_ke m_tr (nI mx)), (xI m_st cI 38 fs), (xI m_as cI 38 fa), (xI m_it cI 320 fi_), (xI m_sz cI 8 fz), (xI m_la cI 8 fn_)]) hP hD [0, 1, 2, 3, 4, 5] (by decide +kernel) rfl
            exact W.iret (v := (-1000002)) hx hb hr (fun t ht hW => ⟨⟨(-1000002), (), rfl, (lf_X8_who_18 hM hT h999 hT0 hsz9 hln9 hj_1 hkn1 hw1 h01 f_5_1_0 hj_8 f_12_1_0 q_12 hj_12 e_16 c_17), ⟨fs, fa, ms, va_Ht ht hX9.1, hX9.2, hM, rfl, (lf_X8_who_17 hM hT h999 hT0 hsz9 hln9 hj_1 hkn1 hw1 h01 f_5_1_0 hj_8 f_12_1_0 q_12 hj_12 e_16 c_17)⟩⟩, hS.F ht⟩) hS.2.2 dX8_who_52
theorem lf_X8_gusts_1 {ms : Int32} {mt : Int32} {ma : Nat} {fs : Nat → Int32} {w9 : Nat} {k9 : Nat} {h9 : Nat} {fz : Nat → Int32} {fn_ : Nat → Int32} {a0 : Int32} {a1 : Int32} {a2 : Int32} {a3 : Int32} {a4 : Int32} {v_2 : Int32} (hM : okM fs w9 k9 h9) (hT : ¬ mt = 0 → 1 ≤ k9) (h999 : h9 ≤ 999) (hT0 : mt = 0 → fs 0 = 0 ∧ ma = 0) (hsz9 : ∀ j : Nat, j < 8 → fz j = -1 ∨ ∃ q : Nat, q ≤ 40 ∧ fz j = nI q) (hln9 : ∀ j : Nat, j < 8 → ¬ fz j = -1 → ¬ fn_ j = -1) (e_2 : v_2 = ((nI w9) - 1)) (f_3_0_0 : ((a0).toInt64 < (-1) ∨ (v_2).toInt64 < (a0).toInt64)) (q_3 : (a0 < (-1) ∨ v_2 < a0)) : ms = f_gus (m38 fs) (mbl fn_ fz) (mbn fz) a0 a1 a2 a3 a4 ms := by
  have hw6 := hM.2.2.2.1
  first
  | exact (gus_b (r := m38 fs) (I := (itM fi_)) (Rl := mbl fn_ fz) (Rn := mbn fz) (i := a3) (sg := 0) (Or.inl (gsM_b hM e_2 q_3))).1
  | exact (gus_b (r := m38 fs) (I := (fun _ _ => 0)) (Rl := mbl fn_ fz) (Rn := mbn fz) (i := a3) (sg := ms) (Or.inl (gsM_b hM e_2 q_3))).2
  | exact (gus_b (r := m38 fs) (I := (itM fi_)) (Rl := mbl fn_ fz) (Rn := mbn fz) (i := a3) (sg := 0) (Or.inr (Or.inl (whM_b1 hM.2.1 f_6_0_0)))).1
  | exact (gus_b (r := m38 fs) (I := (fun _ _ => 0)) (Rl := mbl fn_ fz) (Rn := mbn fz) (i := a3) (sg := ms) (Or.inr (Or.inl (whM_b1 hM.2.1 f_6_0_0)))).2
  | exact (gus_b (r := m38 fs) (I := (itM fi_)) (Rl := mbl fn_ fz) (Rn := mbn fz) (i := a3) (sg := 0) (Or.inr (Or.inr (Or.inl f_10_0_0)))).1
  | exact (gus_b (r := m38 fs) (I := (fun _ _ => 0)) (Rl := mbl fn_ fz) (Rn := mbn fz) (i := a3) (sg := ms) (Or.inr (Or.inr (Or.inl f_10_0_0)))).2
  | exact (gus_b (r := m38 fs) (I := (itM fi_)) (Rl := mbl fn_ fz) (Rn := mbn fz) (i := a3) (sg := 0) (Or.inr (Or.inr (Or.inr q_14)))).1
  | exact (gus_b (r := m38 fs) (I := (fun _ _ => 0)) (Rl := mbl fn_ fz) (Rn := mbn fz) (i := a3) (sg := ms) (Or.inr (Or.inr (Or.inr q_14)))).2
  | exact (gus_b (r := m38 fs) (I := (itM fi_)) (Rl := mbl fn_ fz) (Rn := mbn fz) (i := a3) (sg := 0) (Or.inr (Or.inl (whM_b1 hM.2.1 f_30_0_0)))).1
  | exact (gus_b (r := m38 fs) (I := (fun _ _ => 0)) (Rl := mbl fn_ fz) (Rn := mbn fz) (i := a3) (sg := ms) (Or.inr (Or.inl (whM_b1 hM.2.1 f_30_0_0)))).2
  | exact (gus_b (r := m38 fs) (I := (itM fi_)) (Rl := mbl fn_ fz) (Rn := mbn fz) (i := a3) (sg := 0) (Or.inr (Or.inr (Or.inl f_34_0_0)))).1
  | exact (gus_b (r := m38 fs) (I := (fun _ _ => 0)) (Rl := mbl fn_ fz) (Rn := mbn fz) (i := a3) (sg := ms) (Or.inr (Or.inr (Or.inl f_34_0_0)))).2
  | exact (gus_b (r := m38 fs) (I := (itM fi_)) (Rl := mbl fn_ fz) (Rn := mbn fz) (i := a3) (sg := 0) (Or.inr (Or.inr (Or.inr q_38)))).1
  | exact (gus_b (r := m38 fs) (I := (fun _ _ => 0)) (Rl := mbl fn_ fz) (Rn := mbn fz) (i := a3) (sg := ms) (Or.inr (Or.inr (Or.inr q_38)))).2
  | exact tri_r (guM_g (I := (itM fi_)) (sg := 0) (i := a3) hM hln9 hsz9 hj_6 gs_m hj_10 q_14 hj_14).1 (hr_0 (sg := 0) (by rw [← e_18]; exact c_19)).1 (by decide)
  | exact ((guM_g (I := (fun _ _ => 0)) (sg := ms) (i := a3) hM hln9 hsz9 hj_6 gs_m hj_10 q_14 hj_14).2.trans (hr_0 (by rw [← e_18]; exact c_19)).2).symm
  | exact tri_r (guM_g (I := (itM fi_)) (sg := 0) (i := a3) hM hln9 hsz9 hj_6 gs_m hj_10 q_14 hj_14).1 (hr_1 (sg := 0) e_18.symm f_20_1_0).1 (by decide)
  | exact hF_20_0.trans ((lk_1 f_20_1_0).symm.trans ((guM_g (I := (fun _ _ => 0)) (sg := ms) (i := a3) hM hln9 hsz9 hj_6 gs_m hj_10 q_14 hj_14).2.trans (hr_1 e_18.symm f_20_1_0).2).symm)
  | exact tri_r (guM_g (I := (itM fi_)) (sg := 0) (i := a3) hM hln9 hsz9 hj_6 gs_m hj_10 q_14 hj_14).1 (hr_2 (sg := 0) e_18.symm f_20_2_0 f_20_2_1).1 (by decide)
  | exact hF_20_0.trans ((lk_2 f_20_2_0 f_20_2_1).symm.trans ((guM_g (I := (fun _ _ => 0)) (sg := ms) (i := a3) hM hln9 hsz9 hj_6 gs_m hj_10 q_14 hj_14).2.trans (hr_2 e_18.symm f_20_2_0 f_20_2_1).2).symm)
  | exact tri_r (guM_g (I := (itM fi_)) (sg := 0) (i := a3) hM hln9 hsz9 hj_30 (gs_n (r := m38 fs) hM.1 hM.2.2.2.1 hj_3) hj_34 q_38 hj_38).1 (hr_0 (sg := 0) (by rw [← e_42]; exact c_43)).1 (by decide)
  | exact ((guM_g (I := (fun _ _ => 0)) (sg := ms) (i := a3) hM hln9 hsz9 hj_30 (gs_n (r := m38 fs) hM.1 hM.2.2.2.1 hj_3) hj_34 q_38 hj_38).2.trans (hr_0 (by rw [← e_42]; exact c_43)).2).symm
  | exact tri_r (guM_g (I := (itM fi_)) (sg := 0) (i := a3) hM hln9 hsz9 hj_30 (gs_n (r := m38 fs) hM.1 hM.2.2.2.1 hj_3) hj_34 q_38 hj_38).1 (hr_1 (sg := 0) e_42.symm f_44_1_0).1 (by decide)
  | exact hF_44_0.trans ((lk_1 f_44_1_0).symm.trans ((guM_g (I := (fun _ _ => 0)) (sg := ms) (i := a3) hM hln9 hsz9 hj_30 (gs_n (r := m38 fs) hM.1 hM.2.2.2.1 hj_3) hj_34 q_38 hj_38).2.trans (hr_1 e_42.symm f_44_1_0).2).symm)
  | exact tri_r (guM_g (I := (itM fi_)) (sg := 0) (i := a3) hM hln9 hsz9 hj_30 (gs_n (r := m38 fs) hM.1 hM.2.2.2.1 hj_3) hj_34 q_38 hj_38).1 (hr_2 (sg := 0) e_42.symm f_44_2_0 f_44_2_1).1 (by decide)
  | exact hF_44_0.trans ((lk_2 f_44_2_0 f_44_2_1).symm.trans ((guM_g (I := (fun _ _ => 0)) (sg := ms) (i := a3) hM hln9 hsz9 hj_30 (gs_n (r := m38 fs) hM.1 hM.2.2.2.1 hj_3) hj_34 q_38 hj_38).2.trans (hr_2 e_42.symm f_44_2_0 f_44_2_1).2).symm)
  | exact hF_26_2.trans ((guM_g (I := (fun _ _ => 0)) (sg := ms) (i := (nI pa_21)) hM hln9 hsz9 hj_6 gs_m hj_10 q_14 hj_14).2.trans (hr_3 (sg := ms) e_18.symm f_20_0_0 f_20_0_1).2).symm
  | exact h_26.trans ((clM_fit hj_10 (by omega)).trans (tri_0 (guM_g (I := (itM fi_)) (sg := 0) (i := (nI pa_21)) hM hln9 hsz9 hj_6 gs_m hj_10 q_14 hj_14).1 (hr_3 (sg := 0) e_18.symm f_20_0_0 f_20_0_1).1 rfl))
  | exact hF_51_2.trans ((guM_g (I := (fun _ _ => 0)) (sg := ms) (i := (nI pa_45)) hM hln9 hsz9 hj_30 (gs_n (r := m38 fs) hM.1 hM.2.2.2.1 hj_3) hj_34 q_38 hj_38).2.trans (hr_3 (sg := ms) e_42.symm f_44_0_0 f_44_0_1).2).symm
  | exact h_51.trans ((clM_fit hj_34 (by omega)).trans ((cl_w (by omega)).trans (tri_1 (guM_g (I := (itM fi_)) (sg := 0) (i := (nI pa_45)) hM hln9 hsz9 hj_30 (gs_n (r := m38 fs) hM.1 hM.2.2.2.1 hj_3) hj_34 q_38 hj_38).1 (hr_3 (sg := 0) e_42.symm f_44_0_0 f_44_0_1).1 (gs_ne (by omega)))))
theorem lf_X8_gusts_2 {mt : Int32} {ma : Nat} {fs : Nat → Int32} {w9 : Nat} {k9 : Nat} {h9 : Nat} {fi_ : Nat → Int32} {fz : Nat → Int32} {fn_ : Nat → Int32} {a0 : Int32} {a1 : Int32} {a2 : Int32} {a3 : Int32} {a4 : Int32} {v_2 : Int32} (hM : okM fs w9 k9 h9) (hT : ¬ mt = 0 → 1 ≤ k9) (h999 : h9 ≤ 999) (hT0 : mt = 0 → fs 0 = 0 ∧ ma = 0) (hsz9 : ∀ j : Nat, j < 8 → fz j = -1 ∨ ∃ q : Nat, q ≤ 40 ∧ fz j = nI q) (hln9 : ∀ j : Nat, j < 8 → ¬ fz j = -1 → ¬ fn_ j = -1) (e_2 : v_2 = ((nI w9) - 1)) (f_3_0_0 : ((a0).toInt64 < (-1) ∨ (v_2).toInt64 < (a0).toInt64)) (q_3 : (a0 < (-1) ∨ v_2 < a0)) : (-1000001) = (a_gus (m38 fs) (mbl fn_ fz) (mbn fz) (itM fi_) a0 a1 a2 a3 a4) := by
  have hw6 := hM.2.2.2.1
  first
  | exact (gus_b (r := m38 fs) (I := (itM fi_)) (Rl := mbl fn_ fz) (Rn := mbn fz) (i := a3) (sg := 0) (Or.inl (gsM_b hM e_2 q_3))).1
  | exact (gus_b (r := m38 fs) (I := (fun _ _ => 0)) (Rl := mbl fn_ fz) (Rn := mbn fz) (i := a3) (sg := ms) (Or.inl (gsM_b hM e_2 q_3))).2
  | exact (gus_b (r := m38 fs) (I := (itM fi_)) (Rl := mbl fn_ fz) (Rn := mbn fz) (i := a3) (sg := 0) (Or.inr (Or.inl (whM_b1 hM.2.1 f_6_0_0)))).1
  | exact (gus_b (r := m38 fs) (I := (fun _ _ => 0)) (Rl := mbl fn_ fz) (Rn := mbn fz) (i := a3) (sg := ms) (Or.inr (Or.inl (whM_b1 hM.2.1 f_6_0_0)))).2
  | exact (gus_b (r := m38 fs) (I := (itM fi_)) (Rl := mbl fn_ fz) (Rn := mbn fz) (i := a3) (sg := 0) (Or.inr (Or.inr (Or.inl f_10_0_0)))).1
  | exact (gus_b (r := m38 fs) (I := (fun _ _ => 0)) (Rl := mbl fn_ fz) (Rn := mbn fz) (i := a3) (sg := ms) (Or.inr (Or.inr (Or.inl f_10_0_0)))).2
  | exact (gus_b (r := m38 fs) (I := (itM fi_)) (Rl := mbl fn_ fz) (Rn := mbn fz) (i := a3) (sg := 0) (Or.inr (Or.inr (Or.inr q_14)))).1
  | exact (gus_b (r := m38 fs) (I := (fun _ _ => 0)) (Rl := mbl fn_ fz) (Rn := mbn fz) (i := a3) (sg := ms) (Or.inr (Or.inr (Or.inr q_14)))).2
  | exact (gus_b (r := m38 fs) (I := (itM fi_)) (Rl := mbl fn_ fz) (Rn := mbn fz) (i := a3) (sg := 0) (Or.inr (Or.inl (whM_b1 hM.2.1 f_30_0_0)))).1
  | exact (gus_b (r := m38 fs) (I := (fun _ _ => 0)) (Rl := mbl fn_ fz) (Rn := mbn fz) (i := a3) (sg := ms) (Or.inr (Or.inl (whM_b1 hM.2.1 f_30_0_0)))).2
  | exact (gus_b (r := m38 fs) (I := (itM fi_)) (Rl := mbl fn_ fz) (Rn := mbn fz) (i := a3) (sg := 0) (Or.inr (Or.inr (Or.inl f_34_0_0)))).1
  | exact (gus_b (r := m38 fs) (I := (fun _ _ => 0)) (Rl := mbl fn_ fz) (Rn := mbn fz) (i := a3) (sg := ms) (Or.inr (Or.inr (Or.inl f_34_0_0)))).2
  | exact (gus_b (r := m38 fs) (I := (itM fi_)) (Rl := mbl fn_ fz) (Rn := mbn fz) (i := a3) (sg := 0) (Or.inr (Or.inr (Or.inr q_38)))).1
  | exact (gus_b (r := m38 fs) (I := (fun _ _ => 0)) (Rl := mbl fn_ fz) (Rn := mbn fz) (i := a3) (sg := ms) (Or.inr (Or.inr (Or.inr q_38)))).2
  | exact tri_r (guM_g (I := (itM fi_)) (sg := 0) (i := a3) hM hln9 hsz9 hj_6 gs_m hj_10 q_14 hj_14).1 (hr_0 (sg := 0) (by rw [← e_18]; exact c_19)).1 (by decide)
  | exact ((guM_g (I := (fun _ _ => 0)) (sg := ms) (i := a3) hM hln9 hsz9 hj_6 gs_m hj_10 q_14 hj_14).2.trans (hr_0 (by rw [← e_18]; exact c_19)).2).symm
  | exact tri_r (guM_g (I := (itM fi_)) (sg := 0) (i := a3) hM hln9 hsz9 hj_6 gs_m hj_10 q_14 hj_14).1 (hr_1 (sg := 0) e_18.symm f_20_1_0).1 (by decide)
  | exact hF_20_0.trans ((lk_1 f_20_1_0).symm.trans ((guM_g (I := (fun _ _ => 0)) (sg := ms) (i := a3) hM hln9 hsz9 hj_6 gs_m hj_10 q_14 hj_14).2.trans (hr_1 e_18.symm f_20_1_0).2).symm)
  | exact tri_r (guM_g (I := (itM fi_)) (sg := 0) (i := a3) hM hln9 hsz9 hj_6 gs_m hj_10 q_14 hj_14).1 (hr_2 (sg := 0) e_18.symm f_20_2_0 f_20_2_1).1 (by decide)
  | exact hF_20_0.trans ((lk_2 f_20_2_0 f_20_2_1).symm.trans ((guM_g (I := (fun _ _ => 0)) (sg := ms) (i := a3) hM hln9 hsz9 hj_6 gs_m hj_10 q_14 hj_14).2.trans (hr_2 e_18.symm f_20_2_0 f_20_2_1).2).symm)
  | exact tri_r (guM_g (I := (itM fi_)) (sg := 0) (i := a3) hM hln9 hsz9 hj_30 (gs_n (r := m38 fs) hM.1 hM.2.2.2.1 hj_3) hj_34 q_38 hj_38).1 (hr_0 (sg := 0) (by rw [← e_42]; exact c_43)).1 (by decide)
  | exact ((guM_g (I := (fun _ _ => 0)) (sg := ms) (i := a3) hM hln9 hsz9 hj_30 (gs_n (r := m38 fs) hM.1 hM.2.2.2.1 hj_3) hj_34 q_38 hj_38).2.trans (hr_0 (by rw [← e_42]; exact c_43)).2).symm
  | exact tri_r (guM_g (I := (itM fi_)) (sg := 0) (i := a3) hM hln9 hsz9 hj_30 (gs_n (r := m38 fs) hM.1 hM.2.2.2.1 hj_3) hj_34 q_38 hj_38).1 (hr_1 (sg := 0) e_42.symm f_44_1_0).1 (by decide)
  | exact hF_44_0.trans ((lk_1 f_44_1_0).symm.trans ((guM_g (I := (fun _ _ => 0)) (sg := ms) (i := a3) hM hln9 hsz9 hj_30 (gs_n (r := m38 fs) hM.1 hM.2.2.2.1 hj_3) hj_34 q_38 hj_38).2.trans (hr_1 e_42.symm f_44_1_0).2).symm)
  | exact tri_r (guM_g (I := (itM fi_)) (sg := 0) (i := a3) hM hln9 hsz9 hj_30 (gs_n (r := m38 fs) hM.1 hM.2.2.2.1 hj_3) hj_34 q_38 hj_38).1 (hr_2 (sg := 0) e_42.symm f_44_2_0 f_44_2_1).1 (by decide)
  | exact hF_44_0.trans ((lk_2 f_44_2_0 f_44_2_1).symm.trans ((guM_g (I := (fun _ _ => 0)) (sg := ms) (i := a3) hM hln9 hsz9 hj_30 (gs_n (r := m38 fs) hM.1 hM.2.2.2.1 hj_3) hj_34 q_38 hj_38).2.trans (hr_2 e_42.symm f_44_2_0 f_44_2_1).2).symm)
  | exact hF_26_2.trans ((guM_g (I := (fun _ _ => 0)) (sg := ms) (i := (nI pa_21)) hM hln9 hsz9 hj_6 gs_m hj_10 q_14 hj_14).2.trans (hr_3 (sg := ms) e_18.symm f_20_0_0 f_20_0_1).2).symm
  | exact h_26.trans ((clM_fit hj_10 (by omega)).trans (tri_0 (guM_g (I := (itM fi_)) (sg := 0) (i := (nI pa_21)) hM hln9 hsz9 hj_6 gs_m hj_10 q_14 hj_14).1 (hr_3 (sg := 0) e_18.symm f_20_0_0 f_20_0_1).1 rfl))
  | exact hF_51_2.trans ((guM_g (I := (fun _ _ => 0)) (sg := ms) (i := (nI pa_45)) hM hln9 hsz9 hj_30 (gs_n (r := m38 fs) hM.1 hM.2.2.2.1 hj_3) hj_34 q_38 hj_38).2.trans (hr_3 (sg := ms) e_42.symm f_44_0_0 f_44_0_1).2).symm
  | exact h_51.trans ((clM_fit hj_34 (by omega)).trans ((cl_w (by omega)).trans (tri_1 (guM_g (I := (itM fi_)) (sg := 0) (i := (nI pa_45)) hM hln9 hsz9 hj_30 (gs_n (r := m38 fs) hM.1 hM.2.2.2.1 hj_3) hj_34 q_38 hj_38).1 (hr_3 (sg := 0) e_42.symm f_44_0_0 f_44_0_1).1 (gs_ne (by omega)))))
theorem lf_X8_gusts_3 {ms : Int32} {mt : Int32} {ma : Nat} {fs : Nat → Int32} {w9 : Nat} {k9 : Nat} {h9 : Nat} {fz : Nat → Int32} {fn_ : Nat → Int32} {a1 : Int32} {a2 : Int32} {a3 : Int32} {a4 : Int32} {v_2 : Int32} (hM : okM fs w9 k9 h9) (hT : ¬ mt = 0 → 1 ≤ k9) (h999 : h9 ≤ 999) (hT0 : mt = 0 → fs 0 = 0 ∧ ma = 0) (hsz9 : ∀ j : Nat, j < 8 → fz j = -1 ∨ ∃ q : Nat, q ≤ 40 ∧ fz j = nI q) (hln9 : ∀ j : Nat, j < 8 → ¬ fz j = -1 → ¬ fn_ j = -1) (e_2 : v_2 = ((nI w9) - 1)) (f_3_1_0 : (¬ ((((-1) : Int32)).toInt64 < (-1) ∨ (v_2).toInt64 < (((-1) : Int32)).toInt64))) (q_3 : ¬ (((-1) : Int32) < (-1) ∨ v_2 < ((-1) : Int32))) (f_6_0_0 : ¬ sB (nI k9) a1) : ms = f_gus (m38 fs) (mbl fn_ fz) (mbn fz) ((-1) : Int32) a1 a2 a3 a4 ms := by
  have hw6 := hM.2.2.2.1
  first
  | exact (gus_b (r := m38 fs) (I := (itM fi_)) (Rl := mbl fn_ fz) (Rn := mbn fz) (i := a3) (sg := 0) (Or.inl (gsM_b hM e_2 q_3))).1
  | exact (gus_b (r := m38 fs) (I := (fun _ _ => 0)) (Rl := mbl fn_ fz) (Rn := mbn fz) (i := a3) (sg := ms) (Or.inl (gsM_b hM e_2 q_3))).2
  | exact (gus_b (r := m38 fs) (I := (itM fi_)) (Rl := mbl fn_ fz) (Rn := mbn fz) (i := a3) (sg := 0) (Or.inr (Or.inl (whM_b1 hM.2.1 f_6_0_0)))).1
  | exact (gus_b (r := m38 fs) (I := (fun _ _ => 0)) (Rl := mbl fn_ fz) (Rn := mbn fz) (i := a3) (sg := ms) (Or.inr (Or.inl (whM_b1 hM.2.1 f_6_0_0)))).2
  | exact (gus_b (r := m38 fs) (I := (itM fi_)) (Rl := mbl fn_ fz) (Rn := mbn fz) (i := a3) (sg := 0) (Or.inr (Or.inr (Or.inl f_10_0_0)))).1
  | exact (gus_b (r := m38 fs) (I := (fun _ _ => 0)) (Rl := mbl fn_ fz) (Rn := mbn fz) (i := a3) (sg := ms) (Or.inr (Or.inr (Or.inl f_10_0_0)))).2
  | exact (gus_b (r := m38 fs) (I := (itM fi_)) (Rl := mbl fn_ fz) (Rn := mbn fz) (i := a3) (sg := 0) (Or.inr (Or.inr (Or.inr q_14)))).1
  | exact (gus_b (r := m38 fs) (I := (fun _ _ => 0)) (Rl := mbl fn_ fz) (Rn := mbn fz) (i := a3) (sg := ms) (Or.inr (Or.inr (Or.inr q_14)))).2
  | exact (gus_b (r := m38 fs) (I := (itM fi_)) (Rl := mbl fn_ fz) (Rn := mbn fz) (i := a3) (sg := 0) (Or.inr (Or.inl (whM_b1 hM.2.1 f_30_0_0)))).1
  | exact (gus_b (r := m38 fs) (I := (fun _ _ => 0)) (Rl := mbl fn_ fz) (Rn := mbn fz) (i := a3) (sg := ms) (Or.inr (Or.inl (whM_b1 hM.2.1 f_30_0_0)))).2
  | exact (gus_b (r := m38 fs) (I := (itM fi_)) (Rl := mbl fn_ fz) (Rn := mbn fz) (i := a3) (sg := 0) (Or.inr (Or.inr (Or.inl f_34_0_0)))).1
  | exact (gus_b (r := m38 fs) (I := (fun _ _ => 0)) (Rl := mbl fn_ fz) (Rn := mbn fz) (i := a3) (sg := ms) (Or.inr (Or.inr (Or.inl f_34_0_0)))).2
  | exact (gus_b (r := m38 fs) (I := (itM fi_)) (Rl := mbl fn_ fz) (Rn := mbn fz) (i := a3) (sg := 0) (Or.inr (Or.inr (Or.inr q_38)))).1
  | exact (gus_b (r := m38 fs) (I := (fun _ _ => 0)) (Rl := mbl fn_ fz) (Rn := mbn fz) (i := a3) (sg := ms) (Or.inr (Or.inr (Or.inr q_38)))).2
  | exact tri_r (guM_g (I := (itM fi_)) (sg := 0) (i := a3) hM hln9 hsz9 hj_6 gs_m hj_10 q_14 hj_14).1 (hr_0 (sg := 0) (by rw [← e_18]; exact c_19)).1 (by decide)
  | exact ((guM_g (I := (fun _ _ => 0)) (sg := ms) (i := a3) hM hln9 hsz9 hj_6 gs_m hj_10 q_14 hj_14).2.trans (hr_0 (by rw [← e_18]; exact c_19)).2).symm
  | exact tri_r (guM_g (I := (itM fi_)) (sg := 0) (i := a3) hM hln9 hsz9 hj_6 gs_m hj_10 q_14 hj_14).1 (hr_1 (sg := 0) e_18.symm f_20_1_0).1 (by decide)
  | exact hF_20_0.trans ((lk_1 f_20_1_0).symm.trans ((guM_g (I := (fun _ _ => 0)) (sg := ms) (i := a3) hM hln9 hsz9 hj_6 gs_m hj_10 q_14 hj_14).2.trans (hr_1 e_18.symm f_20_1_0).2).symm)
  | exact tri_r (guM_g (I := (itM fi_)) (sg := 0) (i := a3) hM hln9 hsz9 hj_6 gs_m hj_10 q_14 hj_14).1 (hr_2 (sg := 0) e_18.symm f_20_2_0 f_20_2_1).1 (by decide)
  | exact hF_20_0.trans ((lk_2 f_20_2_0 f_20_2_1).symm.trans ((guM_g (I := (fun _ _ => 0)) (sg := ms) (i := a3) hM hln9 hsz9 hj_6 gs_m hj_10 q_14 hj_14).2.trans (hr_2 e_18.symm f_20_2_0 f_20_2_1).2).symm)
  | exact tri_r (guM_g (I := (itM fi_)) (sg := 0) (i := a3) hM hln9 hsz9 hj_30 (gs_n (r := m38 fs) hM.1 hM.2.2.2.1 hj_3) hj_34 q_38 hj_38).1 (hr_0 (sg := 0) (by rw [← e_42]; exact c_43)).1 (by decide)
  | exact ((guM_g (I := (fun _ _ => 0)) (sg := ms) (i := a3) hM hln9 hsz9 hj_30 (gs_n (r := m38 fs) hM.1 hM.2.2.2.1 hj_3) hj_34 q_38 hj_38).2.trans (hr_0 (by rw [← e_42]; exact c_43)).2).symm
  | exact tri_r (guM_g (I := (itM fi_)) (sg := 0) (i := a3) hM hln9 hsz9 hj_30 (gs_n (r := m38 fs) hM.1 hM.2.2.2.1 hj_3) hj_34 q_38 hj_38).1 (hr_1 (sg := 0) e_42.symm f_44_1_0).1 (by decide)
  | exact hF_44_0.trans ((lk_1 f_44_1_0).symm.trans ((guM_g (I := (fun _ _ => 0)) (sg := ms) (i := a3) hM hln9 hsz9 hj_30 (gs_n (r := m38 fs) hM.1 hM.2.2.2.1 hj_3) hj_34 q_38 hj_38).2.trans (hr_1 e_42.symm f_44_1_0).2).symm)
  | exact tri_r (guM_g (I := (itM fi_)) (sg := 0) (i := a3) hM hln9 hsz9 hj_30 (gs_n (r := m38 fs) hM.1 hM.2.2.2.1 hj_3) hj_34 q_38 hj_38).1 (hr_2 (sg := 0) e_42.symm f_44_2_0 f_44_2_1).1 (by decide)
  | exact hF_44_0.trans ((lk_2 f_44_2_0 f_44_2_1).symm.trans ((guM_g (I := (fun _ _ => 0)) (sg := ms) (i := a3) hM hln9 hsz9 hj_30 (gs_n (r := m38 fs) hM.1 hM.2.2.2.1 hj_3) hj_34 q_38 hj_38).2.trans (hr_2 e_42.symm f_44_2_0 f_44_2_1).2).symm)
  | exact hF_26_2.trans ((guM_g (I := (fun _ _ => 0)) (sg := ms) (i := (nI pa_21)) hM hln9 hsz9 hj_6 gs_m hj_10 q_14 hj_14).2.trans (hr_3 (sg := ms) e_18.symm f_20_0_0 f_20_0_1).2).symm
  | exact h_26.trans ((clM_fit hj_10 (by omega)).trans (tri_0 (guM_g (I := (itM fi_)) (sg := 0) (i := (nI pa_21)) hM hln9 hsz9 hj_6 gs_m hj_10 q_14 hj_14).1 (hr_3 (sg := 0) e_18.symm f_20_0_0 f_20_0_1).1 rfl))
  | exact hF_51_2.trans ((guM_g (I := (fun _ _ => 0)) (sg := ms) (i := (nI pa_45)) hM hln9 hsz9 hj_30 (gs_n (r := m38 fs) hM.1 hM.2.2.2.1 hj_3) hj_34 q_38 hj_38).2.trans (hr_3 (sg := ms) e_42.symm f_44_0_0 f_44_0_1).2).symm
  | exact h_51.trans ((clM_fit hj_34 (by omega)).trans ((cl_w (by omega)).trans (tri_1 (guM_g (I := (itM fi_)) (sg := 0) (i := (nI pa_45)) hM hln9 hsz9 hj_30 (gs_n (r := m38 fs) hM.1 hM.2.2.2.1 hj_3) hj_34 q_38 hj_38).1 (hr_3 (sg := 0) e_42.symm f_44_0_0 f_44_0_1).1 (gs_ne (by omega)))))
theorem lf_X8_gusts_4 {mt : Int32} {ma : Nat} {fs : Nat → Int32} {w9 : Nat} {k9 : Nat} {h9 : Nat} {fi_ : Nat → Int32} {fz : Nat → Int32} {fn_ : Nat → Int32} {a1 : Int32} {a2 : Int32} {a3 : Int32} {a4 : Int32} {v_2 : Int32} (hM : okM fs w9 k9 h9) (hT : ¬ mt = 0 → 1 ≤ k9) (h999 : h9 ≤ 999) (hT0 : mt = 0 → fs 0 = 0 ∧ ma = 0) (hsz9 : ∀ j : Nat, j < 8 → fz j = -1 ∨ ∃ q : Nat, q ≤ 40 ∧ fz j = nI q) (hln9 : ∀ j : Nat, j < 8 → ¬ fz j = -1 → ¬ fn_ j = -1) (e_2 : v_2 = ((nI w9) - 1)) (f_3_1_0 : (¬ ((((-1) : Int32)).toInt64 < (-1) ∨ (v_2).toInt64 < (((-1) : Int32)).toInt64))) (q_3 : ¬ (((-1) : Int32) < (-1) ∨ v_2 < ((-1) : Int32))) (f_6_0_0 : ¬ sB (nI k9) a1) : (-1000001) = (a_gus (m38 fs) (mbl fn_ fz) (mbn fz) (itM fi_) ((-1) : Int32) a1 a2 a3 a4) := by
  have hw6 := hM.2.2.2.1
  first
  | exact (gus_b (r := m38 fs) (I := (itM fi_)) (Rl := mbl fn_ fz) (Rn := mbn fz) (i := a3) (sg := 0) (Or.inl (gsM_b hM e_2 q_3))).1
  | exact (gus_b (r := m38 fs) (I := (fun _ _ => 0)) (Rl := mbl fn_ fz) (Rn := mbn fz) (i := a3) (sg := ms) (Or.inl (gsM_b hM e_2 q_3))).2
  | exact (gus_b (r := m38 fs) (I := (itM fi_)) (Rl := mbl fn_ fz) (Rn := mbn fz) (i := a3) (sg := 0) (Or.inr (Or.inl (whM_b1 hM.2.1 f_6_0_0)))).1
  | exact (gus_b (r := m38 fs) (I := (fun _ _ => 0)) (Rl := mbl fn_ fz) (Rn := mbn fz) (i := a3) (sg := ms) (Or.inr (Or.inl (whM_b1 hM.2.1 f_6_0_0)))).2
  | exact (gus_b (r := m38 fs) (I := (itM fi_)) (Rl := mbl fn_ fz) (Rn := mbn fz) (i := a3) (sg := 0) (Or.inr (Or.inr (Or.inl f_10_0_0)))).1
  | exact (gus_b (r := m38 fs) (I := (fun _ _ => 0)) (Rl := mbl fn_ fz) (Rn := mbn fz) (i := a3) (sg := ms) (Or.inr (Or.inr (Or.inl f_10_0_0)))).2
  | exact (gus_b (r := m38 fs) (I := (itM fi_)) (Rl := mbl fn_ fz) (Rn := mbn fz) (i := a3) (sg := 0) (Or.inr (Or.inr (Or.inr q_14)))).1
  | exact (gus_b (r := m38 fs) (I := (fun _ _ => 0)) (Rl := mbl fn_ fz) (Rn := mbn fz) (i := a3) (sg := ms) (Or.inr (Or.inr (Or.inr q_14)))).2
  | exact (gus_b (r := m38 fs) (I := (itM fi_)) (Rl := mbl fn_ fz) (Rn := mbn fz) (i := a3) (sg := 0) (Or.inr (Or.inl (whM_b1 hM.2.1 f_30_0_0)))).1
  | exact (gus_b (r := m38 fs) (I := (fun _ _ => 0)) (Rl := mbl fn_ fz) (Rn := mbn fz) (i := a3) (sg := ms) (Or.inr (Or.inl (whM_b1 hM.2.1 f_30_0_0)))).2
  | exact (gus_b (r := m38 fs) (I := (itM fi_)) (Rl := mbl fn_ fz) (Rn := mbn fz) (i := a3) (sg := 0) (Or.inr (Or.inr (Or.inl f_34_0_0)))).1
  | exact (gus_b (r := m38 fs) (I := (fun _ _ => 0)) (Rl := mbl fn_ fz) (Rn := mbn fz) (i := a3) (sg := ms) (Or.inr (Or.inr (Or.inl f_34_0_0)))).2
  | exact (gus_b (r := m38 fs) (I := (itM fi_)) (Rl := mbl fn_ fz) (Rn := mbn fz) (i := a3) (sg := 0) (Or.inr (Or.inr (Or.inr q_38)))).1
  | exact (gus_b (r := m38 fs) (I := (fun _ _ => 0)) (Rl := mbl fn_ fz) (Rn := mbn fz) (i := a3) (sg := ms) (Or.inr (Or.inr (Or.inr q_38)))).2
  | exact tri_r (guM_g (I := (itM fi_)) (sg := 0) (i := a3) hM hln9 hsz9 hj_6 gs_m hj_10 q_14 hj_14).1 (hr_0 (sg := 0) (by rw [← e_18]; exact c_19)).1 (by decide)
  | exact ((guM_g (I := (fun _ _ => 0)) (sg := ms) (i := a3) hM hln9 hsz9 hj_6 gs_m hj_10 q_14 hj_14).2.trans (hr_0 (by rw [← e_18]; exact c_19)).2).symm
  | exact tri_r (guM_g (I := (itM fi_)) (sg := 0) (i := a3) hM hln9 hsz9 hj_6 gs_m hj_10 q_14 hj_14).1 (hr_1 (sg := 0) e_18.symm f_20_1_0).1 (by decide)
  | exact hF_20_0.trans ((lk_1 f_20_1_0).symm.trans ((guM_g (I := (fun _ _ => 0)) (sg := ms) (i := a3) hM hln9 hsz9 hj_6 gs_m hj_10 q_14 hj_14).2.trans (hr_1 e_18.symm f_20_1_0).2).symm)
  | exact tri_r (guM_g (I := (itM fi_)) (sg := 0) (i := a3) hM hln9 hsz9 hj_6 gs_m hj_10 q_14 hj_14).1 (hr_2 (sg := 0) e_18.symm f_20_2_0 f_20_2_1).1 (by decide)
  | exact hF_20_0.trans ((lk_2 f_20_2_0 f_20_2_1).symm.trans ((guM_g (I := (fun _ _ => 0)) (sg := ms) (i := a3) hM hln9 hsz9 hj_6 gs_m hj_10 q_14 hj_14).2.trans (hr_2 e_18.symm f_20_2_0 f_20_2_1).2).symm)
  | exact tri_r (guM_g (I := (itM fi_)) (sg := 0) (i := a3) hM hln9 hsz9 hj_30 (gs_n (r := m38 fs) hM.1 hM.2.2.2.1 hj_3) hj_34 q_38 hj_38).1 (hr_0 (sg := 0) (by rw [← e_42]; exact c_43)).1 (by decide)
  | exact ((guM_g (I := (fun _ _ => 0)) (sg := ms) (i := a3) hM hln9 hsz9 hj_30 (gs_n (r := m38 fs) hM.1 hM.2.2.2.1 hj_3) hj_34 q_38 hj_38).2.trans (hr_0 (by rw [← e_42]; exact c_43)).2).symm
  | exact tri_r (guM_g (I := (itM fi_)) (sg := 0) (i := a3) hM hln9 hsz9 hj_30 (gs_n (r := m38 fs) hM.1 hM.2.2.2.1 hj_3) hj_34 q_38 hj_38).1 (hr_1 (sg := 0) e_42.symm f_44_1_0).1 (by decide)
  | exact hF_44_0.trans ((lk_1 f_44_1_0).symm.trans ((guM_g (I := (fun _ _ => 0)) (sg := ms) (i := a3) hM hln9 hsz9 hj_30 (gs_n (r := m38 fs) hM.1 hM.2.2.2.1 hj_3) hj_34 q_38 hj_38).2.trans (hr_1 e_42.symm f_44_1_0).2).symm)
  | exact tri_r (guM_g (I := (itM fi_)) (sg := 0) (i := a3) hM hln9 hsz9 hj_30 (gs_n (r := m38 fs) hM.1 hM.2.2.2.1 hj_3) hj_34 q_38 hj_38).1 (hr_2 (sg := 0) e_42.symm f_44_2_0 f_44_2_1).1 (by decide)
  | exact hF_44_0.trans ((lk_2 f_44_2_0 f_44_2_1).symm.trans ((guM_g (I := (fun _ _ => 0)) (sg := ms) (i := a3) hM hln9 hsz9 hj_30 (gs_n (r := m38 fs) hM.1 hM.2.2.2.1 hj_3) hj_34 q_38 hj_38).2.trans (hr_2 e_42.symm f_44_2_0 f_44_2_1).2).symm)
  | exact hF_26_2.trans ((guM_g (I := (fun _ _ => 0)) (sg := ms) (i := (nI pa_21)) hM hln9 hsz9 hj_6 gs_m hj_10 q_14 hj_14).2.trans (hr_3 (sg := ms) e_18.symm f_20_0_0 f_20_0_1).2).symm
  | exact h_26.trans ((clM_fit hj_10 (by omega)).trans (tri_0 (guM_g (I := (itM fi_)) (sg := 0) (i := (nI pa_21)) hM hln9 hsz9 hj_6 gs_m hj_10 q_14 hj_14).1 (hr_3 (sg := 0) e_18.symm f_20_0_0 f_20_0_1).1 rfl))
  | exact hF_51_2.trans ((guM_g (I := (fun _ _ => 0)) (sg := ms) (i := (nI pa_45)) hM hln9 hsz9 hj_30 (gs_n (r := m38 fs) hM.1 hM.2.2.2.1 hj_3) hj_34 q_38 hj_38).2.trans (hr_3 (sg := ms) e_42.symm f_44_0_0 f_44_0_1).2).symm
  | exact h_51.trans ((clM_fit hj_34 (by omega)).trans ((cl_w (by omega)).trans (tri_1 (guM_g (I := (itM fi_)) (sg := 0) (i := (nI pa_45)) hM hln9 hsz9 hj_30 (gs_n (r := m38 fs) hM.1 hM.2.2.2.1 hj_3) hj_34 q_38 hj_38).1 (hr_3 (sg := 0) e_42.symm f_44_0_0 f_44_0_1).1 (gs_ne (by omega)))))
theorem lf_X8_gusts_5 {ms : Int32} {mt : Int32} {ma : Nat} {fs : Nat → Int32} {w9 : Nat} {k9 : Nat} {h9 : Nat} {fz : Nat → Int32} {fn_ : Nat → Int32} {a2 : Int32} {a3 : Int32} {a4 : Int32} {v_2 : Int32} {j_6 : Nat} (hM : okM fs w9 k9 h9) (hT : ¬ mt = 0 → 1 ≤ k9) (h999 : h9 ≤ 999) (hT0 : mt = 0 → fs 0 = 0 ∧ ma = 0) (hsz9 : ∀ j : Nat, j < 8 → fz j = -1 ∨ ∃ q : Nat, q ≤ 40 ∧ fz j = nI q) (hln9 : ∀ j : Nat, j < 8 → ¬ fz j = -1 → ¬ fn_ j = -1) (e_2 : v_2 = ((nI w9) - 1)) (f_3_1_0 : (¬ ((((-1) : Int32)).toInt64 < (-1) ∨ (v_2).toInt64 < (((-1) : Int32)).toInt64))) (q_3 : ¬ (((-1) : Int32) < (-1) ∨ v_2 < ((-1) : Int32))) (hj_6 : j_6 < k9) (hkn1 : 1 ≤ k9) (hw1 : 1 ≤ w9) (h01 : ¬ fs 0 = 0) (f_10_0_0 : (a2 < 0 ∨ 8 ≤ a2)) : ms = f_gus (m38 fs) (mbl fn_ fz) (mbn fz) ((-1) : Int32) (nI j_6) a2 a3 a4 ms := by
  have hw6 := hM.2.2.2.1
  first
  | exact (gus_b (r := m38 fs) (I := (itM fi_)) (Rl := mbl fn_ fz) (Rn := mbn fz) (i := a3) (sg := 0) (Or.inl (gsM_b hM e_2 q_3))).1
  | exact (gus_b (r := m38 fs) (I := (fun _ _ => 0)) (Rl := mbl fn_ fz) (Rn := mbn fz) (i := a3) (sg := ms) (Or.inl (gsM_b hM e_2 q_3))).2
  | exact (gus_b (r := m38 fs) (I := (itM fi_)) (Rl := mbl fn_ fz) (Rn := mbn fz) (i := a3) (sg := 0) (Or.inr (Or.inl (whM_b1 hM.2.1 f_6_0_0)))).1
  | exact (gus_b (r := m38 fs) (I := (fun _ _ => 0)) (Rl := mbl fn_ fz) (Rn := mbn fz) (i := a3) (sg := ms) (Or.inr (Or.inl (whM_b1 hM.2.1 f_6_0_0)))).2
  | exact (gus_b (r := m38 fs) (I := (itM fi_)) (Rl := mbl fn_ fz) (Rn := mbn fz) (i := a3) (sg := 0) (Or.inr (Or.inr (Or.inl f_10_0_0)))).1
  | exact (gus_b (r := m38 fs) (I := (fun _ _ => 0)) (Rl := mbl fn_ fz) (Rn := mbn fz) (i := a3) (sg := ms) (Or.inr (Or.inr (Or.inl f_10_0_0)))).2
  | exact (gus_b (r := m38 fs) (I := (itM fi_)) (Rl := mbl fn_ fz) (Rn := mbn fz) (i := a3) (sg := 0) (Or.inr (Or.inr (Or.inr q_14)))).1
  | exact (gus_b (r := m38 fs) (I := (fun _ _ => 0)) (Rl := mbl fn_ fz) (Rn := mbn fz) (i := a3) (sg := ms) (Or.inr (Or.inr (Or.inr q_14)))).2
  | exact (gus_b (r := m38 fs) (I := (itM fi_)) (Rl := mbl fn_ fz) (Rn := mbn fz) (i := a3) (sg := 0) (Or.inr (Or.inl (whM_b1 hM.2.1 f_30_0_0)))).1
  | exact (gus_b (r := m38 fs) (I := (fun _ _ => 0)) (Rl := mbl fn_ fz) (Rn := mbn fz) (i := a3) (sg := ms) (Or.inr (Or.inl (whM_b1 hM.2.1 f_30_0_0)))).2
  | exact (gus_b (r := m38 fs) (I := (itM fi_)) (Rl := mbl fn_ fz) (Rn := mbn fz) (i := a3) (sg := 0) (Or.inr (Or.inr (Or.inl f_34_0_0)))).1
  | exact (gus_b (r := m38 fs) (I := (fun _ _ => 0)) (Rl := mbl fn_ fz) (Rn := mbn fz) (i := a3) (sg := ms) (Or.inr (Or.inr (Or.inl f_34_0_0)))).2
  | exact (gus_b (r := m38 fs) (I := (itM fi_)) (Rl := mbl fn_ fz) (Rn := mbn fz) (i := a3) (sg := 0) (Or.inr (Or.inr (Or.inr q_38)))).1
  | exact (gus_b (r := m38 fs) (I := (fun _ _ => 0)) (Rl := mbl fn_ fz) (Rn := mbn fz) (i := a3) (sg := ms) (Or.inr (Or.inr (Or.inr q_38)))).2
  | exact tri_r (guM_g (I := (itM fi_)) (sg := 0) (i := a3) hM hln9 hsz9 hj_6 gs_m hj_10 q_14 hj_14).1 (hr_0 (sg := 0) (by rw [← e_18]; exact c_19)).1 (by decide)
  | exact ((guM_g (I := (fun _ _ => 0)) (sg := ms) (i := a3) hM hln9 hsz9 hj_6 gs_m hj_10 q_14 hj_14).2.trans (hr_0 (by rw [← e_18]; exact c_19)).2).symm
  | exact tri_r (guM_g (I := (itM fi_)) (sg := 0) (i := a3) hM hln9 hsz9 hj_6 gs_m hj_10 q_14 hj_14).1 (hr_1 (sg := 0) e_18.symm f_20_1_0).1 (by decide)
  | exact hF_20_0.trans ((lk_1 f_20_1_0).symm.trans ((guM_g (I := (fun _ _ => 0)) (sg := ms) (i := a3) hM hln9 hsz9 hj_6 gs_m hj_10 q_14 hj_14).2.trans (hr_1 e_18.symm f_20_1_0).2).symm)
  | exact tri_r (guM_g (I := (itM fi_)) (sg := 0) (i := a3) hM hln9 hsz9 hj_6 gs_m hj_10 q_14 hj_14).1 (hr_2 (sg := 0) e_18.symm f_20_2_0 f_20_2_1).1 (by decide)
  | exact hF_20_0.trans ((lk_2 f_20_2_0 f_20_2_1).symm.trans ((guM_g (I := (fun _ _ => 0)) (sg := ms) (i := a3) hM hln9 hsz9 hj_6 gs_m hj_10 q_14 hj_14).2.trans (hr_2 e_18.symm f_20_2_0 f_20_2_1).2).symm)
  | exact tri_r (guM_g (I := (itM fi_)) (sg := 0) (i := a3) hM hln9 hsz9 hj_30 (gs_n (r := m38 fs) hM.1 hM.2.2.2.1 hj_3) hj_34 q_38 hj_38).1 (hr_0 (sg := 0) (by rw [← e_42]; exact c_43)).1 (by decide)
  | exact ((guM_g (I := (fun _ _ => 0)) (sg := ms) (i := a3) hM hln9 hsz9 hj_30 (gs_n (r := m38 fs) hM.1 hM.2.2.2.1 hj_3) hj_34 q_38 hj_38).2.trans (hr_0 (by rw [← e_42]; exact c_43)).2).symm
  | exact tri_r (guM_g (I := (itM fi_)) (sg := 0) (i := a3) hM hln9 hsz9 hj_30 (gs_n (r := m38 fs) hM.1 hM.2.2.2.1 hj_3) hj_34 q_38 hj_38).1 (hr_1 (sg := 0) e_42.symm f_44_1_0).1 (by decide)
  | exact hF_44_0.trans ((lk_1 f_44_1_0).symm.trans ((guM_g (I := (fun _ _ => 0)) (sg := ms) (i := a3) hM hln9 hsz9 hj_30 (gs_n (r := m38 fs) hM.1 hM.2.2.2.1 hj_3) hj_34 q_38 hj_38).2.trans (hr_1 e_42.symm f_44_1_0).2).symm)
  | exact tri_r (guM_g (I := (itM fi_)) (sg := 0) (i := a3) hM hln9 hsz9 hj_30 (gs_n (r := m38 fs) hM.1 hM.2.2.2.1 hj_3) hj_34 q_38 hj_38).1 (hr_2 (sg := 0) e_42.symm f_44_2_0 f_44_2_1).1 (by decide)
  | exact hF_44_0.trans ((lk_2 f_44_2_0 f_44_2_1).symm.trans ((guM_g (I := (fun _ _ => 0)) (sg := ms) (i := a3) hM hln9 hsz9 hj_30 (gs_n (r := m38 fs) hM.1 hM.2.2.2.1 hj_3) hj_34 q_38 hj_38).2.trans (hr_2 e_42.symm f_44_2_0 f_44_2_1).2).symm)
  | exact hF_26_2.trans ((guM_g (I := (fun _ _ => 0)) (sg := ms) (i := (nI pa_21)) hM hln9 hsz9 hj_6 gs_m hj_10 q_14 hj_14).2.trans (hr_3 (sg := ms) e_18.symm f_20_0_0 f_20_0_1).2).symm
  | exact h_26.trans ((clM_fit hj_10 (by omega)).trans (tri_0 (guM_g (I := (itM fi_)) (sg := 0) (i := (nI pa_21)) hM hln9 hsz9 hj_6 gs_m hj_10 q_14 hj_14).1 (hr_3 (sg := 0) e_18.symm f_20_0_0 f_20_0_1).1 rfl))
  | exact hF_51_2.trans ((guM_g (I := (fun _ _ => 0)) (sg := ms) (i := (nI pa_45)) hM hln9 hsz9 hj_30 (gs_n (r := m38 fs) hM.1 hM.2.2.2.1 hj_3) hj_34 q_38 hj_38).2.trans (hr_3 (sg := ms) e_42.symm f_44_0_0 f_44_0_1).2).symm
  | exact h_51.trans ((clM_fit hj_34 (by omega)).trans ((cl_w (by omega)).trans (tri_1 (guM_g (I := (itM fi_)) (sg := 0) (i := (nI pa_45)) hM hln9 hsz9 hj_30 (gs_n (r := m38 fs) hM.1 hM.2.2.2.1 hj_3) hj_34 q_38 hj_38).1 (hr_3 (sg := 0) e_42.symm f_44_0_0 f_44_0_1).1 (gs_ne (by omega)))))
theorem lf_X8_gusts_6 {mt : Int32} {ma : Nat} {fs : Nat → Int32} {w9 : Nat} {k9 : Nat} {h9 : Nat} {fi_ : Nat → Int32} {fz : Nat → Int32} {fn_ : Nat → Int32} {a2 : Int32} {a3 : Int32} {a4 : Int32} {v_2 : Int32} {j_6 : Nat} (hM : okM fs w9 k9 h9) (hT : ¬ mt = 0 → 1 ≤ k9) (h999 : h9 ≤ 999) (hT0 : mt = 0 → fs 0 = 0 ∧ ma = 0) (hsz9 : ∀ j : Nat, j < 8 → fz j = -1 ∨ ∃ q : Nat, q ≤ 40 ∧ fz j = nI q) (hln9 : ∀ j : Nat, j < 8 → ¬ fz j = -1 → ¬ fn_ j = -1) (e_2 : v_2 = ((nI w9) - 1)) (f_3_1_0 : (¬ ((((-1) : Int32)).toInt64 < (-1) ∨ (v_2).toInt64 < (((-1) : Int32)).toInt64))) (q_3 : ¬ (((-1) : Int32) < (-1) ∨ v_2 < ((-1) : Int32))) (hj_6 : j_6 < k9) (hkn1 : 1 ≤ k9) (hw1 : 1 ≤ w9) (h01 : ¬ fs 0 = 0) (f_10_0_0 : (a2 < 0 ∨ 8 ≤ a2)) : (-1000001) = (a_gus (m38 fs) (mbl fn_ fz) (mbn fz) (itM fi_) ((-1) : Int32) (nI j_6) a2 a3 a4) := by
  have hw6 := hM.2.2.2.1
  first
  | exact (gus_b (r := m38 fs) (I := (itM fi_)) (Rl := mbl fn_ fz) (Rn := mbn fz) (i := a3) (sg := 0) (Or.inl (gsM_b hM e_2 q_3))).1
  | exact (gus_b (r := m38 fs) (I := (fun _ _ => 0)) (Rl := mbl fn_ fz) (Rn := mbn fz) (i := a3) (sg := ms) (Or.inl (gsM_b hM e_2 q_3))).2
  | exact (gus_b (r := m38 fs) (I := (itM fi_)) (Rl := mbl fn_ fz) (Rn := mbn fz) (i := a3) (sg := 0) (Or.inr (Or.inl (whM_b1 hM.2.1 f_6_0_0)))).1
  | exact (gus_b (r := m38 fs) (I := (fun _ _ => 0)) (Rl := mbl fn_ fz) (Rn := mbn fz) (i := a3) (sg := ms) (Or.inr (Or.inl (whM_b1 hM.2.1 f_6_0_0)))).2
  | exact (gus_b (r := m38 fs) (I := (itM fi_)) (Rl := mbl fn_ fz) (Rn := mbn fz) (i := a3) (sg := 0) (Or.inr (Or.inr (Or.inl f_10_0_0)))).1
  | exact (gus_b (r := m38 fs) (I := (fun _ _ => 0)) (Rl := mbl fn_ fz) (Rn := mbn fz) (i := a3) (sg := ms) (Or.inr (Or.inr (Or.inl f_10_0_0)))).2
  | exact (gus_b (r := m38 fs) (I := (itM fi_)) (Rl := mbl fn_ fz) (Rn := mbn fz) (i := a3) (sg := 0) (Or.inr (Or.inr (Or.inr q_14)))).1
  | exact (gus_b (r := m38 fs) (I := (fun _ _ => 0)) (Rl := mbl fn_ fz) (Rn := mbn fz) (i := a3) (sg := ms) (Or.inr (Or.inr (Or.inr q_14)))).2
  | exact (gus_b (r := m38 fs) (I := (itM fi_)) (Rl := mbl fn_ fz) (Rn := mbn fz) (i := a3) (sg := 0) (Or.inr (Or.inl (whM_b1 hM.2.1 f_30_0_0)))).1
  | exact (gus_b (r := m38 fs) (I := (fun _ _ => 0)) (Rl := mbl fn_ fz) (Rn := mbn fz) (i := a3) (sg := ms) (Or.inr (Or.inl (whM_b1 hM.2.1 f_30_0_0)))).2
  | exact (gus_b (r := m38 fs) (I := (itM fi_)) (Rl := mbl fn_ fz) (Rn := mbn fz) (i := a3) (sg := 0) (Or.inr (Or.inr (Or.inl f_34_0_0)))).1
  | exact (gus_b (r := m38 fs) (I := (fun _ _ => 0)) (Rl := mbl fn_ fz) (Rn := mbn fz) (i := a3) (sg := ms) (Or.inr (Or.inr (Or.inl f_34_0_0)))).2
  | exact (gus_b (r := m38 fs) (I := (itM fi_)) (Rl := mbl fn_ fz) (Rn := mbn fz) (i := a3) (sg := 0) (Or.inr (Or.inr (Or.inr q_38)))).1
  | exact (gus_b (r := m38 fs) (I := (fun _ _ => 0)) (Rl := mbl fn_ fz) (Rn := mbn fz) (i := a3) (sg := ms) (Or.inr (Or.inr (Or.inr q_38)))).2
  | exact tri_r (guM_g (I := (itM fi_)) (sg := 0) (i := a3) hM hln9 hsz9 hj_6 gs_m hj_10 q_14 hj_14).1 (hr_0 (sg := 0) (by rw [← e_18]; exact c_19)).1 (by decide)
  | exact ((guM_g (I := (fun _ _ => 0)) (sg := ms) (i := a3) hM hln9 hsz9 hj_6 gs_m hj_10 q_14 hj_14).2.trans (hr_0 (by rw [← e_18]; exact c_19)).2).symm
  | exact tri_r (guM_g (I := (itM fi_)) (sg := 0) (i := a3) hM hln9 hsz9 hj_6 gs_m hj_10 q_14 hj_14).1 (hr_1 (sg := 0) e_18.symm f_20_1_0).1 (by decide)
  | exact hF_20_0.trans ((lk_1 f_20_1_0).symm.trans ((guM_g (I := (fun _ _ => 0)) (sg := ms) (i := a3) hM hln9 hsz9 hj_6 gs_m hj_10 q_14 hj_14).2.trans (hr_1 e_18.symm f_20_1_0).2).symm)
  | exact tri_r (guM_g (I := (itM fi_)) (sg := 0) (i := a3) hM hln9 hsz9 hj_6 gs_m hj_10 q_14 hj_14).1 (hr_2 (sg := 0) e_18.symm f_20_2_0 f_20_2_1).1 (by decide)
  | exact hF_20_0.trans ((lk_2 f_20_2_0 f_20_2_1).symm.trans ((guM_g (I := (fun _ _ => 0)) (sg := ms) (i := a3) hM hln9 hsz9 hj_6 gs_m hj_10 q_14 hj_14).2.trans (hr_2 e_18.symm f_20_2_0 f_20_2_1).2).symm)
  | exact tri_r (guM_g (I := (itM fi_)) (sg := 0) (i := a3) hM hln9 hsz9 hj_30 (gs_n (r := m38 fs) hM.1 hM.2.2.2.1 hj_3) hj_34 q_38 hj_38).1 (hr_0 (sg := 0) (by rw [← e_42]; exact c_43)).1 (by decide)
  | exact ((guM_g (I := (fun _ _ => 0)) (sg := ms) (i := a3) hM hln9 hsz9 hj_30 (gs_n (r := m38 fs) hM.1 hM.2.2.2.1 hj_3) hj_34 q_38 hj_38).2.trans (hr_0 (by rw [← e_42]; exact c_43)).2).symm
  | exact tri_r (guM_g (I := (itM fi_)) (sg := 0) (i := a3) hM hln9 hsz9 hj_30 (gs_n (r := m38 fs) hM.1 hM.2.2.2.1 hj_3) hj_34 q_38 hj_38).1 (hr_1 (sg := 0) e_42.symm f_44_1_0).1 (by decide)
  | exact hF_44_0.trans ((lk_1 f_44_1_0).symm.trans ((guM_g (I := (fun _ _ => 0)) (sg := ms) (i := a3) hM hln9 hsz9 hj_30 (gs_n (r := m38 fs) hM.1 hM.2.2.2.1 hj_3) hj_34 q_38 hj_38).2.trans (hr_1 e_42.symm f_44_1_0).2).symm)
  | exact tri_r (guM_g (I := (itM fi_)) (sg := 0) (i := a3) hM hln9 hsz9 hj_30 (gs_n (r := m38 fs) hM.1 hM.2.2.2.1 hj_3) hj_34 q_38 hj_38).1 (hr_2 (sg := 0) e_42.symm f_44_2_0 f_44_2_1).1 (by decide)
  | exact hF_44_0.trans ((lk_2 f_44_2_0 f_44_2_1).symm.trans ((guM_g (I := (fun _ _ => 0)) (sg := ms) (i := a3) hM hln9 hsz9 hj_30 (gs_n (r := m38 fs) hM.1 hM.2.2.2.1 hj_3) hj_34 q_38 hj_38).2.trans (hr_2 e_42.symm f_44_2_0 f_44_2_1).2).symm)
  | exact hF_26_2.trans ((guM_g (I := (fun _ _ => 0)) (sg := ms) (i := (nI pa_21)) hM hln9 hsz9 hj_6 gs_m hj_10 q_14 hj_14).2.trans (hr_3 (sg := ms) e_18.symm f_20_0_0 f_20_0_1).2).symm
  | exact h_26.trans ((clM_fit hj_10 (by omega)).trans (tri_0 (guM_g (I := (itM fi_)) (sg := 0) (i := (nI pa_21)) hM hln9 hsz9 hj_6 gs_m hj_10 q_14 hj_14).1 (hr_3 (sg := 0) e_18.symm f_20_0_0 f_20_0_1).1 rfl))
  | exact hF_51_2.trans ((guM_g (I := (fun _ _ => 0)) (sg := ms) (i := (nI pa_45)) hM hln9 hsz9 hj_30 (gs_n (r := m38 fs) hM.1 hM.2.2.2.1 hj_3) hj_34 q_38 hj_38).2.trans (hr_3 (sg := ms) e_42.symm f_44_0_0 f_44_0_1).2).symm
  | exact h_51.trans ((clM_fit hj_34 (by omega)).trans ((cl_w (by omega)).trans (tri_1 (guM_g (I := (itM fi_)) (sg := 0) (i := (nI pa_45)) hM hln9 hsz9 hj_30 (gs_n (r := m38 fs) hM.1 hM.2.2.2.1 hj_3) hj_34 q_38 hj_38).1 (hr_3 (sg := 0) e_42.symm f_44_0_0 f_44_0_1).1 (gs_ne (by omega)))))
theorem lf_X8_gusts_7 {ms : Int32} {mt : Int32} {ma : Nat} {fs : Nat → Int32} {w9 : Nat} {k9 : Nat} {h9 : Nat} {fz : Nat → Int32} {fn_ : Nat → Int32} {a3 : Int32} {a4 : Int32} {v_2 : Int32} {j_6 : Nat} {j_10 : Nat} (hM : okM fs w9 k9 h9) (hT : ¬ mt = 0 → 1 ≤ k9) (h999 : h9 ≤ 999) (hT0 : mt = 0 → fs 0 = 0 ∧ ma = 0) (hsz9 : ∀ j : Nat, j < 8 → fz j = -1 ∨ ∃ q : Nat, q ≤ 40 ∧ fz j = nI q) (hln9 : ∀ j : Nat, j < 8 → ¬ fz j = -1 → ¬ fn_ j = -1) (e_2 : v_2 = ((nI w9) - 1)) (f_3_1_0 : (¬ ((((-1) : Int32)).toInt64 < (-1) ∨ (v_2).toInt64 < (((-1) : Int32)).toInt64))) (q_3 : ¬ (((-1) : Int32) < (-1) ∨ v_2 < ((-1) : Int32))) (hj_6 : j_6 < k9) (hkn1 : 1 ≤ k9) (hw1 : 1 ≤ w9) (h01 : ¬ fs 0 = 0) (hj_10 : j_10 < 8) (f_14_0_0 : ((a4).toInt64 < 1 ∨ 12 < (a4).toInt64)) (q_14 : (a4 < 1 ∨ 12 < a4)) : ms = f_gus (m38 fs) (mbl fn_ fz) (mbn fz) ((-1) : Int32) (nI j_6) (nI j_10) a3 a4 ms := by
  have hw6 := hM.2.2.2.1
  first
  | exact (gus_b (r := m38 fs) (I := (itM fi_)) (Rl := mbl fn_ fz) (Rn := mbn fz) (i := a3) (sg := 0) (Or.inl (gsM_b hM e_2 q_3))).1
  | exact (gus_b (r := m38 fs) (I := (fun _ _ => 0)) (Rl := mbl fn_ fz) (Rn := mbn fz) (i := a3) (sg := ms) (Or.inl (gsM_b hM e_2 q_3))).2
  | exact (gus_b (r := m38 fs) (I := (itM fi_)) (Rl := mbl fn_ fz) (Rn := mbn fz) (i := a3) (sg := 0) (Or.inr (Or.inl (whM_b1 hM.2.1 f_6_0_0)))).1
  | exact (gus_b (r := m38 fs) (I := (fun _ _ => 0)) (Rl := mbl fn_ fz) (Rn := mbn fz) (i := a3) (sg := ms) (Or.inr (Or.inl (whM_b1 hM.2.1 f_6_0_0)))).2
  | exact (gus_b (r := m38 fs) (I := (itM fi_)) (Rl := mbl fn_ fz) (Rn := mbn fz) (i := a3) (sg := 0) (Or.inr (Or.inr (Or.inl f_10_0_0)))).1
  | exact (gus_b (r := m38 fs) (I := (fun _ _ => 0)) (Rl := mbl fn_ fz) (Rn := mbn fz) (i := a3) (sg := ms) (Or.inr (Or.inr (Or.inl f_10_0_0)))).2
  | exact (gus_b (r := m38 fs) (I := (itM fi_)) (Rl := mbl fn_ fz) (Rn := mbn fz) (i := a3) (sg := 0) (Or.inr (Or.inr (Or.inr q_14)))).1
  | exact (gus_b (r := m38 fs) (I := (fun _ _ => 0)) (Rl := mbl fn_ fz) (Rn := mbn fz) (i := a3) (sg := ms) (Or.inr (Or.inr (Or.inr q_14)))).2
  | exact (gus_b (r := m38 fs) (I := (itM fi_)) (Rl := mbl fn_ fz) (Rn := mbn fz) (i := a3) (sg := 0) (Or.inr (Or.inl (whM_b1 hM.2.1 f_30_0_0)))).1
  | exact (gus_b (r := m38 fs) (I := (fun _ _ => 0)) (Rl := mbl fn_ fz) (Rn := mbn fz) (i := a3) (sg := ms) (Or.inr (Or.inl (whM_b1 hM.2.1 f_30_0_0)))).2
  | exact (gus_b (r := m38 fs) (I := (itM fi_)) (Rl := mbl fn_ fz) (Rn := mbn fz) (i := a3) (sg := 0) (Or.inr (Or.inr (Or.inl f_34_0_0)))).1
  | exact (gus_b (r := m38 fs) (I := (fun _ _ => 0)) (Rl := mbl fn_ fz) (Rn := mbn fz) (i := a3) (sg := ms) (Or.inr (Or.inr (Or.inl f_34_0_0)))).2
  | exact (gus_b (r := m38 fs) (I := (itM fi_)) (Rl := mbl fn_ fz) (Rn := mbn fz) (i := a3) (sg := 0) (Or.inr (Or.inr (Or.inr q_38)))).1
  | exact (gus_b (r := m38 fs) (I := (fun _ _ => 0)) (Rl := mbl fn_ fz) (Rn := mbn fz) (i := a3) (sg := ms) (Or.inr (Or.inr (Or.inr q_38)))).2
  | exact tri_r (guM_g (I := (itM fi_)) (sg := 0) (i := a3) hM hln9 hsz9 hj_6 gs_m hj_10 q_14 hj_14).1 (hr_0 (sg := 0) (by rw [← e_18]; exact c_19)).1 (by decide)
  | exact ((guM_g (I := (fun _ _ => 0)) (sg := ms) (i := a3) hM hln9 hsz9 hj_6 gs_m hj_10 q_14 hj_14).2.trans (hr_0 (by rw [← e_18]; exact c_19)).2).symm
  | exact tri_r (guM_g (I := (itM fi_)) (sg := 0) (i := a3) hM hln9 hsz9 hj_6 gs_m hj_10 q_14 hj_14).1 (hr_1 (sg := 0) e_18.symm f_20_1_0).1 (by decide)
  | exact hF_20_0.trans ((lk_1 f_20_1_0).symm.trans ((guM_g (I := (fun _ _ => 0)) (sg := ms) (i := a3) hM hln9 hsz9 hj_6 gs_m hj_10 q_14 hj_14).2.trans (hr_1 e_18.symm f_20_1_0).2).symm)
  | exact tri_r (guM_g (I := (itM fi_)) (sg := 0) (i := a3) hM hln9 hsz9 hj_6 gs_m hj_10 q_14 hj_14).1 (hr_2 (sg := 0) e_18.symm f_20_2_0 f_20_2_1).1 (by decide)
  | exact hF_20_0.trans ((lk_2 f_20_2_0 f_20_2_1).symm.trans ((guM_g (I := (fun _ _ => 0)) (sg := ms) (i := a3) hM hln9 hsz9 hj_6 gs_m hj_10 q_14 hj_14).2.trans (hr_2 e_18.symm f_20_2_0 f_20_2_1).2).symm)
  | exact tri_r (guM_g (I := (itM fi_)) (sg := 0) (i := a3) hM hln9 hsz9 hj_30 (gs_n (r := m38 fs) hM.1 hM.2.2.2.1 hj_3) hj_34 q_38 hj_38).1 (hr_0 (sg := 0) (by rw [← e_42]; exact c_43)).1 (by decide)
  | exact ((guM_g (I := (fun _ _ => 0)) (sg := ms) (i := a3) hM hln9 hsz9 hj_30 (gs_n (r := m38 fs) hM.1 hM.2.2.2.1 hj_3) hj_34 q_38 hj_38).2.trans (hr_0 (by rw [← e_42]; exact c_43)).2).symm
  | exact tri_r (guM_g (I := (itM fi_)) (sg := 0) (i := a3) hM hln9 hsz9 hj_30 (gs_n (r := m38 fs) hM.1 hM.2.2.2.1 hj_3) hj_34 q_38 hj_38).1 (hr_1 (sg := 0) e_42.symm f_44_1_0).1 (by decide)
  | exact hF_44_0.trans ((lk_1 f_44_1_0).symm.trans ((guM_g (I := (fun _ _ => 0)) (sg := ms) (i := a3) hM hln9 hsz9 hj_30 (gs_n (r := m38 fs) hM.1 hM.2.2.2.1 hj_3) hj_34 q_38 hj_38).2.trans (hr_1 e_42.symm f_44_1_0).2).symm)
  | exact tri_r (guM_g (I := (itM fi_)) (sg := 0) (i := a3) hM hln9 hsz9 hj_30 (gs_n (r := m38 fs) hM.1 hM.2.2.2.1 hj_3) hj_34 q_38 hj_38).1 (hr_2 (sg := 0) e_42.symm f_44_2_0 f_44_2_1).1 (by decide)
  | exact hF_44_0.trans ((lk_2 f_44_2_0 f_44_2_1).symm.trans ((guM_g (I := (fun _ _ => 0)) (sg := ms) (i := a3) hM hln9 hsz9 hj_30 (gs_n (r := m38 fs) hM.1 hM.2.2.2.1 hj_3) hj_34 q_38 hj_38).2.trans (hr_2 e_42.symm f_44_2_0 f_44_2_1).2).symm)
  | exact hF_26_2.trans ((guM_g (I := (fun _ _ => 0)) (sg := ms) (i := (nI pa_21)) hM hln9 hsz9 hj_6 gs_m hj_10 q_14 hj_14).2.trans (hr_3 (sg := ms) e_18.symm f_20_0_0 f_20_0_1).2).symm
  | exact h_26.trans ((clM_fit hj_10 (by omega)).trans (tri_0 (guM_g (I := (itM fi_)) (sg := 0) (i := (nI pa_21)) hM hln9 hsz9 hj_6 gs_m hj_10 q_14 hj_14).1 (hr_3 (sg := 0) e_18.symm f_20_0_0 f_20_0_1).1 rfl))
  | exact hF_51_2.trans ((guM_g (I := (fun _ _ => 0)) (sg := ms) (i := (nI pa_45)) hM hln9 hsz9 hj_30 (gs_n (r := m38 fs) hM.1 hM.2.2.2.1 hj_3) hj_34 q_38 hj_38).2.trans (hr_3 (sg := ms) e_42.symm f_44_0_0 f_44_0_1).2).symm
  | exact h_51.trans ((clM_fit hj_34 (by omega)).trans ((cl_w (by omega)).trans (tri_1 (guM_g (I := (itM fi_)) (sg := 0) (i := (nI pa_45)) hM hln9 hsz9 hj_30 (gs_n (r := m38 fs) hM.1 hM.2.2.2.1 hj_3) hj_34 q_38 hj_38).1 (hr_3 (sg := 0) e_42.symm f_44_0_0 f_44_0_1).1 (gs_ne (by omega)))))
theorem lf_X8_gusts_8 {mt : Int32} {ma : Nat} {fs : Nat → Int32} {w9 : Nat} {k9 : Nat} {h9 : Nat} {fi_ : Nat → Int32} {fz : Nat → Int32} {fn_ : Nat → Int32} {a3 : Int32} {a4 : Int32} {v_2 : Int32} {j_6 : Nat} {j_10 : Nat} (hM : okM fs w9 k9 h9) (hT : ¬ mt = 0 → 1 ≤ k9) (h999 : h9 ≤ 999) (hT0 : mt = 0 → fs 0 = 0 ∧ ma = 0) (hsz9 : ∀ j : Nat, j < 8 → fz j = -1 ∨ ∃ q : Nat, q ≤ 40 ∧ fz j = nI q) (hln9 : ∀ j : Nat, j < 8 → ¬ fz j = -1 → ¬ fn_ j = -1) (e_2 : v_2 = ((nI w9) - 1)) (f_3_1_0 : (¬ ((((-1) : Int32)).toInt64 < (-1) ∨ (v_2).toInt64 < (((-1) : Int32)).toInt64))) (q_3 : ¬ (((-1) : Int32) < (-1) ∨ v_2 < ((-1) : Int32))) (hj_6 : j_6 < k9) (hkn1 : 1 ≤ k9) (hw1 : 1 ≤ w9) (h01 : ¬ fs 0 = 0) (hj_10 : j_10 < 8) (f_14_0_0 : ((a4).toInt64 < 1 ∨ 12 < (a4).toInt64)) (q_14 : (a4 < 1 ∨ 12 < a4)) : (-1000001) = (a_gus (m38 fs) (mbl fn_ fz) (mbn fz) (itM fi_) ((-1) : Int32) (nI j_6) (nI j_10) a3 a4) := by
  have hw6 := hM.2.2.2.1
  first
  | exact (gus_b (r := m38 fs) (I := (itM fi_)) (Rl := mbl fn_ fz) (Rn := mbn fz) (i := a3) (sg := 0) (Or.inl (gsM_b hM e_2 q_3))).1
  | exact (gus_b (r := m38 fs) (I := (fun _ _ => 0)) (Rl := mbl fn_ fz) (Rn := mbn fz) (i := a3) (sg := ms) (Or.inl (gsM_b hM e_2 q_3))).2
  | exact (gus_b (r := m38 fs) (I := (itM fi_)) (Rl := mbl fn_ fz) (Rn := mbn fz) (i := a3) (sg := 0) (Or.inr (Or.inl (whM_b1 hM.2.1 f_6_0_0)))).1
  | exact (gus_b (r := m38 fs) (I := (fun _ _ => 0)) (Rl := mbl fn_ fz) (Rn := mbn fz) (i := a3) (sg := ms) (Or.inr (Or.inl (whM_b1 hM.2.1 f_6_0_0)))).2
  | exact (gus_b (r := m38 fs) (I := (itM fi_)) (Rl := mbl fn_ fz) (Rn := mbn fz) (i := a3) (sg := 0) (Or.inr (Or.inr (Or.inl f_10_0_0)))).1
  | exact (gus_b (r := m38 fs) (I := (fun _ _ => 0)) (Rl := mbl fn_ fz) (Rn := mbn fz) (i := a3) (sg := ms) (Or.inr (Or.inr (Or.inl f_10_0_0)))).2
  | exact (gus_b (r := m38 fs) (I := (itM fi_)) (Rl := mbl fn_ fz) (Rn := mbn fz) (i := a3) (sg := 0) (Or.inr (Or.inr (Or.inr q_14)))).1
  | exact (gus_b (r := m38 fs) (I := (fun _ _ => 0)) (Rl := mbl fn_ fz) (Rn := mbn fz) (i := a3) (sg := ms) (Or.inr (Or.inr (Or.inr q_14)))).2
  | exact (gus_b (r := m38 fs) (I := (itM fi_)) (Rl := mbl fn_ fz) (Rn := mbn fz) (i := a3) (sg := 0) (Or.inr (Or.inl (whM_b1 hM.2.1 f_30_0_0)))).1
  | exact (gus_b (r := m38 fs) (I := (fun _ _ => 0)) (Rl := mbl fn_ fz) (Rn := mbn fz) (i := a3) (sg := ms) (Or.inr (Or.inl (whM_b1 hM.2.1 f_30_0_0)))).2
  | exact (gus_b (r := m38 fs) (I := (itM fi_)) (Rl := mbl fn_ fz) (Rn := mbn fz) (i := a3) (sg := 0) (Or.inr (Or.inr (Or.inl f_34_0_0)))).1
  | exact (gus_b (r := m38 fs) (I := (fun _ _ => 0)) (Rl := mbl fn_ fz) (Rn := mbn fz) (i := a3) (sg := ms) (Or.inr (Or.inr (Or.inl f_34_0_0)))).2
  | exact (gus_b (r := m38 fs) (I := (itM fi_)) (Rl := mbl fn_ fz) (Rn := mbn fz) (i := a3) (sg := 0) (Or.inr (Or.inr (Or.inr q_38)))).1
  | exact (gus_b (r := m38 fs) (I := (fun _ _ => 0)) (Rl := mbl fn_ fz) (Rn := mbn fz) (i := a3) (sg := ms) (Or.inr (Or.inr (Or.inr q_38)))).2
  | exact tri_r (guM_g (I := (itM fi_)) (sg := 0) (i := a3) hM hln9 hsz9 hj_6 gs_m hj_10 q_14 hj_14).1 (hr_0 (sg := 0) (by rw [← e_18]; exact c_19)).1 (by decide)
  | exact ((guM_g (I := (fun _ _ => 0)) (sg := ms) (i := a3) hM hln9 hsz9 hj_6 gs_m hj_10 q_14 hj_14).2.trans (hr_0 (by rw [← e_18]; exact c_19)).2).symm
  | exact tri_r (guM_g (I := (itM fi_)) (sg := 0) (i := a3) hM hln9 hsz9 hj_6 gs_m hj_10 q_14 hj_14).1 (hr_1 (sg := 0) e_18.symm f_20_1_0).1 (by decide)
  | exact hF_20_0.trans ((lk_1 f_20_1_0).symm.trans ((guM_g (I := (fun _ _ => 0)) (sg := ms) (i := a3) hM hln9 hsz9 hj_6 gs_m hj_10 q_14 hj_14).2.trans (hr_1 e_18.symm f_20_1_0).2).symm)
  | exact tri_r (guM_g (I := (itM fi_)) (sg := 0) (i := a3) hM hln9 hsz9 hj_6 gs_m hj_10 q_14 hj_14).1 (hr_2 (sg := 0) e_18.symm f_20_2_0 f_20_2_1).1 (by decide)
  | exact hF_20_0.trans ((lk_2 f_20_2_0 f_20_2_1).symm.trans ((guM_g (I := (fun _ _ => 0)) (sg := ms) (i := a3) hM hln9 hsz9 hj_6 gs_m hj_10 q_14 hj_14).2.trans (hr_2 e_18.symm f_20_2_0 f_20_2_1).2).symm)
  | exact tri_r (guM_g (I := (itM fi_)) (sg := 0) (i := a3) hM hln9 hsz9 hj_30 (gs_n (r := m38 fs) hM.1 hM.2.2.2.1 hj_3) hj_34 q_38 hj_38).1 (hr_0 (sg := 0) (by rw [← e_42]; exact c_43)).1 (by decide)
  | exact ((guM_g (I := (fun _ _ => 0)) (sg := ms) (i := a3) hM hln9 hsz9 hj_30 (gs_n (r := m38 fs) hM.1 hM.2.2.2.1 hj_3) hj_34 q_38 hj_38).2.trans (hr_0 (by rw [← e_42]; exact c_43)).2).symm
  | exact tri_r (guM_g (I := (itM fi_)) (sg := 0) (i := a3) hM hln9 hsz9 hj_30 (gs_n (r := m38 fs) hM.1 hM.2.2.2.1 hj_3) hj_34 q_38 hj_38).1 (hr_1 (sg := 0) e_42.symm f_44_1_0).1 (by decide)
  | exact hF_44_0.trans ((lk_1 f_44_1_0).symm.trans ((guM_g (I := (fun _ _ => 0)) (sg := ms) (i := a3) hM hln9 hsz9 hj_30 (gs_n (r := m38 fs) hM.1 hM.2.2.2.1 hj_3) hj_34 q_38 hj_38).2.trans (hr_1 e_42.symm f_44_1_0).2).symm)
  | exact tri_r (guM_g (I := (itM fi_)) (sg := 0) (i := a3) hM hln9 hsz9 hj_30 (gs_n (r := m38 fs) hM.1 hM.2.2.2.1 hj_3) hj_34 q_38 hj_38).1 (hr_2 (sg := 0) e_42.symm f_44_2_0 f_44_2_1).1 (by decide)
  | exact hF_44_0.trans ((lk_2 f_44_2_0 f_44_2_1).symm.trans ((guM_g (I := (fun _ _ => 0)) (sg := ms) (i := a3) hM hln9 hsz9 hj_30 (gs_n (r := m38 fs) hM.1 hM.2.2.2.1 hj_3) hj_34 q_38 hj_38).2.trans (hr_2 e_42.symm f_44_2_0 f_44_2_1).2).symm)
  | exact hF_26_2.trans ((guM_g (I := (fun _ _ => 0)) (sg := ms) (i := (nI pa_21)) hM hln9 hsz9 hj_6 gs_m hj_10 q_14 hj_14).2.trans (hr_3 (sg := ms) e_18.symm f_20_0_0 f_20_0_1).2).symm
  | exact h_26.trans ((clM_fit hj_10 (by omega)).trans (tri_0 (guM_g (I := (itM fi_)) (sg := 0) (i := (nI pa_21)) hM hln9 hsz9 hj_6 gs_m hj_10 q_14 hj_14).1 (hr_3 (sg := 0) e_18.symm f_20_0_0 f_20_0_1).1 rfl))
  | exact hF_51_2.trans ((guM_g (I := (fun _ _ => 0)) (sg := ms) (i := (nI pa_45)) hM hln9 hsz9 hj_30 (gs_n (r := m38 fs) hM.1 hM.2.2.2.1 hj_3) hj_34 q_38 hj_38).2.trans (hr_3 (sg := ms) e_42.symm f_44_0_0 f_44_0_1).2).symm
  | exact h_51.trans ((clM_fit hj_34 (by omega)).trans ((cl_w (by omega)).trans (tri_1 (guM_g (I := (itM fi_)) (sg := 0) (i := (nI pa_45)) hM hln9 hsz9 hj_30 (gs_n (r := m38 fs) hM.1 hM.2.2.2.1 hj_3) hj_34 q_38 hj_38).1 (hr_3 (sg := 0) e_42.symm f_44_0_0 f_44_0_1).1 (gs_ne (by omega)))))
theorem lf_X8_gusts_9 {ms : Int32} {mt : Int32} {ma : Nat} {fs : Nat → Int32} {w9 : Nat} {k9 : Nat} {h9 : Nat} {fi_ : Nat → Int32} {fz : Nat → Int32} {fn_ : Nat → Int32} {v_2 : Int32} {j_6 : Nat} {j_10 : Nat} {j_14 : Nat} {msn_20 : Int32} {pa_21 : Nat} {pb_21 : Nat} {fsn_26 : Nat → Int32} {msn_26 : Int32} {r_26 : Int32} (hM : okM fs w9 k9 h9) (hT : ¬ mt = 0 → 1 ≤ k9) (h999 : h9 ≤ 999) (hT0 : mt = 0 → fs 0 = 0 ∧ ma = 0) (hsz9 : ∀ j : Nat, j < 8 → fz j = -1 ∨ ∃ q : Nat, q ≤ 40 ∧ fz j = nI q) (hln9 : ∀ j : Nat, j < 8 → ¬ fz j = -1 → ¬ fn_ j = -1) (e_2 : v_2 = ((nI w9) - 1)) (f_3_1_0 : (¬ ((((-1) : Int32)).toInt64 < (-1) ∨ (v_2).toInt64 < (((-1) : Int32)).toInt64))) (q_3 : ¬ (((-1) : Int32) < (-1) ∨ v_2 < ((-1) : Int32))) (hj_6 : j_6 < k9) (hkn1 : 1 ≤ k9) (hw1 : 1 ≤ w9) (h01 : ¬ fs 0 = 0) (hj_10 : j_10 < 8) (f_14_1_0 : (¬ (((nI j_14)).toInt64 < 1 ∨ 12 < ((nI j_14)).toInt64))) (q_14 : ¬ ((nI j_14) < 1 ∨ 12 < (nI j_14))) (hj_14 : j_14 ≤ 12) (e_18 : (0 : Int32) = fs (26 + j_6)) (hF_20_0 : msn_20 = lkS (fz j_10) (nI pa_21) (nI j_14) ms) (f_20_0_0 : ¬ fz j_10 = -1) (f_20_0_1 : plc (fz j_10) (nI pa_21) (nI j_14)) (hab_21 : pa_21 + pb_21 ≤ 40) (eb_21 : j_14 = pb_21) (hF_26_0 : okM fsn_26 w9 k9 h9) (hF_26_1 : m38 fsn_26 = m38 fs) (hF_26_2 : (msn_26 : Int32) = 0) (h_26 : r_26 = (fitU (m38 fs) 2 j_6 (fun uq => fi_ (((40 * j_10) + pa_21) + uq)) j_14 0 (4 + 1))) : msn_26 = f_gus (m38 fs) (mbl fn_ fz) (mbn fz) ((-1) : Int32) (nI j_6) (nI j_10) (nI pa_21) (nI j_14) ms := by
  have hw6 := hM.2.2.2.1
  first
  | exact (gus_b (r := m38 fs) (I := (itM fi_)) (Rl := mbl fn_ fz) (Rn := mbn fz) (i := a3) (sg := 0) (Or.inl (gsM_b hM e_2 q_3))).1
  | exact (gus_b (r := m38 fs) (I := (fun _ _ => 0)) (Rl := mbl fn_ fz) (Rn := mbn fz) (i := a3) (sg := ms) (Or.inl (gsM_b hM e_2 q_3))).2
  | exact (gus_b (r := m38 fs) (I := (itM fi_)) (Rl := mbl fn_ fz) (Rn := mbn fz) (i := a3) (sg := 0) (Or.inr (Or.inl (whM_b1 hM.2.1 f_6_0_0)))).1
  | exact (gus_b (r := m38 fs) (I := (fun _ _ => 0)) (Rl := mbl fn_ fz) (Rn := mbn fz) (i := a3) (sg := ms) (Or.inr (Or.inl (whM_b1 hM.2.1 f_6_0_0)))).2
  | exact (gus_b (r := m38 fs) (I := (itM fi_)) (Rl := mbl fn_ fz) (Rn := mbn fz) (i := a3) (sg := 0) (Or.inr (Or.inr (Or.inl f_10_0_0)))).1
  | exact (gus_b (r := m38 fs) (I := (fun _ _ => 0)) (Rl := mbl fn_ fz) (Rn := mbn fz) (i := a3) (sg := ms) (Or.inr (Or.inr (Or.inl f_10_0_0)))).2
  | exact (gus_b (r := m38 fs) (I := (itM fi_)) (Rl := mbl fn_ fz) (Rn := mbn fz) (i := a3) (sg := 0) (Or.inr (Or.inr (Or.inr q_14)))).1
  | exact (gus_b (r := m38 fs) (I := (fun _ _ => 0)) (Rl := mbl fn_ fz) (Rn := mbn fz) (i := a3) (sg := ms) (Or.inr (Or.inr (Or.inr q_14)))).2
  | exact (gus_b (r := m38 fs) (I := (itM fi_)) (Rl := mbl fn_ fz) (Rn := mbn fz) (i := a3) (sg := 0) (Or.inr (Or.inl (whM_b1 hM.2.1 f_30_0_0)))).1
  | exact (gus_b (r := m38 fs) (I := (fun _ _ => 0)) (Rl := mbl fn_ fz) (Rn := mbn fz) (i := a3) (sg := ms) (Or.inr (Or.inl (whM_b1 hM.2.1 f_30_0_0)))).2
  | exact (gus_b (r := m38 fs) (I := (itM fi_)) (Rl := mbl fn_ fz) (Rn := mbn fz) (i := a3) (sg := 0) (Or.inr (Or.inr (Or.inl f_34_0_0)))).1
  | exact (gus_b (r := m38 fs) (I := (fun _ _ => 0)) (Rl := mbl fn_ fz) (Rn := mbn fz) (i := a3) (sg := ms) (Or.inr (Or.inr (Or.inl f_34_0_0)))).2
  | exact (gus_b (r := m38 fs) (I := (itM fi_)) (Rl := mbl fn_ fz) (Rn := mbn fz) (i := a3) (sg := 0) (Or.inr (Or.inr (Or.inr q_38)))).1
  | exact (gus_b (r := m38 fs) (I := (fun _ _ => 0)) (Rl := mbl fn_ fz) (Rn := mbn fz) (i := a3) (sg := ms) (Or.inr (Or.inr (Or.inr q_38)))).2
  | exact tri_r (guM_g (I := (itM fi_)) (sg := 0) (i := a3) hM hln9 hsz9 hj_6 gs_m hj_10 q_14 hj_14).1 (hr_0 (sg := 0) (by rw [← e_18]; exact c_19)).1 (by decide)
  | exact ((guM_g (I := (fun _ _ => 0)) (sg := ms) (i := a3) hM hln9 hsz9 hj_6 gs_m hj_10 q_14 hj_14).2.trans (hr_0 (by rw [← e_18]; exact c_19)).2).symm
  | exact tri_r (guM_g (I := (itM fi_)) (sg := 0) (i := a3) hM hln9 hsz9 hj_6 gs_m hj_10 q_14 hj_14).1 (hr_1 (sg := 0) e_18.symm f_20_1_0).1 (by decide)
  | exact hF_20_0.trans ((lk_1 f_20_1_0).symm.trans ((guM_g (I := (fun _ _ => 0)) (sg := ms) (i := a3) hM hln9 hsz9 hj_6 gs_m hj_10 q_14 hj_14).2.trans (hr_1 e_18.symm f_20_1_0).2).symm)
  | exact tri_r (guM_g (I := (itM fi_)) (sg := 0) (i := a3) hM hln9 hsz9 hj_6 gs_m hj_10 q_14 hj_14).1 (hr_2 (sg := 0) e_18.symm f_20_2_0 f_20_2_1).1 (by decide)
  | exact hF_20_0.trans ((lk_2 f_20_2_0 f_20_2_1).symm.trans ((guM_g (I := (fun _ _ => 0)) (sg := ms) (i := a3) hM hln9 hsz9 hj_6 gs_m hj_10 q_14 hj_14).2.trans (hr_2 e_18.symm f_20_2_0 f_20_2_1).2).symm)
  | exact tri_r (guM_g (I := (itM fi_)) (sg := 0) (i := a3) hM hln9 hsz9 hj_30 (gs_n (r := m38 fs) hM.1 hM.2.2.2.1 hj_3) hj_34 q_38 hj_38).1 (hr_0 (sg := 0) (by rw [← e_42]; exact c_43)).1 (by decide)
  | exact ((guM_g (I := (fun _ _ => 0)) (sg := ms) (i := a3) hM hln9 hsz9 hj_30 (gs_n (r := m38 fs) hM.1 hM.2.2.2.1 hj_3) hj_34 q_38 hj_38).2.trans (hr_0 (by rw [← e_42]; exact c_43)).2).symm
  | exact tri_r (guM_g (I := (itM fi_)) (sg := 0) (i := a3) hM hln9 hsz9 hj_30 (gs_n (r := m38 fs) hM.1 hM.2.2.2.1 hj_3) hj_34 q_38 hj_38).1 (hr_1 (sg := 0) e_42.symm f_44_1_0).1 (by decide)
  | exact hF_44_0.trans ((lk_1 f_44_1_0).symm.trans ((guM_g (I := (fun _ _ => 0)) (sg := ms) (i := a3) hM hln9 hsz9 hj_30 (gs_n (r := m38 fs) hM.1 hM.2.2.2.1 hj_3) hj_34 q_38 hj_38).2.trans (hr_1 e_42.symm f_44_1_0).2).symm)
  | exact tri_r (guM_g (I := (itM fi_)) (sg := 0) (i := a3) hM hln9 hsz9 hj_30 (gs_n (r := m38 fs) hM.1 hM.2.2.2.1 hj_3) hj_34 q_38 hj_38).1 (hr_2 (sg := 0) e_42.symm f_44_2_0 f_44_2_1).1 (by decide)
  | exact hF_44_0.trans ((lk_2 f_44_2_0 f_44_2_1).symm.trans ((guM_g (I := (fun _ _ => 0)) (sg := ms) (i := a3) hM hln9 hsz9 hj_30 (gs_n (r := m38 fs) hM.1 hM.2.2.2.1 hj_3) hj_34 q_38 hj_38).2.trans (hr_2 e_42.symm f_44_2_0 f_44_2_1).2).symm)
  | exact hF_26_2.trans ((guM_g (I := (fun _ _ => 0)) (sg := ms) (i := (nI pa_21)) hM hln9 hsz9 hj_6 gs_m hj_10 q_14 hj_14).2.trans (hr_3 (sg := ms) e_18.symm f_20_0_0 f_20_0_1).2).symm
  | exact h_26.trans ((clM_fit hj_10 (by omega)).trans (tri_0 (guM_g (I := (itM fi_)) (sg := 0) (i := (nI pa_21)) hM hln9 hsz9 hj_6 gs_m hj_10 q_14 hj_14).1 (hr_3 (sg := 0) e_18.symm f_20_0_0 f_20_0_1).1 rfl))
  | exact hF_51_2.trans ((guM_g (I := (fun _ _ => 0)) (sg := ms) (i := (nI pa_45)) hM hln9 hsz9 hj_30 (gs_n (r := m38 fs) hM.1 hM.2.2.2.1 hj_3) hj_34 q_38 hj_38).2.trans (hr_3 (sg := ms) e_42.symm f_44_0_0 f_44_0_1).2).symm
  | exact h_51.trans ((clM_fit hj_34 (by omega)).trans ((cl_w (by omega)).trans (tri_1 (guM_g (I := (itM fi_)) (sg := 0) (i := (nI pa_45)) hM hln9 hsz9 hj_30 (gs_n (r := m38 fs) hM.1 hM.2.2.2.1 hj_3) hj_34 q_38 hj_38).1 (hr_3 (sg := 0) e_42.symm f_44_0_0 f_44_0_1).1 (gs_ne (by omega)))))
theorem lf_X8_gusts_10 {ms : Int32} {mt : Int32} {ma : Nat} {fs : Nat → Int32} {w9 : Nat} {k9 : Nat} {h9 : Nat} {fi_ : Nat → Int32} {fz : Nat → Int32} {fn_ : Nat → Int32} {v_2 : Int32} {j_6 : Nat} {j_10 : Nat} {j_14 : Nat} {msn_20 : Int32} {pa_21 : Nat} {pb_21 : Nat} {fsn_26 : Nat → Int32} {msn_26 : Int32} {r_26 : Int32} (hM : okM fs w9 k9 h9) (hT : ¬ mt = 0 → 1 ≤ k9) (h999 : h9 ≤ 999) (hT0 : mt = 0 → fs 0 = 0 ∧ ma = 0) (hsz9 : ∀ j : Nat, j < 8 → fz j = -1 ∨ ∃ q : Nat, q ≤ 40 ∧ fz j = nI q) (hln9 : ∀ j : Nat, j < 8 → ¬ fz j = -1 → ¬ fn_ j = -1) (e_2 : v_2 = ((nI w9) - 1)) (f_3_1_0 : (¬ ((((-1) : Int32)).toInt64 < (-1) ∨ (v_2).toInt64 < (((-1) : Int32)).toInt64))) (q_3 : ¬ (((-1) : Int32) < (-1) ∨ v_2 < ((-1) : Int32))) (hj_6 : j_6 < k9) (hkn1 : 1 ≤ k9) (hw1 : 1 ≤ w9) (h01 : ¬ fs 0 = 0) (hj_10 : j_10 < 8) (f_14_1_0 : (¬ (((nI j_14)).toInt64 < 1 ∨ 12 < ((nI j_14)).toInt64))) (q_14 : ¬ ((nI j_14) < 1 ∨ 12 < (nI j_14))) (hj_14 : j_14 ≤ 12) (e_18 : (0 : Int32) = fs (26 + j_6)) (hF_20_0 : msn_20 = lkS (fz j_10) (nI pa_21) (nI j_14) ms) (f_20_0_0 : ¬ fz j_10 = -1) (f_20_0_1 : plc (fz j_10) (nI pa_21) (nI j_14)) (hab_21 : pa_21 + pb_21 ≤ 40) (eb_21 : j_14 = pb_21) (hF_26_0 : okM fsn_26 w9 k9 h9) (hF_26_1 : m38 fsn_26 = m38 fs) (hF_26_2 : (msn_26 : Int32) = 0) (h_26 : r_26 = (fitU (m38 fs) 2 j_6 (fun uq => fi_ (((40 * j_10) + pa_21) + uq)) j_14 0 (4 + 1))) : r_26 = (a_gus (m38 fs) (mbl fn_ fz) (mbn fz) (itM fi_) ((-1) : Int32) (nI j_6) (nI j_10) (nI pa_21) (nI j_14)) := by
  have hw6 := hM.2.2.2.1
  first
  | exact (gus_b (r := m38 fs) (I := (itM fi_)) (Rl := mbl fn_ fz) (Rn := mbn fz) (i := a3) (sg := 0) (Or.inl (gsM_b hM e_2 q_3))).1
  | exact (gus_b (r := m38 fs) (I := (fun _ _ => 0)) (Rl := mbl fn_ fz) (Rn := mbn fz) (i := a3) (sg := ms) (Or.inl (gsM_b hM e_2 q_3))).2
  | exact (gus_b (r := m38 fs) (I := (itM fi_)) (Rl := mbl fn_ fz) (Rn := mbn fz) (i := a3) (sg := 0) (Or.inr (Or.inl (whM_b1 hM.2.1 f_6_0_0)))).1
  | exact (gus_b (r := m38 fs) (I := (fun _ _ => 0)) (Rl := mbl fn_ fz) (Rn := mbn fz) (i := a3) (sg := ms) (Or.inr (Or.inl (whM_b1 hM.2.1 f_6_0_0)))).2
  | exact (gus_b (r := m38 fs) (I := (itM fi_)) (Rl := mbl fn_ fz) (Rn := mbn fz) (i := a3) (sg := 0) (Or.inr (Or.inr (Or.inl f_10_0_0)))).1
  | exact (gus_b (r := m38 fs) (I := (fun _ _ => 0)) (Rl := mbl fn_ fz) (Rn := mbn fz) (i := a3) (sg := ms) (Or.inr (Or.inr (Or.inl f_10_0_0)))).2
  | exact (gus_b (r := m38 fs) (I := (itM fi_)) (Rl := mbl fn_ fz) (Rn := mbn fz) (i := a3) (sg := 0) (Or.inr (Or.inr (Or.inr q_14)))).1
  | exact (gus_b (r := m38 fs) (I := (fun _ _ => 0)) (Rl := mbl fn_ fz) (Rn := mbn fz) (i := a3) (sg := ms) (Or.inr (Or.inr (Or.inr q_14)))).2
  | exact (gus_b (r := m38 fs) (I := (itM fi_)) (Rl := mbl fn_ fz) (Rn := mbn fz) (i := a3) (sg := 0) (Or.inr (Or.inl (whM_b1 hM.2.1 f_30_0_0)))).1
  | exact (gus_b (r := m38 fs) (I := (fun _ _ => 0)) (Rl := mbl fn_ fz) (Rn := mbn fz) (i := a3) (sg := ms) (Or.inr (Or.inl (whM_b1 hM.2.1 f_30_0_0)))).2
  | exact (gus_b (r := m38 fs) (I := (itM fi_)) (Rl := mbl fn_ fz) (Rn := mbn fz) (i := a3) (sg := 0) (Or.inr (Or.inr (Or.inl f_34_0_0)))).1
  | exact (gus_b (r := m38 fs) (I := (fun _ _ => 0)) (Rl := mbl fn_ fz) (Rn := mbn fz) (i := a3) (sg := ms) (Or.inr (Or.inr (Or.inl f_34_0_0)))).2
  | exact (gus_b (r := m38 fs) (I := (itM fi_)) (Rl := mbl fn_ fz) (Rn := mbn fz) (i := a3) (sg := 0) (Or.inr (Or.inr (Or.inr q_38)))).1
  | exact (gus_b (r := m38 fs) (I := (fun _ _ => 0)) (Rl := mbl fn_ fz) (Rn := mbn fz) (i := a3) (sg := ms) (Or.inr (Or.inr (Or.inr q_38)))).2
  | exact tri_r (guM_g (I := (itM fi_)) (sg := 0) (i := a3) hM hln9 hsz9 hj_6 gs_m hj_10 q_14 hj_14).1 (hr_0 (sg := 0) (by rw [← e_18]; exact c_19)).1 (by decide)
  | exact ((guM_g (I := (fun _ _ => 0)) (sg := ms) (i := a3) hM hln9 hsz9 hj_6 gs_m hj_10 q_14 hj_14).2.trans (hr_0 (by rw [← e_18]; exact c_19)).2).symm
  | exact tri_r (guM_g (I := (itM fi_)) (sg := 0) (i := a3) hM hln9 hsz9 hj_6 gs_m hj_10 q_14 hj_14).1 (hr_1 (sg := 0) e_18.symm f_20_1_0).1 (by decide)
  | exact hF_20_0.trans ((lk_1 f_20_1_0).symm.trans ((guM_g (I := (fun _ _ => 0)) (sg := ms) (i := a3) hM hln9 hsz9 hj_6 gs_m hj_10 q_14 hj_14).2.trans (hr_1 e_18.symm f_20_1_0).2).symm)
  | exact tri_r (guM_g (I := (itM fi_)) (sg := 0) (i := a3) hM hln9 hsz9 hj_6 gs_m hj_10 q_14 hj_14).1 (hr_2 (sg := 0) e_18.symm f_20_2_0 f_20_2_1).1 (by decide)
  | exact hF_20_0.trans ((lk_2 f_20_2_0 f_20_2_1).symm.trans ((guM_g (I := (fun _ _ => 0)) (sg := ms) (i := a3) hM hln9 hsz9 hj_6 gs_m hj_10 q_14 hj_14).2.trans (hr_2 e_18.symm f_20_2_0 f_20_2_1).2).symm)
  | exact tri_r (guM_g (I := (itM fi_)) (sg := 0) (i := a3) hM hln9 hsz9 hj_30 (gs_n (r := m38 fs) hM.1 hM.2.2.2.1 hj_3) hj_34 q_38 hj_38).1 (hr_0 (sg := 0) (by rw [← e_42]; exact c_43)).1 (by decide)
  | exact ((guM_g (I := (fun _ _ => 0)) (sg := ms) (i := a3) hM hln9 hsz9 hj_30 (gs_n (r := m38 fs) hM.1 hM.2.2.2.1 hj_3) hj_34 q_38 hj_38).2.trans (hr_0 (by rw [← e_42]; exact c_43)).2).symm
  | exact tri_r (guM_g (I := (itM fi_)) (sg := 0) (i := a3) hM hln9 hsz9 hj_30 (gs_n (r := m38 fs) hM.1 hM.2.2.2.1 hj_3) hj_34 q_38 hj_38).1 (hr_1 (sg := 0) e_42.symm f_44_1_0).1 (by decide)
  | exact hF_44_0.trans ((lk_1 f_44_1_0).symm.trans ((guM_g (I := (fun _ _ => 0)) (sg := ms) (i := a3) hM hln9 hsz9 hj_30 (gs_n (r := m38 fs) hM.1 hM.2.2.2.1 hj_3) hj_34 q_38 hj_38).2.trans (hr_1 e_42.symm f_44_1_0).2).symm)
  | exact tri_r (guM_g (I := (itM fi_)) (sg := 0) (i := a3) hM hln9 hsz9 hj_30 (gs_n (r := m38 fs) hM.1 hM.2.2.2.1 hj_3) hj_34 q_38 hj_38).1 (hr_2 (sg := 0) e_42.symm f_44_2_0 f_44_2_1).1 (by decide)
  | exact hF_44_0.trans ((lk_2 f_44_2_0 f_44_2_1).symm.trans ((guM_g (I := (fun _ _ => 0)) (sg := ms) (i := a3) hM hln9 hsz9 hj_30 (gs_n (r := m38 fs) hM.1 hM.2.2.2.1 hj_3) hj_34 q_38 hj_38).2.trans (hr_2 e_42.symm f_44_2_0 f_44_2_1).2).symm)
  | exact hF_26_2.trans ((guM_g (I := (fun _ _ => 0)) (sg := ms) (i := (nI pa_21)) hM hln9 hsz9 hj_6 gs_m hj_10 q_14 hj_14).2.trans (hr_3 (sg := ms) e_18.symm f_20_0_0 f_20_0_1).2).symm
  | exact h_26.trans ((clM_fit hj_10 (by omega)).trans (tri_0 (guM_g (I := (itM fi_)) (sg := 0) (i := (nI pa_21)) hM hln9 hsz9 hj_6 gs_m hj_10 q_14 hj_14).1 (hr_3 (sg := 0) e_18.symm f_20_0_0 f_20_0_1).1 rfl))
  | exact hF_51_2.trans ((guM_g (I := (fun _ _ => 0)) (sg := ms) (i := (nI pa_45)) hM hln9 hsz9 hj_30 (gs_n (r := m38 fs) hM.1 hM.2.2.2.1 hj_3) hj_34 q_38 hj_38).2.trans (hr_3 (sg := ms) e_42.symm f_44_0_0 f_44_0_1).2).symm
  | exact h_51.trans ((clM_fit hj_34 (by omega)).trans ((cl_w (by omega)).trans (tri_1 (guM_g (I := (itM fi_)) (sg := 0) (i := (nI pa_45)) hM hln9 hsz9 hj_30 (gs_n (r := m38 fs) hM.1 hM.2.2.2.1 hj_3) hj_34 q_38 hj_38).1 (hr_3 (sg := 0) e_42.symm f_44_0_0 f_44_0_1).1 (gs_ne (by omega)))))
theorem lf_X8_gusts_11 {ms : Int32} {mt : Int32} {ma : Nat} {fs : Nat → Int32} {w9 : Nat} {k9 : Nat} {h9 : Nat} {fz : Nat → Int32} {fn_ : Nat → Int32} {a3 : Int32} {v_2 : Int32} {j_6 : Nat} {j_10 : Nat} {j_14 : Nat} {msn_20 : Int32} (hM : okM fs w9 k9 h9) (hT : ¬ mt = 0 → 1 ≤ k9) (h999 : h9 ≤ 999) (hT0 : mt = 0 → fs 0 = 0 ∧ ma = 0) (hsz9 : ∀ j : Nat, j < 8 → fz j = -1 ∨ ∃ q : Nat, q ≤ 40 ∧ fz j = nI q) (hln9 : ∀ j : Nat, j < 8 → ¬ fz j = -1 → ¬ fn_ j = -1) (e_2 : v_2 = ((nI w9) - 1)) (f_3_1_0 : (¬ ((((-1) : Int32)).toInt64 < (-1) ∨ (v_2).toInt64 < (((-1) : Int32)).toInt64))) (q_3 : ¬ (((-1) : Int32) < (-1) ∨ v_2 < ((-1) : Int32))) (hj_6 : j_6 < k9) (hkn1 : 1 ≤ k9) (hw1 : 1 ≤ w9) (h01 : ¬ fs 0 = 0) (hj_10 : j_10 < 8) (f_14_1_0 : (¬ (((nI j_14)).toInt64 < 1 ∨ 12 < ((nI j_14)).toInt64))) (q_14 : ¬ ((nI j_14) < 1 ∨ 12 < (nI j_14))) (hj_14 : j_14 ≤ 12) (e_18 : (0 : Int32) = fs (26 + j_6)) (hF_20_0 : msn_20 = lkS (fz j_10) a3 (nI j_14) ms) (f_20_1_0 : fz j_10 = -1) : msn_20 = f_gus (m38 fs) (mbl fn_ fz) (mbn fz) ((-1) : Int32) (nI j_6) (nI j_10) a3 (nI j_14) ms := by
  have hw6 := hM.2.2.2.1
  first
  | exact (gus_b (r := m38 fs) (I := (itM fi_)) (Rl := mbl fn_ fz) (Rn := mbn fz) (i := a3) (sg := 0) (Or.inl (gsM_b hM e_2 q_3))).1
  | exact (gus_b (r := m38 fs) (I := (fun _ _ => 0)) (Rl := mbl fn_ fz) (Rn := mbn fz) (i := a3) (sg := ms) (Or.inl (gsM_b hM e_2 q_3))).2
  | exact (gus_b (r := m38 fs) (I := (itM fi_)) (Rl := mbl fn_ fz) (Rn := mbn fz) (i := a3) (sg := 0) (Or.inr (Or.inl (whM_b1 hM.2.1 f_6_0_0)))).1
  | exact (gus_b (r := m38 fs) (I := (fun _ _ => 0)) (Rl := mbl fn_ fz) (Rn := mbn fz) (i := a3) (sg := ms) (Or.inr (Or.inl (whM_b1 hM.2.1 f_6_0_0)))).2
  | exact (gus_b (r := m38 fs) (I := (itM fi_)) (Rl := mbl fn_ fz) (Rn := mbn fz) (i := a3) (sg := 0) (Or.inr (Or.inr (Or.inl f_10_0_0)))).1
  | exact (gus_b (r := m38 fs) (I := (fun _ _ => 0)) (Rl := mbl fn_ fz) (Rn := mbn fz) (i := a3) (sg := ms) (Or.inr (Or.inr (Or.inl f_10_0_0)))).2
  | exact (gus_b (r := m38 fs) (I := (itM fi_)) (Rl := mbl fn_ fz) (Rn := mbn fz) (i := a3) (sg := 0) (Or.inr (Or.inr (Or.inr q_14)))).1
  | exact (gus_b (r := m38 fs) (I := (fun _ _ => 0)) (Rl := mbl fn_ fz) (Rn := mbn fz) (i := a3) (sg := ms) (Or.inr (Or.inr (Or.inr q_14)))).2
  | exact (gus_b (r := m38 fs) (I := (itM fi_)) (Rl := mbl fn_ fz) (Rn := mbn fz) (i := a3) (sg := 0) (Or.inr (Or.inl (whM_b1 hM.2.1 f_30_0_0)))).1
  | exact (gus_b (r := m38 fs) (I := (fun _ _ => 0)) (Rl := mbl fn_ fz) (Rn := mbn fz) (i := a3) (sg := ms) (Or.inr (Or.inl (whM_b1 hM.2.1 f_30_0_0)))).2
  | exact (gus_b (r := m38 fs) (I := (itM fi_)) (Rl := mbl fn_ fz) (Rn := mbn fz) (i := a3) (sg := 0) (Or.inr (Or.inr (Or.inl f_34_0_0)))).1
  | exact (gus_b (r := m38 fs) (I := (fun _ _ => 0)) (Rl := mbl fn_ fz) (Rn := mbn fz) (i := a3) (sg := ms) (Or.inr (Or.inr (Or.inl f_34_0_0)))).2
  | exact (gus_b (r := m38 fs) (I := (itM fi_)) (Rl := mbl fn_ fz) (Rn := mbn fz) (i := a3) (sg := 0) (Or.inr (Or.inr (Or.inr q_38)))).1
  | exact (gus_b (r := m38 fs) (I := (fun _ _ => 0)) (Rl := mbl fn_ fz) (Rn := mbn fz) (i := a3) (sg := ms) (Or.inr (Or.inr (Or.inr q_38)))).2
  | exact tri_r (guM_g (I := (itM fi_)) (sg := 0) (i := a3) hM hln9 hsz9 hj_6 gs_m hj_10 q_14 hj_14).1 (hr_0 (sg := 0) (by rw [← e_18]; exact c_19)).1 (by decide)
  | exact ((guM_g (I := (fun _ _ => 0)) (sg := ms) (i := a3) hM hln9 hsz9 hj_6 gs_m hj_10 q_14 hj_14).2.trans (hr_0 (by rw [← e_18]; exact c_19)).2).symm
  | exact tri_r (guM_g (I := (itM fi_)) (sg := 0) (i := a3) hM hln9 hsz9 hj_6 gs_m hj_10 q_14 hj_14).1 (hr_1 (sg := 0) e_18.symm f_20_1_0).1 (by decide)
  | exact hF_20_0.trans ((lk_1 f_20_1_0).symm.trans ((guM_g (I := (fun _ _ => 0)) (sg := ms) (i := a3) hM hln9 hsz9 hj_6 gs_m hj_10 q_14 hj_14).2.trans (hr_1 e_18.symm f_20_1_0).2).symm)
  | exact tri_r (guM_g (I := (itM fi_)) (sg := 0) (i := a3) hM hln9 hsz9 hj_6 gs_m hj_10 q_14 hj_14).1 (hr_2 (sg := 0) e_18.symm f_20_2_0 f_20_2_1).1 (by decide)
  | exact hF_20_0.trans ((lk_2 f_20_2_0 f_20_2_1).symm.trans ((guM_g (I := (fun _ _ => 0)) (sg := ms) (i := a3) hM hln9 hsz9 hj_6 gs_m hj_10 q_14 hj_14).2.trans (hr_2 e_18.symm f_20_2_0 f_20_2_1).2).symm)
  | exact tri_r (guM_g (I := (itM fi_)) (sg := 0) (i := a3) hM hln9 hsz9 hj_30 (gs_n (r := m38 fs) hM.1 hM.2.2.2.1 hj_3) hj_34 q_38 hj_38).1 (hr_0 (sg := 0) (by rw [← e_42]; exact c_43)).1 (by decide)
  | exact ((guM_g (I := (fun _ _ => 0)) (sg := ms) (i := a3) hM hln9 hsz9 hj_30 (gs_n (r := m38 fs) hM.1 hM.2.2.2.1 hj_3) hj_34 q_38 hj_38).2.trans (hr_0 (by rw [← e_42]; exact c_43)).2).symm
  | exact tri_r (guM_g (I := (itM fi_)) (sg := 0) (i := a3) hM hln9 hsz9 hj_30 (gs_n (r := m38 fs) hM.1 hM.2.2.2.1 hj_3) hj_34 q_38 hj_38).1 (hr_1 (sg := 0) e_42.symm f_44_1_0).1 (by decide)
  | exact hF_44_0.trans ((lk_1 f_44_1_0).symm.trans ((guM_g (I := (fun _ _ => 0)) (sg := ms) (i := a3) hM hln9 hsz9 hj_30 (gs_n (r := m38 fs) hM.1 hM.2.2.2.1 hj_3) hj_34 q_38 hj_38).2.trans (hr_1 e_42.symm f_44_1_0).2).symm)
  | exact tri_r (guM_g (I := (itM fi_)) (sg := 0) (i := a3) hM hln9 hsz9 hj_30 (gs_n (r := m38 fs) hM.1 hM.2.2.2.1 hj_3) hj_34 q_38 hj_38).1 (hr_2 (sg := 0) e_42.symm f_44_2_0 f_44_2_1).1 (by decide)
  | exact hF_44_0.trans ((lk_2 f_44_2_0 f_44_2_1).symm.trans ((guM_g (I := (fun _ _ => 0)) (sg := ms) (i := a3) hM hln9 hsz9 hj_30 (gs_n (r := m38 fs) hM.1 hM.2.2.2.1 hj_3) hj_34 q_38 hj_38).2.trans (hr_2 e_42.symm f_44_2_0 f_44_2_1).2).symm)
  | exact hF_26_2.trans ((guM_g (I := (fun _ _ => 0)) (sg := ms) (i := (nI pa_21)) hM hln9 hsz9 hj_6 gs_m hj_10 q_14 hj_14).2.trans (hr_3 (sg := ms) e_18.symm f_20_0_0 f_20_0_1).2).symm
  | exact h_26.trans ((clM_fit hj_10 (by omega)).trans (tri_0 (guM_g (I := (itM fi_)) (sg := 0) (i := (nI pa_21)) hM hln9 hsz9 hj_6 gs_m hj_10 q_14 hj_14).1 (hr_3 (sg := 0) e_18.symm f_20_0_0 f_20_0_1).1 rfl))
  | exact hF_51_2.trans ((guM_g (I := (fun _ _ => 0)) (sg := ms) (i := (nI pa_45)) hM hln9 hsz9 hj_30 (gs_n (r := m38 fs) hM.1 hM.2.2.2.1 hj_3) hj_34 q_38 hj_38).2.trans (hr_3 (sg := ms) e_42.symm f_44_0_0 f_44_0_1).2).symm
  | exact h_51.trans ((clM_fit hj_34 (by omega)).trans ((cl_w (by omega)).trans (tri_1 (guM_g (I := (itM fi_)) (sg := 0) (i := (nI pa_45)) hM hln9 hsz9 hj_30 (gs_n (r := m38 fs) hM.1 hM.2.2.2.1 hj_3) hj_34 q_38 hj_38).1 (hr_3 (sg := 0) e_42.symm f_44_0_0 f_44_0_1).1 (gs_ne (by omega)))))
theorem lf_X8_gusts_12 {ms : Int32} {mt : Int32} {ma : Nat} {fs : Nat → Int32} {w9 : Nat} {k9 : Nat} {h9 : Nat} {fi_ : Nat → Int32} {fz : Nat → Int32} {fn_ : Nat → Int32} {a3 : Int32} {v_2 : Int32} {j_6 : Nat} {j_10 : Nat} {j_14 : Nat} {msn_20 : Int32} (hM : okM fs w9 k9 h9) (hT : ¬ mt = 0 → 1 ≤ k9) (h999 : h9 ≤ 999) (hT0 : mt = 0 → fs 0 = 0 ∧ ma = 0) (hsz9 : ∀ j : Nat, j < 8 → fz j = -1 ∨ ∃ q : Nat, q ≤ 40 ∧ fz j = nI q) (hln9 : ∀ j : Nat, j < 8 → ¬ fz j = -1 → ¬ fn_ j = -1) (e_2 : v_2 = ((nI w9) - 1)) (f_3_1_0 : (¬ ((((-1) : Int32)).toInt64 < (-1) ∨ (v_2).toInt64 < (((-1) : Int32)).toInt64))) (q_3 : ¬ (((-1) : Int32) < (-1) ∨ v_2 < ((-1) : Int32))) (hj_6 : j_6 < k9) (hkn1 : 1 ≤ k9) (hw1 : 1 ≤ w9) (h01 : ¬ fs 0 = 0) (hj_10 : j_10 < 8) (f_14_1_0 : (¬ (((nI j_14)).toInt64 < 1 ∨ 12 < ((nI j_14)).toInt64))) (q_14 : ¬ ((nI j_14) < 1 ∨ 12 < (nI j_14))) (hj_14 : j_14 ≤ 12) (e_18 : (0 : Int32) = fs (26 + j_6)) (hF_20_0 : msn_20 = lkS (fz j_10) a3 (nI j_14) ms) (f_20_1_0 : fz j_10 = -1) : (-1000011) = (a_gus (m38 fs) (mbl fn_ fz) (mbn fz) (itM fi_) ((-1) : Int32) (nI j_6) (nI j_10) a3 (nI j_14)) := by
  have hw6 := hM.2.2.2.1
  first
  | exact (gus_b (r := m38 fs) (I := (itM fi_)) (Rl := mbl fn_ fz) (Rn := mbn fz) (i := a3) (sg := 0) (Or.inl (gsM_b hM e_2 q_3))).1
  | exact (gus_b (r := m38 fs) (I := (fun _ _ => 0)) (Rl := mbl fn_ fz) (Rn := mbn fz) (i := a3) (sg := ms) (Or.inl (gsM_b hM e_2 q_3))).2
  | exact (gus_b (r := m38 fs) (I := (itM fi_)) (Rl := mbl fn_ fz) (Rn := mbn fz) (i := a3) (sg := 0) (Or.inr (Or.inl (whM_b1 hM.2.1 f_6_0_0)))).1
  | exact (gus_b (r := m38 fs) (I := (fun _ _ => 0)) (Rl := mbl fn_ fz) (Rn := mbn fz) (i := a3) (sg := ms) (Or.inr (Or.inl (whM_b1 hM.2.1 f_6_0_0)))).2
  | exact (gus_b (r := m38 fs) (I := (itM fi_)) (Rl := mbl fn_ fz) (Rn := mbn fz) (i := a3) (sg := 0) (Or.inr (Or.inr (Or.inl f_10_0_0)))).1
  | exact (gus_b (r := m38 fs) (I := (fun _ _ => 0)) (Rl := mbl fn_ fz) (Rn := mbn fz) (i := a3) (sg := ms) (Or.inr (Or.inr (Or.inl f_10_0_0)))).2
  | exact (gus_b (r := m38 fs) (I := (itM fi_)) (Rl := mbl fn_ fz) (Rn := mbn fz) (i := a3) (sg := 0) (Or.inr (Or.inr (Or.inr q_14)))).1
  | exact (gus_b (r := m38 fs) (I := (fun _ _ => 0)) (Rl := mbl fn_ fz) (Rn := mbn fz) (i := a3) (sg := ms) (Or.inr (Or.inr (Or.inr q_14)))).2
  | exact (gus_b (r := m38 fs) (I := (itM fi_)) (Rl := mbl fn_ fz) (Rn := mbn fz) (i := a3) (sg := 0) (Or.inr (Or.inl (whM_b1 hM.2.1 f_30_0_0)))).1
  | exact (gus_b (r := m38 fs) (I := (fun _ _ => 0)) (Rl := mbl fn_ fz) (Rn := mbn fz) (i := a3) (sg := ms) (Or.inr (Or.inl (whM_b1 hM.2.1 f_30_0_0)))).2
  | exact (gus_b (r := m38 fs) (I := (itM fi_)) (Rl := mbl fn_ fz) (Rn := mbn fz) (i := a3) (sg := 0) (Or.inr (Or.inr (Or.inl f_34_0_0)))).1
  | exact (gus_b (r := m38 fs) (I := (fun _ _ => 0)) (Rl := mbl fn_ fz) (Rn := mbn fz) (i := a3) (sg := ms) (Or.inr (Or.inr (Or.inl f_34_0_0)))).2
  | exact (gus_b (r := m38 fs) (I := (itM fi_)) (Rl := mbl fn_ fz) (Rn := mbn fz) (i := a3) (sg := 0) (Or.inr (Or.inr (Or.inr q_38)))).1
  | exact (gus_b (r := m38 fs) (I := (fun _ _ => 0)) (Rl := mbl fn_ fz) (Rn := mbn fz) (i := a3) (sg := ms) (Or.inr (Or.inr (Or.inr q_38)))).2
  | exact tri_r (guM_g (I := (itM fi_)) (sg := 0) (i := a3) hM hln9 hsz9 hj_6 gs_m hj_10 q_14 hj_14).1 (hr_0 (sg := 0) (by rw [← e_18]; exact c_19)).1 (by decide)
  | exact ((guM_g (I := (fun _ _ => 0)) (sg := ms) (i := a3) hM hln9 hsz9 hj_6 gs_m hj_10 q_14 hj_14).2.trans (hr_0 (by rw [← e_18]; exact c_19)).2).symm
  | exact tri_r (guM_g (I := (itM fi_)) (sg := 0) (i := a3) hM hln9 hsz9 hj_6 gs_m hj_10 q_14 hj_14).1 (hr_1 (sg := 0) e_18.symm f_20_1_0).1 (by decide)
  | exact hF_20_0.trans ((lk_1 f_20_1_0).symm.trans ((guM_g (I := (fun _ _ => 0)) (sg := ms) (i := a3) hM hln9 hsz9 hj_6 gs_m hj_10 q_14 hj_14).2.trans (hr_1 e_18.symm f_20_1_0).2).symm)
  | exact tri_r (guM_g (I := (itM fi_)) (sg := 0) (i := a3) hM hln9 hsz9 hj_6 gs_m hj_10 q_14 hj_14).1 (hr_2 (sg := 0) e_18.symm f_20_2_0 f_20_2_1).1 (by decide)
  | exact hF_20_0.trans ((lk_2 f_20_2_0 f_20_2_1).symm.trans ((guM_g (I := (fun _ _ => 0)) (sg := ms) (i := a3) hM hln9 hsz9 hj_6 gs_m hj_10 q_14 hj_14).2.trans (hr_2 e_18.symm f_20_2_0 f_20_2_1).2).symm)
  | exact tri_r (guM_g (I := (itM fi_)) (sg := 0) (i := a3) hM hln9 hsz9 hj_30 (gs_n (r := m38 fs) hM.1 hM.2.2.2.1 hj_3) hj_34 q_38 hj_38).1 (hr_0 (sg := 0) (by rw [← e_42]; exact c_43)).1 (by decide)
  | exact ((guM_g (I := (fun _ _ => 0)) (sg := ms) (i := a3) hM hln9 hsz9 hj_30 (gs_n (r := m38 fs) hM.1 hM.2.2.2.1 hj_3) hj_34 q_38 hj_38).2.trans (hr_0 (by rw [← e_42]; exact c_43)).2).symm
  | exact tri_r (guM_g (I := (itM fi_)) (sg := 0) (i := a3) hM hln9 hsz9 hj_30 (gs_n (r := m38 fs) hM.1 hM.2.2.2.1 hj_3) hj_34 q_38 hj_38).1 (hr_1 (sg := 0) e_42.symm f_44_1_0).1 (by decide)
  | exact hF_44_0.trans ((lk_1 f_44_1_0).symm.trans ((guM_g (I := (fun _ _ => 0)) (sg := ms) (i := a3) hM hln9 hsz9 hj_30 (gs_n (r := m38 fs) hM.1 hM.2.2.2.1 hj_3) hj_34 q_38 hj_38).2.trans (hr_1 e_42.symm f_44_1_0).2).symm)
  | exact tri_r (guM_g (I := (itM fi_)) (sg := 0) (i := a3) hM hln9 hsz9 hj_30 (gs_n (r := m38 fs) hM.1 hM.2.2.2.1 hj_3) hj_34 q_38 hj_38).1 (hr_2 (sg := 0) e_42.symm f_44_2_0 f_44_2_1).1 (by decide)
  | exact hF_44_0.trans ((lk_2 f_44_2_0 f_44_2_1).symm.trans ((guM_g (I := (fun _ _ => 0)) (sg := ms) (i := a3) hM hln9 hsz9 hj_30 (gs_n (r := m38 fs) hM.1 hM.2.2.2.1 hj_3) hj_34 q_38 hj_38).2.trans (hr_2 e_42.symm f_44_2_0 f_44_2_1).2).symm)
  | exact hF_26_2.trans ((guM_g (I := (fun _ _ => 0)) (sg := ms) (i := (nI pa_21)) hM hln9 hsz9 hj_6 gs_m hj_10 q_14 hj_14).2.trans (hr_3 (sg := ms) e_18.symm f_20_0_0 f_20_0_1).2).symm
  | exact h_26.trans ((clM_fit hj_10 (by omega)).trans (tri_0 (guM_g (I := (itM fi_)) (sg := 0) (i := (nI pa_21)) hM hln9 hsz9 hj_6 gs_m hj_10 q_14 hj_14).1 (hr_3 (sg := 0) e_18.symm f_20_0_0 f_20_0_1).1 rfl))
  | exact hF_51_2.trans ((guM_g (I := (fun _ _ => 0)) (sg := ms) (i := (nI pa_45)) hM hln9 hsz9 hj_30 (gs_n (r := m38 fs) hM.1 hM.2.2.2.1 hj_3) hj_34 q_38 hj_38).2.trans (hr_3 (sg := ms) e_42.symm f_44_0_0 f_44_0_1).2).symm
  | exact h_51.trans ((clM_fit hj_34 (by omega)).trans ((cl_w (by omega)).trans (tri_1 (guM_g (I := (itM fi_)) (sg := 0) (i := (nI pa_45)) hM hln9 hsz9 hj_30 (gs_n (r := m38 fs) hM.1 hM.2.2.2.1 hj_3) hj_34 q_38 hj_38).1 (hr_3 (sg := 0) e_42.symm f_44_0_0 f_44_0_1).1 (gs_ne (by omega)))))
theorem lf_X8_gusts_13 {ms : Int32} {mt : Int32} {ma : Nat} {fs : Nat → Int32} {w9 : Nat} {k9 : Nat} {h9 : Nat} {fz : Nat → Int32} {fn_ : Nat → Int32} {a3 : Int32} {v_2 : Int32} {j_6 : Nat} {j_10 : Nat} {j_14 : Nat} {msn_20 : Int32} (hM : okM fs w9 k9 h9) (hT : ¬ mt = 0 → 1 ≤ k9) (h999 : h9 ≤ 999) (hT0 : mt = 0 → fs 0 = 0 ∧ ma = 0) (hsz9 : ∀ j : Nat, j < 8 → fz j = -1 ∨ ∃ q : Nat, q ≤ 40 ∧ fz j = nI q) (hln9 : ∀ j : Nat, j < 8 → ¬ fz j = -1 → ¬ fn_ j = -1) (e_2 : v_2 = ((nI w9) - 1)) (f_3_1_0 : (¬ ((((-1) : Int32)).toInt64 < (-1) ∨ (v_2).toInt64 < (((-1) : Int32)).toInt64))) (q_3 : ¬ (((-1) : Int32) < (-1) ∨ v_2 < ((-1) : Int32))) (hj_6 : j_6 < k9) (hkn1 : 1 ≤ k9) (hw1 : 1 ≤ w9) (h01 : ¬ fs 0 = 0) (hj_10 : j_10 < 8) (f_14_1_0 : (¬ (((nI j_14)).toInt64 < 1 ∨ 12 < ((nI j_14)).toInt64))) (q_14 : ¬ ((nI j_14) < 1 ∨ 12 < (nI j_14))) (hj_14 : j_14 ≤ 12) (e_18 : (0 : Int32) = fs (26 + j_6)) (hF_20_0 : msn_20 = lkS (fz j_10) a3 (nI j_14) ms) (f_20_2_0 : ¬ fz j_10 = -1) (f_20_2_1 : ¬ plc (fz j_10) a3 (nI j_14)) : msn_20 = f_gus (m38 fs) (mbl fn_ fz) (mbn fz) ((-1) : Int32) (nI j_6) (nI j_10) a3 (nI j_14) ms := by
  have hw6 := hM.2.2.2.1
  first
  | exact (gus_b (r := m38 fs) (I := (itM fi_)) (Rl := mbl fn_ fz) (Rn := mbn fz) (i := a3) (sg := 0) (Or.inl (gsM_b hM e_2 q_3))).1
  | exact (gus_b (r := m38 fs) (I := (fun _ _ => 0)) (Rl := mbl fn_ fz) (Rn := mbn fz) (i := a3) (sg := ms) (Or.inl (gsM_b hM e_2 q_3))).2
  | exact (gus_b (r := m38 fs) (I := (itM fi_)) (Rl := mbl fn_ fz) (Rn := mbn fz) (i := a3) (sg := 0) (Or.inr (Or.inl (whM_b1 hM.2.1 f_6_0_0)))).1
  | exact (gus_b (r := m38 fs) (I := (fun _ _ => 0)) (Rl := mbl fn_ fz) (Rn := mbn fz) (i := a3) (sg := ms) (Or.inr (Or.inl (whM_b1 hM.2.1 f_6_0_0)))).2
  | exact (gus_b (r := m38 fs) (I := (itM fi_)) (Rl := mbl fn_ fz) (Rn := mbn fz) (i := a3) (sg := 0) (Or.inr (Or.inr (Or.inl f_10_0_0)))).1
  | exact (gus_b (r := m38 fs) (I := (fun _ _ => 0)) (Rl := mbl fn_ fz) (Rn := mbn fz) (i := a3) (sg := ms) (Or.inr (Or.inr (Or.inl f_10_0_0)))).2
  | exact (gus_b (r := m38 fs) (I := (itM fi_)) (Rl := mbl fn_ fz) (Rn := mbn fz) (i := a3) (sg := 0) (Or.inr (Or.inr (Or.inr q_14)))).1
  | exact (gus_b (r := m38 fs) (I := (fun _ _ => 0)) (Rl := mbl fn_ fz) (Rn := mbn fz) (i := a3) (sg := ms) (Or.inr (Or.inr (Or.inr q_14)))).2
  | exact (gus_b (r := m38 fs) (I := (itM fi_)) (Rl := mbl fn_ fz) (Rn := mbn fz) (i := a3) (sg := 0) (Or.inr (Or.inl (whM_b1 hM.2.1 f_30_0_0)))).1
  | exact (gus_b (r := m38 fs) (I := (fun _ _ => 0)) (Rl := mbl fn_ fz) (Rn := mbn fz) (i := a3) (sg := ms) (Or.inr (Or.inl (whM_b1 hM.2.1 f_30_0_0)))).2
  | exact (gus_b (r := m38 fs) (I := (itM fi_)) (Rl := mbl fn_ fz) (Rn := mbn fz) (i := a3) (sg := 0) (Or.inr (Or.inr (Or.inl f_34_0_0)))).1
  | exact (gus_b (r := m38 fs) (I := (fun _ _ => 0)) (Rl := mbl fn_ fz) (Rn := mbn fz) (i := a3) (sg := ms) (Or.inr (Or.inr (Or.inl f_34_0_0)))).2
  | exact (gus_b (r := m38 fs) (I := (itM fi_)) (Rl := mbl fn_ fz) (Rn := mbn fz) (i := a3) (sg := 0) (Or.inr (Or.inr (Or.inr q_38)))).1
  | exact (gus_b (r := m38 fs) (I := (fun _ _ => 0)) (Rl := mbl fn_ fz) (Rn := mbn fz) (i := a3) (sg := ms) (Or.inr (Or.inr (Or.inr q_38)))).2
  | exact tri_r (guM_g (I := (itM fi_)) (sg := 0) (i := a3) hM hln9 hsz9 hj_6 gs_m hj_10 q_14 hj_14).1 (hr_0 (sg := 0) (by rw [← e_18]; exact c_19)).1 (by decide)
  | exact ((guM_g (I := (fun _ _ => 0)) (sg := ms) (i := a3) hM hln9 hsz9 hj_6 gs_m hj_10 q_14 hj_14).2.trans (hr_0 (by rw [← e_18]; exact c_19)).2).symm
  | exact tri_r (guM_g (I := (itM fi_)) (sg := 0) (i := a3) hM hln9 hsz9 hj_6 gs_m hj_10 q_14 hj_14).1 (hr_1 (sg := 0) e_18.symm f_20_1_0).1 (by decide)
  | exact hF_20_0.trans ((lk_1 f_20_1_0).symm.trans ((guM_g (I := (fun _ _ => 0)) (sg := ms) (i := a3) hM hln9 hsz9 hj_6 gs_m hj_10 q_14 hj_14).2.trans (hr_1 e_18.symm f_20_1_0).2).symm)
  | exact tri_r (guM_g (I := (itM fi_)) (sg := 0) (i := a3) hM hln9 hsz9 hj_6 gs_m hj_10 q_14 hj_14).1 (hr_2 (sg := 0) e_18.symm f_20_2_0 f_20_2_1).1 (by decide)
  | exact hF_20_0.trans ((lk_2 f_20_2_0 f_20_2_1).symm.trans ((guM_g (I := (fun _ _ => 0)) (sg := ms) (i := a3) hM hln9 hsz9 hj_6 gs_m hj_10 q_14 hj_14).2.trans (hr_2 e_18.symm f_20_2_0 f_20_2_1).2).symm)
  | exact tri_r (guM_g (I := (itM fi_)) (sg := 0) (i := a3) hM hln9 hsz9 hj_30 (gs_n (r := m38 fs) hM.1 hM.2.2.2.1 hj_3) hj_34 q_38 hj_38).1 (hr_0 (sg := 0) (by rw [← e_42]; exact c_43)).1 (by decide)
  | exact ((guM_g (I := (fun _ _ => 0)) (sg := ms) (i := a3) hM hln9 hsz9 hj_30 (gs_n (r := m38 fs) hM.1 hM.2.2.2.1 hj_3) hj_34 q_38 hj_38).2.trans (hr_0 (by rw [← e_42]; exact c_43)).2).symm
  | exact tri_r (guM_g (I := (itM fi_)) (sg := 0) (i := a3) hM hln9 hsz9 hj_30 (gs_n (r := m38 fs) hM.1 hM.2.2.2.1 hj_3) hj_34 q_38 hj_38).1 (hr_1 (sg := 0) e_42.symm f_44_1_0).1 (by decide)
  | exact hF_44_0.trans ((lk_1 f_44_1_0).symm.trans ((guM_g (I := (fun _ _ => 0)) (sg := ms) (i := a3) hM hln9 hsz9 hj_30 (gs_n (r := m38 fs) hM.1 hM.2.2.2.1 hj_3) hj_34 q_38 hj_38).2.trans (hr_1 e_42.symm f_44_1_0).2).symm)
  | exact tri_r (guM_g (I := (itM fi_)) (sg := 0) (i := a3) hM hln9 hsz9 hj_30 (gs_n (r := m38 fs) hM.1 hM.2.2.2.1 hj_3) hj_34 q_38 hj_38).1 (hr_2 (sg := 0) e_42.symm f_44_2_0 f_44_2_1).1 (by decide)
  | exact hF_44_0.trans ((lk_2 f_44_2_0 f_44_2_1).symm.trans ((guM_g (I := (fun _ _ => 0)) (sg := ms) (i := a3) hM hln9 hsz9 hj_30 (gs_n (r := m38 fs) hM.1 hM.2.2.2.1 hj_3) hj_34 q_38 hj_38).2.trans (hr_2 e_42.symm f_44_2_0 f_44_2_1).2).symm)
  | exact hF_26_2.trans ((guM_g (I := (fun _ _ => 0)) (sg := ms) (i := (nI pa_21)) hM hln9 hsz9 hj_6 gs_m hj_10 q_14 hj_14).2.trans (hr_3 (sg := ms) e_18.symm f_20_0_0 f_20_0_1).2).symm
  | exact h_26.trans ((clM_fit hj_10 (by omega)).trans (tri_0 (guM_g (I := (itM fi_)) (sg := 0) (i := (nI pa_21)) hM hln9 hsz9 hj_6 gs_m hj_10 q_14 hj_14).1 (hr_3 (sg := 0) e_18.symm f_20_0_0 f_20_0_1).1 rfl))
  | exact hF_51_2.trans ((guM_g (I := (fun _ _ => 0)) (sg := ms) (i := (nI pa_45)) hM hln9 hsz9 hj_30 (gs_n (r := m38 fs) hM.1 hM.2.2.2.1 hj_3) hj_34 q_38 hj_38).2.trans (hr_3 (sg := ms) e_42.symm f_44_0_0 f_44_0_1).2).symm
  | exact h_51.trans ((clM_fit hj_34 (by omega)).trans ((cl_w (by omega)).trans (tri_1 (guM_g (I := (itM fi_)) (sg := 0) (i := (nI pa_45)) hM hln9 hsz9 hj_30 (gs_n (r := m38 fs) hM.1 hM.2.2.2.1 hj_3) hj_34 q_38 hj_38).1 (hr_3 (sg := 0) e_42.symm f_44_0_0 f_44_0_1).1 (gs_ne (by omega)))))
theorem lf_X8_gusts_14 {ms : Int32} {mt : Int32} {ma : Nat} {fs : Nat → Int32} {w9 : Nat} {k9 : Nat} {h9 : Nat} {fi_ : Nat → Int32} {fz : Nat → Int32} {fn_ : Nat → Int32} {a3 : Int32} {v_2 : Int32} {j_6 : Nat} {j_10 : Nat} {j_14 : Nat} {msn_20 : Int32} (hM : okM fs w9 k9 h9) (hT : ¬ mt = 0 → 1 ≤ k9) (h999 : h9 ≤ 999) (hT0 : mt = 0 → fs 0 = 0 ∧ ma = 0) (hsz9 : ∀ j : Nat, j < 8 → fz j = -1 ∨ ∃ q : Nat, q ≤ 40 ∧ fz j = nI q) (hln9 : ∀ j : Nat, j < 8 → ¬ fz j = -1 → ¬ fn_ j = -1) (e_2 : v_2 = ((nI w9) - 1)) (f_3_1_0 : (¬ ((((-1) : Int32)).toInt64 < (-1) ∨ (v_2).toInt64 < (((-1) : Int32)).toInt64))) (q_3 : ¬ (((-1) : Int32) < (-1) ∨ v_2 < ((-1) : Int32))) (hj_6 : j_6 < k9) (hkn1 : 1 ≤ k9) (hw1 : 1 ≤ w9) (h01 : ¬ fs 0 = 0) (hj_10 : j_10 < 8) (f_14_1_0 : (¬ (((nI j_14)).toInt64 < 1 ∨ 12 < ((nI j_14)).toInt64))) (q_14 : ¬ ((nI j_14) < 1 ∨ 12 < (nI j_14))) (hj_14 : j_14 ≤ 12) (e_18 : (0 : Int32) = fs (26 + j_6)) (hF_20_0 : msn_20 = lkS (fz j_10) a3 (nI j_14) ms) (f_20_2_0 : ¬ fz j_10 = -1) (f_20_2_1 : ¬ plc (fz j_10) a3 (nI j_14)) : (-1000012) = (a_gus (m38 fs) (mbl fn_ fz) (mbn fz) (itM fi_) ((-1) : Int32) (nI j_6) (nI j_10) a3 (nI j_14)) := by
  have hw6 := hM.2.2.2.1
  first
  | exact (gus_b (r := m38 fs) (I := (itM fi_)) (Rl := mbl fn_ fz) (Rn := mbn fz) (i := a3) (sg := 0) (Or.inl (gsM_b hM e_2 q_3))).1
  | exact (gus_b (r := m38 fs) (I := (fun _ _ => 0)) (Rl := mbl fn_ fz) (Rn := mbn fz) (i := a3) (sg := ms) (Or.inl (gsM_b hM e_2 q_3))).2
  | exact (gus_b (r := m38 fs) (I := (itM fi_)) (Rl := mbl fn_ fz) (Rn := mbn fz) (i := a3) (sg := 0) (Or.inr (Or.inl (whM_b1 hM.2.1 f_6_0_0)))).1
  | exact (gus_b (r := m38 fs) (I := (fun _ _ => 0)) (Rl := mbl fn_ fz) (Rn := mbn fz) (i := a3) (sg := ms) (Or.inr (Or.inl (whM_b1 hM.2.1 f_6_0_0)))).2
  | exact (gus_b (r := m38 fs) (I := (itM fi_)) (Rl := mbl fn_ fz) (Rn := mbn fz) (i := a3) (sg := 0) (Or.inr (Or.inr (Or.inl f_10_0_0)))).1
  | exact (gus_b (r := m38 fs) (I := (fun _ _ => 0)) (Rl := mbl fn_ fz) (Rn := mbn fz) (i := a3) (sg := ms) (Or.inr (Or.inr (Or.inl f_10_0_0)))).2
  | exact (gus_b (r := m38 fs) (I := (itM fi_)) (Rl := mbl fn_ fz) (Rn := mbn fz) (i := a3) (sg := 0) (Or.inr (Or.inr (Or.inr q_14)))).1
  | exact (gus_b (r := m38 fs) (I := (fun _ _ => 0)) (Rl := mbl fn_ fz) (Rn := mbn fz) (i := a3) (sg := ms) (Or.inr (Or.inr (Or.inr q_14)))).2
  | exact (gus_b (r := m38 fs) (I := (itM fi_)) (Rl := mbl fn_ fz) (Rn := mbn fz) (i := a3) (sg := 0) (Or.inr (Or.inl (whM_b1 hM.2.1 f_30_0_0)))).1
  | exact (gus_b (r := m38 fs) (I := (fun _ _ => 0)) (Rl := mbl fn_ fz) (Rn := mbn fz) (i := a3) (sg := ms) (Or.inr (Or.inl (whM_b1 hM.2.1 f_30_0_0)))).2
  | exact (gus_b (r := m38 fs) (I := (itM fi_)) (Rl := mbl fn_ fz) (Rn := mbn fz) (i := a3) (sg := 0) (Or.inr (Or.inr (Or.inl f_34_0_0)))).1
  | exact (gus_b (r := m38 fs) (I := (fun _ _ => 0)) (Rl := mbl fn_ fz) (Rn := mbn fz) (i := a3) (sg := ms) (Or.inr (Or.inr (Or.inl f_34_0_0)))).2
  | exact (gus_b (r := m38 fs) (I := (itM fi_)) (Rl := mbl fn_ fz) (Rn := mbn fz) (i := a3) (sg := 0) (Or.inr (Or.inr (Or.inr q_38)))).1
  | exact (gus_b (r := m38 fs) (I := (fun _ _ => 0)) (Rl := mbl fn_ fz) (Rn := mbn fz) (i := a3) (sg := ms) (Or.inr (Or.inr (Or.inr q_38)))).2
  | exact tri_r (guM_g (I := (itM fi_)) (sg := 0) (i := a3) hM hln9 hsz9 hj_6 gs_m hj_10 q_14 hj_14).1 (hr_0 (sg := 0) (by rw [← e_18]; exact c_19)).1 (by decide)
  | exact ((guM_g (I := (fun _ _ => 0)) (sg := ms) (i := a3) hM hln9 hsz9 hj_6 gs_m hj_10 q_14 hj_14).2.trans (hr_0 (by rw [← e_18]; exact c_19)).2).symm
  | exact tri_r (guM_g (I := (itM fi_)) (sg := 0) (i := a3) hM hln9 hsz9 hj_6 gs_m hj_10 q_14 hj_14).1 (hr_1 (sg := 0) e_18.symm f_20_1_0).1 (by decide)
  | exact hF_20_0.trans ((lk_1 f_20_1_0).symm.trans ((guM_g (I := (fun _ _ => 0)) (sg := ms) (i := a3) hM hln9 hsz9 hj_6 gs_m hj_10 q_14 hj_14).2.trans (hr_1 e_18.symm f_20_1_0).2).symm)
  | exact tri_r (guM_g (I := (itM fi_)) (sg := 0) (i := a3) hM hln9 hsz9 hj_6 gs_m hj_10 q_14 hj_14).1 (hr_2 (sg := 0) e_18.symm f_20_2_0 f_20_2_1).1 (by decide)
  | exact hF_20_0.trans ((lk_2 f_20_2_0 f_20_2_1).symm.trans ((guM_g (I := (fun _ _ => 0)) (sg := ms) (i := a3) hM hln9 hsz9 hj_6 gs_m hj_10 q_14 hj_14).2.trans (hr_2 e_18.symm f_20_2_0 f_20_2_1).2).symm)
  | exact tri_r (guM_g (I := (itM fi_)) (sg := 0) (i := a3) hM hln9 hsz9 hj_30 (gs_n (r := m38 fs) hM.1 hM.2.2.2.1 hj_3) hj_34 q_38 hj_38).1 (hr_0 (sg := 0) (by rw [← e_42]; exact c_43)).1 (by decide)
  | exact ((guM_g (I := (fun _ _ => 0)) (sg := ms) (i := a3) hM hln9 hsz9 hj_30 (gs_n (r := m38 fs) hM.1 hM.2.2.2.1 hj_3) hj_34 q_38 hj_38).2.trans (hr_0 (by rw [← e_42]; exact c_43)).2).symm
  | exact tri_r (guM_g (I := (itM fi_)) (sg := 0) (i := a3) hM hln9 hsz9 hj_30 (gs_n (r := m38 fs) hM.1 hM.2.2.2.1 hj_3) hj_34 q_38 hj_38).1 (hr_1 (sg := 0) e_42.symm f_44_1_0).1 (by decide)
  | exact hF_44_0.trans ((lk_1 f_44_1_0).symm.trans ((guM_g (I := (fun _ _ => 0)) (sg := ms) (i := a3) hM hln9 hsz9 hj_30 (gs_n (r := m38 fs) hM.1 hM.2.2.2.1 hj_3) hj_34 q_38 hj_38).2.trans (hr_1 e_42.symm f_44_1_0).2).symm)
  | exact tri_r (guM_g (I := (itM fi_)) (sg := 0) (i := a3) hM hln9 hsz9 hj_30 (gs_n (r := m38 fs) hM.1 hM.2.2.2.1 hj_3) hj_34 q_38 hj_38).1 (hr_2 (sg := 0) e_42.symm f_44_2_0 f_44_2_1).1 (by decide)
  | exact hF_44_0.trans ((lk_2 f_44_2_0 f_44_2_1).symm.trans ((guM_g (I := (fun _ _ => 0)) (sg := ms) (i := a3) hM hln9 hsz9 hj_30 (gs_n (r := m38 fs) hM.1 hM.2.2.2.1 hj_3) hj_34 q_38 hj_38).2.trans (hr_2 e_42.symm f_44_2_0 f_44_2_1).2).symm)
  | exact hF_26_2.trans ((guM_g (I := (fun _ _ => 0)) (sg := ms) (i := (nI pa_21)) hM hln9 hsz9 hj_6 gs_m hj_10 q_14 hj_14).2.trans (hr_3 (sg := ms) e_18.symm f_20_0_0 f_20_0_1).2).symm
  | exact h_26.trans ((clM_fit hj_10 (by omega)).trans (tri_0 (guM_g (I := (itM fi_)) (sg := 0) (i := (nI pa_21)) hM hln9 hsz9 hj_6 gs_m hj_10 q_14 hj_14).1 (hr_3 (sg := 0) e_18.symm f_20_0_0 f_20_0_1).1 rfl))
  | exact hF_51_2.trans ((guM_g (I := (fun _ _ => 0)) (sg := ms) (i := (nI pa_45)) hM hln9 hsz9 hj_30 (gs_n (r := m38 fs) hM.1 hM.2.2.2.1 hj_3) hj_34 q_38 hj_38).2.trans (hr_3 (sg := ms) e_42.symm f_44_0_0 f_44_0_1).2).symm
  | exact h_51.trans ((clM_fit hj_34 (by omega)).trans ((cl_w (by omega)).trans (tri_1 (guM_g (I := (itM fi_)) (sg := 0) (i := (nI pa_45)) hM hln9 hsz9 hj_30 (gs_n (r := m38 fs) hM.1 hM.2.2.2.1 hj_3) hj_34 q_38 hj_38).1 (hr_3 (sg := 0) e_42.symm f_44_0_0 f_44_0_1).1 (gs_ne (by omega)))))
theorem lf_X8_gusts_15 {ms : Int32} {mt : Int32} {ma : Nat} {fs : Nat → Int32} {w9 : Nat} {k9 : Nat} {h9 : Nat} {fz : Nat → Int32} {fn_ : Nat → Int32} {a3 : Int32} {v_2 : Int32} {j_6 : Nat} {j_10 : Nat} {j_14 : Nat} {v_18 : Int32} (hM : okM fs w9 k9 h9) (hT : ¬ mt = 0 → 1 ≤ k9) (h999 : h9 ≤ 999) (hT0 : mt = 0 → fs 0 = 0 ∧ ma = 0) (hsz9 : ∀ j : Nat, j < 8 → fz j = -1 ∨ ∃ q : Nat, q ≤ 40 ∧ fz j = nI q) (hln9 : ∀ j : Nat, j < 8 → ¬ fz j = -1 → ¬ fn_ j = -1) (e_2 : v_2 = ((nI w9) - 1)) (f_3_1_0 : (¬ ((((-1) : Int32)).toInt64 < (-1) ∨ (v_2).toInt64 < (((-1) : Int32)).toInt64))) (q_3 : ¬ (((-1) : Int32) < (-1) ∨ v_2 < ((-1) : Int32))) (hj_6 : j_6 < k9) (hkn1 : 1 ≤ k9) (hw1 : 1 ≤ w9) (h01 : ¬ fs 0 = 0) (hj_10 : j_10 < 8) (f_14_1_0 : (¬ (((nI j_14)).toInt64 < 1 ∨ 12 < ((nI j_14)).toInt64))) (q_14 : ¬ ((nI j_14) < 1 ∨ 12 < (nI j_14))) (hj_14 : j_14 ≤ 12) (e_18 : v_18 = fs (26 + j_6)) (c_19 : ¬ (v_18 = 0)) : ms = f_gus (m38 fs) (mbl fn_ fz) (mbn fz) ((-1) : Int32) (nI j_6) (nI j_10) a3 (nI j_14) ms := by
  have hw6 := hM.2.2.2.1
  first
  | exact (gus_b (r := m38 fs) (I := (itM fi_)) (Rl := mbl fn_ fz) (Rn := mbn fz) (i := a3) (sg := 0) (Or.inl (gsM_b hM e_2 q_3))).1
  | exact (gus_b (r := m38 fs) (I := (fun _ _ => 0)) (Rl := mbl fn_ fz) (Rn := mbn fz) (i := a3) (sg := ms) (Or.inl (gsM_b hM e_2 q_3))).2
  | exact (gus_b (r := m38 fs) (I := (itM fi_)) (Rl := mbl fn_ fz) (Rn := mbn fz) (i := a3) (sg := 0) (Or.inr (Or.inl (whM_b1 hM.2.1 f_6_0_0)))).1
  | exact (gus_b (r := m38 fs) (I := (fun _ _ => 0)) (Rl := mbl fn_ fz) (Rn := mbn fz) (i := a3) (sg := ms) (Or.inr (Or.inl (whM_b1 hM.2.1 f_6_0_0)))).2
  | exact (gus_b (r := m38 fs) (I := (itM fi_)) (Rl := mbl fn_ fz) (Rn := mbn fz) (i := a3) (sg := 0) (Or.inr (Or.inr (Or.inl f_10_0_0)))).1
  | exact (gus_b (r := m38 fs) (I := (fun _ _ => 0)) (Rl := mbl fn_ fz) (Rn := mbn fz) (i := a3) (sg := ms) (Or.inr (Or.inr (Or.inl f_10_0_0)))).2
  | exact (gus_b (r := m38 fs) (I := (itM fi_)) (Rl := mbl fn_ fz) (Rn := mbn fz) (i := a3) (sg := 0) (Or.inr (Or.inr (Or.inr q_14)))).1
  | exact (gus_b (r := m38 fs) (I := (fun _ _ => 0)) (Rl := mbl fn_ fz) (Rn := mbn fz) (i := a3) (sg := ms) (Or.inr (Or.inr (Or.inr q_14)))).2
  | exact (gus_b (r := m38 fs) (I := (itM fi_)) (Rl := mbl fn_ fz) (Rn := mbn fz) (i := a3) (sg := 0) (Or.inr (Or.inl (whM_b1 hM.2.1 f_30_0_0)))).1
  | exact (gus_b (r := m38 fs) (I := (fun _ _ => 0)) (Rl := mbl fn_ fz) (Rn := mbn fz) (i := a3) (sg := ms) (Or.inr (Or.inl (whM_b1 hM.2.1 f_30_0_0)))).2
  | exact (gus_b (r := m38 fs) (I := (itM fi_)) (Rl := mbl fn_ fz) (Rn := mbn fz) (i := a3) (sg := 0) (Or.inr (Or.inr (Or.inl f_34_0_0)))).1
  | exact (gus_b (r := m38 fs) (I := (fun _ _ => 0)) (Rl := mbl fn_ fz) (Rn := mbn fz) (i := a3) (sg := ms) (Or.inr (Or.inr (Or.inl f_34_0_0)))).2
  | exact (gus_b (r := m38 fs) (I := (itM fi_)) (Rl := mbl fn_ fz) (Rn := mbn fz) (i := a3) (sg := 0) (Or.inr (Or.inr (Or.inr q_38)))).1
  | exact (gus_b (r := m38 fs) (I := (fun _ _ => 0)) (Rl := mbl fn_ fz) (Rn := mbn fz) (i := a3) (sg := ms) (Or.inr (Or.inr (Or.inr q_38)))).2
  | exact tri_r (guM_g (I := (itM fi_)) (sg := 0) (i := a3) hM hln9 hsz9 hj_6 gs_m hj_10 q_14 hj_14).1 (hr_0 (sg := 0) (by rw [← e_18]; exact c_19)).1 (by decide)
  | exact ((guM_g (I := (fun _ _ => 0)) (sg := ms) (i := a3) hM hln9 hsz9 hj_6 gs_m hj_10 q_14 hj_14).2.trans (hr_0 (by rw [← e_18]; exact c_19)).2).symm
  | exact tri_r (guM_g (I := (itM fi_)) (sg := 0) (i := a3) hM hln9 hsz9 hj_6 gs_m hj_10 q_14 hj_14).1 (hr_1 (sg := 0) e_18.symm f_20_1_0).1 (by decide)
  | exact hF_20_0.trans ((lk_1 f_20_1_0).symm.trans ((guM_g (I := (fun _ _ => 0)) (sg := ms) (i := a3) hM hln9 hsz9 hj_6 gs_m hj_10 q_14 hj_14).2.trans (hr_1 e_18.symm f_20_1_0).2).symm)
  | exact tri_r (guM_g (I := (itM fi_)) (sg := 0) (i := a3) hM hln9 hsz9 hj_6 gs_m hj_10 q_14 hj_14).1 (hr_2 (sg := 0) e_18.symm f_20_2_0 f_20_2_1).1 (by decide)
  | exact hF_20_0.trans ((lk_2 f_20_2_0 f_20_2_1).symm.trans ((guM_g (I := (fun _ _ => 0)) (sg := ms) (i := a3) hM hln9 hsz9 hj_6 gs_m hj_10 q_14 hj_14).2.trans (hr_2 e_18.symm f_20_2_0 f_20_2_1).2).symm)
  | exact tri_r (guM_g (I := (itM fi_)) (sg := 0) (i := a3) hM hln9 hsz9 hj_30 (gs_n (r := m38 fs) hM.1 hM.2.2.2.1 hj_3) hj_34 q_38 hj_38).1 (hr_0 (sg := 0) (by rw [← e_42]; exact c_43)).1 (by decide)
  | exact ((guM_g (I := (fun _ _ => 0)) (sg := ms) (i := a3) hM hln9 hsz9 hj_30 (gs_n (r := m38 fs) hM.1 hM.2.2.2.1 hj_3) hj_34 q_38 hj_38).2.trans (hr_0 (by rw [← e_42]; exact c_43)).2).symm
  | exact tri_r (guM_g (I := (itM fi_)) (sg := 0) (i := a3) hM hln9 hsz9 hj_30 (gs_n (r := m38 fs) hM.1 hM.2.2.2.1 hj_3) hj_34 q_38 hj_38).1 (hr_1 (sg := 0) e_42.symm f_44_1_0).1 (by decide)
  | exact hF_44_0.trans ((lk_1 f_44_1_0).symm.trans ((guM_g (I := (fun _ _ => 0)) (sg := ms) (i := a3) hM hln9 hsz9 hj_30 (gs_n (r := m38 fs) hM.1 hM.2.2.2.1 hj_3) hj_34 q_38 hj_38).2.trans (hr_1 e_42.symm f_44_1_0).2).symm)
  | exact tri_r (guM_g (I := (itM fi_)) (sg := 0) (i := a3) hM hln9 hsz9 hj_30 (gs_n (r := m38 fs) hM.1 hM.2.2.2.1 hj_3) hj_34 q_38 hj_38).1 (hr_2 (sg := 0) e_42.symm f_44_2_0 f_44_2_1).1 (by decide)
  | exact hF_44_0.trans ((lk_2 f_44_2_0 f_44_2_1).symm.trans ((guM_g (I := (fun _ _ => 0)) (sg := ms) (i := a3) hM hln9 hsz9 hj_30 (gs_n (r := m38 fs) hM.1 hM.2.2.2.1 hj_3) hj_34 q_38 hj_38).2.trans (hr_2 e_42.symm f_44_2_0 f_44_2_1).2).symm)
  | exact hF_26_2.trans ((guM_g (I := (fun _ _ => 0)) (sg := ms) (i := (nI pa_21)) hM hln9 hsz9 hj_6 gs_m hj_10 q_14 hj_14).2.trans (hr_3 (sg := ms) e_18.symm f_20_0_0 f_20_0_1).2).symm
  | exact h_26.trans ((clM_fit hj_10 (by omega)).trans (tri_0 (guM_g (I := (itM fi_)) (sg := 0) (i := (nI pa_21)) hM hln9 hsz9 hj_6 gs_m hj_10 q_14 hj_14).1 (hr_3 (sg := 0) e_18.symm f_20_0_0 f_20_0_1).1 rfl))
  | exact hF_51_2.trans ((guM_g (I := (fun _ _ => 0)) (sg := ms) (i := (nI pa_45)) hM hln9 hsz9 hj_30 (gs_n (r := m38 fs) hM.1 hM.2.2.2.1 hj_3) hj_34 q_38 hj_38).2.trans (hr_3 (sg := ms) e_42.symm f_44_0_0 f_44_0_1).2).symm
  | exact h_51.trans ((clM_fit hj_34 (by omega)).trans ((cl_w (by omega)).trans (tri_1 (guM_g (I := (itM fi_)) (sg := 0) (i := (nI pa_45)) hM hln9 hsz9 hj_30 (gs_n (r := m38 fs) hM.1 hM.2.2.2.1 hj_3) hj_34 q_38 hj_38).1 (hr_3 (sg := 0) e_42.symm f_44_0_0 f_44_0_1).1 (gs_ne (by omega)))))
theorem lf_X8_gusts_16 {mt : Int32} {ma : Nat} {fs : Nat → Int32} {w9 : Nat} {k9 : Nat} {h9 : Nat} {fi_ : Nat → Int32} {fz : Nat → Int32} {fn_ : Nat → Int32} {a3 : Int32} {v_2 : Int32} {j_6 : Nat} {j_10 : Nat} {j_14 : Nat} {v_18 : Int32} (hM : okM fs w9 k9 h9) (hT : ¬ mt = 0 → 1 ≤ k9) (h999 : h9 ≤ 999) (hT0 : mt = 0 → fs 0 = 0 ∧ ma = 0) (hsz9 : ∀ j : Nat, j < 8 → fz j = -1 ∨ ∃ q : Nat, q ≤ 40 ∧ fz j = nI q) (hln9 : ∀ j : Nat, j < 8 → ¬ fz j = -1 → ¬ fn_ j = -1) (e_2 : v_2 = ((nI w9) - 1)) (f_3_1_0 : (¬ ((((-1) : Int32)).toInt64 < (-1) ∨ (v_2).toInt64 < (((-1) : Int32)).toInt64))) (q_3 : ¬ (((-1) : Int32) < (-1) ∨ v_2 < ((-1) : Int32))) (hj_6 : j_6 < k9) (hkn1 : 1 ≤ k9) (hw1 : 1 ≤ w9) (h01 : ¬ fs 0 = 0) (hj_10 : j_10 < 8) (f_14_1_0 : (¬ (((nI j_14)).toInt64 < 1 ∨ 12 < ((nI j_14)).toInt64))) (q_14 : ¬ ((nI j_14) < 1 ∨ 12 < (nI j_14))) (hj_14 : j_14 ≤ 12) (e_18 : v_18 = fs (26 + j_6)) (c_19 : ¬ (v_18 = 0)) : (-1000002) = (a_gus (m38 fs) (mbl fn_ fz) (mbn fz) (itM fi_) ((-1) : Int32) (nI j_6) (nI j_10) a3 (nI j_14)) := by
  have hw6 := hM.2.2.2.1
  first
  | exact (gus_b (r := m38 fs) (I := (itM fi_)) (Rl := mbl fn_ fz) (Rn := mbn fz) (i := a3) (sg := 0) (Or.inl (gsM_b hM e_2 q_3))).1
  | exact (gus_b (r := m38 fs) (I := (fun _ _ => 0)) (Rl := mbl fn_ fz) (Rn := mbn fz) (i := a3) (sg := ms) (Or.inl (gsM_b hM e_2 q_3))).2
  | exact (gus_b (r := m38 fs) (I := (itM fi_)) (Rl := mbl fn_ fz) (Rn := mbn fz) (i := a3) (sg := 0) (Or.inr (Or.inl (whM_b1 hM.2.1 f_6_0_0)))).1
  | exact (gus_b (r := m38 fs) (I := (fun _ _ => 0)) (Rl := mbl fn_ fz) (Rn := mbn fz) (i := a3) (sg := ms) (Or.inr (Or.inl (whM_b1 hM.2.1 f_6_0_0)))).2
  | exact (gus_b (r := m38 fs) (I := (itM fi_)) (Rl := mbl fn_ fz) (Rn := mbn fz) (i := a3) (sg := 0) (Or.inr (Or.inr (Or.inl f_10_0_0)))).1
  | exact (gus_b (r := m38 fs) (I := (fun _ _ => 0)) (Rl := mbl fn_ fz) (Rn := mbn fz) (i := a3) (sg := ms) (Or.inr (Or.inr (Or.inl f_10_0_0)))).2
  | exact (gus_b (r := m38 fs) (I := (itM fi_)) (Rl := mbl fn_ fz) (Rn := mbn fz) (i := a3) (sg := 0) (Or.inr (Or.inr (Or.inr q_14)))).1
  | exact (gus_b (r := m38 fs) (I := (fun _ _ => 0)) (Rl := mbl fn_ fz) (Rn := mbn fz) (i := a3) (sg := ms) (Or.inr (Or.inr (Or.inr q_14)))).2
  | exact (gus_b (r := m38 fs) (I := (itM fi_)) (Rl := mbl fn_ fz) (Rn := mbn fz) (i := a3) (sg := 0) (Or.inr (Or.inl (whM_b1 hM.2.1 f_30_0_0)))).1
  | exact (gus_b (r := m38 fs) (I := (fun _ _ => 0)) (Rl := mbl fn_ fz) (Rn := mbn fz) (i := a3) (sg := ms) (Or.inr (Or.inl (whM_b1 hM.2.1 f_30_0_0)))).2
  | exact (gus_b (r := m38 fs) (I := (itM fi_)) (Rl := mbl fn_ fz) (Rn := mbn fz) (i := a3) (sg := 0) (Or.inr (Or.inr (Or.inl f_34_0_0)))).1
  | exact (gus_b (r := m38 fs) (I := (fun _ _ => 0)) (Rl := mbl fn_ fz) (Rn := mbn fz) (i := a3) (sg := ms) (Or.inr (Or.inr (Or.inl f_34_0_0)))).2
  | exact (gus_b (r := m38 fs) (I := (itM fi_)) (Rl := mbl fn_ fz) (Rn := mbn fz) (i := a3) (sg := 0) (Or.inr (Or.inr (Or.inr q_38)))).1
  | exact (gus_b (r := m38 fs) (I := (fun _ _ => 0)) (Rl := mbl fn_ fz) (Rn := mbn fz) (i := a3) (sg := ms) (Or.inr (Or.inr (Or.inr q_38)))).2
  | exact tri_r (guM_g (I := (itM fi_)) (sg := 0) (i := a3) hM hln9 hsz9 hj_6 gs_m hj_10 q_14 hj_14).1 (hr_0 (sg := 0) (by rw [← e_18]; exact c_19)).1 (by decide)
  | exact ((guM_g (I := (fun _ _ => 0)) (sg := ms) (i := a3) hM hln9 hsz9 hj_6 gs_m hj_10 q_14 hj_14).2.trans (hr_0 (by rw [← e_18]; exact c_19)).2).symm
  | exact tri_r (guM_g (I := (itM fi_)) (sg := 0) (i := a3) hM hln9 hsz9 hj_6 gs_m hj_10 q_14 hj_14).1 (hr_1 (sg := 0) e_18.symm f_20_1_0).1 (by decide)
  | exact hF_20_0.trans ((lk_1 f_20_1_0).symm.trans ((guM_g (I := (fun _ _ => 0)) (sg := ms) (i := a3) hM hln9 hsz9 hj_6 gs_m hj_10 q_14 hj_14).2.trans (hr_1 e_18.symm f_20_1_0).2).symm)
  | exact tri_r (guM_g (I := (itM fi_)) (sg := 0) (i := a3) hM hln9 hsz9 hj_6 gs_m hj_10 q_14 hj_14).1 (hr_2 (sg := 0) e_18.symm f_20_2_0 f_20_2_1).1 (by decide)
  | exact hF_20_0.trans ((lk_2 f_20_2_0 f_20_2_1).symm.trans ((guM_g (I := (fun _ _ => 0)) (sg := ms) (i := a3) hM hln9 hsz9 hj_6 gs_m hj_10 q_14 hj_14).2.trans (hr_2 e_18.symm f_20_2_0 f_20_2_1).2).symm)
  | exact tri_r (guM_g (I := (itM fi_)) (sg := 0) (i := a3) hM hln9 hsz9 hj_30 (gs_n (r := m38 fs) hM.1 hM.2.2.2.1 hj_3) hj_34 q_38 hj_38).1 (hr_0 (sg := 0) (by rw [← e_42]; exact c_43)).1 (by decide)
  | exact ((guM_g (I := (fun _ _ => 0)) (sg := ms) (i := a3) hM hln9 hsz9 hj_30 (gs_n (r := m38 fs) hM.1 hM.2.2.2.1 hj_3) hj_34 q_38 hj_38).2.trans (hr_0 (by rw [← e_42]; exact c_43)).2).symm
  | exact tri_r (guM_g (I := (itM fi_)) (sg := 0) (i := a3) hM hln9 hsz9 hj_30 (gs_n (r := m38 fs) hM.1 hM.2.2.2.1 hj_3) hj_34 q_38 hj_38).1 (hr_1 (sg := 0) e_42.symm f_44_1_0).1 (by decide)
  | exact hF_44_0.trans ((lk_1 f_44_1_0).symm.trans ((guM_g (I := (fun _ _ => 0)) (sg := ms) (i := a3) hM hln9 hsz9 hj_30 (gs_n (r := m38 fs) hM.1 hM.2.2.2.1 hj_3) hj_34 q_38 hj_38).2.trans (hr_1 e_42.symm f_44_1_0).2).symm)
  | exact tri_r (guM_g (I := (itM fi_)) (sg := 0) (i := a3) hM hln9 hsz9 hj_30 (gs_n (r := m38 fs) hM.1 hM.2.2.2.1 hj_3) hj_34 q_38 hj_38).1 (hr_2 (sg := 0) e_42.symm f_44_2_0 f_44_2_1).1 (by decide)
  | exact hF_44_0.trans ((lk_2 f_44_2_0 f_44_2_1).symm.trans ((guM_g (I := (fun _ _ => 0)) (sg := ms) (i := a3) hM hln9 hsz9 hj_30 (gs_n (r := m38 fs) hM.1 hM.2.2.2.1 hj_3) hj_34 q_38 hj_38).2.trans (hr_2 e_42.symm f_44_2_0 f_44_2_1).2).symm)
  | exact hF_26_2.trans ((guM_g (I := (fun _ _ => 0)) (sg := ms) (i := (nI pa_21)) hM hln9 hsz9 hj_6 gs_m hj_10 q_14 hj_14).2.trans (hr_3 (sg := ms) e_18.symm f_20_0_0 f_20_0_1).2).symm
  | exact h_26.trans ((clM_fit hj_10 (by omega)).trans (tri_0 (guM_g (I := (itM fi_)) (sg := 0) (i := (nI pa_21)) hM hln9 hsz9 hj_6 gs_m hj_10 q_14 hj_14).1 (hr_3 (sg := 0) e_18.symm f_20_0_0 f_20_0_1).1 rfl))
  | exact hF_51_2.trans ((guM_g (I := (fun _ _ => 0)) (sg := ms) (i := (nI pa_45)) hM hln9 hsz9 hj_30 (gs_n (r := m38 fs) hM.1 hM.2.2.2.1 hj_3) hj_34 q_38 hj_38).2.trans (hr_3 (sg := ms) e_42.symm f_44_0_0 f_44_0_1).2).symm
  | exact h_51.trans ((clM_fit hj_34 (by omega)).trans ((cl_w (by omega)).trans (tri_1 (guM_g (I := (itM fi_)) (sg := 0) (i := (nI pa_45)) hM hln9 hsz9 hj_30 (gs_n (r := m38 fs) hM.1 hM.2.2.2.1 hj_3) hj_34 q_38 hj_38).1 (hr_3 (sg := 0) e_42.symm f_44_0_0 f_44_0_1).1 (gs_ne (by omega)))))
theorem lf_X8_gusts_17 {ms : Int32} {mt : Int32} {ma : Nat} {fs : Nat → Int32} {w9 : Nat} {k9 : Nat} {h9 : Nat} {fz : Nat → Int32} {fn_ : Nat → Int32} {a1 : Int32} {a2 : Int32} {a3 : Int32} {a4 : Int32} {v_2 : Int32} {j_3 : Nat} (hM : okM fs w9 k9 h9) (hT : ¬ mt = 0 → 1 ≤ k9) (h999 : h9 ≤ 999) (hT0 : mt = 0 → fs 0 = 0 ∧ ma = 0) (hsz9 : ∀ j : Nat, j < 8 → fz j = -1 ∨ ∃ q : Nat, q ≤ 40 ∧ fz j = nI q) (hln9 : ∀ j : Nat, j < 8 → ¬ fz j = -1 → ¬ fn_ j = -1) (e_2 : v_2 = ((nI w9) - 1)) (f_3_1_0 : (¬ (((nI j_3)).toInt64 < (-1) ∨ (v_2).toInt64 < ((nI j_3)).toInt64))) (q_3 : ¬ ((nI j_3) < (-1) ∨ v_2 < (nI j_3))) (hj_3 : j_3 < w9) (f_30_0_0 : ¬ sB (nI k9) a1) : ms = f_gus (m38 fs) (mbl fn_ fz) (mbn fz) (nI j_3) a1 a2 a3 a4 ms := by
  have hw6 := hM.2.2.2.1
  first
  | exact (gus_b (r := m38 fs) (I := (itM fi_)) (Rl := mbl fn_ fz) (Rn := mbn fz) (i := a3) (sg := 0) (Or.inl (gsM_b hM e_2 q_3))).1
  | exact (gus_b (r := m38 fs) (I := (fun _ _ => 0)) (Rl := mbl fn_ fz) (Rn := mbn fz) (i := a3) (sg := ms) (Or.inl (gsM_b hM e_2 q_3))).2
  | exact (gus_b (r := m38 fs) (I := (itM fi_)) (Rl := mbl fn_ fz) (Rn := mbn fz) (i := a3) (sg := 0) (Or.inr (Or.inl (whM_b1 hM.2.1 f_6_0_0)))).1
  | exact (gus_b (r := m38 fs) (I := (fun _ _ => 0)) (Rl := mbl fn_ fz) (Rn := mbn fz) (i := a3) (sg := ms) (Or.inr (Or.inl (whM_b1 hM.2.1 f_6_0_0)))).2
  | exact (gus_b (r := m38 fs) (I := (itM fi_)) (Rl := mbl fn_ fz) (Rn := mbn fz) (i := a3) (sg := 0) (Or.inr (Or.inr (Or.inl f_10_0_0)))).1
  | exact (gus_b (r := m38 fs) (I := (fun _ _ => 0)) (Rl := mbl fn_ fz) (Rn := mbn fz) (i := a3) (sg := ms) (Or.inr (Or.inr (Or.inl f_10_0_0)))).2
  | exact (gus_b (r := m38 fs) (I := (itM fi_)) (Rl := mbl fn_ fz) (Rn := mbn fz) (i := a3) (sg := 0) (Or.inr (Or.inr (Or.inr q_14)))).1
  | exact (gus_b (r := m38 fs) (I := (fun _ _ => 0)) (Rl := mbl fn_ fz) (Rn := mbn fz) (i := a3) (sg := ms) (Or.inr (Or.inr (Or.inr q_14)))).2
  | exact (gus_b (r := m38 fs) (I := (itM fi_)) (Rl := mbl fn_ fz) (Rn := mbn fz) (i := a3) (sg := 0) (Or.inr (Or.inl (whM_b1 hM.2.1 f_30_0_0)))).1
  | exact (gus_b (r := m38 fs) (I := (fun _ _ => 0)) (Rl := mbl fn_ fz) (Rn := mbn fz) (i := a3) (sg := ms) (Or.inr (Or.inl (whM_b1 hM.2.1 f_30_0_0)))).2
  | exact (gus_b (r := m38 fs) (I := (itM fi_)) (Rl := mbl fn_ fz) (Rn := mbn fz) (i := a3) (sg := 0) (Or.inr (Or.inr (Or.inl f_34_0_0)))).1
  | exact (gus_b (r := m38 fs) (I := (fun _ _ => 0)) (Rl := mbl fn_ fz) (Rn := mbn fz) (i := a3) (sg := ms) (Or.inr (Or.inr (Or.inl f_34_0_0)))).2
  | exact (gus_b (r := m38 fs) (I := (itM fi_)) (Rl := mbl fn_ fz) (Rn := mbn fz) (i := a3) (sg := 0) (Or.inr (Or.inr (Or.inr q_38)))).1
  | exact (gus_b (r := m38 fs) (I := (fun _ _ => 0)) (Rl := mbl fn_ fz) (Rn := mbn fz) (i := a3) (sg := ms) (Or.inr (Or.inr (Or.inr q_38)))).2
  | exact tri_r (guM_g (I := (itM fi_)) (sg := 0) (i := a3) hM hln9 hsz9 hj_6 gs_m hj_10 q_14 hj_14).1 (hr_0 (sg := 0) (by rw [← e_18]; exact c_19)).1 (by decide)
  | exact ((guM_g (I := (fun _ _ => 0)) (sg := ms) (i := a3) hM hln9 hsz9 hj_6 gs_m hj_10 q_14 hj_14).2.trans (hr_0 (by rw [← e_18]; exact c_19)).2).symm
  | exact tri_r (guM_g (I := (itM fi_)) (sg := 0) (i := a3) hM hln9 hsz9 hj_6 gs_m hj_10 q_14 hj_14).1 (hr_1 (sg := 0) e_18.symm f_20_1_0).1 (by decide)
  | exact hF_20_0.trans ((lk_1 f_20_1_0).symm.trans ((guM_g (I := (fun _ _ => 0)) (sg := ms) (i := a3) hM hln9 hsz9 hj_6 gs_m hj_10 q_14 hj_14).2.trans (hr_1 e_18.symm f_20_1_0).2).symm)
  | exact tri_r (guM_g (I := (itM fi_)) (sg := 0) (i := a3) hM hln9 hsz9 hj_6 gs_m hj_10 q_14 hj_14).1 (hr_2 (sg := 0) e_18.symm f_20_2_0 f_20_2_1).1 (by decide)
  | exact hF_20_0.trans ((lk_2 f_20_2_0 f_20_2_1).symm.trans ((guM_g (I := (fun _ _ => 0)) (sg := ms) (i := a3) hM hln9 hsz9 hj_6 gs_m hj_10 q_14 hj_14).2.trans (hr_2 e_18.symm f_20_2_0 f_20_2_1).2).symm)
  | exact tri_r (guM_g (I := (itM fi_)) (sg := 0) (i := a3) hM hln9 hsz9 hj_30 (gs_n (r := m38 fs) hM.1 hM.2.2.2.1 hj_3) hj_34 q_38 hj_38).1 (hr_0 (sg := 0) (by rw [← e_42]; exact c_43)).1 (by decide)
  | exact ((guM_g (I := (fun _ _ => 0)) (sg := ms) (i := a3) hM hln9 hsz9 hj_30 (gs_n (r := m38 fs) hM.1 hM.2.2.2.1 hj_3) hj_34 q_38 hj_38).2.trans (hr_0 (by rw [← e_42]; exact c_43)).2).symm
  | exact tri_r (guM_g (I := (itM fi_)) (sg := 0) (i := a3) hM hln9 hsz9 hj_30 (gs_n (r := m38 fs) hM.1 hM.2.2.2.1 hj_3) hj_34 q_38 hj_38).1 (hr_1 (sg := 0) e_42.symm f_44_1_0).1 (by decide)
  | exact hF_44_0.trans ((lk_1 f_44_1_0).symm.trans ((guM_g (I := (fun _ _ => 0)) (sg := ms) (i := a3) hM hln9 hsz9 hj_30 (gs_n (r := m38 fs) hM.1 hM.2.2.2.1 hj_3) hj_34 q_38 hj_38).2.trans (hr_1 e_42.symm f_44_1_0).2).symm)
  | exact tri_r (guM_g (I := (itM fi_)) (sg := 0) (i := a3) hM hln9 hsz9 hj_30 (gs_n (r := m38 fs) hM.1 hM.2.2.2.1 hj_3) hj_34 q_38 hj_38).1 (hr_2 (sg := 0) e_42.symm f_44_2_0 f_44_2_1).1 (by decide)
  | exact hF_44_0.trans ((lk_2 f_44_2_0 f_44_2_1).symm.trans ((guM_g (I := (fun _ _ => 0)) (sg := ms) (i := a3) hM hln9 hsz9 hj_30 (gs_n (r := m38 fs) hM.1 hM.2.2.2.1 hj_3) hj_34 q_38 hj_38).2.trans (hr_2 e_42.symm f_44_2_0 f_44_2_1).2).symm)
  | exact hF_26_2.trans ((guM_g (I := (fun _ _ => 0)) (sg := ms) (i := (nI pa_21)) hM hln9 hsz9 hj_6 gs_m hj_10 q_14 hj_14).2.trans (hr_3 (sg := ms) e_18.symm f_20_0_0 f_20_0_1).2).symm
  | exact h_26.trans ((clM_fit hj_10 (by omega)).trans (tri_0 (guM_g (I := (itM fi_)) (sg := 0) (i := (nI pa_21)) hM hln9 hsz9 hj_6 gs_m hj_10 q_14 hj_14).1 (hr_3 (sg := 0) e_18.symm f_20_0_0 f_20_0_1).1 rfl))
  | exact hF_51_2.trans ((guM_g (I := (fun _ _ => 0)) (sg := ms) (i := (nI pa_45)) hM hln9 hsz9 hj_30 (gs_n (r := m38 fs) hM.1 hM.2.2.2.1 hj_3) hj_34 q_38 hj_38).2.trans (hr_3 (sg := ms) e_42.symm f_44_0_0 f_44_0_1).2).symm
  | exact h_51.trans ((clM_fit hj_34 (by omega)).trans ((cl_w (by omega)).trans (tri_1 (guM_g (I := (itM fi_)) (sg := 0) (i := (nI pa_45)) hM hln9 hsz9 hj_30 (gs_n (r := m38 fs) hM.1 hM.2.2.2.1 hj_3) hj_34 q_38 hj_38).1 (hr_3 (sg := 0) e_42.symm f_44_0_0 f_44_0_1).1 (gs_ne (by omega)))))
theorem lf_X8_gusts_18 {mt : Int32} {ma : Nat} {fs : Nat → Int32} {w9 : Nat} {k9 : Nat} {h9 : Nat} {fi_ : Nat → Int32} {fz : Nat → Int32} {fn_ : Nat → Int32} {a1 : Int32} {a2 : Int32} {a3 : Int32} {a4 : Int32} {v_2 : Int32} {j_3 : Nat} (hM : okM fs w9 k9 h9) (hT : ¬ mt = 0 → 1 ≤ k9) (h999 : h9 ≤ 999) (hT0 : mt = 0 → fs 0 = 0 ∧ ma = 0) (hsz9 : ∀ j : Nat, j < 8 → fz j = -1 ∨ ∃ q : Nat, q ≤ 40 ∧ fz j = nI q) (hln9 : ∀ j : Nat, j < 8 → ¬ fz j = -1 → ¬ fn_ j = -1) (e_2 : v_2 = ((nI w9) - 1)) (f_3_1_0 : (¬ (((nI j_3)).toInt64 < (-1) ∨ (v_2).toInt64 < ((nI j_3)).toInt64))) (q_3 : ¬ ((nI j_3) < (-1) ∨ v_2 < (nI j_3))) (hj_3 : j_3 < w9) (f_30_0_0 : ¬ sB (nI k9) a1) : (-1000001) = (a_gus (m38 fs) (mbl fn_ fz) (mbn fz) (itM fi_) (nI j_3) a1 a2 a3 a4) := by
  have hw6 := hM.2.2.2.1
  first
  | exact (gus_b (r := m38 fs) (I := (itM fi_)) (Rl := mbl fn_ fz) (Rn := mbn fz) (i := a3) (sg := 0) (Or.inl (gsM_b hM e_2 q_3))).1
  | exact (gus_b (r := m38 fs) (I := (fun _ _ => 0)) (Rl := mbl fn_ fz) (Rn := mbn fz) (i := a3) (sg := ms) (Or.inl (gsM_b hM e_2 q_3))).2
  | exact (gus_b (r := m38 fs) (I := (itM fi_)) (Rl := mbl fn_ fz) (Rn := mbn fz) (i := a3) (sg := 0) (Or.inr (Or.inl (whM_b1 hM.2.1 f_6_0_0)))).1
  | exact (gus_b (r := m38 fs) (I := (fun _ _ => 0)) (Rl := mbl fn_ fz) (Rn := mbn fz) (i := a3) (sg := ms) (Or.inr (Or.inl (whM_b1 hM.2.1 f_6_0_0)))).2
  | exact (gus_b (r := m38 fs) (I := (itM fi_)) (Rl := mbl fn_ fz) (Rn := mbn fz) (i := a3) (sg := 0) (Or.inr (Or.inr (Or.inl f_10_0_0)))).1
  | exact (gus_b (r := m38 fs) (I := (fun _ _ => 0)) (Rl := mbl fn_ fz) (Rn := mbn fz) (i := a3) (sg := ms) (Or.inr (Or.inr (Or.inl f_10_0_0)))).2
  | exact (gus_b (r := m38 fs) (I := (itM fi_)) (Rl := mbl fn_ fz) (Rn := mbn fz) (i := a3) (sg := 0) (Or.inr (Or.inr (Or.inr q_14)))).1
  | exact (gus_b (r := m38 fs) (I := (fun _ _ => 0)) (Rl := mbl fn_ fz) (Rn := mbn fz) (i := a3) (sg := ms) (Or.inr (Or.inr (Or.inr q_14)))).2
  | exact (gus_b (r := m38 fs) (I := (itM fi_)) (Rl := mbl fn_ fz) (Rn := mbn fz) (i := a3) (sg := 0) (Or.inr (Or.inl (whM_b1 hM.2.1 f_30_0_0)))).1
  | exact (gus_b (r := m38 fs) (I := (fun _ _ => 0)) (Rl := mbl fn_ fz) (Rn := mbn fz) (i := a3) (sg := ms) (Or.inr (Or.inl (whM_b1 hM.2.1 f_30_0_0)))).2
  | exact (gus_b (r := m38 fs) (I := (itM fi_)) (Rl := mbl fn_ fz) (Rn := mbn fz) (i := a3) (sg := 0) (Or.inr (Or.inr (Or.inl f_34_0_0)))).1
  | exact (gus_b (r := m38 fs) (I := (fun _ _ => 0)) (Rl := mbl fn_ fz) (Rn := mbn fz) (i := a3) (sg := ms) (Or.inr (Or.inr (Or.inl f_34_0_0)))).2
  | exact (gus_b (r := m38 fs) (I := (itM fi_)) (Rl := mbl fn_ fz) (Rn := mbn fz) (i := a3) (sg := 0) (Or.inr (Or.inr (Or.inr q_38)))).1
  | exact (gus_b (r := m38 fs) (I := (fun _ _ => 0)) (Rl := mbl fn_ fz) (Rn := mbn fz) (i := a3) (sg := ms) (Or.inr (Or.inr (Or.inr q_38)))).2
  | exact tri_r (guM_g (I := (itM fi_)) (sg := 0) (i := a3) hM hln9 hsz9 hj_6 gs_m hj_10 q_14 hj_14).1 (hr_0 (sg := 0) (by rw [← e_18]; exact c_19)).1 (by decide)
  | exact ((guM_g (I := (fun _ _ => 0)) (sg := ms) (i := a3) hM hln9 hsz9 hj_6 gs_m hj_10 q_14 hj_14).2.trans (hr_0 (by rw [← e_18]; exact c_19)).2).symm
  | exact tri_r (guM_g (I := (itM fi_)) (sg := 0) (i := a3) hM hln9 hsz9 hj_6 gs_m hj_10 q_14 hj_14).1 (hr_1 (sg := 0) e_18.symm f_20_1_0).1 (by decide)
  | exact hF_20_0.trans ((lk_1 f_20_1_0).symm.trans ((guM_g (I := (fun _ _ => 0)) (sg := ms) (i := a3) hM hln9 hsz9 hj_6 gs_m hj_10 q_14 hj_14).2.trans (hr_1 e_18.symm f_20_1_0).2).symm)
  | exact tri_r (guM_g (I := (itM fi_)) (sg := 0) (i := a3) hM hln9 hsz9 hj_6 gs_m hj_10 q_14 hj_14).1 (hr_2 (sg := 0) e_18.symm f_20_2_0 f_20_2_1).1 (by decide)
  | exact hF_20_0.trans ((lk_2 f_20_2_0 f_20_2_1).symm.trans ((guM_g (I := (fun _ _ => 0)) (sg := ms) (i := a3) hM hln9 hsz9 hj_6 gs_m hj_10 q_14 hj_14).2.trans (hr_2 e_18.symm f_20_2_0 f_20_2_1).2).symm)
  | exact tri_r (guM_g (I := (itM fi_)) (sg := 0) (i := a3) hM hln9 hsz9 hj_30 (gs_n (r := m38 fs) hM.1 hM.2.2.2.1 hj_3) hj_34 q_38 hj_38).1 (hr_0 (sg := 0) (by rw [← e_42]; exact c_43)).1 (by decide)
  | exact ((guM_g (I := (fun _ _ => 0)) (sg := ms) (i := a3) hM hln9 hsz9 hj_30 (gs_n (r := m38 fs) hM.1 hM.2.2.2.1 hj_3) hj_34 q_38 hj_38).2.trans (hr_0 (by rw [← e_42]; exact c_43)).2).symm
  | exact tri_r (guM_g (I := (itM fi_)) (sg := 0) (i := a3) hM hln9 hsz9 hj_30 (gs_n (r := m38 fs) hM.1 hM.2.2.2.1 hj_3) hj_34 q_38 hj_38).1 (hr_1 (sg := 0) e_42.symm f_44_1_0).1 (by decide)
  | exact hF_44_0.trans ((lk_1 f_44_1_0).symm.trans ((guM_g (I := (fun _ _ => 0)) (sg := ms) (i := a3) hM hln9 hsz9 hj_30 (gs_n (r := m38 fs) hM.1 hM.2.2.2.1 hj_3) hj_34 q_38 hj_38).2.trans (hr_1 e_42.symm f_44_1_0).2).symm)
  | exact tri_r (guM_g (I := (itM fi_)) (sg := 0) (i := a3) hM hln9 hsz9 hj_30 (gs_n (r := m38 fs) hM.1 hM.2.2.2.1 hj_3) hj_34 q_38 hj_38).1 (hr_2 (sg := 0) e_42.symm f_44_2_0 f_44_2_1).1 (by decide)
  | exact hF_44_0.trans ((lk_2 f_44_2_0 f_44_2_1).symm.trans ((guM_g (I := (fun _ _ => 0)) (sg := ms) (i := a3) hM hln9 hsz9 hj_30 (gs_n (r := m38 fs) hM.1 hM.2.2.2.1 hj_3) hj_34 q_38 hj_38).2.trans (hr_2 e_42.symm f_44_2_0 f_44_2_1).2).symm)
  | exact hF_26_2.trans ((guM_g (I := (fun _ _ => 0)) (sg := ms) (i := (nI pa_21)) hM hln9 hsz9 hj_6 gs_m hj_10 q_14 hj_14).2.trans (hr_3 (sg := ms) e_18.symm f_20_0_0 f_20_0_1).2).symm
  | exact h_26.trans ((clM_fit hj_10 (by omega)).trans (tri_0 (guM_g (I := (itM fi_)) (sg := 0) (i := (nI pa_21)) hM hln9 hsz9 hj_6 gs_m hj_10 q_14 hj_14).1 (hr_3 (sg := 0) e_18.symm f_20_0_0 f_20_0_1).1 rfl))
  | exact hF_51_2.trans ((guM_g (I := (fun _ _ => 0)) (sg := ms) (i := (nI pa_45)) hM hln9 hsz9 hj_30 (gs_n (r := m38 fs) hM.1 hM.2.2.2.1 hj_3) hj_34 q_38 hj_38).2.trans (hr_3 (sg := ms) e_42.symm f_44_0_0 f_44_0_1).2).symm
  | exact h_51.trans ((clM_fit hj_34 (by omega)).trans ((cl_w (by omega)).trans (tri_1 (guM_g (I := (itM fi_)) (sg := 0) (i := (nI pa_45)) hM hln9 hsz9 hj_30 (gs_n (r := m38 fs) hM.1 hM.2.2.2.1 hj_3) hj_34 q_38 hj_38).1 (hr_3 (sg := 0) e_42.symm f_44_0_0 f_44_0_1).1 (gs_ne (by omega)))))
theorem lf_X8_gusts_19 {ms : Int32} {mt : Int32} {ma : Nat} {fs : Nat → Int32} {w9 : Nat} {k9 : Nat} {h9 : Nat} {fz : Nat → Int32} {fn_ : Nat → Int32} {a2 : Int32} {a3 : Int32} {a4 : Int32} {v_2 : Int32} {j_3 : Nat} {j_30 : Nat} (hM : okM fs w9 k9 h9) (hT : ¬ mt = 0 → 1 ≤ k9) (h999 : h9 ≤ 999) (hT0 : mt = 0 → fs 0 = 0 ∧ ma = 0) (hsz9 : ∀ j : Nat, j < 8 → fz j = -1 ∨ ∃ q : Nat, q ≤ 40 ∧ fz j = nI q) (hln9 : ∀ j : Nat, j < 8 → ¬ fz j = -1 → ¬ fn_ j = -1) (e_2 : v_2 = ((nI w9) - 1)) (f_3_1_0 : (¬ (((nI j_3)).toInt64 < (-1) ∨ (v_2).toInt64 < ((nI j_3)).toInt64))) (q_3 : ¬ ((nI j_3) < (-1) ∨ v_2 < (nI j_3))) (hj_3 : j_3 < w9) (hj_30 : j_30 < k9) (hkn1 : 1 ≤ k9) (hw1 : 1 ≤ w9) (h01 : ¬ fs 0 = 0) (f_34_0_0 : (a2 < 0 ∨ 8 ≤ a2)) : ms = f_gus (m38 fs) (mbl fn_ fz) (mbn fz) (nI j_3) (nI j_30) a2 a3 a4 ms := by
  have hw6 := hM.2.2.2.1
  first
  | exact (gus_b (r := m38 fs) (I := (itM fi_)) (Rl := mbl fn_ fz) (Rn := mbn fz) (i := a3) (sg := 0) (Or.inl (gsM_b hM e_2 q_3))).1
  | exact (gus_b (r := m38 fs) (I := (fun _ _ => 0)) (Rl := mbl fn_ fz) (Rn := mbn fz) (i := a3) (sg := ms) (Or.inl (gsM_b hM e_2 q_3))).2
  | exact (gus_b (r := m38 fs) (I := (itM fi_)) (Rl := mbl fn_ fz) (Rn := mbn fz) (i := a3) (sg := 0) (Or.inr (Or.inl (whM_b1 hM.2.1 f_6_0_0)))).1
  | exact (gus_b (r := m38 fs) (I := (fun _ _ => 0)) (Rl := mbl fn_ fz) (Rn := mbn fz) (i := a3) (sg := ms) (Or.inr (Or.inl (whM_b1 hM.2.1 f_6_0_0)))).2
  | exact (gus_b (r := m38 fs) (I := (itM fi_)) (Rl := mbl fn_ fz) (Rn := mbn fz) (i := a3) (sg := 0) (Or.inr (Or.inr (Or.inl f_10_0_0)))).1
  | exact (gus_b (r := m38 fs) (I := (fun _ _ => 0)) (Rl := mbl fn_ fz) (Rn := mbn fz) (i := a3) (sg := ms) (Or.inr (Or.inr (Or.inl f_10_0_0)))).2
  | exact (gus_b (r := m38 fs) (I := (itM fi_)) (Rl := mbl fn_ fz) (Rn := mbn fz) (i := a3) (sg := 0) (Or.inr (Or.inr (Or.inr q_14)))).1
  | exact (gus_b (r := m38 fs) (I := (fun _ _ => 0)) (Rl := mbl fn_ fz) (Rn := mbn fz) (i := a3) (sg := ms) (Or.inr (Or.inr (Or.inr q_14)))).2
  | exact (gus_b (r := m38 fs) (I := (itM fi_)) (Rl := mbl fn_ fz) (Rn := mbn fz) (i := a3) (sg := 0) (Or.inr (Or.inl (whM_b1 hM.2.1 f_30_0_0)))).1
  | exact (gus_b (r := m38 fs) (I := (fun _ _ => 0)) (Rl := mbl fn_ fz) (Rn := mbn fz) (i := a3) (sg := ms) (Or.inr (Or.inl (whM_b1 hM.2.1 f_30_0_0)))).2
  | exact (gus_b (r := m38 fs) (I := (itM fi_)) (Rl := mbl fn_ fz) (Rn := mbn fz) (i := a3) (sg := 0) (Or.inr (Or.inr (Or.inl f_34_0_0)))).1
  | exact (gus_b (r := m38 fs) (I := (fun _ _ => 0)) (Rl := mbl fn_ fz) (Rn := mbn fz) (i := a3) (sg := ms) (Or.inr (Or.inr (Or.inl f_34_0_0)))).2
  | exact (gus_b (r := m38 fs) (I := (itM fi_)) (Rl := mbl fn_ fz) (Rn := mbn fz) (i := a3) (sg := 0) (Or.inr (Or.inr (Or.inr q_38)))).1
  | exact (gus_b (r := m38 fs) (I := (fun _ _ => 0)) (Rl := mbl fn_ fz) (Rn := mbn fz) (i := a3) (sg := ms) (Or.inr (Or.inr (Or.inr q_38)))).2
  | exact tri_r (guM_g (I := (itM fi_)) (sg := 0) (i := a3) hM hln9 hsz9 hj_6 gs_m hj_10 q_14 hj_14).1 (hr_0 (sg := 0) (by rw [← e_18]; exact c_19)).1 (by decide)
  | exact ((guM_g (I := (fun _ _ => 0)) (sg := ms) (i := a3) hM hln9 hsz9 hj_6 gs_m hj_10 q_14 hj_14).2.trans (hr_0 (by rw [← e_18]; exact c_19)).2).symm
  | exact tri_r (guM_g (I := (itM fi_)) (sg := 0) (i := a3) hM hln9 hsz9 hj_6 gs_m hj_10 q_14 hj_14).1 (hr_1 (sg := 0) e_18.symm f_20_1_0).1 (by decide)
  | exact hF_20_0.trans ((lk_1 f_20_1_0).symm.trans ((guM_g (I := (fun _ _ => 0)) (sg := ms) (i := a3) hM hln9 hsz9 hj_6 gs_m hj_10 q_14 hj_14).2.trans (hr_1 e_18.symm f_20_1_0).2).symm)
  | exact tri_r (guM_g (I := (itM fi_)) (sg := 0) (i := a3) hM hln9 hsz9 hj_6 gs_m hj_10 q_14 hj_14).1 (hr_2 (sg := 0) e_18.symm f_20_2_0 f_20_2_1).1 (by decide)
  | exact hF_20_0.trans ((lk_2 f_20_2_0 f_20_2_1).symm.trans ((guM_g (I := (fun _ _ => 0)) (sg := ms) (i := a3) hM hln9 hsz9 hj_6 gs_m hj_10 q_14 hj_14).2.trans (hr_2 e_18.symm f_20_2_0 f_20_2_1).2).symm)
  | exact tri_r (guM_g (I := (itM fi_)) (sg := 0) (i := a3) hM hln9 hsz9 hj_30 (gs_n (r := m38 fs) hM.1 hM.2.2.2.1 hj_3) hj_34 q_38 hj_38).1 (hr_0 (sg := 0) (by rw [← e_42]; exact c_43)).1 (by decide)
  | exact ((guM_g (I := (fun _ _ => 0)) (sg := ms) (i := a3) hM hln9 hsz9 hj_30 (gs_n (r := m38 fs) hM.1 hM.2.2.2.1 hj_3) hj_34 q_38 hj_38).2.trans (hr_0 (by rw [← e_42]; exact c_43)).2).symm
  | exact tri_r (guM_g (I := (itM fi_)) (sg := 0) (i := a3) hM hln9 hsz9 hj_30 (gs_n (r := m38 fs) hM.1 hM.2.2.2.1 hj_3) hj_34 q_38 hj_38).1 (hr_1 (sg := 0) e_42.symm f_44_1_0).1 (by decide)
  | exact hF_44_0.trans ((lk_1 f_44_1_0).symm.trans ((guM_g (I := (fun _ _ => 0)) (sg := ms) (i := a3) hM hln9 hsz9 hj_30 (gs_n (r := m38 fs) hM.1 hM.2.2.2.1 hj_3) hj_34 q_38 hj_38).2.trans (hr_1 e_42.symm f_44_1_0).2).symm)
  | exact tri_r (guM_g (I := (itM fi_)) (sg := 0) (i := a3) hM hln9 hsz9 hj_30 (gs_n (r := m38 fs) hM.1 hM.2.2.2.1 hj_3) hj_34 q_38 hj_38).1 (hr_2 (sg := 0) e_42.symm f_44_2_0 f_44_2_1).1 (by decide)
  | exact hF_44_0.trans ((lk_2 f_44_2_0 f_44_2_1).symm.trans ((guM_g (I := (fun _ _ => 0)) (sg := ms) (i := a3) hM hln9 hsz9 hj_30 (gs_n (r := m38 fs) hM.1 hM.2.2.2.1 hj_3) hj_34 q_38 hj_38).2.trans (hr_2 e_42.symm f_44_2_0 f_44_2_1).2).symm)
  | exact hF_26_2.trans ((guM_g (I := (fun _ _ => 0)) (sg := ms) (i := (nI pa_21)) hM hln9 hsz9 hj_6 gs_m hj_10 q_14 hj_14).2.trans (hr_3 (sg := ms) e_18.symm f_20_0_0 f_20_0_1).2).symm
  | exact h_26.trans ((clM_fit hj_10 (by omega)).trans (tri_0 (guM_g (I := (itM fi_)) (sg := 0) (i := (nI pa_21)) hM hln9 hsz9 hj_6 gs_m hj_10 q_14 hj_14).1 (hr_3 (sg := 0) e_18.symm f_20_0_0 f_20_0_1).1 rfl))
  | exact hF_51_2.trans ((guM_g (I := (fun _ _ => 0)) (sg := ms) (i := (nI pa_45)) hM hln9 hsz9 hj_30 (gs_n (r := m38 fs) hM.1 hM.2.2.2.1 hj_3) hj_34 q_38 hj_38).2.trans (hr_3 (sg := ms) e_42.symm f_44_0_0 f_44_0_1).2).symm
  | exact h_51.trans ((clM_fit hj_34 (by omega)).trans ((cl_w (by omega)).trans (tri_1 (guM_g (I := (itM fi_)) (sg := 0) (i := (nI pa_45)) hM hln9 hsz9 hj_30 (gs_n (r := m38 fs) hM.1 hM.2.2.2.1 hj_3) hj_34 q_38 hj_38).1 (hr_3 (sg := 0) e_42.symm f_44_0_0 f_44_0_1).1 (gs_ne (by omega)))))
theorem lf_X8_gusts_20 {mt : Int32} {ma : Nat} {fs : Nat → Int32} {w9 : Nat} {k9 : Nat} {h9 : Nat} {fi_ : Nat → Int32} {fz : Nat → Int32} {fn_ : Nat → Int32} {a2 : Int32} {a3 : Int32} {a4 : Int32} {v_2 : Int32} {j_3 : Nat} {j_30 : Nat} (hM : okM fs w9 k9 h9) (hT : ¬ mt = 0 → 1 ≤ k9) (h999 : h9 ≤ 999) (hT0 : mt = 0 → fs 0 = 0 ∧ ma = 0) (hsz9 : ∀ j : Nat, j < 8 → fz j = -1 ∨ ∃ q : Nat, q ≤ 40 ∧ fz j = nI q) (hln9 : ∀ j : Nat, j < 8 → ¬ fz j = -1 → ¬ fn_ j = -1) (e_2 : v_2 = ((nI w9) - 1)) (f_3_1_0 : (¬ (((nI j_3)).toInt64 < (-1) ∨ (v_2).toInt64 < ((nI j_3)).toInt64))) (q_3 : ¬ ((nI j_3) < (-1) ∨ v_2 < (nI j_3))) (hj_3 : j_3 < w9) (hj_30 : j_30 < k9) (hkn1 : 1 ≤ k9) (hw1 : 1 ≤ w9) (h01 : ¬ fs 0 = 0) (f_34_0_0 : (a2 < 0 ∨ 8 ≤ a2)) : (-1000001) = (a_gus (m38 fs) (mbl fn_ fz) (mbn fz) (itM fi_) (nI j_3) (nI j_30) a2 a3 a4) := by
  have hw6 := hM.2.2.2.1
  first
  | exact (gus_b (r := m38 fs) (I := (itM fi_)) (Rl := mbl fn_ fz) (Rn := mbn fz) (i := a3) (sg := 0) (Or.inl (gsM_b hM e_2 q_3))).1
  | exact (gus_b (r := m38 fs) (I := (fun _ _ => 0)) (Rl := mbl fn_ fz) (Rn := mbn fz) (i := a3) (sg := ms) (Or.inl (gsM_b hM e_2 q_3))).2
  | exact (gus_b (r := m38 fs) (I := (itM fi_)) (Rl := mbl fn_ fz) (Rn := mbn fz) (i := a3) (sg := 0) (Or.inr (Or.inl (whM_b1 hM.2.1 f_6_0_0)))).1
  | exact (gus_b (r := m38 fs) (I := (fun _ _ => 0)) (Rl := mbl fn_ fz) (Rn := mbn fz) (i := a3) (sg := ms) (Or.inr (Or.inl (whM_b1 hM.2.1 f_6_0_0)))).2
  | exact (gus_b (r := m38 fs) (I := (itM fi_)) (Rl := mbl fn_ fz) (Rn := mbn fz) (i := a3) (sg := 0) (Or.inr (Or.inr (Or.inl f_10_0_0)))).1
  | exact (gus_b (r := m38 fs) (I := (fun _ _ => 0)) (Rl := mbl fn_ fz) (Rn := mbn fz) (i := a3) (sg := ms) (Or.inr (Or.inr (Or.inl f_10_0_0)))).2
  | exact (gus_b (r := m38 fs) (I := (itM fi_)) (Rl := mbl fn_ fz) (Rn := mbn fz) (i := a3) (sg := 0) (Or.inr (Or.inr (Or.inr q_14)))).1
  | exact (gus_b (r := m38 fs) (I := (fun _ _ => 0)) (Rl := mbl fn_ fz) (Rn := mbn fz) (i := a3) (sg := ms) (Or.inr (Or.inr (Or.inr q_14)))).2
  | exact (gus_b (r := m38 fs) (I := (itM fi_)) (Rl := mbl fn_ fz) (Rn := mbn fz) (i := a3) (sg := 0) (Or.inr (Or.inl (whM_b1 hM.2.1 f_30_0_0)))).1
  | exact (gus_b (r := m38 fs) (I := (fun _ _ => 0)) (Rl := mbl fn_ fz) (Rn := mbn fz) (i := a3) (sg := ms) (Or.inr (Or.inl (whM_b1 hM.2.1 f_30_0_0)))).2
  | exact (gus_b (r := m38 fs) (I := (itM fi_)) (Rl := mbl fn_ fz) (Rn := mbn fz) (i := a3) (sg := 0) (Or.inr (Or.inr (Or.inl f_34_0_0)))).1
  | exact (gus_b (r := m38 fs) (I := (fun _ _ => 0)) (Rl := mbl fn_ fz) (Rn := mbn fz) (i := a3) (sg := ms) (Or.inr (Or.inr (Or.inl f_34_0_0)))).2
  | exact (gus_b (r := m38 fs) (I := (itM fi_)) (Rl := mbl fn_ fz) (Rn := mbn fz) (i := a3) (sg := 0) (Or.inr (Or.inr (Or.inr q_38)))).1
  | exact (gus_b (r := m38 fs) (I := (fun _ _ => 0)) (Rl := mbl fn_ fz) (Rn := mbn fz) (i := a3) (sg := ms) (Or.inr (Or.inr (Or.inr q_38)))).2
  | exact tri_r (guM_g (I := (itM fi_)) (sg := 0) (i := a3) hM hln9 hsz9 hj_6 gs_m hj_10 q_14 hj_14).1 (hr_0 (sg := 0) (by rw [← e_18]; exact c_19)).1 (by decide)
  | exact ((guM_g (I := (fun _ _ => 0)) (sg := ms) (i := a3) hM hln9 hsz9 hj_6 gs_m hj_10 q_14 hj_14).2.trans (hr_0 (by rw [← e_18]; exact c_19)).2).symm
  | exact tri_r (guM_g (I := (itM fi_)) (sg := 0) (i := a3) hM hln9 hsz9 hj_6 gs_m hj_10 q_14 hj_14).1 (hr_1 (sg := 0) e_18.symm f_20_1_0).1 (by decide)
  | exact hF_20_0.trans ((lk_1 f_20_1_0).symm.trans ((guM_g (I := (fun _ _ => 0)) (sg := ms) (i := a3) hM hln9 hsz9 hj_6 gs_m hj_10 q_14 hj_14).2.trans (hr_1 e_18.symm f_20_1_0).2).symm)
  | exact tri_r (guM_g (I := (itM fi_)) (sg := 0) (i := a3) hM hln9 hsz9 hj_6 gs_m hj_10 q_14 hj_14).1 (hr_2 (sg := 0) e_18.symm f_20_2_0 f_20_2_1).1 (by decide)
  | exact hF_20_0.trans ((lk_2 f_20_2_0 f_20_2_1).symm.trans ((guM_g (I := (fun _ _ => 0)) (sg := ms) (i := a3) hM hln9 hsz9 hj_6 gs_m hj_10 q_14 hj_14).2.trans (hr_2 e_18.symm f_20_2_0 f_20_2_1).2).symm)
  | exact tri_r (guM_g (I := (itM fi_)) (sg := 0) (i := a3) hM hln9 hsz9 hj_30 (gs_n (r := m38 fs) hM.1 hM.2.2.2.1 hj_3) hj_34 q_38 hj_38).1 (hr_0 (sg := 0) (by rw [← e_42]; exact c_43)).1 (by decide)
  | exact ((guM_g (I := (fun _ _ => 0)) (sg := ms) (i := a3) hM hln9 hsz9 hj_30 (gs_n (r := m38 fs) hM.1 hM.2.2.2.1 hj_3) hj_34 q_38 hj_38).2.trans (hr_0 (by rw [← e_42]; exact c_43)).2).symm
  | exact tri_r (guM_g (I := (itM fi_)) (sg := 0) (i := a3) hM hln9 hsz9 hj_30 (gs_n (r := m38 fs) hM.1 hM.2.2.2.1 hj_3) hj_34 q_38 hj_38).1 (hr_1 (sg := 0) e_42.symm f_44_1_0).1 (by decide)
  | exact hF_44_0.trans ((lk_1 f_44_1_0).symm.trans ((guM_g (I := (fun _ _ => 0)) (sg := ms) (i := a3) hM hln9 hsz9 hj_30 (gs_n (r := m38 fs) hM.1 hM.2.2.2.1 hj_3) hj_34 q_38 hj_38).2.trans (hr_1 e_42.symm f_44_1_0).2).symm)
  | exact tri_r (guM_g (I := (itM fi_)) (sg := 0) (i := a3) hM hln9 hsz9 hj_30 (gs_n (r := m38 fs) hM.1 hM.2.2.2.1 hj_3) hj_34 q_38 hj_38).1 (hr_2 (sg := 0) e_42.symm f_44_2_0 f_44_2_1).1 (by decide)
  | exact hF_44_0.trans ((lk_2 f_44_2_0 f_44_2_1).symm.trans ((guM_g (I := (fun _ _ => 0)) (sg := ms) (i := a3) hM hln9 hsz9 hj_30 (gs_n (r := m38 fs) hM.1 hM.2.2.2.1 hj_3) hj_34 q_38 hj_38).2.trans (hr_2 e_42.symm f_44_2_0 f_44_2_1).2).symm)
  | exact hF_26_2.trans ((guM_g (I := (fun _ _ => 0)) (sg := ms) (i := (nI pa_21)) hM hln9 hsz9 hj_6 gs_m hj_10 q_14 hj_14).2.trans (hr_3 (sg := ms) e_18.symm f_20_0_0 f_20_0_1).2).symm
  | exact h_26.trans ((clM_fit hj_10 (by omega)).trans (tri_0 (guM_g (I := (itM fi_)) (sg := 0) (i := (nI pa_21)) hM hln9 hsz9 hj_6 gs_m hj_10 q_14 hj_14).1 (hr_3 (sg := 0) e_18.symm f_20_0_0 f_20_0_1).1 rfl))
  | exact hF_51_2.trans ((guM_g (I := (fun _ _ => 0)) (sg := ms) (i := (nI pa_45)) hM hln9 hsz9 hj_30 (gs_n (r := m38 fs) hM.1 hM.2.2.2.1 hj_3) hj_34 q_38 hj_38).2.trans (hr_3 (sg := ms) e_42.symm f_44_0_0 f_44_0_1).2).symm
  | exact h_51.trans ((clM_fit hj_34 (by omega)).trans ((cl_w (by omega)).trans (tri_1 (guM_g (I := (itM fi_)) (sg := 0) (i := (nI pa_45)) hM hln9 hsz9 hj_30 (gs_n (r := m38 fs) hM.1 hM.2.2.2.1 hj_3) hj_34 q_38 hj_38).1 (hr_3 (sg := 0) e_42.symm f_44_0_0 f_44_0_1).1 (gs_ne (by omega)))))
theorem lf_X8_gusts_21 {ms : Int32} {mt : Int32} {ma : Nat} {fs : Nat → Int32} {w9 : Nat} {k9 : Nat} {h9 : Nat} {fz : Nat → Int32} {fn_ : Nat → Int32} {a3 : Int32} {a4 : Int32} {v_2 : Int32} {j_3 : Nat} {j_30 : Nat} {j_34 : Nat} (hM : okM fs w9 k9 h9) (hT : ¬ mt = 0 → 1 ≤ k9) (h999 : h9 ≤ 999) (hT0 : mt = 0 → fs 0 = 0 ∧ ma = 0) (hsz9 : ∀ j : Nat, j < 8 → fz j = -1 ∨ ∃ q : Nat, q ≤ 40 ∧ fz j = nI q) (hln9 : ∀ j : Nat, j < 8 → ¬ fz j = -1 → ¬ fn_ j = -1) (e_2 : v_2 = ((nI w9) - 1)) (f_3_1_0 : (¬ (((nI j_3)).toInt64 < (-1) ∨ (v_2).toInt64 < ((nI j_3)).toInt64))) (q_3 : ¬ ((nI j_3) < (-1) ∨ v_2 < (nI j_3))) (hj_3 : j_3 < w9) (hj_30 : j_30 < k9) (hkn1 : 1 ≤ k9) (hw1 : 1 ≤ w9) (h01 : ¬ fs 0 = 0) (hj_34 : j_34 < 8) (f_38_0_0 : ((a4).toInt64 < 1 ∨ 12 < (a4).toInt64)) (q_38 : (a4 < 1 ∨ 12 < a4)) : ms = f_gus (m38 fs) (mbl fn_ fz) (mbn fz) (nI j_3) (nI j_30) (nI j_34) a3 a4 ms := by
  have hw6 := hM.2.2.2.1
  first
  | exact (gus_b (r := m38 fs) (I := (itM fi_)) (Rl := mbl fn_ fz) (Rn := mbn fz) (i := a3) (sg := 0) (Or.inl (gsM_b hM e_2 q_3))).1
  | exact (gus_b (r := m38 fs) (I := (fun _ _ => 0)) (Rl := mbl fn_ fz) (Rn := mbn fz) (i := a3) (sg := ms) (Or.inl (gsM_b hM e_2 q_3))).2
  | exact (gus_b (r := m38 fs) (I := (itM fi_)) (Rl := mbl fn_ fz) (Rn := mbn fz) (i := a3) (sg := 0) (Or.inr (Or.inl (whM_b1 hM.2.1 f_6_0_0)))).1
  | exact (gus_b (r := m38 fs) (I := (fun _ _ => 0)) (Rl := mbl fn_ fz) (Rn := mbn fz) (i := a3) (sg := ms) (Or.inr (Or.inl (whM_b1 hM.2.1 f_6_0_0)))).2
  | exact (gus_b (r := m38 fs) (I := (itM fi_)) (Rl := mbl fn_ fz) (Rn := mbn fz) (i := a3) (sg := 0) (Or.inr (Or.inr (Or.inl f_10_0_0)))).1
  | exact (gus_b (r := m38 fs) (I := (fun _ _ => 0)) (Rl := mbl fn_ fz) (Rn := mbn fz) (i := a3) (sg := ms) (Or.inr (Or.inr (Or.inl f_10_0_0)))).2
  | exact (gus_b (r := m38 fs) (I := (itM fi_)) (Rl := mbl fn_ fz) (Rn := mbn fz) (i := a3) (sg := 0) (Or.inr (Or.inr (Or.inr q_14)))).1
  | exact (gus_b (r := m38 fs) (I := (fun _ _ => 0)) (Rl := mbl fn_ fz) (Rn := mbn fz) (i := a3) (sg := ms) (Or.inr (Or.inr (Or.inr q_14)))).2
  | exact (gus_b (r := m38 fs) (I := (itM fi_)) (Rl := mbl fn_ fz) (Rn := mbn fz) (i := a3) (sg := 0) (Or.inr (Or.inl (whM_b1 hM.2.1 f_30_0_0)))).1
  | exact (gus_b (r := m38 fs) (I := (fun _ _ => 0)) (Rl := mbl fn_ fz) (Rn := mbn fz) (i := a3) (sg := ms) (Or.inr (Or.inl (whM_b1 hM.2.1 f_30_0_0)))).2
  | exact (gus_b (r := m38 fs) (I := (itM fi_)) (Rl := mbl fn_ fz) (Rn := mbn fz) (i := a3) (sg := 0) (Or.inr (Or.inr (Or.inl f_34_0_0)))).1
  | exact (gus_b (r := m38 fs) (I := (fun _ _ => 0)) (Rl := mbl fn_ fz) (Rn := mbn fz) (i := a3) (sg := ms) (Or.inr (Or.inr (Or.inl f_34_0_0)))).2
  | exact (gus_b (r := m38 fs) (I := (itM fi_)) (Rl := mbl fn_ fz) (Rn := mbn fz) (i := a3) (sg := 0) (Or.inr (Or.inr (Or.inr q_38)))).1
  | exact (gus_b (r := m38 fs) (I := (fun _ _ => 0)) (Rl := mbl fn_ fz) (Rn := mbn fz) (i := a3) (sg := ms) (Or.inr (Or.inr (Or.inr q_38)))).2
  | exact tri_r (guM_g (I := (itM fi_)) (sg := 0) (i := a3) hM hln9 hsz9 hj_6 gs_m hj_10 q_14 hj_14).1 (hr_0 (sg := 0) (by rw [← e_18]; exact c_19)).1 (by decide)
  | exact ((guM_g (I := (fun _ _ => 0)) (sg := ms) (i := a3) hM hln9 hsz9 hj_6 gs_m hj_10 q_14 hj_14).2.trans (hr_0 (by rw [← e_18]; exact c_19)).2).symm
  | exact tri_r (guM_g (I := (itM fi_)) (sg := 0) (i := a3) hM hln9 hsz9 hj_6 gs_m hj_10 q_14 hj_14).1 (hr_1 (sg := 0) e_18.symm f_20_1_0).1 (by decide)
  | exact hF_20_0.trans ((lk_1 f_20_1_0).symm.trans ((guM_g (I := (fun _ _ => 0)) (sg := ms) (i := a3) hM hln9 hsz9 hj_6 gs_m hj_10 q_14 hj_14).2.trans (hr_1 e_18.symm f_20_1_0).2).symm)
  | exact tri_r (guM_g (I := (itM fi_)) (sg := 0) (i := a3) hM hln9 hsz9 hj_6 gs_m hj_10 q_14 hj_14).1 (hr_2 (sg := 0) e_18.symm f_20_2_0 f_20_2_1).1 (by decide)
  | exact hF_20_0.trans ((lk_2 f_20_2_0 f_20_2_1).symm.trans ((guM_g (I := (fun _ _ => 0)) (sg := ms) (i := a3) hM hln9 hsz9 hj_6 gs_m hj_10 q_14 hj_14).2.trans (hr_2 e_18.symm f_20_2_0 f_20_2_1).2).symm)
  | exact tri_r (guM_g (I := (itM fi_)) (sg := 0) (i := a3) hM hln9 hsz9 hj_30 (gs_n (r := m38 fs) hM.1 hM.2.2.2.1 hj_3) hj_34 q_38 hj_38).1 (hr_0 (sg := 0) (by rw [← e_42]; exact c_43)).1 (by decide)
  | exact ((guM_g (I := (fun _ _ => 0)) (sg := ms) (i := a3) hM hln9 hsz9 hj_30 (gs_n (r := m38 fs) hM.1 hM.2.2.2.1 hj_3) hj_34 q_38 hj_38).2.trans (hr_0 (by rw [← e_42]; exact c_43)).2).symm
  | exact tri_r (guM_g (I := (itM fi_)) (sg := 0) (i := a3) hM hln9 hsz9 hj_30 (gs_n (r := m38 fs) hM.1 hM.2.2.2.1 hj_3) hj_34 q_38 hj_38).1 (hr_1 (sg := 0) e_42.symm f_44_1_0).1 (by decide)
  | exact hF_44_0.trans ((lk_1 f_44_1_0).symm.trans ((guM_g (I := (fun _ _ => 0)) (sg := ms) (i := a3) hM hln9 hsz9 hj_30 (gs_n (r := m38 fs) hM.1 hM.2.2.2.1 hj_3) hj_34 q_38 hj_38).2.trans (hr_1 e_42.symm f_44_1_0).2).symm)
  | exact tri_r (guM_g (I := (itM fi_)) (sg := 0) (i := a3) hM hln9 hsz9 hj_30 (gs_n (r := m38 fs) hM.1 hM.2.2.2.1 hj_3) hj_34 q_38 hj_38).1 (hr_2 (sg := 0) e_42.symm f_44_2_0 f_44_2_1).1 (by decide)
  | exact hF_44_0.trans ((lk_2 f_44_2_0 f_44_2_1).symm.trans ((guM_g (I := (fun _ _ => 0)) (sg := ms) (i := a3) hM hln9 hsz9 hj_30 (gs_n (r := m38 fs) hM.1 hM.2.2.2.1 hj_3) hj_34 q_38 hj_38).2.trans (hr_2 e_42.symm f_44_2_0 f_44_2_1).2).symm)
  | exact hF_26_2.trans ((guM_g (I := (fun _ _ => 0)) (sg := ms) (i := (nI pa_21)) hM hln9 hsz9 hj_6 gs_m hj_10 q_14 hj_14).2.trans (hr_3 (sg := ms) e_18.symm f_20_0_0 f_20_0_1).2).symm
  | exact h_26.trans ((clM_fit hj_10 (by omega)).trans (tri_0 (guM_g (I := (itM fi_)) (sg := 0) (i := (nI pa_21)) hM hln9 hsz9 hj_6 gs_m hj_10 q_14 hj_14).1 (hr_3 (sg := 0) e_18.symm f_20_0_0 f_20_0_1).1 rfl))
  | exact hF_51_2.trans ((guM_g (I := (fun _ _ => 0)) (sg := ms) (i := (nI pa_45)) hM hln9 hsz9 hj_30 (gs_n (r := m38 fs) hM.1 hM.2.2.2.1 hj_3) hj_34 q_38 hj_38).2.trans (hr_3 (sg := ms) e_42.symm f_44_0_0 f_44_0_1).2).symm
  | exact h_51.trans ((clM_fit hj_34 (by omega)).trans ((cl_w (by omega)).trans (tri_1 (guM_g (I := (itM fi_)) (sg := 0) (i := (nI pa_45)) hM hln9 hsz9 hj_30 (gs_n (r := m38 fs) hM.1 hM.2.2.2.1 hj_3) hj_34 q_38 hj_38).1 (hr_3 (sg := 0) e_42.symm f_44_0_0 f_44_0_1).1 (gs_ne (by omega)))))
theorem lf_X8_gusts_22 {mt : Int32} {ma : Nat} {fs : Nat → Int32} {w9 : Nat} {k9 : Nat} {h9 : Nat} {fi_ : Nat → Int32} {fz : Nat → Int32} {fn_ : Nat → Int32} {a3 : Int32} {a4 : Int32} {v_2 : Int32} {j_3 : Nat} {j_30 : Nat} {j_34 : Nat} (hM : okM fs w9 k9 h9) (hT : ¬ mt = 0 → 1 ≤ k9) (h999 : h9 ≤ 999) (hT0 : mt = 0 → fs 0 = 0 ∧ ma = 0) (hsz9 : ∀ j : Nat, j < 8 → fz j = -1 ∨ ∃ q : Nat, q ≤ 40 ∧ fz j = nI q) (hln9 : ∀ j : Nat, j < 8 → ¬ fz j = -1 → ¬ fn_ j = -1) (e_2 : v_2 = ((nI w9) - 1)) (f_3_1_0 : (¬ (((nI j_3)).toInt64 < (-1) ∨ (v_2).toInt64 < ((nI j_3)).toInt64))) (q_3 : ¬ ((nI j_3) < (-1) ∨ v_2 < (nI j_3))) (hj_3 : j_3 < w9) (hj_30 : j_30 < k9) (hkn1 : 1 ≤ k9) (hw1 : 1 ≤ w9) (h01 : ¬ fs 0 = 0) (hj_34 : j_34 < 8) (f_38_0_0 : ((a4).toInt64 < 1 ∨ 12 < (a4).toInt64)) (q_38 : (a4 < 1 ∨ 12 < a4)) : (-1000001) = (a_gus (m38 fs) (mbl fn_ fz) (mbn fz) (itM fi_) (nI j_3) (nI j_30) (nI j_34) a3 a4) := by
  have hw6 := hM.2.2.2.1
  first
  | exact (gus_b (r := m38 fs) (I := (itM fi_)) (Rl := mbl fn_ fz) (Rn := mbn fz) (i := a3) (sg := 0) (Or.inl (gsM_b hM e_2 q_3))).1
  | exact (gus_b (r := m38 fs) (I := (fun _ _ => 0)) (Rl := mbl fn_ fz) (Rn := mbn fz) (i := a3) (sg := ms) (Or.inl (gsM_b hM e_2 q_3))).2
  | exact (gus_b (r := m38 fs) (I := (itM fi_)) (Rl := mbl fn_ fz) (Rn := mbn fz) (i := a3) (sg := 0) (Or.inr (Or.inl (whM_b1 hM.2.1 f_6_0_0)))).1
  | exact (gus_b (r := m38 fs) (I := (fun _ _ => 0)) (Rl := mbl fn_ fz) (Rn := mbn fz) (i := a3) (sg := ms) (Or.inr (Or.inl (whM_b1 hM.2.1 f_6_0_0)))).2
  | exact (gus_b (r := m38 fs) (I := (itM fi_)) (Rl := mbl fn_ fz) (Rn := mbn fz) (i := a3) (sg := 0) (Or.inr (Or.inr (Or.inl f_10_0_0)))).1
  | exact (gus_b (r := m38 fs) (I := (fun _ _ => 0)) (Rl := mbl fn_ fz) (Rn := mbn fz) (i := a3) (sg := ms) (Or.inr (Or.inr (Or.inl f_10_0_0)))).2
  | exact (gus_b (r := m38 fs) (I := (itM fi_)) (Rl := mbl fn_ fz) (Rn := mbn fz) (i := a3) (sg := 0) (Or.inr (Or.inr (Or.inr q_14)))).1
  | exact (gus_b (r := m38 fs) (I := (fun _ _ => 0)) (Rl := mbl fn_ fz) (Rn := mbn fz) (i := a3) (sg := ms) (Or.inr (Or.inr (Or.inr q_14)))).2
  | exact (gus_b (r := m38 fs) (I := (itM fi_)) (Rl := mbl fn_ fz) (Rn := mbn fz) (i := a3) (sg := 0) (Or.inr (Or.inl (whM_b1 hM.2.1 f_30_0_0)))).1
  | exact (gus_b (r := m38 fs) (I := (fun _ _ => 0)) (Rl := mbl fn_ fz) (Rn := mbn fz) (i := a3) (sg := ms) (Or.inr (Or.inl (whM_b1 hM.2.1 f_30_0_0)))).2
  | exact (gus_b (r := m38 fs) (I := (itM fi_)) (Rl := mbl fn_ fz) (Rn := mbn fz) (i := a3) (sg := 0) (Or.inr (Or.inr (Or.inl f_34_0_0)))).1
  | exact (gus_b (r := m38 fs) (I := (fun _ _ => 0)) (Rl := mbl fn_ fz) (Rn := mbn fz) (i := a3) (sg := ms) (Or.inr (Or.inr (Or.inl f_34_0_0)))).2
  | exact (gus_b (r := m38 fs) (I := (itM fi_)) (Rl := mbl fn_ fz) (Rn := mbn fz) (i := a3) (sg := 0) (Or.inr (Or.inr (Or.inr q_38)))).1
  | exact (gus_b (r := m38 fs) (I := (fun _ _ => 0)) (Rl := mbl fn_ fz) (Rn := mbn fz) (i := a3) (sg := ms) (Or.inr (Or.inr (Or.inr q_38)))).2
  | exact tri_r (guM_g (I := (itM fi_)) (sg := 0) (i := a3) hM hln9 hsz9 hj_6 gs_m hj_10 q_14 hj_14).1 (hr_0 (sg := 0) (by rw [← e_18]; exact c_19)).1 (by decide)
  | exact ((guM_g (I := (fun _ _ => 0)) (sg := ms) (i := a3) hM hln9 hsz9 hj_6 gs_m hj_10 q_14 hj_14).2.trans (hr_0 (by rw [← e_18]; exact c_19)).2).symm
  | exact tri_r (guM_g (I := (itM fi_)) (sg := 0) (i := a3) hM hln9 hsz9 hj_6 gs_m hj_10 q_14 hj_14).1 (hr_1 (sg := 0) e_18.symm f_20_1_0).1 (by decide)
  | exact hF_20_0.trans ((lk_1 f_20_1_0).symm.trans ((guM_g (I := (fun _ _ => 0)) (sg := ms) (i := a3) hM hln9 hsz9 hj_6 gs_m hj_10 q_14 hj_14).2.trans (hr_1 e_18.symm f_20_1_0).2).symm)
  | exact tri_r (guM_g (I := (itM fi_)) (sg := 0) (i := a3) hM hln9 hsz9 hj_6 gs_m hj_10 q_14 hj_14).1 (hr_2 (sg := 0) e_18.symm f_20_2_0 f_20_2_1).1 (by decide)
  | exact hF_20_0.trans ((lk_2 f_20_2_0 f_20_2_1).symm.trans ((guM_g (I := (fun _ _ => 0)) (sg := ms) (i := a3) hM hln9 hsz9 hj_6 gs_m hj_10 q_14 hj_14).2.trans (hr_2 e_18.symm f_20_2_0 f_20_2_1).2).symm)
  | exact tri_r (guM_g (I := (itM fi_)) (sg := 0) (i := a3) hM hln9 hsz9 hj_30 (gs_n (r := m38 fs) hM.1 hM.2.2.2.1 hj_3) hj_34 q_38 hj_38).1 (hr_0 (sg := 0) (by rw [← e_42]; exact c_43)).1 (by decide)
  | exact ((guM_g (I := (fun _ _ => 0)) (sg := ms) (i := a3) hM hln9 hsz9 hj_30 (gs_n (r := m38 fs) hM.1 hM.2.2.2.1 hj_3) hj_34 q_38 hj_38).2.trans (hr_0 (by rw [← e_42]; exact c_43)).2).symm
  | exact tri_r (guM_g (I := (itM fi_)) (sg := 0) (i := a3) hM hln9 hsz9 hj_30 (gs_n (r := m38 fs) hM.1 hM.2.2.2.1 hj_3) hj_34 q_38 hj_38).1 (hr_1 (sg := 0) e_42.symm f_44_1_0).1 (by decide)
  | exact hF_44_0.trans ((lk_1 f_44_1_0).symm.trans ((guM_g (I := (fun _ _ => 0)) (sg := ms) (i := a3) hM hln9 hsz9 hj_30 (gs_n (r := m38 fs) hM.1 hM.2.2.2.1 hj_3) hj_34 q_38 hj_38).2.trans (hr_1 e_42.symm f_44_1_0).2).symm)
  | exact tri_r (guM_g (I := (itM fi_)) (sg := 0) (i := a3) hM hln9 hsz9 hj_30 (gs_n (r := m38 fs) hM.1 hM.2.2.2.1 hj_3) hj_34 q_38 hj_38).1 (hr_2 (sg := 0) e_42.symm f_44_2_0 f_44_2_1).1 (by decide)
  | exact hF_44_0.trans ((lk_2 f_44_2_0 f_44_2_1).symm.trans ((guM_g (I := (fun _ _ => 0)) (sg := ms) (i := a3) hM hln9 hsz9 hj_30 (gs_n (r := m38 fs) hM.1 hM.2.2.2.1 hj_3) hj_34 q_38 hj_38).2.trans (hr_2 e_42.symm f_44_2_0 f_44_2_1).2).symm)
  | exact hF_26_2.trans ((guM_g (I := (fun _ _ => 0)) (sg := ms) (i := (nI pa_21)) hM hln9 hsz9 hj_6 gs_m hj_10 q_14 hj_14).2.trans (hr_3 (sg := ms) e_18.symm f_20_0_0 f_20_0_1).2).symm
  | exact h_26.trans ((clM_fit hj_10 (by omega)).trans (tri_0 (guM_g (I := (itM fi_)) (sg := 0) (i := (nI pa_21)) hM hln9 hsz9 hj_6 gs_m hj_10 q_14 hj_14).1 (hr_3 (sg := 0) e_18.symm f_20_0_0 f_20_0_1).1 rfl))
  | exact hF_51_2.trans ((guM_g (I := (fun _ _ => 0)) (sg := ms) (i := (nI pa_45)) hM hln9 hsz9 hj_30 (gs_n (r := m38 fs) hM.1 hM.2.2.2.1 hj_3) hj_34 q_38 hj_38).2.trans (hr_3 (sg := ms) e_42.symm f_44_0_0 f_44_0_1).2).symm
  | exact h_51.trans ((clM_fit hj_34 (by omega)).trans ((cl_w (by omega)).trans (tri_1 (guM_g (I := (itM fi_)) (sg := 0) (i := (nI pa_45)) hM hln9 hsz9 hj_30 (gs_n (r := m38 fs) hM.1 hM.2.2.2.1 hj_3) hj_34 q_38 hj_38).1 (hr_3 (sg := 0) e_42.symm f_44_0_0 f_44_0_1).1 (gs_ne (by omega)))))
theorem lf_X8_gusts_23 {ms : Int32} {mt : Int32} {ma : Nat} {fs : Nat → Int32} {w9 : Nat} {k9 : Nat} {h9 : Nat} {fi_ : Nat → Int32} {fz : Nat → Int32} {fn_ : Nat → Int32} {v_2 : Int32} {j_3 : Nat} {j_30 : Nat} {j_34 : Nat} {j_38 : Nat} {msn_44 : Int32} {pa_45 : Nat} {pb_45 : Nat} {fsn_51 : Nat → Int32} {msn_51 : Int32} {r_51 : Int32} (hM : okM fs w9 k9 h9) (hT : ¬ mt = 0 → 1 ≤ k9) (h999 : h9 ≤ 999) (hT0 : mt = 0 → fs 0 = 0 ∧ ma = 0) (hsz9 : ∀ j : Nat, j < 8 → fz j = -1 ∨ ∃ q : Nat, q ≤ 40 ∧ fz j = nI q) (hln9 : ∀ j : Nat, j < 8 → ¬ fz j = -1 → ¬ fn_ j = -1) (e_2 : v_2 = ((nI w9) - 1)) (f_3_1_0 : (¬ (((nI j_3)).toInt64 < (-1) ∨ (v_2).toInt64 < ((nI j_3)).toInt64))) (q_3 : ¬ ((nI j_3) < (-1) ∨ v_2 < (nI j_3))) (hj_3 : j_3 < w9) (hj_30 : j_30 < k9) (hkn1 : 1 ≤ k9) (hw1 : 1 ≤ w9) (h01 : ¬ fs 0 = 0) (hj_34 : j_34 < 8) (f_38_1_0 : (¬ (((nI j_38)).toInt64 < 1 ∨ 12 < ((nI j_38)).toInt64))) (q_38 : ¬ ((nI j_38) < 1 ∨ 12 < (nI j_38))) (hj_38 : j_38 ≤ 12) (e_42 : (0 : Int32) = fs (26 + j_30)) (hF_44_0 : msn_44 = lkS (fz j_34) (nI pa_45) (nI j_38) ms) (f_44_0_0 : ¬ fz j_34 = -1) (f_44_0_1 : plc (fz j_34) (nI pa_45) (nI j_38)) (hab_45 : pa_45 + pb_45 ≤ 40) (eb_45 : j_38 = pb_45) (hF_51_0 : okM fsn_51 w9 k9 h9) (hF_51_1 : m38 fsn_51 = m38 fs) (hF_51_2 : (msn_51 : Int32) = 0) (h_51 : r_51 = (fitU (m38 fs) (8 + j_3) j_30 (fun uq => fi_ (((40 * j_34) + pa_45) + uq)) j_38 0 (4 + 1))) : msn_51 = f_gus (m38 fs) (mbl fn_ fz) (mbn fz) (nI j_3) (nI j_30) (nI j_34) (nI pa_45) (nI j_38) ms := by
  have hw6 := hM.2.2.2.1
  first
  | exact (gus_b (r := m38 fs) (I := (itM fi_)) (Rl := mbl fn_ fz) (Rn := mbn fz) (i := a3) (sg := 0) (Or.inl (gsM_b hM e_2 q_3))).1
  | exact (gus_b (r := m38 fs) (I := (fun _ _ => 0)) (Rl := mbl fn_ fz) (Rn := mbn fz) (i := a3) (sg := ms) (Or.inl (gsM_b hM e_2 q_3))).2
  | exact (gus_b (r := m38 fs) (I := (itM fi_)) (Rl := mbl fn_ fz) (Rn := mbn fz) (i := a3) (sg := 0) (Or.inr (Or.inl (whM_b1 hM.2.1 f_6_0_0)))).1
  | exact (gus_b (r := m38 fs) (I := (fun _ _ => 0)) (Rl := mbl fn_ fz) (Rn := mbn fz) (i := a3) (sg := ms) (Or.inr (Or.inl (whM_b1 hM.2.1 f_6_0_0)))).2
  | exact (gus_b (r := m38 fs) (I := (itM fi_)) (Rl := mbl fn_ fz) (Rn := mbn fz) (i := a3) (sg := 0) (Or.inr (Or.inr (Or.inl f_10_0_0)))).1
  | exact (gus_b (r := m38 fs) (I := (fun _ _ => 0)) (Rl := mbl fn_ fz) (Rn := mbn fz) (i := a3) (sg := ms) (Or.inr (Or.inr (Or.inl f_10_0_0)))).2
  | exact (gus_b (r := m38 fs) (I := (itM fi_)) (Rl := mbl fn_ fz) (Rn := mbn fz) (i := a3) (sg := 0) (Or.inr (Or.inr (Or.inr q_14)))).1
  | exact (gus_b (r := m38 fs) (I := (fun _ _ => 0)) (Rl := mbl fn_ fz) (Rn := mbn fz) (i := a3) (sg := ms) (Or.inr (Or.inr (Or.inr q_14)))).2
  | exact (gus_b (r := m38 fs) (I := (itM fi_)) (Rl := mbl fn_ fz) (Rn := mbn fz) (i := a3) (sg := 0) (Or.inr (Or.inl (whM_b1 hM.2.1 f_30_0_0)))).1
  | exact (gus_b (r := m38 fs) (I := (fun _ _ => 0)) (Rl := mbl fn_ fz) (Rn := mbn fz) (i := a3) (sg := ms) (Or.inr (Or.inl (whM_b1 hM.2.1 f_30_0_0)))).2
  | exact (gus_b (r := m38 fs) (I := (itM fi_)) (Rl := mbl fn_ fz) (Rn := mbn fz) (i := a3) (sg := 0) (Or.inr (Or.inr (Or.inl f_34_0_0)))).1
  | exact (gus_b (r := m38 fs) (I := (fun _ _ => 0)) (Rl := mbl fn_ fz) (Rn := mbn fz) (i := a3) (sg := ms) (Or.inr (Or.inr (Or.inl f_34_0_0)))).2
  | exact (gus_b (r := m38 fs) (I := (itM fi_)) (Rl := mbl fn_ fz) (Rn := mbn fz) (i := a3) (sg := 0) (Or.inr (Or.inr (Or.inr q_38)))).1
  | exact (gus_b (r := m38 fs) (I := (fun _ _ => 0)) (Rl := mbl fn_ fz) (Rn := mbn fz) (i := a3) (sg := ms) (Or.inr (Or.inr (Or.inr q_38)))).2
  | exact tri_r (guM_g (I := (itM fi_)) (sg := 0) (i := a3) hM hln9 hsz9 hj_6 gs_m hj_10 q_14 hj_14).1 (hr_0 (sg := 0) (by rw [← e_18]; exact c_19)).1 (by decide)
  | exact ((guM_g (I := (fun _ _ => 0)) (sg := ms) (i := a3) hM hln9 hsz9 hj_6 gs_m hj_10 q_14 hj_14).2.trans (hr_0 (by rw [← e_18]; exact c_19)).2).symm
  | exact tri_r (guM_g (I := (itM fi_)) (sg := 0) (i := a3) hM hln9 hsz9 hj_6 gs_m hj_10 q_14 hj_14).1 (hr_1 (sg := 0) e_18.symm f_20_1_0).1 (by decide)
  | exact hF_20_0.trans ((lk_1 f_20_1_0).symm.trans ((guM_g (I := (fun _ _ => 0)) (sg := ms) (i := a3) hM hln9 hsz9 hj_6 gs_m hj_10 q_14 hj_14).2.trans (hr_1 e_18.symm f_20_1_0).2).symm)
  | exact tri_r (guM_g (I := (itM fi_)) (sg := 0) (i := a3) hM hln9 hsz9 hj_6 gs_m hj_10 q_14 hj_14).1 (hr_2 (sg := 0) e_18.symm f_20_2_0 f_20_2_1).1 (by decide)
  | exact hF_20_0.trans ((lk_2 f_20_2_0 f_20_2_1).symm.trans ((guM_g (I := (fun _ _ => 0)) (sg := ms) (i := a3) hM hln9 hsz9 hj_6 gs_m hj_10 q_14 hj_14).2.trans (hr_2 e_18.symm f_20_2_0 f_20_2_1).2).symm)
  | exact tri_r (guM_g (I := (itM fi_)) (sg := 0) (i := a3) hM hln9 hsz9 hj_30 (gs_n (r := m38 fs) hM.1 hM.2.2.2.1 hj_3) hj_34 q_38 hj_38).1 (hr_0 (sg := 0) (by rw [← e_42]; exact c_43)).1 (by decide)
  | exact ((guM_g (I := (fun _ _ => 0)) (sg := ms) (i := a3) hM hln9 hsz9 hj_30 (gs_n (r := m38 fs) hM.1 hM.2.2.2.1 hj_3) hj_34 q_38 hj_38).2.trans (hr_0 (by rw [← e_42]; exact c_43)).2).symm
  | exact tri_r (guM_g (I := (itM fi_)) (sg := 0) (i := a3) hM hln9 hsz9 hj_30 (gs_n (r := m38 fs) hM.1 hM.2.2.2.1 hj_3) hj_34 q_38 hj_38).1 (hr_1 (sg := 0) e_42.symm f_44_1_0).1 (by decide)
  | exact hF_44_0.trans ((lk_1 f_44_1_0).symm.trans ((guM_g (I := (fun _ _ => 0)) (sg := ms) (i := a3) hM hln9 hsz9 hj_30 (gs_n (r := m38 fs) hM.1 hM.2.2.2.1 hj_3) hj_34 q_38 hj_38).2.trans (hr_1 e_42.symm f_44_1_0).2).symm)
  | exact tri_r (guM_g (I := (itM fi_)) (sg := 0) (i := a3) hM hln9 hsz9 hj_30 (gs_n (r := m38 fs) hM.1 hM.2.2.2.1 hj_3) hj_34 q_38 hj_38).1 (hr_2 (sg := 0) e_42.symm f_44_2_0 f_44_2_1).1 (by decide)
  | exact hF_44_0.trans ((lk_2 f_44_2_0 f_44_2_1).symm.trans ((guM_g (I := (fun _ _ => 0)) (sg := ms) (i := a3) hM hln9 hsz9 hj_30 (gs_n (r := m38 fs) hM.1 hM.2.2.2.1 hj_3) hj_34 q_38 hj_38).2.trans (hr_2 e_42.symm f_44_2_0 f_44_2_1).2).symm)
  | exact hF_26_2.trans ((guM_g (I := (fun _ _ => 0)) (sg := ms) (i := (nI pa_21)) hM hln9 hsz9 hj_6 gs_m hj_10 q_14 hj_14).2.trans (hr_3 (sg := ms) e_18.symm f_20_0_0 f_20_0_1).2).symm
  | exact h_26.trans ((clM_fit hj_10 (by omega)).trans (tri_0 (guM_g (I := (itM fi_)) (sg := 0) (i := (nI pa_21)) hM hln9 hsz9 hj_6 gs_m hj_10 q_14 hj_14).1 (hr_3 (sg := 0) e_18.symm f_20_0_0 f_20_0_1).1 rfl))
  | exact hF_51_2.trans ((guM_g (I := (fun _ _ => 0)) (sg := ms) (i := (nI pa_45)) hM hln9 hsz9 hj_30 (gs_n (r := m38 fs) hM.1 hM.2.2.2.1 hj_3) hj_34 q_38 hj_38).2.trans (hr_3 (sg := ms) e_42.symm f_44_0_0 f_44_0_1).2).symm
  | exact h_51.trans ((clM_fit hj_34 (by omega)).trans ((cl_w (by omega)).trans (tri_1 (guM_g (I := (itM fi_)) (sg := 0) (i := (nI pa_45)) hM hln9 hsz9 hj_30 (gs_n (r := m38 fs) hM.1 hM.2.2.2.1 hj_3) hj_34 q_38 hj_38).1 (hr_3 (sg := 0) e_42.symm f_44_0_0 f_44_0_1).1 (gs_ne (by omega)))))
theorem lf_X8_gusts_24 {ms : Int32} {mt : Int32} {ma : Nat} {fs : Nat → Int32} {w9 : Nat} {k9 : Nat} {h9 : Nat} {fi_ : Nat → Int32} {fz : Nat → Int32} {fn_ : Nat → Int32} {v_2 : Int32} {j_3 : Nat} {j_30 : Nat} {j_34 : Nat} {j_38 : Nat} {msn_44 : Int32} {pa_45 : Nat} {pb_45 : Nat} {fsn_51 : Nat → Int32} {msn_51 : Int32} {r_51 : Int32} (hM : okM fs w9 k9 h9) (hT : ¬ mt = 0 → 1 ≤ k9) (h999 : h9 ≤ 999) (hT0 : mt = 0 → fs 0 = 0 ∧ ma = 0) (hsz9 : ∀ j : Nat, j < 8 → fz j = -1 ∨ ∃ q : Nat, q ≤ 40 ∧ fz j = nI q) (hln9 : ∀ j : Nat, j < 8 → ¬ fz j = -1 → ¬ fn_ j = -1) (e_2 : v_2 = ((nI w9) - 1)) (f_3_1_0 : (¬ (((nI j_3)).toInt64 < (-1) ∨ (v_2).toInt64 < ((nI j_3)).toInt64))) (q_3 : ¬ ((nI j_3) < (-1) ∨ v_2 < (nI j_3))) (hj_3 : j_3 < w9) (hj_30 : j_30 < k9) (hkn1 : 1 ≤ k9) (hw1 : 1 ≤ w9) (h01 : ¬ fs 0 = 0) (hj_34 : j_34 < 8) (f_38_1_0 : (¬ (((nI j_38)).toInt64 < 1 ∨ 12 < ((nI j_38)).toInt64))) (q_38 : ¬ ((nI j_38) < 1 ∨ 12 < (nI j_38))) (hj_38 : j_38 ≤ 12) (e_42 : (0 : Int32) = fs (26 + j_30)) (hF_44_0 : msn_44 = lkS (fz j_34) (nI pa_45) (nI j_38) ms) (f_44_0_0 : ¬ fz j_34 = -1) (f_44_0_1 : plc (fz j_34) (nI pa_45) (nI j_38)) (hab_45 : pa_45 + pb_45 ≤ 40) (eb_45 : j_38 = pb_45) (hF_51_0 : okM fsn_51 w9 k9 h9) (hF_51_1 : m38 fsn_51 = m38 fs) (hF_51_2 : (msn_51 : Int32) = 0) (h_51 : r_51 = (fitU (m38 fs) (8 + j_3) j_30 (fun uq => fi_ (((40 * j_34) + pa_45) + uq)) j_38 0 (4 + 1))) : r_51 = (a_gus (m38 fs) (mbl fn_ fz) (mbn fz) (itM fi_) (nI j_3) (nI j_30) (nI j_34) (nI pa_45) (nI j_38)) := by
  have hw6 := hM.2.2.2.1
  first
  | exact (gus_b (r := m38 fs) (I := (itM fi_)) (Rl := mbl fn_ fz) (Rn := mbn fz) (i := a3) (sg := 0) (Or.inl (gsM_b hM e_2 q_3))).1
  | exact (gus_b (r := m38 fs) (I := (fun _ _ => 0)) (Rl := mbl fn_ fz) (Rn := mbn fz) (i := a3) (sg := ms) (Or.inl (gsM_b hM e_2 q_3))).2
  | exact (gus_b (r := m38 fs) (I := (itM fi_)) (Rl := mbl fn_ fz) (Rn := mbn fz) (i := a3) (sg := 0) (Or.inr (Or.inl (whM_b1 hM.2.1 f_6_0_0)))).1
  | exact (gus_b (r := m38 fs) (I := (fun _ _ => 0)) (Rl := mbl fn_ fz) (Rn := mbn fz) (i := a3) (sg := ms) (Or.inr (Or.inl (whM_b1 hM.2.1 f_6_0_0)))).2
  | exact (gus_b (r := m38 fs) (I := (itM fi_)) (Rl := mbl fn_ fz) (Rn := mbn fz) (i := a3) (sg := 0) (Or.inr (Or.inr (Or.inl f_10_0_0)))).1
  | exact (gus_b (r := m38 fs) (I := (fun _ _ => 0)) (Rl := mbl fn_ fz) (Rn := mbn fz) (i := a3) (sg := ms) (Or.inr (Or.inr (Or.inl f_10_0_0)))).2
  | exact (gus_b (r := m38 fs) (I := (itM fi_)) (Rl := mbl fn_ fz) (Rn := mbn fz) (i := a3) (sg := 0) (Or.inr (Or.inr (Or.inr q_14)))).1
  | exact (gus_b (r := m38 fs) (I := (fun _ _ => 0)) (Rl := mbl fn_ fz) (Rn := mbn fz) (i := a3) (sg := ms) (Or.inr (Or.inr (Or.inr q_14)))).2
  | exact (gus_b (r := m38 fs) (I := (itM fi_)) (Rl := mbl fn_ fz) (Rn := mbn fz) (i := a3) (sg := 0) (Or.inr (Or.inl (whM_b1 hM.2.1 f_30_0_0)))).1
  | exact (gus_b (r := m38 fs) (I := (fun _ _ => 0)) (Rl := mbl fn_ fz) (Rn := mbn fz) (i := a3) (sg := ms) (Or.inr (Or.inl (whM_b1 hM.2.1 f_30_0_0)))).2
  | exact (gus_b (r := m38 fs) (I := (itM fi_)) (Rl := mbl fn_ fz) (Rn := mbn fz) (i := a3) (sg := 0) (Or.inr (Or.inr (Or.inl f_34_0_0)))).1
  | exact (gus_b (r := m38 fs) (I := (fun _ _ => 0)) (Rl := mbl fn_ fz) (Rn := mbn fz) (i := a3) (sg := ms) (Or.inr (Or.inr (Or.inl f_34_0_0)))).2
  | exact (gus_b (r := m38 fs) (I := (itM fi_)) (Rl := mbl fn_ fz) (Rn := mbn fz) (i := a3) (sg := 0) (Or.inr (Or.inr (Or.inr q_38)))).1
  | exact (gus_b (r := m38 fs) (I := (fun _ _ => 0)) (Rl := mbl fn_ fz) (Rn := mbn fz) (i := a3) (sg := ms) (Or.inr (Or.inr (Or.inr q_38)))).2
  | exact tri_r (guM_g (I := (itM fi_)) (sg := 0) (i := a3) hM hln9 hsz9 hj_6 gs_m hj_10 q_14 hj_14).1 (hr_0 (sg := 0) (by rw [← e_18]; exact c_19)).1 (by decide)
  | exact ((guM_g (I := (fun _ _ => 0)) (sg := ms) (i := a3) hM hln9 hsz9 hj_6 gs_m hj_10 q_14 hj_14).2.trans (hr_0 (by rw [← e_18]; exact c_19)).2).symm
  | exact tri_r (guM_g (I := (itM fi_)) (sg := 0) (i := a3) hM hln9 hsz9 hj_6 gs_m hj_10 q_14 hj_14).1 (hr_1 (sg := 0) e_18.symm f_20_1_0).1 (by decide)
  | exact hF_20_0.trans ((lk_1 f_20_1_0).symm.trans ((guM_g (I := (fun _ _ => 0)) (sg := ms) (i := a3) hM hln9 hsz9 hj_6 gs_m hj_10 q_14 hj_14).2.trans (hr_1 e_18.symm f_20_1_0).2).symm)
  | exact tri_r (guM_g (I := (itM fi_)) (sg := 0) (i := a3) hM hln9 hsz9 hj_6 gs_m hj_10 q_14 hj_14).1 (hr_2 (sg := 0) e_18.symm f_20_2_0 f_20_2_1).1 (by decide)
  | exact hF_20_0.trans ((lk_2 f_20_2_0 f_20_2_1).symm.trans ((guM_g (I := (fun _ _ => 0)) (sg := ms) (i := a3) hM hln9 hsz9 hj_6 gs_m hj_10 q_14 hj_14).2.trans (hr_2 e_18.symm f_20_2_0 f_20_2_1).2).symm)
  | exact tri_r (guM_g (I := (itM fi_)) (sg := 0) (i := a3) hM hln9 hsz9 hj_30 (gs_n (r := m38 fs) hM.1 hM.2.2.2.1 hj_3) hj_34 q_38 hj_38).1 (hr_0 (sg := 0) (by rw [← e_42]; exact c_43)).1 (by decide)
  | exact ((guM_g (I := (fun _ _ => 0)) (sg := ms) (i := a3) hM hln9 hsz9 hj_30 (gs_n (r := m38 fs) hM.1 hM.2.2.2.1 hj_3) hj_34 q_38 hj_38).2.trans (hr_0 (by rw [← e_42]; exact c_43)).2).symm
  | exact tri_r (guM_g (I := (itM fi_)) (sg := 0) (i := a3) hM hln9 hsz9 hj_30 (gs_n (r := m38 fs) hM.1 hM.2.2.2.1 hj_3) hj_34 q_38 hj_38).1 (hr_1 (sg := 0) e_42.symm f_44_1_0).1 (by decide)
  | exact hF_44_0.trans ((lk_1 f_44_1_0).symm.trans ((guM_g (I := (fun _ _ => 0)) (sg := ms) (i := a3) hM hln9 hsz9 hj_30 (gs_n (r := m38 fs) hM.1 hM.2.2.2.1 hj_3) hj_34 q_38 hj_38).2.trans (hr_1 e_42.symm f_44_1_0).2).symm)
  | exact tri_r (guM_g (I := (itM fi_)) (sg := 0) (i := a3) hM hln9 hsz9 hj_30 (gs_n (r := m38 fs) hM.1 hM.2.2.2.1 hj_3) hj_34 q_38 hj_38).1 (hr_2 (sg := 0) e_42.symm f_44_2_0 f_44_2_1).1 (by decide)
  | exact hF_44_0.trans ((lk_2 f_44_2_0 f_44_2_1).symm.trans ((guM_g (I := (fun _ _ => 0)) (sg := ms) (i := a3) hM hln9 hsz9 hj_30 (gs_n (r := m38 fs) hM.1 hM.2.2.2.1 hj_3) hj_34 q_38 hj_38).2.trans (hr_2 e_42.symm f_44_2_0 f_44_2_1).2).symm)
  | exact hF_26_2.trans ((guM_g (I := (fun _ _ => 0)) (sg := ms) (i := (nI pa_21)) hM hln9 hsz9 hj_6 gs_m hj_10 q_14 hj_14).2.trans (hr_3 (sg := ms) e_18.symm f_20_0_0 f_20_0_1).2).symm
  | exact h_26.trans ((clM_fit hj_10 (by omega)).trans (tri_0 (guM_g (I := (itM fi_)) (sg := 0) (i := (nI pa_21)) hM hln9 hsz9 hj_6 gs_m hj_10 q_14 hj_14).1 (hr_3 (sg := 0) e_18.symm f_20_0_0 f_20_0_1).1 rfl))
  | exact hF_51_2.trans ((guM_g (I := (fun _ _ => 0)) (sg := ms) (i := (nI pa_45)) hM hln9 hsz9 hj_30 (gs_n (r := m38 fs) hM.1 hM.2.2.2.1 hj_3) hj_34 q_38 hj_38).2.trans (hr_3 (sg := ms) e_42.symm f_44_0_0 f_44_0_1).2).symm
  | exact h_51.trans ((clM_fit hj_34 (by omega)).trans ((cl_w (by omega)).trans (tri_1 (guM_g (I := (itM fi_)) (sg := 0) (i := (nI pa_45)) hM hln9 hsz9 hj_30 (gs_n (r := m38 fs) hM.1 hM.2.2.2.1 hj_3) hj_34 q_38 hj_38).1 (hr_3 (sg := 0) e_42.symm f_44_0_0 f_44_0_1).1 (gs_ne (by omega)))))
theorem lf_X8_gusts_25 {ms : Int32} {mt : Int32} {ma : Nat} {fs : Nat → Int32} {w9 : Nat} {k9 : Nat} {h9 : Nat} {fz : Nat → Int32} {fn_ : Nat → Int32} {a3 : Int32} {v_2 : Int32} {j_3 : Nat} {j_30 : Nat} {j_34 : Nat} {j_38 : Nat} {msn_44 : Int32} (hM : okM fs w9 k9 h9) (hT : ¬ mt = 0 → 1 ≤ k9) (h999 : h9 ≤ 999) (hT0 : mt = 0 → fs 0 = 0 ∧ ma = 0) (hsz9 : ∀ j : Nat, j < 8 → fz j = -1 ∨ ∃ q : Nat, q ≤ 40 ∧ fz j = nI q) (hln9 : ∀ j : Nat, j < 8 → ¬ fz j = -1 → ¬ fn_ j = -1) (e_2 : v_2 = ((nI w9) - 1)) (f_3_1_0 : (¬ (((nI j_3)).toInt64 < (-1) ∨ (v_2).toInt64 < ((nI j_3)).toInt64))) (q_3 : ¬ ((nI j_3) < (-1) ∨ v_2 < (nI j_3))) (hj_3 : j_3 < w9) (hj_30 : j_30 < k9) (hkn1 : 1 ≤ k9) (hw1 : 1 ≤ w9) (h01 : ¬ fs 0 = 0) (hj_34 : j_34 < 8) (f_38_1_0 : (¬ (((nI j_38)).toInt64 < 1 ∨ 12 < ((nI j_38)).toInt64))) (q_38 : ¬ ((nI j_38) < 1 ∨ 12 < (nI j_38))) (hj_38 : j_38 ≤ 12) (e_42 : (0 : Int32) = fs (26 + j_30)) (hF_44_0 : msn_44 = lkS (fz j_34) a3 (nI j_38) ms) (f_44_1_0 : fz j_34 = -1) : msn_44 = f_gus (m38 fs) (mbl fn_ fz) (mbn fz) (nI j_3) (nI j_30) (nI j_34) a3 (nI j_38) ms := by
  have hw6 := hM.2.2.2.1
  first
  | exact (gus_b (r := m38 fs) (I := (itM fi_)) (Rl := mbl fn_ fz) (Rn := mbn fz) (i := a3) (sg := 0) (Or.inl (gsM_b hM e_2 q_3))).1
  | exact (gus_b (r := m38 fs) (I := (fun _ _ => 0)) (Rl := mbl fn_ fz) (Rn := mbn fz) (i := a3) (sg := ms) (Or.inl (gsM_b hM e_2 q_3))).2
  | exact (gus_b (r := m38 fs) (I := (itM fi_)) (Rl := mbl fn_ fz) (Rn := mbn fz) (i := a3) (sg := 0) (Or.inr (Or.inl (whM_b1 hM.2.1 f_6_0_0)))).1
  | exact (gus_b (r := m38 fs) (I := (fun _ _ => 0)) (Rl := mbl fn_ fz) (Rn := mbn fz) (i := a3) (sg := ms) (Or.inr (Or.inl (whM_b1 hM.2.1 f_6_0_0)))).2
  | exact (gus_b (r := m38 fs) (I := (itM fi_)) (Rl := mbl fn_ fz) (Rn := mbn fz) (i := a3) (sg := 0) (Or.inr (Or.inr (Or.inl f_10_0_0)))).1
  | exact (gus_b (r := m38 fs) (I := (fun _ _ => 0)) (Rl := mbl fn_ fz) (Rn := mbn fz) (i := a3) (sg := ms) (Or.inr (Or.inr (Or.inl f_10_0_0)))).2
  | exact (gus_b (r := m38 fs) (I := (itM fi_)) (Rl := mbl fn_ fz) (Rn := mbn fz) (i := a3) (sg := 0) (Or.inr (Or.inr (Or.inr q_14)))).1
  | exact (gus_b (r := m38 fs) (I := (fun _ _ => 0)) (Rl := mbl fn_ fz) (Rn := mbn fz) (i := a3) (sg := ms) (Or.inr (Or.inr (Or.inr q_14)))).2
  | exact (gus_b (r := m38 fs) (I := (itM fi_)) (Rl := mbl fn_ fz) (Rn := mbn fz) (i := a3) (sg := 0) (Or.inr (Or.inl (whM_b1 hM.2.1 f_30_0_0)))).1
  | exact (gus_b (r := m38 fs) (I := (fun _ _ => 0)) (Rl := mbl fn_ fz) (Rn := mbn fz) (i := a3) (sg := ms) (Or.inr (Or.inl (whM_b1 hM.2.1 f_30_0_0)))).2
  | exact (gus_b (r := m38 fs) (I := (itM fi_)) (Rl := mbl fn_ fz) (Rn := mbn fz) (i := a3) (sg := 0) (Or.inr (Or.inr (Or.inl f_34_0_0)))).1
  | exact (gus_b (r := m38 fs) (I := (fun _ _ => 0)) (Rl := mbl fn_ fz) (Rn := mbn fz) (i := a3) (sg := ms) (Or.inr (Or.inr (Or.inl f_34_0_0)))).2
  | exact (gus_b (r := m38 fs) (I := (itM fi_)) (Rl := mbl fn_ fz) (Rn := mbn fz) (i := a3) (sg := 0) (Or.inr (Or.inr (Or.inr q_38)))).1
  | exact (gus_b (r := m38 fs) (I := (fun _ _ => 0)) (Rl := mbl fn_ fz) (Rn := mbn fz) (i := a3) (sg := ms) (Or.inr (Or.inr (Or.inr q_38)))).2
  | exact tri_r (guM_g (I := (itM fi_)) (sg := 0) (i := a3) hM hln9 hsz9 hj_6 gs_m hj_10 q_14 hj_14).1 (hr_0 (sg := 0) (by rw [← e_18]; exact c_19)).1 (by decide)
  | exact ((guM_g (I := (fun _ _ => 0)) (sg := ms) (i := a3) hM hln9 hsz9 hj_6 gs_m hj_10 q_14 hj_14).2.trans (hr_0 (by rw [← e_18]; exact c_19)).2).symm
  | exact tri_r (guM_g (I := (itM fi_)) (sg := 0) (i := a3) hM hln9 hsz9 hj_6 gs_m hj_10 q_14 hj_14).1 (hr_1 (sg := 0) e_18.symm f_20_1_0).1 (by decide)
  | exact hF_20_0.trans ((lk_1 f_20_1_0).symm.trans ((guM_g (I := (fun _ _ => 0)) (sg := ms) (i := a3) hM hln9 hsz9 hj_6 gs_m hj_10 q_14 hj_14).2.trans (hr_1 e_18.symm f_20_1_0).2).symm)
  | exact tri_r (guM_g (I := (itM fi_)) (sg := 0) (i := a3) hM hln9 hsz9 hj_6 gs_m hj_10 q_14 hj_14).1 (hr_2 (sg := 0) e_18.symm f_20_2_0 f_20_2_1).1 (by decide)
  | exact hF_20_0.trans ((lk_2 f_20_2_0 f_20_2_1).symm.trans ((guM_g (I := (fun _ _ => 0)) (sg := ms) (i := a3) hM hln9 hsz9 hj_6 gs_m hj_10 q_14 hj_14).2.trans (hr_2 e_18.symm f_20_2_0 f_20_2_1).2).symm)
  | exact tri_r (guM_g (I := (itM fi_)) (sg := 0) (i := a3) hM hln9 hsz9 hj_30 (gs_n (r := m38 fs) hM.1 hM.2.2.2.1 hj_3) hj_34 q_38 hj_38).1 (hr_0 (sg := 0) (by rw [← e_42]; exact c_43)).1 (by decide)
  | exact ((guM_g (I := (fun _ _ => 0)) (sg := ms) (i := a3) hM hln9 hsz9 hj_30 (gs_n (r := m38 fs) hM.1 hM.2.2.2.1 hj_3) hj_34 q_38 hj_38).2.trans (hr_0 (by rw [← e_42]; exact c_43)).2).symm
  | exact tri_r (guM_g (I := (itM fi_)) (sg := 0) (i := a3) hM hln9 hsz9 hj_30 (gs_n (r := m38 fs) hM.1 hM.2.2.2.1 hj_3) hj_34 q_38 hj_38).1 (hr_1 (sg := 0) e_42.symm f_44_1_0).1 (by decide)
  | exact hF_44_0.trans ((lk_1 f_44_1_0).symm.trans ((guM_g (I := (fun _ _ => 0)) (sg := ms) (i := a3) hM hln9 hsz9 hj_30 (gs_n (r := m38 fs) hM.1 hM.2.2.2.1 hj_3) hj_34 q_38 hj_38).2.trans (hr_1 e_42.symm f_44_1_0).2).symm)
  | exact tri_r (guM_g (I := (itM fi_)) (sg := 0) (i := a3) hM hln9 hsz9 hj_30 (gs_n (r := m38 fs) hM.1 hM.2.2.2.1 hj_3) hj_34 q_38 hj_38).1 (hr_2 (sg := 0) e_42.symm f_44_2_0 f_44_2_1).1 (by decide)
  | exact hF_44_0.trans ((lk_2 f_44_2_0 f_44_2_1).symm.trans ((guM_g (I := (fun _ _ => 0)) (sg := ms) (i := a3) hM hln9 hsz9 hj_30 (gs_n (r := m38 fs) hM.1 hM.2.2.2.1 hj_3) hj_34 q_38 hj_38).2.trans (hr_2 e_42.symm f_44_2_0 f_44_2_1).2).symm)
  | exact hF_26_2.trans ((guM_g (I := (fun _ _ => 0)) (sg := ms) (i := (nI pa_21)) hM hln9 hsz9 hj_6 gs_m hj_10 q_14 hj_14).2.trans (hr_3 (sg := ms) e_18.symm f_20_0_0 f_20_0_1).2).symm
  | exact h_26.trans ((clM_fit hj_10 (by omega)).trans (tri_0 (guM_g (I := (itM fi_)) (sg := 0) (i := (nI pa_21)) hM hln9 hsz9 hj_6 gs_m hj_10 q_14 hj_14).1 (hr_3 (sg := 0) e_18.symm f_20_0_0 f_20_0_1).1 rfl))
  | exact hF_51_2.trans ((guM_g (I := (fun _ _ => 0)) (sg := ms) (i := (nI pa_45)) hM hln9 hsz9 hj_30 (gs_n (r := m38 fs) hM.1 hM.2.2.2.1 hj_3) hj_34 q_38 hj_38).2.trans (hr_3 (sg := ms) e_42.symm f_44_0_0 f_44_0_1).2).symm
  | exact h_51.trans ((clM_fit hj_34 (by omega)).trans ((cl_w (by omega)).trans (tri_1 (guM_g (I := (itM fi_)) (sg := 0) (i := (nI pa_45)) hM hln9 hsz9 hj_30 (gs_n (r := m38 fs) hM.1 hM.2.2.2.1 hj_3) hj_34 q_38 hj_38).1 (hr_3 (sg := 0) e_42.symm f_44_0_0 f_44_0_1).1 (gs_ne (by omega)))))
theorem lf_X8_gusts_26 {ms : Int32} {mt : Int32} {ma : Nat} {fs : Nat → Int32} {w9 : Nat} {k9 : Nat} {h9 : Nat} {fi_ : Nat → Int32} {fz : Nat → Int32} {fn_ : Nat → Int32} {a3 : Int32} {v_2 : Int32} {j_3 : Nat} {j_30 : Nat} {j_34 : Nat} {j_38 : Nat} {msn_44 : Int32} (hM : okM fs w9 k9 h9) (hT : ¬ mt = 0 → 1 ≤ k9) (h999 : h9 ≤ 999) (hT0 : mt = 0 → fs 0 = 0 ∧ ma = 0) (hsz9 : ∀ j : Nat, j < 8 → fz j = -1 ∨ ∃ q : Nat, q ≤ 40 ∧ fz j = nI q) (hln9 : ∀ j : Nat, j < 8 → ¬ fz j = -1 → ¬ fn_ j = -1) (e_2 : v_2 = ((nI w9) - 1)) (f_3_1_0 : (¬ (((nI j_3)).toInt64 < (-1) ∨ (v_2).toInt64 < ((nI j_3)).toInt64))) (q_3 : ¬ ((nI j_3) < (-1) ∨ v_2 < (nI j_3))) (hj_3 : j_3 < w9) (hj_30 : j_30 < k9) (hkn1 : 1 ≤ k9) (hw1 : 1 ≤ w9) (h01 : ¬ fs 0 = 0) (hj_34 : j_34 < 8) (f_38_1_0 : (¬ (((nI j_38)).toInt64 < 1 ∨ 12 < ((nI j_38)).toInt64))) (q_38 : ¬ ((nI j_38) < 1 ∨ 12 < (nI j_38))) (hj_38 : j_38 ≤ 12) (e_42 : (0 : Int32) = fs (26 + j_30)) (hF_44_0 : msn_44 = lkS (fz j_34) a3 (nI j_38) ms) (f_44_1_0 : fz j_34 = -1) : (-1000011) = (a_gus (m38 fs) (mbl fn_ fz) (mbn fz) (itM fi_) (nI j_3) (nI j_30) (nI j_34) a3 (nI j_38)) := by
  have hw6 := hM.2.2.2.1
  first
  | exact (gus_b (r := m38 fs) (I := (itM fi_)) (Rl := mbl fn_ fz) (Rn := mbn fz) (i := a3) (sg := 0) (Or.inl (gsM_b hM e_2 q_3))).1
  | exact (gus_b (r := m38 fs) (I := (fun _ _ => 0)) (Rl := mbl fn_ fz) (Rn := mbn fz) (i := a3) (sg := ms) (Or.inl (gsM_b hM e_2 q_3))).2
  | exact (gus_b (r := m38 fs) (I := (itM fi_)) (Rl := mbl fn_ fz) (Rn := mbn fz) (i := a3) (sg := 0) (Or.inr (Or.inl (whM_b1 hM.2.1 f_6_0_0)))).1
  | exact (gus_b (r := m38 fs) (I := (fun _ _ => 0)) (Rl := mbl fn_ fz) (Rn := mbn fz) (i := a3) (sg := ms) (Or.inr (Or.inl (whM_b1 hM.2.1 f_6_0_0)))).2
  | exact (gus_b (r := m38 fs) (I := (itM fi_)) (Rl := mbl fn_ fz) (Rn := mbn fz) (i := a3) (sg := 0) (Or.inr (Or.inr (Or.inl f_10_0_0)))).1
  | exact (gus_b (r := m38 fs) (I := (fun _ _ => 0)) (Rl := mbl fn_ fz) (Rn := mbn fz) (i := a3) (sg := ms) (Or.inr (Or.inr (Or.inl f_10_0_0)))).2
  | exact (gus_b (r := m38 fs) (I := (itM fi_)) (Rl := mbl fn_ fz) (Rn := mbn fz) (i := a3) (sg := 0) (Or.inr (Or.inr (Or.inr q_14)))).1
  | exact (gus_b (r := m38 fs) (I := (fun _ _ => 0)) (Rl := mbl fn_ fz) (Rn := mbn fz) (i := a3) (sg := ms) (Or.inr (Or.inr (Or.inr q_14)))).2
  | exact (gus_b (r := m38 fs) (I := (itM fi_)) (Rl := mbl fn_ fz) (Rn := mbn fz) (i := a3) (sg := 0) (Or.inr (Or.inl (whM_b1 hM.2.1 f_30_0_0)))).1
  | exact (gus_b (r := m38 fs) (I := (fun _ _ => 0)) (Rl := mbl fn_ fz) (Rn := mbn fz) (i := a3) (sg := ms) (Or.inr (Or.inl (whM_b1 hM.2.1 f_30_0_0)))).2
  | exact (gus_b (r := m38 fs) (I := (itM fi_)) (Rl := mbl fn_ fz) (Rn := mbn fz) (i := a3) (sg := 0) (Or.inr (Or.inr (Or.inl f_34_0_0)))).1
  | exact (gus_b (r := m38 fs) (I := (fun _ _ => 0)) (Rl := mbl fn_ fz) (Rn := mbn fz) (i := a3) (sg := ms) (Or.inr (Or.inr (Or.inl f_34_0_0)))).2
  | exact (gus_b (r := m38 fs) (I := (itM fi_)) (Rl := mbl fn_ fz) (Rn := mbn fz) (i := a3) (sg := 0) (Or.inr (Or.inr (Or.inr q_38)))).1
  | exact (gus_b (r := m38 fs) (I := (fun _ _ => 0)) (Rl := mbl fn_ fz) (Rn := mbn fz) (i := a3) (sg := ms) (Or.inr (Or.inr (Or.inr q_38)))).2
  | exact tri_r (guM_g (I := (itM fi_)) (sg := 0) (i := a3) hM hln9 hsz9 hj_6 gs_m hj_10 q_14 hj_14).1 (hr_0 (sg := 0) (by rw [← e_18]; exact c_19)).1 (by decide)
  | exact ((guM_g (I := (fun _ _ => 0)) (sg := ms) (i := a3) hM hln9 hsz9 hj_6 gs_m hj_10 q_14 hj_14).2.trans (hr_0 (by rw [← e_18]; exact c_19)).2).symm
  | exact tri_r (guM_g (I := (itM fi_)) (sg := 0) (i := a3) hM hln9 hsz9 hj_6 gs_m hj_10 q_14 hj_14).1 (hr_1 (sg := 0) e_18.symm f_20_1_0).1 (by decide)
  | exact hF_20_0.trans ((lk_1 f_20_1_0).symm.trans ((guM_g (I := (fun _ _ => 0)) (sg := ms) (i := a3) hM hln9 hsz9 hj_6 gs_m hj_10 q_14 hj_14).2.trans (hr_1 e_18.symm f_20_1_0).2).symm)
  | exact tri_r (guM_g (I := (itM fi_)) (sg := 0) (i := a3) hM hln9 hsz9 hj_6 gs_m hj_10 q_14 hj_14).1 (hr_2 (sg := 0) e_18.symm f_20_2_0 f_20_2_1).1 (by decide)
  | exact hF_20_0.trans ((lk_2 f_20_2_0 f_20_2_1).symm.trans ((guM_g (I := (fun _ _ => 0)) (sg := ms) (i := a3) hM hln9 hsz9 hj_6 gs_m hj_10 q_14 hj_14).2.trans (hr_2 e_18.symm f_20_2_0 f_20_2_1).2).symm)
  | exact tri_r (guM_g (I := (itM fi_)) (sg := 0) (i := a3) hM hln9 hsz9 hj_30 (gs_n (r := m38 fs) hM.1 hM.2.2.2.1 hj_3) hj_34 q_38 hj_38).1 (hr_0 (sg := 0) (by rw [← e_42]; exact c_43)).1 (by decide)
  | exact ((guM_g (I := (fun _ _ => 0)) (sg := ms) (i := a3) hM hln9 hsz9 hj_30 (gs_n (r := m38 fs) hM.1 hM.2.2.2.1 hj_3) hj_34 q_38 hj_38).2.trans (hr_0 (by rw [← e_42]; exact c_43)).2).symm
  | exact tri_r (guM_g (I := (itM fi_)) (sg := 0) (i := a3) hM hln9 hsz9 hj_30 (gs_n (r := m38 fs) hM.1 hM.2.2.2.1 hj_3) hj_34 q_38 hj_38).1 (hr_1 (sg := 0) e_42.symm f_44_1_0).1 (by decide)
  | exact hF_44_0.trans ((lk_1 f_44_1_0).symm.trans ((guM_g (I := (fun _ _ => 0)) (sg := ms) (i := a3) hM hln9 hsz9 hj_30 (gs_n (r := m38 fs) hM.1 hM.2.2.2.1 hj_3) hj_34 q_38 hj_38).2.trans (hr_1 e_42.symm f_44_1_0).2).symm)
  | exact tri_r (guM_g (I := (itM fi_)) (sg := 0) (i := a3) hM hln9 hsz9 hj_30 (gs_n (r := m38 fs) hM.1 hM.2.2.2.1 hj_3) hj_34 q_38 hj_38).1 (hr_2 (sg := 0) e_42.symm f_44_2_0 f_44_2_1).1 (by decide)
  | exact hF_44_0.trans ((lk_2 f_44_2_0 f_44_2_1).symm.trans ((guM_g (I := (fun _ _ => 0)) (sg := ms) (i := a3) hM hln9 hsz9 hj_30 (gs_n (r := m38 fs) hM.1 hM.2.2.2.1 hj_3) hj_34 q_38 hj_38).2.trans (hr_2 e_42.symm f_44_2_0 f_44_2_1).2).symm)
  | exact hF_26_2.trans ((guM_g (I := (fun _ _ => 0)) (sg := ms) (i := (nI pa_21)) hM hln9 hsz9 hj_6 gs_m hj_10 q_14 hj_14).2.trans (hr_3 (sg := ms) e_18.symm f_20_0_0 f_20_0_1).2).symm
  | exact h_26.trans ((clM_fit hj_10 (by omega)).trans (tri_0 (guM_g (I := (itM fi_)) (sg := 0) (i := (nI pa_21)) hM hln9 hsz9 hj_6 gs_m hj_10 q_14 hj_14).1 (hr_3 (sg := 0) e_18.symm f_20_0_0 f_20_0_1).1 rfl))
  | exact hF_51_2.trans ((guM_g (I := (fun _ _ => 0)) (sg := ms) (i := (nI pa_45)) hM hln9 hsz9 hj_30 (gs_n (r := m38 fs) hM.1 hM.2.2.2.1 hj_3) hj_34 q_38 hj_38).2.trans (hr_3 (sg := ms) e_42.symm f_44_0_0 f_44_0_1).2).symm
  | exact h_51.trans ((clM_fit hj_34 (by omega)).trans ((cl_w (by omega)).trans (tri_1 (guM_g (I := (itM fi_)) (sg := 0) (i := (nI pa_45)) hM hln9 hsz9 hj_30 (gs_n (r := m38 fs) hM.1 hM.2.2.2.1 hj_3) hj_34 q_38 hj_38).1 (hr_3 (sg := 0) e_42.symm f_44_0_0 f_44_0_1).1 (gs_ne (by omega)))))
theorem lf_X8_gusts_27 {ms : Int32} {mt : Int32} {ma : Nat} {fs : Nat → Int32} {w9 : Nat} {k9 : Nat} {h9 : Nat} {fz : Nat → Int32} {fn_ : Nat → Int32} {a3 : Int32} {v_2 : Int32} {j_3 : Nat} {j_30 : Nat} {j_34 : Nat} {j_38 : Nat} {msn_44 : Int32} (hM : okM fs w9 k9 h9) (hT : ¬ mt = 0 → 1 ≤ k9) (h999 : h9 ≤ 999) (hT0 : mt = 0 → fs 0 = 0 ∧ ma = 0) (hsz9 : ∀ j : Nat, j < 8 → fz j = -1 ∨ ∃ q : Nat, q ≤ 40 ∧ fz j = nI q) (hln9 : ∀ j : Nat, j < 8 → ¬ fz j = -1 → ¬ fn_ j = -1) (e_2 : v_2 = ((nI w9) - 1)) (f_3_1_0 : (¬ (((nI j_3)).toInt64 < (-1) ∨ (v_2).toInt64 < ((nI j_3)).toInt64))) (q_3 : ¬ ((nI j_3) < (-1) ∨ v_2 < (nI j_3))) (hj_3 : j_3 < w9) (hj_30 : j_30 < k9) (hkn1 : 1 ≤ k9) (hw1 : 1 ≤ w9) (h01 : ¬ fs 0 = 0) (hj_34 : j_34 < 8) (f_38_1_0 : (¬ (((nI j_38)).toInt64 < 1 ∨ 12 < ((nI j_38)).toInt64))) (q_38 : ¬ ((nI j_38) < 1 ∨ 12 < (nI j_38))) (hj_38 : j_38 ≤ 12) (e_42 : (0 : Int32) = fs (26 + j_30)) (hF_44_0 : msn_44 = lkS (fz j_34) a3 (nI j_38) ms) (f_44_2_0 : ¬ fz j_34 = -1) (f_44_2_1 : ¬ plc (fz j_34) a3 (nI j_38)) : msn_44 = f_gus (m38 fs) (mbl fn_ fz) (mbn fz) (nI j_3) (nI j_30) (nI j_34) a3 (nI j_38) ms := by
  have hw6 := hM.2.2.2.1
  first
  | exact (gus_b (r := m38 fs) (I := (itM fi_)) (Rl := mbl fn_ fz) (Rn := mbn fz) (i := a3) (sg := 0) (Or.inl (gsM_b hM e_2 q_3))).1
  | exact (gus_b (r := m38 fs) (I := (fun _ _ => 0)) (Rl := mbl fn_ fz) (Rn := mbn fz) (i := a3) (sg := ms) (Or.inl (gsM_b hM e_2 q_3))).2
  | exact (gus_b (r := m38 fs) (I := (itM fi_)) (Rl := mbl fn_ fz) (Rn := mbn fz) (i := a3) (sg := 0) (Or.inr (Or.inl (whM_b1 hM.2.1 f_6_0_0)))).1
  | exact (gus_b (r := m38 fs) (I := (fun _ _ => 0)) (Rl := mbl fn_ fz) (Rn := mbn fz) (i := a3) (sg := ms) (Or.inr (Or.inl (whM_b1 hM.2.1 f_6_0_0)))).2
  | exact (gus_b (r := m38 fs) (I := (itM fi_)) (Rl := mbl fn_ fz) (Rn := mbn fz) (i := a3) (sg := 0) (Or.inr (Or.inr (Or.inl f_10_0_0)))).1
  | exact (gus_b (r := m38 fs) (I := (fun _ _ => 0)) (Rl := mbl fn_ fz) (Rn := mbn fz) (i := a3) (sg := ms) (Or.inr (Or.inr (Or.inl f_10_0_0)))).2
  | exact (gus_b (r := m38 fs) (I := (itM fi_)) (Rl := mbl fn_ fz) (Rn := mbn fz) (i := a3) (sg := 0) (Or.inr (Or.inr (Or.inr q_14)))).1
  | exact (gus_b (r := m38 fs) (I := (fun _ _ => 0)) (Rl := mbl fn_ fz) (Rn := mbn fz) (i := a3) (sg := ms) (Or.inr (Or.inr (Or.inr q_14)))).2
  | exact (gus_b (r := m38 fs) (I := (itM fi_)) (Rl := mbl fn_ fz) (Rn := mbn fz) (i := a3) (sg := 0) (Or.inr (Or.inl (whM_b1 hM.2.1 f_30_0_0)))).1
  | exact (gus_b (r := m38 fs) (I := (fun _ _ => 0)) (Rl := mbl fn_ fz) (Rn := mbn fz) (i := a3) (sg := ms) (Or.inr (Or.inl (whM_b1 hM.2.1 f_30_0_0)))).2
  | exact (gus_b (r := m38 fs) (I := (itM fi_)) (Rl := mbl fn_ fz) (Rn := mbn fz) (i := a3) (sg := 0) (Or.inr (Or.inr (Or.inl f_34_0_0)))).1
  | exact (gus_b (r := m38 fs) (I := (fun _ _ => 0)) (Rl := mbl fn_ fz) (Rn := mbn fz) (i := a3) (sg := ms) (Or.inr (Or.inr (Or.inl f_34_0_0)))).2
  | exact (gus_b (r := m38 fs) (I := (itM fi_)) (Rl := mbl fn_ fz) (Rn := mbn fz) (i := a3) (sg := 0) (Or.inr (Or.inr (Or.inr q_38)))).1
  | exact (gus_b (r := m38 fs) (I := (fun _ _ => 0)) (Rl := mbl fn_ fz) (Rn := mbn fz) (i := a3) (sg := ms) (Or.inr (Or.inr (Or.inr q_38)))).2
  | exact tri_r (guM_g (I := (itM fi_)) (sg := 0) (i := a3) hM hln9 hsz9 hj_6 gs_m hj_10 q_14 hj_14).1 (hr_0 (sg := 0) (by rw [← e_18]; exact c_19)).1 (by decide)
  | exact ((guM_g (I := (fun _ _ => 0)) (sg := ms) (i := a3) hM hln9 hsz9 hj_6 gs_m hj_10 q_14 hj_14).2.trans (hr_0 (by rw [← e_18]; exact c_19)).2).symm
  | exact tri_r (guM_g (I := (itM fi_)) (sg := 0) (i := a3) hM hln9 hsz9 hj_6 gs_m hj_10 q_14 hj_14).1 (hr_1 (sg := 0) e_18.symm f_20_1_0).1 (by decide)
  | exact hF_20_0.trans ((lk_1 f_20_1_0).symm.trans ((guM_g (I := (fun _ _ => 0)) (sg := ms) (i := a3) hM hln9 hsz9 hj_6 gs_m hj_10 q_14 hj_14).2.trans (hr_1 e_18.symm f_20_1_0).2).symm)
  | exact tri_r (guM_g (I := (itM fi_)) (sg := 0) (i := a3) hM hln9 hsz9 hj_6 gs_m hj_10 q_14 hj_14).1 (hr_2 (sg := 0) e_18.symm f_20_2_0 f_20_2_1).1 (by decide)
  | exact hF_20_0.trans ((lk_2 f_20_2_0 f_20_2_1).symm.trans ((guM_g (I := (fun _ _ => 0)) (sg := ms) (i := a3) hM hln9 hsz9 hj_6 gs_m hj_10 q_14 hj_14).2.trans (hr_2 e_18.symm f_20_2_0 f_20_2_1).2).symm)
  | exact tri_r (guM_g (I := (itM fi_)) (sg := 0) (i := a3) hM hln9 hsz9 hj_30 (gs_n (r := m38 fs) hM.1 hM.2.2.2.1 hj_3) hj_34 q_38 hj_38).1 (hr_0 (sg := 0) (by rw [← e_42]; exact c_43)).1 (by decide)
  | exact ((guM_g (I := (fun _ _ => 0)) (sg := ms) (i := a3) hM hln9 hsz9 hj_30 (gs_n (r := m38 fs) hM.1 hM.2.2.2.1 hj_3) hj_34 q_38 hj_38).2.trans (hr_0 (by rw [← e_42]; exact c_43)).2).symm
  | exact tri_r (guM_g (I := (itM fi_)) (sg := 0) (i := a3) hM hln9 hsz9 hj_30 (gs_n (r := m38 fs) hM.1 hM.2.2.2.1 hj_3) hj_34 q_38 hj_38).1 (hr_1 (sg := 0) e_42.symm f_44_1_0).1 (by decide)
  | exact hF_44_0.trans ((lk_1 f_44_1_0).symm.trans ((guM_g (I := (fun _ _ => 0)) (sg := ms) (i := a3) hM hln9 hsz9 hj_30 (gs_n (r := m38 fs) hM.1 hM.2.2.2.1 hj_3) hj_34 q_38 hj_38).2.trans (hr_1 e_42.symm f_44_1_0).2).symm)
  | exact tri_r (guM_g (I := (itM fi_)) (sg := 0) (i := a3) hM hln9 hsz9 hj_30 (gs_n (r := m38 fs) hM.1 hM.2.2.2.1 hj_3) hj_34 q_38 hj_38).1 (hr_2 (sg := 0) e_42.symm f_44_2_0 f_44_2_1).1 (by decide)
  | exact hF_44_0.trans ((lk_2 f_44_2_0 f_44_2_1).symm.trans ((guM_g (I := (fun _ _ => 0)) (sg := ms) (i := a3) hM hln9 hsz9 hj_30 (gs_n (r := m38 fs) hM.1 hM.2.2.2.1 hj_3) hj_34 q_38 hj_38).2.trans (hr_2 e_42.symm f_44_2_0 f_44_2_1).2).symm)
  | exact hF_26_2.trans ((guM_g (I := (fun _ _ => 0)) (sg := ms) (i := (nI pa_21)) hM hln9 hsz9 hj_6 gs_m hj_10 q_14 hj_14).2.trans (hr_3 (sg := ms) e_18.symm f_20_0_0 f_20_0_1).2).symm
  | exact h_26.trans ((clM_fit hj_10 (by omega)).trans (tri_0 (guM_g (I := (itM fi_)) (sg := 0) (i := (nI pa_21)) hM hln9 hsz9 hj_6 gs_m hj_10 q_14 hj_14).1 (hr_3 (sg := 0) e_18.symm f_20_0_0 f_20_0_1).1 rfl))
  | exact hF_51_2.trans ((guM_g (I := (fun _ _ => 0)) (sg := ms) (i := (nI pa_45)) hM hln9 hsz9 hj_30 (gs_n (r := m38 fs) hM.1 hM.2.2.2.1 hj_3) hj_34 q_38 hj_38).2.trans (hr_3 (sg := ms) e_42.symm f_44_0_0 f_44_0_1).2).symm
  | exact h_51.trans ((clM_fit hj_34 (by omega)).trans ((cl_w (by omega)).trans (tri_1 (guM_g (I := (itM fi_)) (sg := 0) (i := (nI pa_45)) hM hln9 hsz9 hj_30 (gs_n (r := m38 fs) hM.1 hM.2.2.2.1 hj_3) hj_34 q_38 hj_38).1 (hr_3 (sg := 0) e_42.symm f_44_0_0 f_44_0_1).1 (gs_ne (by omega)))))
theorem lf_X8_gusts_28 {ms : Int32} {mt : Int32} {ma : Nat} {fs : Nat → Int32} {w9 : Nat} {k9 : Nat} {h9 : Nat} {fi_ : Nat → Int32} {fz : Nat → Int32} {fn_ : Nat → Int32} {a3 : Int32} {v_2 : Int32} {j_3 : Nat} {j_30 : Nat} {j_34 : Nat} {j_38 : Nat} {msn_44 : Int32} (hM : okM fs w9 k9 h9) (hT : ¬ mt = 0 → 1 ≤ k9) (h999 : h9 ≤ 999) (hT0 : mt = 0 → fs 0 = 0 ∧ ma = 0) (hsz9 : ∀ j : Nat, j < 8 → fz j = -1 ∨ ∃ q : Nat, q ≤ 40 ∧ fz j = nI q) (hln9 : ∀ j : Nat, j < 8 → ¬ fz j = -1 → ¬ fn_ j = -1) (e_2 : v_2 = ((nI w9) - 1)) (f_3_1_0 : (¬ (((nI j_3)).toInt64 < (-1) ∨ (v_2).toInt64 < ((nI j_3)).toInt64))) (q_3 : ¬ ((nI j_3) < (-1) ∨ v_2 < (nI j_3))) (hj_3 : j_3 < w9) (hj_30 : j_30 < k9) (hkn1 : 1 ≤ k9) (hw1 : 1 ≤ w9) (h01 : ¬ fs 0 = 0) (hj_34 : j_34 < 8) (f_38_1_0 : (¬ (((nI j_38)).toInt64 < 1 ∨ 12 < ((nI j_38)).toInt64))) (q_38 : ¬ ((nI j_38) < 1 ∨ 12 < (nI j_38))) (hj_38 : j_38 ≤ 12) (e_42 : (0 : Int32) = fs (26 + j_30)) (hF_44_0 : msn_44 = lkS (fz j_34) a3 (nI j_38) ms) (f_44_2_0 : ¬ fz j_34 = -1) (f_44_2_1 : ¬ plc (fz j_34) a3 (nI j_38)) : (-1000012) = (a_gus (m38 fs) (mbl fn_ fz) (mbn fz) (itM fi_) (nI j_3) (nI j_30) (nI j_34) a3 (nI j_38)) := by
  have hw6 := hM.2.2.2.1
  first
  | exact (gus_b (r := m38 fs) (I := (itM fi_)) (Rl := mbl fn_ fz) (Rn := mbn fz) (i := a3) (sg := 0) (Or.inl (gsM_b hM e_2 q_3))).1
  | exact (gus_b (r := m38 fs) (I := (fun _ _ => 0)) (Rl := mbl fn_ fz) (Rn := mbn fz) (i := a3) (sg := ms) (Or.inl (gsM_b hM e_2 q_3))).2
  | exact (gus_b (r := m38 fs) (I := (itM fi_)) (Rl := mbl fn_ fz) (Rn := mbn fz) (i := a3) (sg := 0) (Or.inr (Or.inl (whM_b1 hM.2.1 f_6_0_0)))).1
  | exact (gus_b (r := m38 fs) (I := (fun _ _ => 0)) (Rl := mbl fn_ fz) (Rn := mbn fz) (i := a3) (sg := ms) (Or.inr (Or.inl (whM_b1 hM.2.1 f_6_0_0)))).2
  | exact (gus_b (r := m38 fs) (I := (itM fi_)) (Rl := mbl fn_ fz) (Rn := mbn fz) (i := a3) (sg := 0) (Or.inr (Or.inr (Or.inl f_10_0_0)))).1
  | exact (gus_b (r := m38 fs) (I := (fun _ _ => 0)) (Rl := mbl fn_ fz) (Rn := mbn fz) (i := a3) (sg := ms) (Or.inr (Or.inr (Or.inl f_10_0_0)))).2
  | exact (gus_b (r := m38 fs) (I := (itM fi_)) (Rl := mbl fn_ fz) (Rn := mbn fz) (i := a3) (sg := 0) (Or.inr (Or.inr (Or.inr q_14)))).1
  | exact (gus_b (r := m38 fs) (I := (fun _ _ => 0)) (Rl := mbl fn_ fz) (Rn := mbn fz) (i := a3) (sg := ms) (Or.inr (Or.inr (Or.inr q_14)))).2
  | exact (gus_b (r := m38 fs) (I := (itM fi_)) (Rl := mbl fn_ fz) (Rn := mbn fz) (i := a3) (sg := 0) (Or.inr (Or.inl (whM_b1 hM.2.1 f_30_0_0)))).1
  | exact (gus_b (r := m38 fs) (I := (fun _ _ => 0)) (Rl := mbl fn_ fz) (Rn := mbn fz) (i := a3) (sg := ms) (Or.inr (Or.inl (whM_b1 hM.2.1 f_30_0_0)))).2
  | exact (gus_b (r := m38 fs) (I := (itM fi_)) (Rl := mbl fn_ fz) (Rn := mbn fz) (i := a3) (sg := 0) (Or.inr (Or.inr (Or.inl f_34_0_0)))).1
  | exact (gus_b (r := m38 fs) (I := (fun _ _ => 0)) (Rl := mbl fn_ fz) (Rn := mbn fz) (i := a3) (sg := ms) (Or.inr (Or.inr (Or.inl f_34_0_0)))).2
  | exact (gus_b (r := m38 fs) (I := (itM fi_)) (Rl := mbl fn_ fz) (Rn := mbn fz) (i := a3) (sg := 0) (Or.inr (Or.inr (Or.inr q_38)))).1
  | exact (gus_b (r := m38 fs) (I := (fun _ _ => 0)) (Rl := mbl fn_ fz) (Rn := mbn fz) (i := a3) (sg := ms) (Or.inr (Or.inr (Or.inr q_38)))).2
  | exact tri_r (guM_g (I := (itM fi_)) (sg := 0) (i := a3) hM hln9 hsz9 hj_6 gs_m hj_10 q_14 hj_14).1 (hr_0 (sg := 0) (by rw [← e_18]; exact c_19)).1 (by decide)
  | exact ((guM_g (I := (fun _ _ => 0)) (sg := ms) (i := a3) hM hln9 hsz9 hj_6 gs_m hj_10 q_14 hj_14).2.trans (hr_0 (by rw [← e_18]; exact c_19)).2).symm
  | exact tri_r (guM_g (I := (itM fi_)) (sg := 0) (i := a3) hM hln9 hsz9 hj_6 gs_m hj_10 q_14 hj_14).1 (hr_1 (sg := 0) e_18.symm f_20_1_0).1 (by decide)
  | exact hF_20_0.trans ((lk_1 f_20_1_0).symm.trans ((guM_g (I := (fun _ _ => 0)) (sg := ms) (i := a3) hM hln9 hsz9 hj_6 gs_m hj_10 q_14 hj_14).2.trans (hr_1 e_18.symm f_20_1_0).2).symm)
  | exact tri_r (guM_g (I := (itM fi_)) (sg := 0) (i := a3) hM hln9 hsz9 hj_6 gs_m hj_10 q_14 hj_14).1 (hr_2 (sg := 0) e_18.symm f_20_2_0 f_20_2_1).1 (by decide)
  | exact hF_20_0.trans ((lk_2 f_20_2_0 f_20_2_1).symm.trans ((guM_g (I := (fun _ _ => 0)) (sg := ms) (i := a3) hM hln9 hsz9 hj_6 gs_m hj_10 q_14 hj_14).2.trans (hr_2 e_18.symm f_20_2_0 f_20_2_1).2).symm)
  | exact tri_r (guM_g (I := (itM fi_)) (sg := 0) (i := a3) hM hln9 hsz9 hj_30 (gs_n (r := m38 fs) hM.1 hM.2.2.2.1 hj_3) hj_34 q_38 hj_38).1 (hr_0 (sg := 0) (by rw [← e_42]; exact c_43)).1 (by decide)
  | exact ((guM_g (I := (fun _ _ => 0)) (sg := ms) (i := a3) hM hln9 hsz9 hj_30 (gs_n (r := m38 fs) hM.1 hM.2.2.2.1 hj_3) hj_34 q_38 hj_38).2.trans (hr_0 (by rw [← e_42]; exact c_43)).2).symm
  | exact tri_r (guM_g (I := (itM fi_)) (sg := 0) (i := a3) hM hln9 hsz9 hj_30 (gs_n (r := m38 fs) hM.1 hM.2.2.2.1 hj_3) hj_34 q_38 hj_38).1 (hr_1 (sg := 0) e_42.symm f_44_1_0).1 (by decide)
  | exact hF_44_0.trans ((lk_1 f_44_1_0).symm.trans ((guM_g (I := (fun _ _ => 0)) (sg := ms) (i := a3) hM hln9 hsz9 hj_30 (gs_n (r := m38 fs) hM.1 hM.2.2.2.1 hj_3) hj_34 q_38 hj_38).2.trans (hr_1 e_42.symm f_44_1_0).2).symm)
  | exact tri_r (guM_g (I := (itM fi_)) (sg := 0) (i := a3) hM hln9 hsz9 hj_30 (gs_n (r := m38 fs) hM.1 hM.2.2.2.1 hj_3) hj_34 q_38 hj_38).1 (hr_2 (sg := 0) e_42.symm f_44_2_0 f_44_2_1).1 (by decide)
  | exact hF_44_0.trans ((lk_2 f_44_2_0 f_44_2_1).symm.trans ((guM_g (I := (fun _ _ => 0)) (sg := ms) (i := a3) hM hln9 hsz9 hj_30 (gs_n (r := m38 fs) hM.1 hM.2.2.2.1 hj_3) hj_34 q_38 hj_38).2.trans (hr_2 e_42.symm f_44_2_0 f_44_2_1).2).symm)
  | exact hF_26_2.trans ((guM_g (I := (fun _ _ => 0)) (sg := ms) (i := (nI pa_21)) hM hln9 hsz9 hj_6 gs_m hj_10 q_14 hj_14).2.trans (hr_3 (sg := ms) e_18.symm f_20_0_0 f_20_0_1).2).symm
  | exact h_26.trans ((clM_fit hj_10 (by omega)).trans (tri_0 (guM_g (I := (itM fi_)) (sg := 0) (i := (nI pa_21)) hM hln9 hsz9 hj_6 gs_m hj_10 q_14 hj_14).1 (hr_3 (sg := 0) e_18.symm f_20_0_0 f_20_0_1).1 rfl))
  | exact hF_51_2.trans ((guM_g (I := (fun _ _ => 0)) (sg := ms) (i := (nI pa_45)) hM hln9 hsz9 hj_30 (gs_n (r := m38 fs) hM.1 hM.2.2.2.1 hj_3) hj_34 q_38 hj_38).2.trans (hr_3 (sg := ms) e_42.symm f_44_0_0 f_44_0_1).2).symm
  | exact h_51.trans ((clM_fit hj_34 (by omega)).trans ((cl_w (by omega)).trans (tri_1 (guM_g (I := (itM fi_)) (sg := 0) (i := (nI pa_45)) hM hln9 hsz9 hj_30 (gs_n (r := m38 fs) hM.1 hM.2.2.2.1 hj_3) hj_34 q_38 hj_38).1 (hr_3 (sg := 0) e_42.symm f_44_0_0 f_44_0_1).1 (gs_ne (by omega)))))
theorem lf_X8_gusts_29 {ms : Int32} {mt : Int32} {ma : Nat} {fs : Nat → Int32} {w9 : Nat} {k9 : Nat} {h9 : Nat} {fz : Nat → Int32} {fn_ : Nat → Int32} {a3 : Int32} {v_2 : Int32} {j_3 : Nat} {j_30 : Nat} {j_34 : Nat} {j_38 : Nat} {v_42 : Int32} (hM : okM fs w9 k9 h9) (hT : ¬ mt = 0 → 1 ≤ k9) (h999 : h9 ≤ 999) (hT0 : mt = 0 → fs 0 = 0 ∧ ma = 0) (hsz9 : ∀ j : Nat, j < 8 → fz j = -1 ∨ ∃ q : Nat, q ≤ 40 ∧ fz j = nI q) (hln9 : ∀ j : Nat, j < 8 → ¬ fz j = -1 → ¬ fn_ j = -1) (e_2 : v_2 = ((nI w9) - 1)) (f_3_1_0 : (¬ (((nI j_3)).toInt64 < (-1) ∨ (v_2).toInt64 < ((nI j_3)).toInt64))) (q_3 : ¬ ((nI j_3) < (-1) ∨ v_2 < (nI j_3))) (hj_3 : j_3 < w9) (hj_30 : j_30 < k9) (hkn1 : 1 ≤ k9) (hw1 : 1 ≤ w9) (h01 : ¬ fs 0 = 0) (hj_34 : j_34 < 8) (f_38_1_0 : (¬ (((nI j_38)).toInt64 < 1 ∨ 12 < ((nI j_38)).toInt64))) (q_38 : ¬ ((nI j_38) < 1 ∨ 12 < (nI j_38))) (hj_38 : j_38 ≤ 12) (e_42 : v_42 = fs (26 + j_30)) (c_43 : ¬ (v_42 = 0)) : ms = f_gus (m38 fs) (mbl fn_ fz) (mbn fz) (nI j_3) (nI j_30) (nI j_34) a3 (nI j_38) ms := by
  have hw6 := hM.2.2.2.1
  first
  | exact (gus_b (r := m38 fs) (I := (itM fi_)) (Rl := mbl fn_ fz) (Rn := mbn fz) (i := a3) (sg := 0) (Or.inl (gsM_b hM e_2 q_3))).1
  | exact (gus_b (r := m38 fs) (I := (fun _ _ => 0)) (Rl := mbl fn_ fz) (Rn := mbn fz) (i := a3) (sg := ms) (Or.inl (gsM_b hM e_2 q_3))).2
  | exact (gus_b (r := m38 fs) (I := (itM fi_)) (Rl := mbl fn_ fz) (Rn := mbn fz) (i := a3) (sg := 0) (Or.inr (Or.inl (whM_b1 hM.2.1 f_6_0_0)))).1
  | exact (gus_b (r := m38 fs) (I := (fun _ _ => 0)) (Rl := mbl fn_ fz) (Rn := mbn fz) (i := a3) (sg := ms) (Or.inr (Or.inl (whM_b1 hM.2.1 f_6_0_0)))).2
  | exact (gus_b (r := m38 fs) (I := (itM fi_)) (Rl := mbl fn_ fz) (Rn := mbn fz) (i := a3) (sg := 0) (Or.inr (Or.inr (Or.inl f_10_0_0)))).1
  | exact (gus_b (r := m38 fs) (I := (fun _ _ => 0)) (Rl := mbl fn_ fz) (Rn := mbn fz) (i := a3) (sg := ms) (Or.inr (Or.inr (Or.inl f_10_0_0)))).2
  | exact (gus_b (r := m38 fs) (I := (itM fi_)) (Rl := mbl fn_ fz) (Rn := mbn fz) (i := a3) (sg := 0) (Or.inr (Or.inr (Or.inr q_14)))).1
  | exact (gus_b (r := m38 fs) (I := (fun _ _ => 0)) (Rl := mbl fn_ fz) (Rn := mbn fz) (i := a3) (sg := ms) (Or.inr (Or.inr (Or.inr q_14)))).2
  | exact (gus_b (r := m38 fs) (I := (itM fi_)) (Rl := mbl fn_ fz) (Rn := mbn fz) (i := a3) (sg := 0) (Or.inr (Or.inl (whM_b1 hM.2.1 f_30_0_0)))).1
  | exact (gus_b (r := m38 fs) (I := (fun _ _ => 0)) (Rl := mbl fn_ fz) (Rn := mbn fz) (i := a3) (sg := ms) (Or.inr (Or.inl (whM_b1 hM.2.1 f_30_0_0)))).2
  | exact (gus_b (r := m38 fs) (I := (itM fi_)) (Rl := mbl fn_ fz) (Rn := mbn fz) (i := a3) (sg := 0) (Or.inr (Or.inr (Or.inl f_34_0_0)))).1
  | exact (gus_b (r := m38 fs) (I := (fun _ _ => 0)) (Rl := mbl fn_ fz) (Rn := mbn fz) (i := a3) (sg := ms) (Or.inr (Or.inr (Or.inl f_34_0_0)))).2
  | exact (gus_b (r := m38 fs) (I := (itM fi_)) (Rl := mbl fn_ fz) (Rn := mbn fz) (i := a3) (sg := 0) (Or.inr (Or.inr (Or.inr q_38)))).1
  | exact (gus_b (r := m38 fs) (I := (fun _ _ => 0)) (Rl := mbl fn_ fz) (Rn := mbn fz) (i := a3) (sg := ms) (Or.inr (Or.inr (Or.inr q_38)))).2
  | exact tri_r (guM_g (I := (itM fi_)) (sg := 0) (i := a3) hM hln9 hsz9 hj_6 gs_m hj_10 q_14 hj_14).1 (hr_0 (sg := 0) (by rw [← e_18]; exact c_19)).1 (by decide)
  | exact ((guM_g (I := (fun _ _ => 0)) (sg := ms) (i := a3) hM hln9 hsz9 hj_6 gs_m hj_10 q_14 hj_14).2.trans (hr_0 (by rw [← e_18]; exact c_19)).2).symm
  | exact tri_r (guM_g (I := (itM fi_)) (sg := 0) (i := a3) hM hln9 hsz9 hj_6 gs_m hj_10 q_14 hj_14).1 (hr_1 (sg := 0) e_18.symm f_20_1_0).1 (by decide)
  | exact hF_20_0.trans ((lk_1 f_20_1_0).symm.trans ((guM_g (I := (fun _ _ => 0)) (sg := ms) (i := a3) hM hln9 hsz9 hj_6 gs_m hj_10 q_14 hj_14).2.trans (hr_1 e_18.symm f_20_1_0).2).symm)
  | exact tri_r (guM_g (I := (itM fi_)) (sg := 0) (i := a3) hM hln9 hsz9 hj_6 gs_m hj_10 q_14 hj_14).1 (hr_2 (sg := 0) e_18.symm f_20_2_0 f_20_2_1).1 (by decide)
  | exact hF_20_0.trans ((lk_2 f_20_2_0 f_20_2_1).symm.trans ((guM_g (I := (fun _ _ => 0)) (sg := ms) (i := a3) hM hln9 hsz9 hj_6 gs_m hj_10 q_14 hj_14).2.trans (hr_2 e_18.symm f_20_2_0 f_20_2_1).2).symm)
  | exact tri_r (guM_g (I := (itM fi_)) (sg := 0) (i := a3) hM hln9 hsz9 hj_30 (gs_n (r := m38 fs) hM.1 hM.2.2.2.1 hj_3) hj_34 q_38 hj_38).1 (hr_0 (sg := 0) (by rw [← e_42]; exact c_43)).1 (by decide)
  | exact ((guM_g (I := (fun _ _ => 0)) (sg := ms) (i := a3) hM hln9 hsz9 hj_30 (gs_n (r := m38 fs) hM.1 hM.2.2.2.1 hj_3) hj_34 q_38 hj_38).2.trans (hr_0 (by rw [← e_42]; exact c_43)).2).symm
  | exact tri_r (guM_g (I := (itM fi_)) (sg := 0) (i := a3) hM hln9 hsz9 hj_30 (gs_n (r := m38 fs) hM.1 hM.2.2.2.1 hj_3) hj_34 q_38 hj_38).1 (hr_1 (sg := 0) e_42.symm f_44_1_0).1 (by decide)
  | exact hF_44_0.trans ((lk_1 f_44_1_0).symm.trans ((guM_g (I := (fun _ _ => 0)) (sg := ms) (i := a3) hM hln9 hsz9 hj_30 (gs_n (r := m38 fs) hM.1 hM.2.2.2.1 hj_3) hj_34 q_38 hj_38).2.trans (hr_1 e_42.symm f_44_1_0).2).symm)
  | exact tri_r (guM_g (I := (itM fi_)) (sg := 0) (i := a3) hM hln9 hsz9 hj_30 (gs_n (r := m38 fs) hM.1 hM.2.2.2.1 hj_3) hj_34 q_38 hj_38).1 (hr_2 (sg := 0) e_42.symm f_44_2_0 f_44_2_1).1 (by decide)
  | exact hF_44_0.trans ((lk_2 f_44_2_0 f_44_2_1).symm.trans ((guM_g (I := (fun _ _ => 0)) (sg := ms) (i := a3) hM hln9 hsz9 hj_30 (gs_n (r := m38 fs) hM.1 hM.2.2.2.1 hj_3) hj_34 q_38 hj_38).2.trans (hr_2 e_42.symm f_44_2_0 f_44_2_1).2).symm)
  | exact hF_26_2.trans ((guM_g (I := (fun _ _ => 0)) (sg := ms) (i := (nI pa_21)) hM hln9 hsz9 hj_6 gs_m hj_10 q_14 hj_14).2.trans (hr_3 (sg := ms) e_18.symm f_20_0_0 f_20_0_1).2).symm
  | exact h_26.trans ((clM_fit hj_10 (by omega)).trans (tri_0 (guM_g (I := (itM fi_)) (sg := 0) (i := (nI pa_21)) hM hln9 hsz9 hj_6 gs_m hj_10 q_14 hj_14).1 (hr_3 (sg := 0) e_18.symm f_20_0_0 f_20_0_1).1 rfl))
  | exact hF_51_2.trans ((guM_g (I := (fun _ _ => 0)) (sg := ms) (i := (nI pa_45)) hM hln9 hsz9 hj_30 (gs_n (r := m38 fs) hM.1 hM.2.2.2.1 hj_3) hj_34 q_38 hj_38).2.trans (hr_3 (sg := ms) e_42.symm f_44_0_0 f_44_0_1).2).symm
  | exact h_51.trans ((clM_fit hj_34 (by omega)).trans ((cl_w (by omega)).trans (tri_1 (guM_g (I := (itM fi_)) (sg := 0) (i := (nI pa_45)) hM hln9 hsz9 hj_30 (gs_n (r := m38 fs) hM.1 hM.2.2.2.1 hj_3) hj_34 q_38 hj_38).1 (hr_3 (sg := 0) e_42.symm f_44_0_0 f_44_0_1).1 (gs_ne (by omega)))))
theorem lf_X8_gusts_30 {mt : Int32} {ma : Nat} {fs : Nat → Int32} {w9 : Nat} {k9 : Nat} {h9 : Nat} {fi_ : Nat → Int32} {fz : Nat → Int32} {fn_ : Nat → Int32} {a3 : Int32} {v_2 : Int32} {j_3 : Nat} {j_30 : Nat} {j_34 : Nat} {j_38 : Nat} {v_42 : Int32} (hM : okM fs w9 k9 h9) (hT : ¬ mt = 0 → 1 ≤ k9) (h999 : h9 ≤ 999) (hT0 : mt = 0 → fs 0 = 0 ∧ ma = 0) (hsz9 : ∀ j : Nat, j < 8 → fz j = -1 ∨ ∃ q : Nat, q ≤ 40 ∧ fz j = nI q) (hln9 : ∀ j : Nat, j < 8 → ¬ fz j = -1 → ¬ fn_ j = -1) (e_2 : v_2 = ((nI w9) - 1)) (f_3_1_0 : (¬ (((nI j_3)).toInt64 < (-1) ∨ (v_2).toInt64 < ((nI j_3)).toInt64))) (q_3 : ¬ ((nI j_3) < (-1) ∨ v_2 < (nI j_3))) (hj_3 : j_3 < w9) (hj_30 : j_30 < k9) (hkn1 : 1 ≤ k9) (hw1 : 1 ≤ w9) (h01 : ¬ fs 0 = 0) (hj_34 : j_34 < 8) (f_38_1_0 : (¬ (((nI j_38)).toInt64 < 1 ∨ 12 < ((nI j_38)).toInt64))) (q_38 : ¬ ((nI j_38) < 1 ∨ 12 < (nI j_38))) (hj_38 : j_38 ≤ 12) (e_42 : v_42 = fs (26 + j_30)) (c_43 : ¬ (v_42 = 0)) : (-1000002) = (a_gus (m38 fs) (mbl fn_ fz) (mbn fz) (itM fi_) (nI j_3) (nI j_30) (nI j_34) a3 (nI j_38)) := by
  have hw6 := hM.2.2.2.1
  first
  | exact (gus_b (r := m38 fs) (I := (itM fi_)) (Rl := mbl fn_ fz) (Rn := mbn fz) (i := a3) (sg := 0) (Or.inl (gsM_b hM e_2 q_3))).1
  | exact (gus_b (r := m38 fs) (I := (fun _ _ => 0)) (Rl := mbl fn_ fz) (Rn := mbn fz) (i := a3) (sg := ms) (Or.inl (gsM_b hM e_2 q_3))).2
  | exact (gus_b (r := m38 fs) (I := (itM fi_)) (Rl := mbl fn_ fz) (Rn := mbn fz) (i := a3) (sg := 0) (Or.inr (Or.inl (whM_b1 hM.2.1 f_6_0_0)))).1
  | exact (gus_b (r := m38 fs) (I := (fun _ _ => 0)) (Rl := mbl fn_ fz) (Rn := mbn fz) (i := a3) (sg := ms) (Or.inr (Or.inl (whM_b1 hM.2.1 f_6_0_0)))).2
  | exact (gus_b (r := m38 fs) (I := (itM fi_)) (Rl := mbl fn_ fz) (Rn := mbn fz) (i := a3) (sg := 0) (Or.inr (Or.inr (Or.inl f_10_0_0)))).1
  | exact (gus_b (r := m38 fs) (I := (fun _ _ => 0)) (Rl := mbl fn_ fz) (Rn := mbn fz) (i := a3) (sg := ms) (Or.inr (Or.inr (Or.inl f_10_0_0)))).2
  | exact (gus_b (r := m38 fs) (I := (itM fi_)) (Rl := mbl fn_ fz) (Rn := mbn fz) (i := a3) (sg := 0) (Or.inr (Or.inr (Or.inr q_14)))).1
  | exact (gus_b (r := m38 fs) (I := (fun _ _ => 0)) (Rl := mbl fn_ fz) (Rn := mbn fz) (i := a3) (sg := ms) (Or.inr (Or.inr (Or.inr q_14)))).2
  | exact (gus_b (r := m38 fs) (I := (itM fi_)) (Rl := mbl fn_ fz) (Rn := mbn fz) (i := a3) (sg := 0) (Or.inr (Or.inl (whM_b1 hM.2.1 f_30_0_0)))).1
  | exact (gus_b (r := m38 fs) (I := (fun _ _ => 0)) (Rl := mbl fn_ fz) (Rn := mbn fz) (i := a3) (sg := ms) (Or.inr (Or.inl (whM_b1 hM.2.1 f_30_0_0)))).2
  | exact (gus_b (r := m38 fs) (I := (itM fi_)) (Rl := mbl fn_ fz) (Rn := mbn fz) (i := a3) (sg := 0) (Or.inr (Or.inr (Or.inl f_34_0_0)))).1
  | exact (gus_b (r := m38 fs) (I := (fun _ _ => 0)) (Rl := mbl fn_ fz) (Rn := mbn fz) (i := a3) (sg := ms) (Or.inr (Or.inr (Or.inl f_34_0_0)))).2
  | exact (gus_b (r := m38 fs) (I := (itM fi_)) (Rl := mbl fn_ fz) (Rn := mbn fz) (i := a3) (sg := 0) (Or.inr (Or.inr (Or.inr q_38)))).1
  | exact (gus_b (r := m38 fs) (I := (fun _ _ => 0)) (Rl := mbl fn_ fz) (Rn := mbn fz) (i := a3) (sg := ms) (Or.inr (Or.inr (Or.inr q_38)))).2
  | exact tri_r (guM_g (I := (itM fi_)) (sg := 0) (i := a3) hM hln9 hsz9 hj_6 gs_m hj_10 q_14 hj_14).1 (hr_0 (sg := 0) (by rw [← e_18]; exact c_19)).1 (by decide)
  | exact ((guM_g (I := (fun _ _ => 0)) (sg := ms) (i := a3) hM hln9 hsz9 hj_6 gs_m hj_10 q_14 hj_14).2.trans (hr_0 (by rw [← e_18]; exact c_19)).2).symm
  | exact tri_r (guM_g (I := (itM fi_)) (sg := 0) (i := a3) hM hln9 hsz9 hj_6 gs_m hj_10 q_14 hj_14).1 (hr_1 (sg := 0) e_18.symm f_20_1_0).1 (by decide)
  | exact hF_20_0.trans ((lk_1 f_20_1_0).symm.trans ((guM_g (I := (fun _ _ => 0)) (sg := ms) (i := a3) hM hln9 hsz9 hj_6 gs_m hj_10 q_14 hj_14).2.trans (hr_1 e_18.symm f_20_1_0).2).symm)
  | exact tri_r (guM_g (I := (itM fi_)) (sg := 0) (i := a3) hM hln9 hsz9 hj_6 gs_m hj_10 q_14 hj_14).1 (hr_2 (sg := 0) e_18.symm f_20_2_0 f_20_2_1).1 (by decide)
  | exact hF_20_0.trans ((lk_2 f_20_2_0 f_20_2_1).symm.trans ((guM_g (I := (fun _ _ => 0)) (sg := ms) (i := a3) hM hln9 hsz9 hj_6 gs_m hj_10 q_14 hj_14).2.trans (hr_2 e_18.symm f_20_2_0 f_20_2_1).2).symm)
  | exact tri_r (guM_g (I := (itM fi_)) (sg := 0) (i := a3) hM hln9 hsz9 hj_30 (gs_n (r := m38 fs) hM.1 hM.2.2.2.1 hj_3) hj_34 q_38 hj_38).1 (hr_0 (sg := 0) (by rw [← e_42]; exact c_43)).1 (by decide)
  | exact ((guM_g (I := (fun _ _ => 0)) (sg := ms) (i := a3) hM hln9 hsz9 hj_30 (gs_n (r := m38 fs) hM.1 hM.2.2.2.1 hj_3) hj_34 q_38 hj_38).2.trans (hr_0 (by rw [← e_42]; exact c_43)).2).symm
  | exact tri_r (guM_g (I := (itM fi_)) (sg := 0) (i := a3) hM hln9 hsz9 hj_30 (gs_n (r := m38 fs) hM.1 hM.2.2.2.1 hj_3) hj_34 q_38 hj_38).1 (hr_1 (sg := 0) e_42.symm f_44_1_0).1 (by decide)
  | exact hF_44_0.trans ((lk_1 f_44_1_0).symm.trans ((guM_g (I := (fun _ _ => 0)) (sg := ms) (i := a3) hM hln9 hsz9 hj_30 (gs_n (r := m38 fs) hM.1 hM.2.2.2.1 hj_3) hj_34 q_38 hj_38).2.trans (hr_1 e_42.symm f_44_1_0).2).symm)
  | exact tri_r (guM_g (I := (itM fi_)) (sg := 0) (i := a3) hM hln9 hsz9 hj_30 (gs_n (r := m38 fs) hM.1 hM.2.2.2.1 hj_3) hj_34 q_38 hj_38).1 (hr_2 (sg := 0) e_42.symm f_44_2_0 f_44_2_1).1 (by decide)
  | exact hF_44_0.trans ((lk_2 f_44_2_0 f_44_2_1).symm.trans ((guM_g (I := (fun _ _ => 0)) (sg := ms) (i := a3) hM hln9 hsz9 hj_30 (gs_n (r := m38 fs) hM.1 hM.2.2.2.1 hj_3) hj_34 q_38 hj_38).2.trans (hr_2 e_42.symm f_44_2_0 f_44_2_1).2).symm)
  | exact hF_26_2.trans ((guM_g (I := (fun _ _ => 0)) (sg := ms) (i := (nI pa_21)) hM hln9 hsz9 hj_6 gs_m hj_10 q_14 hj_14).2.trans (hr_3 (sg := ms) e_18.symm f_20_0_0 f_20_0_1).2).symm
  | exact h_26.trans ((clM_fit hj_10 (by omega)).trans (tri_0 (guM_g (I := (itM fi_)) (sg := 0) (i := (nI pa_21)) hM hln9 hsz9 hj_6 gs_m hj_10 q_14 hj_14).1 (hr_3 (sg := 0) e_18.symm f_20_0_0 f_20_0_1).1 rfl))
  | exact hF_51_2.trans ((guM_g (I := (fun _ _ => 0)) (sg := ms) (i := (nI pa_45)) hM hln9 hsz9 hj_30 (gs_n (r := m38 fs) hM.1 hM.2.2.2.1 hj_3) hj_34 q_38 hj_38).2.trans (hr_3 (sg := ms) e_42.symm f_44_0_0 f_44_0_1).2).symm
  | exact h_51.trans ((clM_fit hj_34 (by omega)).trans ((cl_w (by omega)).trans (tri_1 (guM_g (I := (itM fi_)) (sg := 0) (i := (nI pa_45)) hM hln9 hsz9 hj_30 (gs_n (r := m38 fs) hM.1 hM.2.2.2.1 hj_3) hj_34 q_38 hj_38).1 (hr_3 (sg := 0) e_42.symm f_44_0_0 f_44_0_1).1 (gs_ne (by omega)))))
set_option maxHeartbeats 4000000 in
set_option maxRecDepth 100000 in
theorem r_X8_gusts (l : Launch) (dC : Nat → ClassId) (dI : Nat → Nat → Nat) (cI cZ cL cJ : ClassId) (sz : Nat) (mo : Nat) (m_la : Nat) (m_sz : Nat) (m_it : Nat) (m_st : Nat) (m_mv : Nat) (m_tp : Nat) (m_rd : Nat) (m_ac : Nat) (m_as : Nat) (m_wo : Nat) (m_ik : Nat) (m_ke : Nat) (m_tr : Nat) (ms : Int32) (mt : Int32) (ml : Int32) (mk : Int32) (mv : Int32) (mb : Int32) (mw : Int32) (mz : Nat) (mp : Nat) (ma : Nat) (mx : Nat) (fs : Nat → Int32) (w9 : Nat) (k9 : Nat) (h9 : Nat) (fa : Nat → Int32) (fi_ : Nat → Int32) (fz : Nat → Int32) (fn_ : Nat → Int32) (a0 : Int32) (a1 : Int32) (a2 : Int32) (a3 : Int32) (a4 : Int32) (hM : okM fs w9 k9 h9) (hT : ¬ mt = 0 → 1 ≤ k9) (h999 : h9 ≤ 999) (hT0 : mt = 0 → fs 0 = 0 ∧ ma = 0) (hsz9 : ∀ j : Nat, j < 8 → fz j = -1 ∨ ∃ q : Nat, q ≤ 40 ∧ fz j = nI q) (hln9 : ∀ j : Nat, j < 8 → ¬ fz j = -1 → ¬ fn_ j = -1) : Met l yX8_gusts wsX8_gusts ({ frames := 6, cells := 0, slots := 0, locals := 149 }) (va_Pc [.ref mo, .int a0, .int a1, .int a2, .int a3, .int a4] (fun U => U.heap.size = sz ∧ va_P (dC, dI) vwCl [(xo_8_rrriirrriiiiiiirrirrrrri mo m_la m_sz m_it ms mt m_st m_mv m_tp (nI mz) ml (nI mp) mk mv mb mw m_rd m_ac (nI ma) m_as m_wo m_ik m_ke m_tr (nI mx)), (xI m_st cI 38 fs), (xI m_as cI 38 fa), (xI m_it cI 320 fi_), (xI m_sz cI 8 fz), (xI m_la cI 8 fn_)] U.heap ∧ va_K (dC, dI) vwCl [(cI, .int), (cZ, .boolean), (cL, .object RX3), (cJ, .array .int)] U ∧ va_D (fun _ => True) [(xo_8_rrriirrriiiiiiirrirrrrri mo m_la m_sz m_it ms mt m_st m_mv m_tp (nI mz) ml (nI mp) mk mv mb mw m_rd m_ac (nI ma) m_as m_wo m_ik m_ke m_tr (nI mx)), (xI m_st cI 38 fs), (xI m_as cI 38 fa), (xI m_it cI 320 fi_), (xI m_sz cI 8 fz), (xI m_la cI 8 fn_)])) (va_Qi (fun r (_ : Unit) => r = (a_gus (m38 fs) (mbl fn_ fz) (mbn fz) (itM fi_) a0 a1 a2 a3 a4)) (fun (_ : Unit) t => ∃ (fsn : Nat → Int32) (fan : Nat → Int32) (msn : Int32), va_P (dC, dI) vwCl [(xo_8_rrriirrriiiiiiirrirrrrri mo m_la m_sz m_it msn mt m_st m_mv m_tp (nI mz) ml (nI mp) mk mv mb mw m_rd m_ac (nI ma) m_as m_wo m_ik m_ke m_tr (nI mx)), (xI m_st cI 38 fsn), (xI m_as cI 38 fan), (xI m_it cI 320 fi_), (xI m_sz cI 8 fz), (xI m_la cI 8 fn_)] t.heap ∧ va_D (va_A [(xo_8_rrriirrriiiiiiirrirrrrri mo m_la m_sz m_it ms mt m_st m_mv m_tp (nI mz) ml (nI mp) mk mv mb mw m_rd m_ac (nI ma) m_as m_wo m_ik m_ke m_tr (nI mx)), (xI m_st cI 38 fs), (xI m_as cI 38 fa), (xI m_it cI 320 fi_), (xI m_sz cI 8 fz), (xI m_la cI 8 fn_)] sz) [(xo_8_rrriirrriiiiiiirrirrrrri mo m_la m_sz m_it msn mt m_st m_mv m_tp (nI mz) ml (nI mp) mk mv mb mw m_rd m_ac (nI ma) m_as m_wo m_ik m_ke m_tr (nI mx)), (xI m_st cI 38 fsn), (xI m_as cI 38 fan), (xI m_it cI 320 fi_), (xI m_sz cI 8 fz), (xI m_la cI 8 fn_)] ∧ okM fsn w9 k9 h9 ∧ m38 fsn = m38 fs ∧ msn = f_gus (m38 fs) (mbl fn_ fz) (mbn fz) a0 a1 a2 a3 a4 ms) (va_A [(xo_8_rrriirrriiiiiiirrirrrrri mo m_la m_sz m_it ms mt m_st m_mv m_tp (nI mz) ml (nI mp) mk mv mb mw m_rd m_ac (nI ma) m_as m_wo m_ik m_ke m_tr (nI mx)), (xI m_st cI 38 fs), (xI m_as cI 38 fa), (xI m_it cI 320 fi_), (xI m_sz cI 8 fz), (xI m_la cI 8 fn_)] sz)) 0 0 (va_A [(xo_8_rrriirrriiiiiiirrirrrrri mo m_la m_sz m_it ms mt m_st m_mv m_tp (nI mz) ml (nI mp) mk mv mb mw m_rd m_ac (nI ma) m_as m_wo m_ik m_ke m_tr (nI mx)), (xI m_st cI 38 fs), (xI m_as cI 38 fa), (xI m_it cI 320 fi_), (xI m_sz cI 8 fz), (xI m_la cI 8 fn_)] sz) := by
  refine Met.ofW (cc := cX8_gusts) (maxL := 7) (ret := (some .int)) (by decide) rfl ?_
  intro p e s m args below meth c s₁ B hml hv
  obtain ⟨rfl, hsz, hP, hK, hD0⟩ := hv
  have hx := B.exec
  have hb := B.bytes
  have hr := B.returns
  have hts := atoms_spec (ws := wsX8_gusts) B.pre
  have hown : s.vm.findClass RX8 = some m.cls := findClass_of_methodNamed B.named
  have hlocks := B.notSynchronized
  subst hsz
  have hD := hD0.self (sz := s.heap.size)
  generalize hAe : va_A [(xo_8_rrriirrriiiiiiirrirrrrri mo m_la m_sz m_it ms mt m_st m_mv m_tp (nI mz) ml (nI mp) mk mv mb mw m_rd m_ac (nI ma) m_as m_wo m_ik m_ke m_tr (nI mx)), (xI m_st cI 38 fs), (xI m_as cI 38 fa), (xI m_it cI 320 fi_), (xI m_sz cI 8 fz), (xI m_la cI 8 fn_)] s.heap.size = A at hD ⊢
  have hA : ∀ q : Nat, s.heap.size ≤ q → A q := fun q h => by rw [← hAe]; exact Or.inr h
  have hS : va_S A s.heap s.heap [] := va_S.rf
  have hP : va_P (dC, dI) vwCl [(xo_8_rrriirrriiiiiiirrirrrrri mo m_la m_sz m_it ms mt m_st m_mv m_tp (nI mz) ml (nI mp) mk mv mb mw m_rd m_ac (nI ma) m_as m_wo m_ik m_ke m_tr (nI mx)), (xI m_st cI 38 fs), (xI m_as cI 38 fa), (xI m_it cI 320 fi_), (xI m_sz cI 8 fz), (xI m_la cI 8 fn_)] s.heap := hP
  have hl := lv_entry ([.ref mo, .int a0, .int a1, .int a2, .int a3, .int a4]) (n := 7) (Nat.le_of_ble_eq_true rfl)
  rw [lg_entry_eq]
  generalize (lg_sl ([.ref mo, .int a0, .int a1, .int a2, .int a3, .int a4]) ++ List.replicate (7 - (lg_sl ([.ref mo, .int a0, .int a1, .int a2, .int a3, .int a4])).length) Slot.unset).toArray = ls at hl ⊢
  have hl : lv_has ls 7 [(0, .ref mo), (1, .int a0), (2, .int a1), (3, .int a2), (4, .int a3), (5, .int a4)] := hl
  have hk6 := hM.2.2.2.2.1
  have hw6 := hM.2.2.2.1
  refine lv_iload_n hx hb dX8_gusts_0 rfl (lv_at hl 1 rfl) ?_
  refine lv_i2l hx hb dX8_gusts_1 rfl ?_
  refine lv_ldc2 (own := RX8) (v := (-1)) hx hb hown (hts _ mx_X8_gusts_1) dX8_gusts_2 ?_
  refine lv_aload_n hx hb dX8_gusts_5 rfl (lv_at hl 0 rfl) ?_
  refine va_get (D := (dC, dI)) (ci := 8) (v := .ref m_st) (C := RX8) (T := TX8) (N := 24) hx hb hts i_X8_gusts_X8 hown hK hP 0 rfl rfl 5 (by decide) (hts _ mx_X8_gusts_2) (fun _ h9 => h9) rfl dX8_gusts_6 ?_
  refine lv_iconst (v := 3) hx hb dX8_gusts_9 (by decide) ?_
  refine va_iald hx hb hK hP 1 0 rfl rfl (by unfold vp_in; decide) dX8_gusts_10 ?_
  refine lv_topi (fun v_1 e_1 => ?_)
  obtain rfl : v_1 = (nI w9) := (e_1).trans hM.1
  refine lv_iconst (v := 1) hx hb dX8_gusts_11 (by decide) ?_
  refine lv_isub hx hb dX8_gusts_12 ?_
  refine lv_topi (fun v_2 e_2 => ?_)
  refine lv_i2l hx hb dX8_gusts_13 rfl ?_
  have hPc_3 := hP.sub (ws' := []) [] rfl
  refine vp_callSi (W.runS (As := [.long (a0).toInt64, .long (-1), .long (v_2).toInt64]) (rest := []) ⟨hx, hb, hml, hown, hts⟩ (r_X8_in l dC dI cI cZ cL cJ ((a0).toInt64) (-1) ((v_2).toInt64) ) (va_cwS 3 hts gX8_gusts_X8_in rfl rfl rfl (by decide +kernel) ⟨Nat.le_of_ble_eq_true rfl, Nat.le_of_ble_eq_true rfl⟩) (psP hK hPc_3) rfl rfl hl.1 rfl (lv_room (Nat.le_of_ble_eq_true rfl)) dX8_gusts_14 ⟨Nat.le_of_ble_eq_true rfl, Nat.le_of_ble_eq_true rfl⟩) (fun r_3 h_3 => ?_)
  rcases h_3 with ⟨h_3, f_3_0_0⟩ | ⟨h_3, f_3_1_0⟩
  · subst h_3
    have q_3 : (a0 < (-1) ∨ v_2 < a0) := (in32 (x := a0) (l := (-1)) (u := v_2) (by decide) rfl).mp f_3_0_0
    refine lv_if_eq (tgt := 48) hx hb dX8_gusts_17 (by decide) (fun _ => ?_) (fun c_ => absurd (by decide) c_)
    refine lv_ldc (own := RX8) (v := (-1000001)) hx hb hown (hts _ mx_X8_gusts_4) dX8_gusts_48 ?_
    have hX9 := cut2 (wc := [(xo_8_rrriirrriiiiiiirrirrrrri mo m_la m_sz m_it ms mt m_st m_mv m_tp (nI mz) ml (nI mp) mk mv mb mw m_rd m_ac (nI ma) m_as m_wo m_ik m_ke m_tr (nI mx)), (xI m_st cI 38 fs), (xI m_as cI 38 fa), (xI m_it cI 320 fi_), (xI m_sz cI 8 fz), (xI m_la cI 8 fn_)]) hP hD [0, 1, 2, 3, 4, 5] (by decide +kernel) rfl
    exact W.iret (v := (-1000001)) hx hb hr (fun t ht hW => ⟨⟨(-1000001), (), rfl, (lf_X8_gusts_2 hM hT h999 hT0 hsz9 hln9 e_2 f_3_0_0 q_3), ⟨fs, fa, ms, va_Ht ht hX9.1, hX9.2, hM, rfl, (lf_X8_gusts_1 hM hT h999 hT0 hsz9 hln9 e_2 f_3_0_0 q_3)⟩⟩, hS.F ht⟩) hS.2.2 dX8_gusts_50
  · subst h_3
    have q_3 : ¬ (a0 < (-1) ∨ v_2 < a0) := fun q_ => f_3_1_0 ((in32 (x := a0) (l := (-1)) (u := v_2) (by decide) rfl).mpr q_)
    rcases m1_in (k := w9) (by omega) e_2 f_3_1_0 with rfl | hv_3
    · skip
      refine lv_if_eq (tgt := 48) hx hb dX8_gusts_17 (by decide) (fun c_ => absurd c_ (by decide)) (fun _ => ?_)
      refine lv_aload_n hx hb dX8_gusts_20 rfl (lv_at hl 0 rfl) ?_
      refine lv_iload_n hx hb dX8_gusts_21 rfl (lv_at hl 2 rfl) ?_
      have hPc_6 := hP.sub (ws' := [(xo_8_rrriirrriiiiiiirrirrrrri mo m_la m_sz m_it ms mt m_st m_mv m_tp (nI mz) ml (nI mp) mk mv mb mw m_rd m_ac (nI ma) m_as m_wo m_ik m_ke m_tr (nI mx)), (xI m_st cI 38 fs)]) [0, 1] rfl
      refine vp_callSi (W.runV (As := [.int a1]) (rest := []) ⟨hx, hb, hml, hown, hts⟩ (r_X8_isSound l dC dI cI cZ cL cJ mo m_la m_sz m_it m_st m_mv m_tp m_rd m_ac m_as m_wo m_ik m_ke m_tr ms mt ml mk mv mb mw mz mp ma mx fs w9 k9 h9 a1 (hM)) (cwV 1 hts gX8_gusts_X8_isSound rfl rfl rfl (by decide +kernel) ⟨Nat.le_of_ble_eq_true rfl, Nat.le_of_ble_eq_true rfl⟩) (pvP 8 0 hK hP rfl rfl hPc_6) rfl rfl hl.1 rfl (lv_room (Nat.le_of_ble_eq_true rfl)) dX8_gusts_22 ⟨Nat.le_of_ble_eq_true rfl, Nat.le_of_ble_eq_true rfl⟩) (fun r_6 h_6 => ?_)
      rcases h_6 with ⟨h_6, f_6_0_0⟩ | ⟨h_6, f_6_1_0⟩
      · subst h_6
        refine lv_if_eq (tgt := 48) hx hb dX8_gusts_25 (by decide) (fun _ => ?_) (fun c_ => absurd (by decide) c_)
        refine lv_ldc (own := RX8) (v := (-1000001)) hx hb hown (hts _ mx_X8_gusts_4) dX8_gusts_48 ?_
        have hX9 := cut2 (wc := [(xo_8_rrriirrriiiiiiirrirrrrri mo m_la m_sz m_it ms mt m_st m_mv m_tp (nI mz) ml (nI mp) mk mv mb mw m_rd m_ac (nI ma) m_as m_wo m_ik m_ke m_tr (nI mx)), (xI m_st cI 38 fs), (xI m_as cI 38 fa), (xI m_it cI 320 fi_), (xI m_sz cI 8 fz), (xI m_la cI 8 fn_)]) hP hD [0, 1, 2, 3, 4, 5] (by decide +kernel) rfl
        exact W.iret (v := (-1000001)) hx hb hr (fun t ht hW => ⟨⟨(-1000001), (), rfl, (lf_X8_gusts_4 hM hT h999 hT0 hsz9 hln9 e_2 f_3_1_0 q_3 f_6_0_0), ⟨fs, fa, ms, va_Ht ht hX9.1, hX9.2, hM, rfl, (lf_X8_gusts_3 hM hT h999 hT0 hsz9 hln9 e_2 f_3_1_0 q_3 f_6_0_0)⟩⟩, hS.F ht⟩) hS.2.2 dX8_gusts_50
      · subst h_6
        obtain ⟨j_6, hj_6, rfl⟩ := vp_in_of f_6_1_0 (by omega)
        have hkn1 : 1 ≤ k9 := by omega
        have hw1 := hM.2.2.2.2.2.1.mp hkn1
        have h01 : ¬ fs 0 = 0 := cell_nz hM hkn1
        refine lv_if_eq (tgt := 48) hx hb dX8_gusts_25 (by decide) (fun c_ => absurd c_ (by decide)) (fun _ => ?_)
        refine lv_iload_n hx hb dX8_gusts_28 rfl (lv_at hl 3 rfl) ?_
        have hPc_10 := hP.sub (ws' := []) [] rfl
        refine vp_callSi (W.runS (As := [.int a2]) (rest := []) ⟨hx, hb, hml, hown, hts⟩ (r_X8_isRow l dC dI cI cZ cL cJ a2 ) (va_cwS 1 hts gX8_gusts_X8_isRow rfl rfl rfl (by decide +kernel) ⟨Nat.le_of_ble_eq_true rfl, Nat.le_of_ble_eq_true rfl⟩) (psP hK hPc_10) rfl rfl hl.1 rfl (lv_room (Nat.le_of_ble_eq_true rfl)) dX8_gusts_29 ⟨Nat.le_of_ble_eq_true rfl, Nat.le_of_ble_eq_true rfl⟩) (fun r_10 h_10 => ?_)
        rcases h_10 with ⟨h_10, f_10_0_0⟩ | ⟨h_10, f_10_1_0⟩
        · subst h_10
          refine lv_if_eq (tgt := 48) hx hb dX8_gusts_32 (by decide) (fun _ => ?_) (fun c_ => absurd (by decide) c_)
          refine lv_ldc (own := RX8) (v := (-1000001)) hx hb hown (hts _ mx_X8_gusts_4) dX8_gusts_48 ?_
          have hX9 := cut2 (wc := [(xo_8_rrriirrriiiiiiirrirrrrri mo m_la m_sz m_it ms mt m_st m_mv m_tp (nI mz) ml (nI mp) mk mv mb mw m_rd m_ac (nI ma) m_as m_wo m_ik m_ke m_tr (nI mx)), (xI m_st cI 38 fs), (xI m_as cI 38 fa), (xI m_it cI 320 fi_), (xI m_sz cI 8 fz), (xI m_la cI 8 fn_)]) hP hD [0, 1, 2, 3, 4, 5] (by decide +kernel) rfl
          exact W.iret (v := (-1000001)) hx hb hr (fun t ht hW => ⟨⟨(-1000001), (), rfl, (lf_X8_gusts_6 hM hT h999 hT0 hsz9 hln9 e_2 f_3_1_0 q_3 hj_6 hkn1 hw1 h01 f_10_0_0), ⟨fs, fa, ms, va_Ht ht hX9.1, hX9.2, hM, rfl, (lf_X8_gusts_5 hM hT h999 hT0 hsz9 hln9 e_2 f_3_1_0 q_3 hj_6 hkn1 hw1 h01 f_10_0_0)⟩⟩, hS.F ht⟩) hS.2.2 dX8_gusts_50
        · subst h_10
          obtain ⟨j_10, hj_10, rfl⟩ := vp_in_of f_10_1_0 (by omega)
          refine lv_if_eq (tgt := 48) hx hb dX8_gusts_32 (by decide) (fun c_ => absurd c_ (by decide)) (fun _ => ?_)
          refine lv_iload hx hb dX8_gusts_35 (lv_at hl 5 rfl) ?_
          refine lv_i2l hx hb dX8_gusts_37 rfl ?_
          refine lv_lconst (v := 1) hx hb dX8_gusts_38 (by decide) ?_
          refine lv_ldc2 (own := RX8) (v := 12) hx hb hown (hts _ mx_X8_gusts_3) dX8_gusts_39 ?_
          have hPc_14 := hP.sub (ws' := []) [] rfl
          refine vp_callSi (W.runS (As := [.long (a4).toInt64, .long 1, .long 12]) (rest := []) ⟨hx, hb, hml, hown, hts⟩ (r_X8_in l dC dI cI cZ cL cJ ((a4).toInt64) 1 12 ) (va_cwS 3 hts gX8_gusts_X8_in rfl rfl rfl (by decide +kernel) ⟨Nat.le_of_ble_eq_true rfl, Nat.le_of_ble_eq_true rfl⟩) (psP hK hPc_14) rfl rfl hl.1 rfl (lv_room (Nat.le_of_ble_eq_true rfl)) dX8_gusts_42 ⟨Nat.le_of_ble_eq_true rfl, Nat.le_of_ble_eq_true rfl⟩) (fun r_14 h_14 => ?_)
          rcases h_14 with ⟨h_14, f_14_0_0⟩ | ⟨h_14, f_14_1_0⟩
          · subst h_14
            have q_14 : (a4 < 1 ∨ 12 < a4) := (in32 (x := a4) (l := 1) (u := 12) (by decide) (by decide)).mp f_14_0_0
            refine lv_if_ne (tgt := 51) hx hb dX8_gusts_45 (by decide) (fun c_ => absurd (by decide) c_) (fun _ => ?_)
            refine lv_ldc (own := RX8) (v := (-1000001)) hx hb hown (hts _ mx_X8_gusts_4) dX8_gusts_48 ?_
            have hX9 := cut2 (wc := [(xo_8_rrriirrriiiiiiirrirrrrri mo m_la m_sz m_it ms mt m_st m_mv m_tp (nI mz) ml (nI mp) mk mv mb mw m_rd m_ac (nI ma) m_as m_wo m_ik m_ke m_tr (nI mx)), (xI m_st cI 38 fs), (xI m_as cI 38 fa), (xI m_it cI 320 fi_), (xI m_sz cI 8 fz), (xI m_la cI 8 fn_)]) hP hD [0, 1, 2, 3, 4, 5] (by decide +kernel) rfl
            exact W.iret (v := (-1000001)) hx hb hr (fun t ht hW => ⟨⟨(-1000001), (), rfl, (lf_X8_gusts_8 hM hT h999 hT0 hsz9 hln9 e_2 f_3_1_0 q_3 hj_6 hkn1 hw1 h01 hj_10 f_14_0_0 q_14), ⟨fs, fa, ms, va_Ht ht hX9.1, hX9.2, hM, rfl, (lf_X8_gusts_7 hM hT h999 hT0 hsz9 hln9 e_2 f_3_1_0 q_3 hj_6 hkn1 hw1 h01 hj_10 f_14_0_0 q_14)⟩⟩, hS.F ht⟩) hS.2.2 dX8_gusts_50
          · subst h_14
            have q_14 : ¬ (a4 < 1 ∨ 12 < a4) := fun q_ => f_14_1_0 ((in32 (x := a4) (l := 1) (u := 12) (by decide) (by decide)).mpr q_)
            obtain ⟨j_14, hj_14, hl_14, rfl⟩ := in64 (lo := 1) (n := 12) rfl rfl (by decide) f_14_1_0
            refine lv_if_ne (tgt := 51) hx hb dX8_gusts_45 (by decide) (fun _ => ?_) (fun c_ => absurd c_ (by decide))
            refine lv_aload_n hx hb dX8_gusts_51 rfl (lv_at hl 0 rfl) ?_
            refine va_get (D := (dC, dI)) (ci := 8) (v := .ref m_st) (C := RX8) (T := TX8) (N := 24) hx hb hts i_X8_gusts_X8 hown hK hP 0 rfl rfl 5 (by decide) (hts _ mx_X8_gusts_2) (fun _ h9 => h9) rfl dX8_gusts_52 ?_
            refine lv_bipush (v := 26) hx hb dX8_gusts_55 (by decide) ?_
            refine lv_iload_n hx hb dX8_gusts_57 rfl (lv_at hl 2 rfl) ?_
            refine lv_iadd hx hb dX8_gusts_58 ?_
            refine lv_topi (fun v_17 e_17 => ?_)
            obtain rfl : v_17 = (nI (26 + j_6)) := (e_17).trans (nI_add 26 j_6)
            refine va_iald hx hb hK hP 1 0 rfl rfl (vp_in_nI (by omega) (by omega)) dX8_gusts_59 ?_
            refine lv_topi (fun v_18 e_18 => ?_)
            have e_18 : v_18 = fs (26 + j_6) := e_18.trans (congrArg fs (nI_clamp (by omega)))
            refine lv_if_eq (tgt := 66) hx hb dX8_gusts_60 (by decide) (fun c_19 => ?_) (fun c_19 => ?_)
            · skip
              subst c_19
              refine lv_aload_n hx hb dX8_gusts_66 rfl (lv_at hl 0 rfl) ?_
              refine lv_iload_n hx hb dX8_gusts_67 rfl (lv_at hl 3 rfl) ?_
              refine lv_iload hx hb dX8_gusts_68 (lv_at hl 4 rfl) ?_
              refine lv_iload hx hb dX8_gusts_70 (lv_at hl 5 rfl) ?_
              have hc_20 := cutW (wc := [(xo_8_rrriirrriiiiiiirrirrrrri mo m_la m_sz m_it ms mt m_st m_mv m_tp (nI mz) ml (nI mp) mk mv mb mw m_rd m_ac (nI ma) m_as m_wo m_ik m_ke m_tr (nI mx)), (xI m_sz cI 8 fz)]) hP hD hS hA [0, 4] (by decide +kernel) rfl
              refine va_calli (va_runV (As := [.int (nI j_10), .int a3, .int (nI j_14)]) (rest := []) ⟨hx, hb, hml, hown, hts⟩ (r_X8_lacks l dC dI cI cZ cL cJ s.heap.size mo m_la m_sz m_it m_st m_mv m_tp m_rd m_ac m_as m_wo m_ik m_ke m_tr ms mt ml mk mv mb mw mz mp ma mx fz j_10 j_14 a3 (hsz9) (by omega) (by omega)) (cwV 3 hts gX8_gusts_X8_lacks rfl rfl rfl (by decide +kernel) ⟨Nat.le_of_ble_eq_true rfl, Nat.le_of_ble_eq_true rfl⟩) (pvW 8 0 hK hP rfl rfl hc_20) rfl rfl hl.1 rfl (lv_room (Nat.le_of_ble_eq_true rfl)) dX8_gusts_72 ⟨Nat.le_of_ble_eq_true rfl, Nat.le_of_ble_eq_true rfl⟩) hS (fun q _ h => hc_20.2.2 q h) hc_20.2.2 (fun r_20 u_20 t_20 H1 locs ht hvm h_20 hB hz1 hk1 hS => ?_)
              refine xl_1_3 hB (fun msn_20 hP1 hD1 hF_20_0 => ?_)
              clear hB
              rw [ht] at hP1
              obtain ⟨hP, hD⟩ := va_join (wr := [(xI m_st cI 38 fs), (xI m_as cI 38 fa), (xI m_it cI 320 fi_), (xI m_la cI 8 fn_)]) (w1 := [(xo_8_rrriirrriiiiiiirrirrrrri mo m_la m_sz m_it msn_20 mt m_st m_mv m_tp (nI mz) ml (nI mp) mk mv mb mw m_rd m_ac (nI ma) m_as m_wo m_ik m_ke m_tr (nI mx)), (xI m_sz cI 8 fz)]) hP hD [0, 4] [1, 2, 3, 5] rfl rfl (by decide +kernel) (by decide +kernel) hk1 hc_20.2.2 hP1 hD1
              generalize H1 = H at hP hS ⊢
              have hP : va_P (dC, dI) vwCl [(xI m_st cI 38 fs), (xI m_as cI 38 fa), (xI m_it cI 320 fi_), (xI m_la cI 8 fn_), (xo_8_rrriirrriiiiiiirrirrrrri mo m_la m_sz m_it msn_20 mt m_st m_mv m_tp (nI mz) ml (nI mp) mk mv mb mw m_rd m_ac (nI ma) m_as m_wo m_ik m_ke m_tr (nI mx)), (xI m_sz cI 8 fz)] H := hP
              have hD := dto hP hD
              rcases h_20 with ⟨h_20, f_20_0_0, f_20_0_1, f_20_0_2⟩ | ⟨h_20, f_20_1_0⟩ | ⟨h_20, f_20_2_0, f_20_2_1⟩
              · subst h_20
                obtain ⟨pa_21, pb_21, ea_21, eb_21, hab_21⟩ := f_20_0_2
                subst ea_21
                have eb_21 : j_14 = pb_21 := nI_inj eb_21 (by omega) (by omega)
                refine lv_istore (lv' := [(6, .int 0), (0, .ref mo), (1, .int (-1)), (2, .int (nI j_6)), (3, .int (nI j_10)), (4, .int (nI pa_21)), (5, .int (nI j_14))]) hx hb dX8_gusts_75 hl (by decide) rfl (fun ls hl => ?_)
                refine lv_iload hx hb dX8_gusts_77 (lv_at hl 0 rfl) ?_
                refine lv_if_ge (tgt := 87) hx hb dX8_gusts_79 (by decide) (fun _ => ?_) (fun c_ => absurd (by decide) c_)
                refine lv_aload_n hx hb dX8_gusts_87 rfl (lv_at hl 1 rfl) ?_
                refine lv_iload_n hx hb dX8_gusts_88 rfl (lv_at hl 2 rfl) ?_
                refine lv_if_ge (tgt := 96) hx hb dX8_gusts_89 (by decide) (fun c_ => absurd c_ (by decide)) (fun _ => ?_)
                refine lv_iconst (v := 2) hx hb dX8_gusts_92 (by decide) ?_
                refine lv_goto (tgt := 100) hx hb dX8_gusts_93 (by decide) ?_
                refine lv_iconst (v := 0) hx hb dX8_gusts_100 (by decide) ?_
                refine lv_iconst (v := 4) hx hb dX8_gusts_101 (by decide) ?_
                refine lv_iload_n hx hb dX8_gusts_102 rfl (lv_at hl 3 rfl) ?_
                refine lv_bipush (v := 40) hx hb dX8_gusts_103 (by decide) ?_
                refine lv_iload_n hx hb dX8_gusts_105 rfl (lv_at hl 4 rfl) ?_
                refine lv_imul hx hb dX8_gusts_106 ?_
                refine lv_topi (fun v_24 e_24 => ?_)
                obtain rfl : v_24 = (nI (40 * j_10)) := (e_24).trans (pk_mul 40 j_10)
                refine lv_iload hx hb dX8_gusts_107 (lv_at hl 5 rfl) ?_
                refine lv_iadd hx hb dX8_gusts_109 ?_
                refine lv_topi (fun v_25 e_25 => ?_)
                obtain rfl : v_25 = (nI ((40 * j_10) + pa_21)) := (e_25).trans (nI_add (40 * j_10) pa_21)
                refine lv_iload hx hb dX8_gusts_110 (lv_at hl 6 rfl) ?_
                have hc_26 := cutW (wc := [(xo_8_rrriirrriiiiiiirrirrrrri mo m_la m_sz m_it msn_20 mt m_st m_mv m_tp (nI mz) ml (nI mp) mk mv mb mw m_rd m_ac (nI ma) m_as m_wo m_ik m_ke m_tr (nI mx)), (xI m_st cI 38 fs), (xI m_as cI 38 fa), (xI m_it cI 320 fi_)]) hP hD hS hA [4, 0, 1, 2] (by decide +kernel) rfl
                refine va_calli (va_runV (As := [.int 2, .int 0, .int 4, .int (nI j_6), .int (nI ((40 * j_10) + pa_21)), .int (nI j_14)]) (rest := []) ⟨hx, hb, hml, hown, hts⟩ (r_X8_fits l dC dI cI cZ cL cJ H.size mo m_la m_sz m_it m_st m_mv m_tp m_rd m_ac m_as m_wo m_ik m_ke m_tr msn_20 mt ml mk mv mb mw mz mp ma mx fs w9 k9 h9 fa fi_ 2 0 4 j_6 ((40 * j_10) + pa_21) j_14 (hM) (by omega) (by omega) (by omega) (by omega) (by omega) (by omega) (by omega) (by omega) (by omega) (by omega) (by omega) (by omega) (by omega)) (cwV 6 hts gX8_gusts_X8_fits rfl rfl rfl (by decide +kernel) ⟨Nat.le_of_ble_eq_true rfl, Nat.le_of_ble_eq_true rfl⟩) (pvW 8 4 hK hP rfl rfl hc_26) rfl rfl hl.1 rfl (lv_room (Nat.le_of_ble_eq_true rfl)) dX8_gusts_112 ⟨Nat.le_of_ble_eq_true rfl, Nat.le_of_ble_eq_true rfl⟩) hS (fun q _ h => hc_26.2.2 q h) hc_26.2.2 (fun r_26 u_26 t_26 H1 locs ht hvm h_26 hB hz1 hk1 hS => ?_)
                refine xl_3_5 hB (fun fsn_26 fan_26 msn_26 hP1 hD1 hF_26_0 hF_26_1 hF_26_2 => ?_)
                clear hB
                rw [ht] at hP1
                obtain ⟨hP, hD⟩ := va_join (wr := [(xI m_la cI 8 fn_), (xI m_sz cI 8 fz)]) (w1 := [(xo_8_rrriirrriiiiiiirrirrrrri mo m_la m_sz m_it msn_26 mt m_st m_mv m_tp (nI mz) ml (nI mp) mk mv mb mw m_rd m_ac (nI ma) m_as m_wo m_ik m_ke m_tr (nI mx)), (xI m_st cI 38 fsn_26), (xI m_as cI 38 fan_26), (xI m_it cI 320 fi_)]) hP hD [4, 0, 1, 2] [3, 5] rfl rfl (by decide +kernel) (by decide +kernel) hk1 hc_26.2.2 hP1 hD1
                generalize H1 = H at hP hS ⊢
                have hP : va_P (dC, dI) vwCl [(xI m_la cI 8 fn_), (xI m_sz cI 8 fz), (xo_8_rrriirrriiiiiiirrirrrrri mo m_la m_sz m_it msn_26 mt m_st m_mv m_tp (nI mz) ml (nI mp) mk mv mb mw m_rd m_ac (nI ma) m_as m_wo m_ik m_ke m_tr (nI mx)), (xI m_st cI 38 fsn_26), (xI m_as cI 38 fan_26), (xI m_it cI 320 fi_)] H := hP
                have hD := dto hP hD
                have hX9 := cut2 (wc := [(xo_8_rrriirrriiiiiiirrirrrrri mo m_la m_sz m_it msn_26 mt m_st m_mv m_tp (nI mz) ml (nI mp) mk mv mb mw m_rd m_ac (nI ma) m_as m_wo m_ik m_ke m_tr (nI mx)), (xI m_st cI 38 fsn_26), (xI m_as cI 38 fan_26), (xI m_it cI 320 fi_), (xI m_sz cI 8 fz), (xI m_la cI 8 fn_)]) hP hD [2, 3, 4, 5, 1, 0] (by decide +kernel) rfl
                exact W.iret (v := r_26) hx hb hr (fun t ht hW => ⟨⟨r_26, (), rfl, (lf_X8_gusts_10 hM hT h999 hT0 hsz9 hln9 e_2 f_3_1_0 q_3 hj_6 hkn1 hw1 h01 hj_10 f_14_1_0 q_14 hj_14 e_18 hF_20_0 f_20_0_0 f_20_0_1 hab_21 eb_21 hF_26_0 hF_26_1 hF_26_2 h_26), ⟨fsn_26, fan_26, msn_26, va_Ht ht hX9.1, hX9.2, hF_26_0, hF_26_1, (lf_X8_gusts_9 hM hT h999 hT0 hsz9 hln9 e_2 f_3_1_0 q_3 hj_6 hkn1 hw1 h01 hj_10 f_14_1_0 q_14 hj_14 e_18 hF_20_0 f_20_0_0 f_20_0_1 hab_21 eb_21 hF_26_0 hF_26_1 hF_26_2 h_26)⟩⟩, hS.F ht⟩) hS.2.2 dX8_gusts_115
              · subst h_20
                refine lv_istore (lv' := [(6, .int (-1000011)), (0, .ref mo), (1, .int (-1)), (2, .int (nI j_6)), (3, .int (nI j_10)), (4, .int a3), (5, .int (nI j_14))]) hx hb dX8_gusts_75 hl (by decide) rfl (fun ls hl => ?_)
                refine lv_iload hx hb dX8_gusts_77 (lv_at hl 0 rfl) ?_
                refine lv_if_ge (tgt := 87) hx hb dX8_gusts_79 (by decide) (fun c_ => absurd c_ (by decide)) (fun _ => ?_)
                refine lv_iload hx hb dX8_gusts_82 (lv_at hl 0 rfl) ?_
                refine lv_goto (tgt := 115) hx hb dX8_gusts_84 (by decide) ?_
                have hX9 := cut2 (wc := [(xo_8_rrriirrriiiiiiirrirrrrri mo m_la m_sz m_it msn_20 mt m_st m_mv m_tp (nI mz) ml (nI mp) mk mv mb mw m_rd m_ac (nI ma) m_as m_wo m_ik m_ke m_tr (nI mx)), (xI m_st cI 38 fs), (xI m_as cI 38 fa), (xI m_it cI 320 fi_), (xI m_sz cI 8 fz), (xI m_la cI 8 fn_)]) hP hD [4, 0, 1, 2, 5, 3] (by decide +kernel) rfl
                exact W.iret (v := (-1000011)) hx hb hr (fun t ht hW => ⟨⟨(-1000011), (), rfl, (lf_X8_gusts_12 hM hT h999 hT0 hsz9 hln9 e_2 f_3_1_0 q_3 hj_6 hkn1 hw1 h01 hj_10 f_14_1_0 q_14 hj_14 e_18 hF_20_0 f_20_1_0), ⟨fs, fa, msn_20, va_Ht ht hX9.1, hX9.2, hM, rfl, (lf_X8_gusts_11 hM hT h999 hT0 hsz9 hln9 e_2 f_3_1_0 q_3 hj_6 hkn1 hw1 h01 hj_10 f_14_1_0 q_14 hj_14 e_18 hF_20_0 f_20_1_0)⟩⟩, hS.F ht⟩) hS.2.2 dX8_gusts_115
              · subst h_20
                refine lv_istore (lv' := [(6, .int (-1000012)), (0, .ref mo), (1, .int (-1)), (2, .int (nI j_6)), (3, .int (nI j_10)), (4, .int a3), (5, .int (nI j_14))]) hx hb dX8_gusts_75 hl (by decide) rfl (fun ls hl => ?_)
                refine lv_iload hx hb dX8_gusts_77 (lv_at hl 0 rfl) ?_
                refine lv_if_ge (tgt := 87) hx hb dX8_gusts_79 (by decide) (fun c_ => absurd c_ (by decide)) (fun _ => ?_)
                refine lv_iload hx hb dX8_gusts_82 (lv_at hl 0 rfl) ?_
                refine lv_goto (tgt := 115) hx hb dX8_gusts_84 (by decide) ?_
                have hX9 := cut2 (wc := [(xo_8_rrriirrriiiiiiirrirrrrri mo m_la m_sz m_it msn_20 mt m_st m_mv m_tp (nI mz) ml (nI mp) mk mv mb mw m_rd m_ac (nI ma) m_as m_wo m_ik m_ke m_tr (nI mx)), (xI m_st cI 38 fs), (xI m_as cI 38 fa), (xI m_it cI 320 fi_), (xI m_sz cI 8 fz), (xI m_la cI 8 fn_)]) hP hD [4, 0, 1, 2, 5, 3] (by decide +kernel) rfl
                exact W.iret (v := (-1000012)) hx hb hr (fun t ht hW => ⟨⟨(-1000012), (), rfl, (lf_X8_gusts_14 hM hT h999 hT0 hsz9 hln9 e_2 f_3_1_0 q_3 hj_6 hkn1 hw1 h01 hj_10 f_14_1_0 q_14 hj_14 e_18 hF_20_0 f_20_2_0 f_20_2_1), ⟨fs, fa, msn_20, va_Ht ht hX9.1, hX9.2, hM, rfl, (lf_X8_gusts_13 hM hT h999 hT0 hsz9 hln9 e_2 f_3_1_0 q_3 hj_6 hkn1 hw1 h01 hj_10 f_14_1_0 q_14 hj_14 e_18 hF_20_0 f_20_2_0 f_20_2_1)⟩⟩, hS.F ht⟩) hS.2.2 dX8_gusts_115
            · skip
              refine lv_ldc (own := RX8) (v := (-1000002)) hx hb hown (hts _ mx_X8_gusts_5) dX8_gusts_63 ?_
              have hX9 := cut2 (wc := [(xo_8_rrriirrriiiiiiirrirrrrri mo m_la m_sz m_it ms mt m_st m_mv m_tp (nI mz) ml (nI mp) mk mv mb mw m_rd m_ac (nI ma) m_as m_wo m_ik m_ke m_tr (nI mx)), (xI m_st cI 38 fs), (xI m_as cI 38 fa), (xI m_it cI 320 fi_), (xI m_sz cI 8 fz), (xI m_la cI 8 fn_)]) hP hD [0, 1, 2, 3, 4, 5] (by decide +kernel) rfl
              exact W.iret (v := (-1000002)) hx hb hr (fun t ht hW => ⟨⟨(-1000002), (), rfl, (lf_X8_gusts_16 hM hT h999 hT0 hsz9 hln9 e_2 f_3_1_0 q_3 hj_6 hkn1 hw1 h01 hj_10 f_14_1_0 q_14 hj_14 e_18 c_19), ⟨fs, fa, ms, va_Ht ht hX9.1, hX9.2, hM, rfl, (lf_X8_gusts_15 hM hT h999 hT0 hsz9 hln9 e_2 f_3_1_0 q_3 hj_6 hkn1 hw1 h01 hj_10 f_14_1_0 q_14 hj_14 e_18 c_19)⟩⟩, hS.F ht⟩) hS.2.2 dX8_gusts_65
    · obtain ⟨j_3, hj_3, rfl⟩ := vp_in_of hv_3 (by omega)
      refine lv_if_eq (tgt := 48) hx hb dX8_gusts_17 (by decide) (fun c_ => absurd c_ (by decide)) (fun _ => ?_)
      refine lv_aload_n hx hb dX8_gusts_20 rfl (lv_at hl 0 rfl) ?_
      refine lv_iload_n hx hb dX8_gusts_21 rfl (lv_at hl 2 rfl) ?_
      have hPc_30 := hP.sub (ws' := [(xo_8_rrriirrriiiiiiirrirrrrri mo m_la m_sz m_it ms mt m_st m_mv m_tp (nI mz) ml (nI mp) mk mv mb mw m_rd m_ac (nI ma) m_as m_wo m_ik m_ke m_tr (nI mx)), (xI m_st cI 38 fs)]) [0, 1] rfl
      refine vp_callSi (W.runV (As := [.int a1]) (rest := []) ⟨hx, hb, hml, hown, hts⟩ (r_X8_isSound l dC dI cI cZ cL cJ mo m_la m_sz m_it m_st m_mv m_tp m_rd m_ac m_as m_wo m_ik m_ke m_tr ms mt ml mk mv mb mw mz mp ma mx fs w9 k9 h9 a1 (hM)) (cwV 1 hts gX8_gusts_X8_isSound rfl rfl rfl (by decide +kernel) ⟨Nat.le_of_ble_eq_true rfl, Nat.le_of_ble_eq_true rfl⟩) (pvP 8 0 hK hP rfl rfl hPc_30) rfl rfl hl.1 rfl (lv_room (Nat.le_of_ble_eq_true rfl)) dX8_gusts_22 ⟨Nat.le_of_ble_eq_true rfl, Nat.le_of_ble_eq_true rfl⟩) (fun r_30 h_30 => ?_)
      rcases h_30 with ⟨h_30, f_30_0_0⟩ | ⟨h_30, f_30_1_0⟩
      · subst h_30
        refine lv_if_eq (tgt := 48) hx hb dX8_gusts_25 (by decide) (fun _ => ?_) (fun c_ => absurd (by decide) c_)
        refine lv_ldc (own := RX8) (v := (-1000001)) hx hb hown (hts _ mx_X8_gusts_4) dX8_gusts_48 ?_
        have hX9 := cut2 (wc := [(xo_8_rrriirrriiiiiiirrirrrrri mo m_la m_sz m_it ms mt m_st m_mv m_tp (nI mz) ml (nI mp) mk mv mb mw m_rd m_ac (nI ma) m_as m_wo m_ik m_ke m_tr (nI mx)), (xI m_st cI 38 fs), (xI m_as cI 38 fa), (xI m_it cI 320 fi_), (xI m_sz cI 8 fz), (xI m_la cI 8 fn_)]) hP hD [0, 1, 2, 3, 4, 5] (by decide +kernel) rfl
        exact W.iret (v := (-1000001)) hx hb hr (fun t ht hW => ⟨⟨(-1000001), (), rfl, (lf_X8_gusts_18 hM hT h999 hT0 hsz9 hln9 e_2 f_3_1_0 q_3 hj_3 f_30_0_0), ⟨fs, fa, ms, va_Ht ht hX9.1, hX9.2, hM, rfl, (lf_X8_gusts_17 hM hT h999 hT0 hsz9 hln9 e_2 f_3_1_0 q_3 hj_3 f_30_0_0)⟩⟩, hS.F ht⟩) hS.2.2 dX8_gusts_50
      · subst h_30
        obtain ⟨j_30, hj_30, rfl⟩ := vp_in_of f_30_1_0 (by omega)
        have hkn1 : 1 ≤ k9 := by omega
        have hw1 := hM.2.2.2.2.2.1.mp hkn1
        have h01 : ¬ fs 0 = 0 := cell_nz hM hkn1
        refine lv_if_eq (tgt := 48) hx hb dX8_gusts_25 (by decide) (fun c_ => absurd c_ (by decide)) (fun _ => ?_)
        refine lv_iload_n hx hb dX8_gusts_28 rfl (lv_at hl 3 rfl) ?_
        have hPc_34 := hP.sub (ws' := []) [] rfl
        refine vp_callSi (W.runS (As := [.int a2]) (rest := []) ⟨hx, hb, hml, hown, hts⟩ (r_X8_isRow l dC dI cI cZ cL cJ a2 ) (va_cwS 1 hts gX8_gusts_X8_isRow rfl rfl rfl (by decide +kernel) ⟨Nat.le_of_ble_eq_true rfl, Nat.le_of_ble_eq_true rfl⟩) (psP hK hPc_34) rfl rfl hl.1 rfl (lv_room (Nat.le_of_ble_eq_true rfl)) dX8_gusts_29 ⟨Nat.le_of_ble_eq_true rfl, Nat.le_of_ble_eq_true rfl⟩) (fun r_34 h_34 => ?_)
        rcases h_34 with ⟨h_34, f_34_0_0⟩ | ⟨h_34, f_34_1_0⟩
        · subst h_34
          refine lv_if_eq (tgt := 48) hx hb dX8_gusts_32 (by decide) (fun _ => ?_) (fun c_ => absurd (by decide) c_)
          refine lv_ldc (own := RX8) (v := (-1000001)) hx hb hown (hts _ mx_X8_gusts_4) dX8_gusts_48 ?_
          have hX9 := cut2 (wc := [(xo_8_rrriirrriiiiiiirrirrrrri mo m_la m_sz m_it ms mt m_st m_mv m_tp (nI mz) ml (nI mp) mk mv mb mw m_rd m_ac (nI ma) m_as m_wo m_ik m_ke m_tr (nI mx)), (xI m_st cI 38 fs), (xI m_as cI 38 fa), (xI m_it cI 320 fi_), (xI m_sz cI 8 fz), (xI m_la cI 8 fn_)]) hP hD [0, 1, 2, 3, 4, 5] (by decide +kernel) rfl
          exact W.iret (v := (-1000001)) hx hb hr (fun t ht hW => ⟨⟨(-1000001), (), rfl, (lf_X8_gusts_20 hM hT h999 hT0 hsz9 hln9 e_2 f_3_1_0 q_3 hj_3 hj_30 hkn1 hw1 h01 f_34_0_0), ⟨fs, fa, ms, va_Ht ht hX9.1, hX9.2, hM, rfl, (lf_X8_gusts_19 hM hT h999 hT0 hsz9 hln9 e_2 f_3_1_0 q_3 hj_3 hj_30 hkn1 hw1 h01 f_34_0_0)⟩⟩, hS.F ht⟩) hS.2.2 dX8_gusts_50
        · subst h_34
          obtain ⟨j_34, hj_34, rfl⟩ := vp_in_of f_34_1_0 (by omega)
          refine lv_if_eq (tgt := 48) hx hb dX8_gusts_32 (by decide) (fun c_ => absurd c_ (by decide)) (fun _ => ?_)
          refine lv_iload hx hb dX8_gusts_35 (lv_at hl 5 rfl) ?_
          refine lv_i2l hx hb dX8_gusts_37 rfl ?_
          refine lv_lconst (v := 1) hx hb dX8_gusts_38 (by decide) ?_
          refine lv_ldc2 (own := RX8) (v := 12) hx hb hown (hts _ mx_X8_gusts_3) dX8_gusts_39 ?_
          have hPc_38 := hP.sub (ws' := []) [] rfl
          refine vp_callSi (W.runS (As := [.long (a4).toInt64, .long 1, .long 12]) (rest := []) ⟨hx, hb, hml, hown, hts⟩ (r_X8_in l dC dI cI cZ cL cJ ((a4).toInt64) 1 12 ) (va_cwS 3 hts gX8_gusts_X8_in rfl rfl rfl (by decide +kernel) ⟨Nat.le_of_ble_eq_true rfl, Nat.le_of_ble_eq_true rfl⟩) (psP hK hPc_38) rfl rfl hl.1 rfl (lv_room (Nat.le_of_ble_eq_true rfl)) dX8_gusts_42 ⟨Nat.le_of_ble_eq_true rfl, Nat.le_of_ble_eq_true rfl⟩) (fun r_38 h_38 => ?_)
          rcases h_38 with ⟨h_38, f_38_0_0⟩ | ⟨h_38, f_38_1_0⟩
          · subst h_38
            have q_38 : (a4 < 1 ∨ 12 < a4) := (in32 (x := a4) (l := 1) (u := 12) (by decide) (by decide)).mp f_38_0_0
            refine lv_if_ne (tgt := 51) hx hb dX8_gusts_45 (by decide) (fun c_ => absurd (by decide) c_) (fun _ => ?_)
            refine lv_ldc (own := RX8) (v := (-1000001)) hx hb hown (hts _ mx_X8_gusts_4) dX8_gusts_48 ?_
            have hX9 := cut2 (wc := [(xo_8_rrriirrriiiiiiirrirrrrri mo m_la m_sz m_it ms mt m_st m_mv m_tp (nI mz) ml (nI mp) mk mv mb mw m_rd m_ac (nI ma) m_as m_wo m_ik m_ke m_tr (nI mx)), (xI m_st cI 38 fs), (xI m_as cI 38 fa), (xI m_it cI 320 fi_), (xI m_sz cI 8 fz), (xI m_la cI 8 fn_)]) hP hD [0, 1, 2, 3, 4, 5] (by decide +kernel) rfl
            exact W.iret (v := (-1000001)) hx hb hr (fun t ht hW => ⟨⟨(-1000001), (), rfl, (lf_X8_gusts_22 hM hT h999 hT0 hsz9 hln9 e_2 f_3_1_0 q_3 hj_3 hj_30 hkn1 hw1 h01 hj_34 f_38_0_0 q_38), ⟨fs, fa, ms, va_Ht ht hX9.1, hX9.2, hM, rfl, (lf_X8_gusts_21 hM hT h999 hT0 hsz9 hln9 e_2 f_3_1_0 q_3 hj_3 hj_30 hkn1 hw1 h01 hj_34 f_38_0_0 q_38)⟩⟩, hS.F ht⟩) hS.2.2 dX8_gusts_50
          · subst h_38
            have q_38 : ¬ (a4 < 1 ∨ 12 < a4) := fun q_ => f_38_1_0 ((in32 (x := a4) (l := 1) (u := 12) (by decide) (by decide)).mpr q_)
            obtain ⟨j_38, hj_38, hl_38, rfl⟩ := in64 (lo := 1) (n := 12) rfl rfl (by decide) f_38_1_0
            refine lv_if_ne (tgt := 51) hx hb dX8_gusts_45 (by decide) (fun _ => ?_) (fun c_ => absurd c_ (by decide))
            refine lv_aload_n hx hb dX8_gusts_51 rfl (lv_at hl 0 rfl) ?_
            refine va_get (D := (dC, dI)) (ci := 8) (v := .ref m_st) (C := RX8) (T := TX8) (N := 24) hx hb hts i_X8_gusts_X8 hown hK hP 0 rfl rfl 5 (by decide) (hts _ mx_X8_gusts_2) (fun _ h9 => h9) rfl dX8_gusts_52 ?_
            refine lv_bipush (v := 26) hx hb dX8_gusts_55 (by decide) ?_
            refine lv_iload_n hx hb dX8_gusts_57 rfl (lv_at hl 2 rfl) ?_
            refine lv_iadd hx hb dX8_gusts_58 ?_
            refine lv_topi (fun v_41 e_41 => ?_)
            obtain rfl : v_41 = (nI (26 + j_30)) := (e_41).trans (nI_add 26 j_30)
            refine va_iald hx hb hK hP 1 0 rfl rfl (vp_in_nI (by omega) (by omega)) dX8_gusts_59 ?_
            refine lv_topi (fun v_42 e_42 => ?_)
            have e_42 : v_42 = fs (26 + j_30) := e_42.trans (congrArg fs (nI_clamp (by omega)))
            refine lv_if_eq (tgt := 66) hx hb dX8_gusts_60 (by decide) (fun c_43 => ?_) (fun c_43 => ?_)
            · skip
              subst c_43
              refine lv_aload_n hx hb dX8_gusts_66 rfl (lv_at hl 0 rfl) ?_
              refine lv_iload_n hx hb dX8_gusts_67 rfl (lv_at hl 3 rfl) ?_
              refine lv_iload hx hb dX8_gusts_68 (lv_at hl 4 rfl) ?_
              refine lv_iload hx hb dX8_gusts_70 (lv_at hl 5 rfl) ?_
              have hc_44 := cutW (wc := [(xo_8_rrriirrriiiiiiirrirrrrri mo m_la m_sz m_it ms mt m_st m_mv m_tp (nI mz) ml (nI mp) mk mv mb mw m_rd m_ac (nI ma) m_as m_wo m_ik m_ke m_tr (nI mx)), (xI m_sz cI 8 fz)]) hP hD hS hA [0, 4] (by decide +kernel) rfl
              refine va_calli (va_runV (As := [.int (nI j_34), .int a3, .int (nI j_38)]) (rest := []) ⟨hx, hb, hml, hown, hts⟩ (r_X8_lacks l dC dI cI cZ cL cJ s.heap.size mo m_la m_sz m_it m_st m_mv m_tp m_rd m_ac m_as m_wo m_ik m_ke m_tr ms mt ml mk mv mb mw mz mp ma mx fz j_34 j_38 a3 (hsz9) (by omega) (by omega)) (cwV 3 hts gX8_gusts_X8_lacks rfl rfl rfl (by decide +kernel) ⟨Nat.le_of_ble_eq_true rfl, Nat.le_of_ble_eq_true rfl⟩) (pvW 8 0 hK hP rfl rfl hc_44) rfl rfl hl.1 rfl (lv_room (Nat.le_of_ble_eq_true rfl)) dX8_gusts_72 ⟨Nat.le_of_ble_eq_true rfl, Nat.le_of_ble_eq_true rfl⟩) hS (fun q _ h => hc_44.2.2 q h) hc_44.2.2 (fun r_44 u_44 t_44 H1 locs ht hvm h_44 hB hz1 hk1 hS => ?_)
              refine xl_1_3 hB (fun msn_44 hP1 hD1 hF_44_0 => ?_)
              clear hB
              rw [ht] at hP1
              obtain ⟨hP, hD⟩ := va_join (wr := [(xI m_st cI 38 fs), (xI m_as cI 38 fa), (xI m_it cI 320 fi_), (xI m_la cI 8 fn_)]) (w1 := [(xo_8_rrriirrriiiiiiirrirrrrri mo m_la m_sz m_it msn_44 mt m_st m_mv m_tp (nI mz) ml (nI mp) mk mv mb mw m_rd m_ac (nI ma) m_as m_wo m_ik m_ke m_tr (nI mx)), (xI m_sz cI 8 fz)]) hP hD [0, 4] [1, 2, 3, 5] rfl rfl (by decide +kernel) (by decide +kernel) hk1 hc_44.2.2 hP1 hD1
              generalize H1 = H at hP hS ⊢
              have hP : va_P (dC, dI) vwCl [(xI m_st cI 38 fs), (xI m_as cI 38 fa), (xI m_it cI 320 fi_), (xI m_la cI 8 fn_), (xo_8_rrriirrriiiiiiirrirrrrri mo m_la m_sz m_it msn_44 mt m_st m_mv m_tp (nI mz) ml (nI mp) mk mv mb mw m_rd m_ac (nI ma) m_as m_wo m_ik m_ke m_tr (nI mx)), (xI m_sz cI 8 fz)] H := hP
              have hD := dto hP hD
              rcases h_44 with ⟨h_44, f_44_0_0, f_44_0_1, f_44_0_2⟩ | ⟨h_44, f_44_1_0⟩ | ⟨h_44, f_44_2_0, f_44_2_1⟩
              · subst h_44
                obtain ⟨pa_45, pb_45, ea_45, eb_45, hab_45⟩ := f_44_0_2
                subst ea_45
                have eb_45 : j_38 = pb_45 := nI_inj eb_45 (by omega) (by omega)
                refine lv_istore (lv' := [(6, .int 0), (0, .ref mo), (1, .int (nI j_3)), (2, .int (nI j_30)), (3, .int (nI j_34)), (4, .int (nI pa_45)), (5, .int (nI j_38))]) hx hb dX8_gusts_75 hl (by decide) rfl (fun ls hl => ?_)
                refine lv_iload hx hb dX8_gusts_77 (lv_at hl 0 rfl) ?_
                refine lv_if_ge (tgt := 87) hx hb dX8_gusts_79 (by decide) (fun _ => ?_) (fun c_ => absurd (by decide) c_)
                refine lv_aload_n hx hb dX8_gusts_87 rfl (lv_at hl 1 rfl) ?_
                refine lv_iload_n hx hb dX8_gusts_88 rfl (lv_at hl 2 rfl) ?_
                refine lv_if_ge (tgt := 96) hx hb dX8_gusts_89 (by decide) (fun _ => ?_) (fun c_ => absurd ((nI_leI (a := 0) (b := j_3) (by omega) (by omega)).mpr (by omega)) c_)
                refine lv_bipush (v := 8) hx hb dX8_gusts_96 (by decide) ?_
                refine lv_iload_n hx hb dX8_gusts_98 rfl (lv_at hl 2 rfl) ?_
                refine lv_iadd hx hb dX8_gusts_99 ?_
                refine lv_topi (fun v_48 e_48 => ?_)
                obtain rfl : v_48 = (nI (8 + j_3)) := (e_48).trans (nI_add 8 j_3)
                refine lv_iconst (v := 0) hx hb dX8_gusts_100 (by decide) ?_
                refine lv_iconst (v := 4) hx hb dX8_gusts_101 (by decide) ?_
                refine lv_iload_n hx hb dX8_gusts_102 rfl (lv_at hl 3 rfl) ?_
                refine lv_bipush (v := 40) hx hb dX8_gusts_103 (by decide) ?_
                refine lv_iload_n hx hb dX8_gusts_105 rfl (lv_at hl 4 rfl) ?_
                refine lv_imul hx hb dX8_gusts_106 ?_
                refine lv_topi (fun v_49 e_49 => ?_)
                obtain rfl : v_49 = (nI (40 * j_34)) := (e_49).trans (pk_mul 40 j_34)
                refine lv_iload hx hb dX8_gusts_107 (lv_at hl 5 rfl) ?_
                refine lv_iadd hx hb dX8_gusts_109 ?_
                refine lv_topi (fun v_50 e_50 => ?_)
                obtain rfl : v_50 = (nI ((40 * j_34) + pa_45)) := (e_50).trans (nI_add (40 * j_34) pa_45)
                refine lv_iload hx hb dX8_gusts_110 (lv_at hl 6 rfl) ?_
                have hc_51 := cutW (wc := [(xo_8_rrriirrriiiiiiirrirrrrri mo m_la m_sz m_it msn_44 mt m_st m_mv m_tp (nI mz) ml (nI mp) mk mv mb mw m_rd m_ac (nI ma) m_as m_wo m_ik m_ke m_tr (nI mx)), (xI m_st cI 38 fs), (xI m_as cI 38 fa), (xI m_it cI 320 fi_)]) hP hD hS hA [4, 0, 1, 2] (by decide +kernel) rfl
                refine va_calli (va_runV (As := [.int (nI (8 + j_3)), .int 0, .int 4, .int (nI j_30), .int (nI ((40 * j_34) + pa_45)), .int (nI j_38)]) (rest := []) ⟨hx, hb, hml, hown, hts⟩ (r_X8_fits l dC dI cI cZ cL cJ H.size mo m_la m_sz m_it m_st m_mv m_tp m_rd m_ac m_as m_wo m_ik m_ke m_tr msn_44 mt ml mk mv mb mw mz mp ma mx fs w9 k9 h9 fa fi_ (8 + j_3) 0 4 j_30 ((40 * j_34) + pa_45) j_38 (hM) (by omega) (by omega) (by omega) (by omega) (by omega) (by omega) (by omega) (by omega) (by omega) (by omega) (by omega) (by omega) (by omega)) (cwV 6 hts gX8_gusts_X8_fits rfl rfl rfl (by decide +kernel) ⟨Nat.le_of_ble_eq_true rfl, Nat.le_of_ble_eq_true rfl⟩) (pvW 8 4 hK hP rfl rfl hc_51) rfl rfl hl.1 rfl (lv_room (Nat.le_of_ble_eq_true rfl)) dX8_gusts_112 ⟨Nat.le_of_ble_eq_true rfl, Nat.le_of_ble_eq_true rfl⟩) hS (fun q _ h => hc_51.2.2 q h) hc_51.2.2 (fun r_51 u_51 t_51 H1 locs ht hvm h_51 hB hz1 hk1 hS => ?_)
                refine xl_3_5 hB (fun fsn_51 fan_51 msn_51 hP1 hD1 hF_51_0 hF_51_1 hF_51_2 => ?_)
                clear hB
                rw [ht] at hP1
                obtain ⟨hP, hD⟩ := va_join (wr := [(xI m_la cI 8 fn_), (xI m_sz cI 8 fz)]) (w1 := [(xo_8_rrriirrriiiiiiirrirrrrri mo m_la m_sz m_it msn_51 mt m_st m_mv m_tp (nI mz) ml (nI mp) mk mv mb mw m_rd m_ac (nI ma) m_as m_wo m_ik m_ke m_tr (nI mx)), (xI m_st cI 38 fsn_51), (xI m_as cI 38 fan_51), (xI m_it cI 320 fi_)]) hP hD [4, 0, 1, 2] [3, 5] rfl rfl (by decide +kernel) (by decide +kernel) hk1 hc_51.2.2 hP1 hD1
                generalize H1 = H at hP hS ⊢
                have hP : va_P (dC, dI) vwCl [(xI m_la cI 8 fn_), (xI m_sz cI 8 fz), (xo_8_rrriirrriiiiiiirrirrrrri mo m_la m_sz m_it msn_51 mt m_st m_mv m_tp (nI mz) ml (nI mp) mk mv mb mw m_rd m_ac (nI ma) m_as m_wo m_ik m_ke m_tr (nI mx)), (xI m_st cI 38 fsn_51), (xI m_as cI 38 fan_51), (xI m_it cI 320 fi_)] H := hP
                have hD := dto hP hD
                have hX9 := cut2 (wc := [(xo_8_rrriirrriiiiiiirrirrrrri mo m_la m_sz m_it msn_51 mt m_st m_mv m_tp (nI mz) ml (nI mp) mk mv mb mw m_rd m_ac (nI ma) m_as m_wo m_ik m_ke m_tr (nI mx)), (xI m_st cI 38 fsn_51), (xI m_as cI 38 fan_51), (xI m_it cI 320 fi_), (xI m_sz cI 8 fz), (xI m_la cI 8 fn_)]) hP hD [2, 3, 4, 5, 1, 0] (by decide +kernel) rfl
                exact W.iret (v := r_51) hx hb hr (fun t ht hW => ⟨⟨r_51, (), rfl, (lf_X8_gusts_24 hM hT h999 hT0 hsz9 hln9 e_2 f_3_1_0 q_3 hj_3 hj_30 hkn1 hw1 h01 hj_34 f_38_1_0 q_38 hj_38 e_42 hF_44_0 f_44_0_0 f_44_0_1 hab_45 eb_45 hF_51_0 hF_51_1 hF_51_2 h_51), ⟨fsn_51, fan_51, msn_51, va_Ht ht hX9.1, hX9.2, hF_51_0, hF_51_1, (lf_X8_gusts_23 hM hT h999 hT0 hsz9 hln9 e_2 f_3_1_0 q_3 hj_3 hj_30 hkn1 hw1 h01 hj_34 f_38_1_0 q_38 hj_38 e_42 hF_44_0 f_44_0_0 f_44_0_1 hab_45 eb_45 hF_51_0 hF_51_1 hF_51_2 h_51)⟩⟩, hS.F ht⟩) hS.2.2 dX8_gusts_115
              · subst h_44
                refine lv_istore (lv' := [(6, .int (-1000011)), (0, .ref mo), (1, .int (nI j_3)), (2, .int (nI j_30)), (3, .int (nI j_34)), (4, .int a3), (5, .int (nI j_38))]) hx hb dX8_gusts_75 hl (by decide) rfl (fun ls hl => ?_)
                refine lv_iload hx hb dX8_gusts_77 (lv_at hl 0 rfl) ?_
                refine lv_if_ge (tgt := 87) hx hb dX8_gusts_79 (by decide) (fun c_ => absurd c_ (by decide)) (fun _ => ?_)
                refine lv_iload hx hb dX8_gusts_82 (lv_at hl 0 rfl) ?_
                refine lv_goto (tgt := 115) hx hb dX8_gusts_84 (by decide) ?_
                have hX9 := cut2 (wc := [(xo_8_rrriirrriiiiiiirrirrrrri mo m_la m_sz m_it msn_44 mt m_st m_mv m_tp (nI mz) ml (nI mp) mk mv mb mw m_rd m_ac (nI ma) m_as m_wo m_ik m_ke m_tr (nI mx)), (xI m_st cI 38 fs), (xI m_as cI 38 fa), (xI m_it cI 320 fi_), (xI m_sz cI 8 fz), (xI m_la cI 8 fn_)]) hP hD [4, 0, 1, 2, 5, 3] (by decide +kernel) rfl
                exact W.iret (v := (-1000011)) hx hb hr (fun t ht hW => ⟨⟨(-1000011), (), rfl, (lf_X8_gusts_26 hM hT h999 hT0 hsz9 hln9 e_2 f_3_1_0 q_3 hj_3 hj_30 hkn1 hw1 h01 hj_34 f_38_1_0 q_38 hj_38 e_42 hF_44_0 f_44_1_0), ⟨fs, fa, msn_44, va_Ht ht hX9.1, hX9.2, hM, rfl, (lf_X8_gusts_25 hM hT h999 hT0 hsz9 hln9 e_2 f_3_1_0 q_3 hj_3 hj_30 hkn1 hw1 h01 hj_34 f_38_1_0 q_38 hj_38 e_42 hF_44_0 f_44_1_0)⟩⟩, hS.F ht⟩) hS.2.2 dX8_gusts_115
              · subst h_44
                refine lv_istore (lv' := [(6, .int (-1000012)), (0, .ref mo), (1, .int (nI j_3)), (2, .int (nI j_30)), (3, .int (nI j_34)), (4, .int a3), (5, .int (nI j_38))]) hx hb dX8_gusts_75 hl (by decide) rfl (fun ls hl => ?_)
                refine lv_iload hx hb dX8_gusts_77 (lv_at hl 0 rfl) ?_
                refine lv_if_ge (tgt := 87) hx hb dX8_gusts_79 (by decide) (fun c_ => absurd c_ (by decide)) (fun _ => ?_)
                refine lv_iload hx hb dX8_gusts_82 (lv_at hl 0 rfl) ?_
                refine lv_goto (tgt := 115) hx hb dX8_gusts_84 (by decide) ?_
                have hX9 := cut2 (wc := [(xo_8_rrriirrriiiiiiirrirrrrri mo m_la m_sz m_it msn_44 mt m_st m_mv m_tp (nI mz) ml (nI mp) mk mv mb mw m_rd m_ac (nI ma) m_as m_wo m_ik m_ke m_tr (nI mx)), (xI m_st cI 38 fs), (xI m_as cI 38 fa), (xI m_it cI 320 fi_), (xI m_sz cI 8 fz), (xI m_la cI 8 fn_)]) hP hD [4, 0, 1, 2, 5, 3] (by decide +kernel) rfl
                exact W.iret (v := (-1000012)) hx hb hr (fun t ht hW => ⟨⟨(-1000012), (), rfl, (lf_X8_gusts_28 hM hT h999 hT0 hsz9 hln9 e_2 f_3_1_0 q_3 hj_3 hj_30 hkn1 hw1 h01 hj_34 f_38_1_0 q_38 hj_38 e_42 hF_44_0 f_44_2_0 f_44_2_1), ⟨fs, fa, msn_44, va_Ht ht hX9.1, hX9.2, hM, rfl, (lf_X8_gusts_27 hM hT h999 hT0 hsz9 hln9 e_2 f_3_1_0 q_3 hj_3 hj_30 hkn1 hw1 h01 hj_34 f_38_1_0 q_38 hj_38 e_42 hF_44_0 f_44_2_0 f_44_2_1)⟩⟩, hS.F ht⟩) hS.2.2 dX8_gusts_115
            · skip
              refine lv_ldc (own := RX8) (v := (-1000002)) hx hb hown (hts _ mx_X8_gusts_5) dX8_gusts_63 ?_
              have hX9 := cut2 (wc := [(xo_8_rrriirrriiiiiiirrirrrrri mo m_la m_sz m_it ms mt m_st m_mv m_tp (nI mz) ml (nI mp) mk mv mb mw m_rd m_ac (nI ma) m_as m_wo m_ik m_ke m_tr (nI mx)), (xI m_st cI 38 fs), (xI m_as cI 38 fa), (xI m_it cI 320 fi_), (xI m_sz cI 8 fz), (xI m_la cI 8 fn_)]) hP hD [0, 1, 2, 3, 4, 5] (by decide +kernel) rfl
              exact W.iret (v := (-1000002)) hx hb hr (fun t ht hW => ⟨⟨(-1000002), (), rfl, (lf_X8_gusts_30 hM hT h999 hT0 hsz9 hln9 e_2 f_3_1_0 q_3 hj_3 hj_30 hkn1 hw1 h01 hj_34 f_38_1_0 q_38 hj_38 e_42 c_43), ⟨fs, fa, ms, va_Ht ht hX9.1, hX9.2, hM, rfl, (lf_X8_gusts_29 hM hT h999 hT0 hsz9 hln9 e_2 f_3_1_0 q_3 hj_3 hj_30 hkn1 hw1 h01 hj_34 f_38_1_0 q_38 hj_38 e_42 c_43)⟩⟩, hS.F ht⟩) hS.2.2 dX8_gusts_65
theorem lf_X8_calm_1 {mt : Int32} {ma : Nat} {fs : Nat → Int32} {w9 : Nat} {k9 : Nat} {h9 : Nat} {a0 : Int32} {a1 : Int32} {a2 : Int32} {a3 : Int32} (hM : okM fs w9 k9 h9) (hT : ¬ mt = 0 → 1 ≤ k9) (h999 : h9 ≤ 999) (hT0 : mt = 0 → fs 0 = 0 ∧ ma = 0) (f_1_0_0 : ¬ sB (nI k9) a0) : (-1000001) = (a_clm (m38 fs) a0 a1 a2 a3) := by
  first
  | exact cmM_n1 hM.2.1 f_1_0_0
  | exact clm_n (Or.inr (Or.inl q_5))
  | exact clm_n (Or.inr (Or.inr (Or.inl q_8)))
theorem lf_X8_calm_2 {mt : Int32} {ma : Nat} {fs : Nat → Int32} {w9 : Nat} {k9 : Nat} {h9 : Nat} {a1 : Int32} {a2 : Int32} {a3 : Int32} {j_1 : Nat} (hM : okM fs w9 k9 h9) (hT : ¬ mt = 0 → 1 ≤ k9) (h999 : h9 ≤ 999) (hT0 : mt = 0 → fs 0 = 0 ∧ ma = 0) (hj_1 : j_1 < k9) (hkn1 : 1 ≤ k9) (hw1 : 1 ≤ w9) (h01 : ¬ fs 0 = 0) (f_5_0_0 : ((a1).toInt64 < 0 ∨ 60 < (a1).toInt64)) (q_5 : (a1 < 0 ∨ 60 < a1)) : (-1000001) = (a_clm (m38 fs) (nI j_1) a1 a2 a3) := by
  first
  | exact clm_n (Or.inr (Or.inl q_5))
  | exact clm_n (Or.inr (Or.inr (Or.inl q_8)))
theorem lf_X8_calm_3 {mt : Int32} {ma : Nat} {fs : Nat → Int32} {w9 : Nat} {k9 : Nat} {h9 : Nat} {a2 : Int32} {a3 : Int32} {j_1 : Nat} {j_5 : Nat} (hM : okM fs w9 k9 h9) (hT : ¬ mt = 0 → 1 ≤ k9) (h999 : h9 ≤ 999) (hT0 : mt = 0 → fs 0 = 0 ∧ ma = 0) (hj_1 : j_1 < k9) (hkn1 : 1 ≤ k9) (hw1 : 1 ≤ w9) (h01 : ¬ fs 0 = 0) (f_5_1_0 : (¬ (((nI j_5)).toInt64 < 0 ∨ 60 < ((nI j_5)).toInt64))) (q_5 : ¬ ((nI j_5) < 0 ∨ 60 < (nI j_5))) (hj_5 : j_5 ≤ 60) (f_8_0_0 : ((a2).toInt64 < 0 ∨ 10 < (a2).toInt64)) (q_8 : (a2 < 0 ∨ 10 < a2)) : (-1000001) = (a_clm (m38 fs) (nI j_1) (nI j_5) a2 a3) := by
  first
  | exact clm_n (Or.inr (Or.inl q_5))
  | exact clm_n (Or.inr (Or.inr (Or.inl q_8)))
theorem lf_X8_calm_4 {mt : Int32} {ma : Nat} {fs : Nat → Int32} {w9 : Nat} {k9 : Nat} {h9 : Nat} {a3 : Int32} {j_1 : Nat} {j_5 : Nat} {j_8 : Nat} (hM : okM fs w9 k9 h9) (hT : ¬ mt = 0 → 1 ≤ k9) (h999 : h9 ≤ 999) (hT0 : mt = 0 → fs 0 = 0 ∧ ma = 0) (hj_1 : j_1 < k9) (hkn1 : 1 ≤ k9) (hw1 : 1 ≤ w9) (h01 : ¬ fs 0 = 0) (f_5_1_0 : (¬ (((nI j_5)).toInt64 < 0 ∨ 60 < ((nI j_5)).toInt64))) (q_5 : ¬ ((nI j_5) < 0 ∨ 60 < (nI j_5))) (hj_5 : j_5 ≤ 60) (f_8_1_0 : (¬ (((nI j_8)).toInt64 < 0 ∨ 10 < ((nI j_8)).toInt64))) (q_8 : ¬ ((nI j_8) < 0 ∨ 10 < (nI j_8))) (hj_8 : j_8 ≤ 10) (f_11_0_0 : (a3 < 0 ∨ 1 < a3)) : (-1000001) = (a_clm (m38 fs) (nI j_1) (nI j_5) (nI j_8) a3) := by
  first
  | exact clm_n (Or.inr (Or.inl q_5))
  | exact clm_n (Or.inr (Or.inr (Or.inl q_8)))
  | exact clm_n (Or.inr (Or.inr (Or.inr f_11_0_0)))
theorem lf_X8_calm_5 {mt : Int32} {ma : Nat} {fs : Nat → Int32} {w9 : Nat} {k9 : Nat} {h9 : Nat} {a3 : Int32} {j_1 : Nat} {j_5 : Nat} {j_8 : Nat} {sh : Nat} {fan_14 : Nat → Int32} {w_112 : Int64} {w_113 : Nat → Int32} {ii1 : Nat} {w_232 : Int64} {w_233 : Nat → Int32} {ii2 : Nat} {v_264 : Int32} {v_265 : Int64} {v_270 : Int32} {g_271 : Nat → Int32} (hM : okM fs w9 k9 h9) (hT : ¬ mt = 0 → 1 ≤ k9) (h999 : h9 ≤ 999) (hT0 : mt = 0 → fs 0 = 0 ∧ ma = 0) (hj_1 : j_1 < k9) (hkn1 : 1 ≤ k9) (hw1 : 1 ≤ w9) (h01 : ¬ fs 0 = 0) (f_5_1_0 : (¬ (((nI j_5)).toInt64 < 0 ∨ 60 < ((nI j_5)).toInt64))) (q_5 : ¬ ((nI j_5) < 0 ∨ 60 < (nI j_5))) (hj_5 : j_5 ≤ 60) (f_8_1_0 : (¬ (((nI j_8)).toInt64 < 0 ∨ 10 < ((nI j_8)).toInt64))) (q_8 : ¬ ((nI j_8) < 0 ∨ 10 < (nI j_8))) (hj_8 : j_8 ≤ 10) (f_11_1_0 : (¬ (a3 < 0 ∨ 1 < a3))) (hsh : (1 : Int32) <<< (nI w9 &&& 31) = nI sh) (hs6 : (w9 ≤ 6 → sh ≤ 64)) (hF_14_0 : (∀ j : Nat, j < 38 → fan_14 j = fs j)) (hii1 : ii1 < sh) (haii1_0 : (w_112 = lN (abN (m38 fs) j_1 j_5 j_8 w9 ii1))) (haii1_1 : (m38 w_113 = m38 fs)) (hii2 : ii2 < w9) (haii2_0 : (w_232 = lN (csN ii1 j_8 ii2))) (haii2_1 : (m38 w_233 = drS (m38 fs) ii1 ii2)) (hMl : okM w_233 w9 k9 h9) (f_262_0_0 : ¬ hasB (nI ii1) (nI ii2)) (e_264 : v_264 = (10 - (nI j_8))) (e_265 : v_265 = (w_232 * (v_264).toInt64)) (f_267_0_0 : ¬ hasB (nI ii1) (nI ii2)) (e_270 : v_270 = w_233 (8 + ii2)) (hu_271 : g_271 = upd w_233 (8 + ii2) v_270) : (v_265 = lN (csN ii1 j_8 (ii2 + 1))) := by
  have hw6 := hM.2.2.2.1
  have h64 := hs6 hw6
  first
  | exact cm_c1 (by omega) (by omega) hj_8 f_262_0_0 haii2_0 e_264 e_265
  | exact cm_c2 (by omega) (by omega) hj_8 f_262_1_0 haii2_0 e_275
theorem lf_X8_calm_6 {mt : Int32} {ma : Nat} {fs : Nat → Int32} {w9 : Nat} {k9 : Nat} {h9 : Nat} {a3 : Int32} {j_1 : Nat} {j_5 : Nat} {j_8 : Nat} {sh : Nat} {fan_14 : Nat → Int32} {w_112 : Int64} {w_113 : Nat → Int32} {ii1 : Nat} {w_232 : Int64} {w_233 : Nat → Int32} {ii2 : Nat} {v_264 : Int32} {v_265 : Int64} {v_270 : Int32} {g_271 : Nat → Int32} (hM : okM fs w9 k9 h9) (hT : ¬ mt = 0 → 1 ≤ k9) (h999 : h9 ≤ 999) (hT0 : mt = 0 → fs 0 = 0 ∧ ma = 0) (hj_1 : j_1 < k9) (hkn1 : 1 ≤ k9) (hw1 : 1 ≤ w9) (h01 : ¬ fs 0 = 0) (f_5_1_0 : (¬ (((nI j_5)).toInt64 < 0 ∨ 60 < ((nI j_5)).toInt64))) (q_5 : ¬ ((nI j_5) < 0 ∨ 60 < (nI j_5))) (hj_5 : j_5 ≤ 60) (f_8_1_0 : (¬ (((nI j_8)).toInt64 < 0 ∨ 10 < ((nI j_8)).toInt64))) (q_8 : ¬ ((nI j_8) < 0 ∨ 10 < (nI j_8))) (hj_8 : j_8 ≤ 10) (f_11_1_0 : (¬ (a3 < 0 ∨ 1 < a3))) (hsh : (1 : Int32) <<< (nI w9 &&& 31) = nI sh) (hs6 : (w9 ≤ 6 → sh ≤ 64)) (hF_14_0 : (∀ j : Nat, j < 38 → fan_14 j = fs j)) (hii1 : ii1 < sh) (haii1_0 : (w_112 = lN (abN (m38 fs) j_1 j_5 j_8 w9 ii1))) (haii1_1 : (m38 w_113 = m38 fs)) (hii2 : ii2 < w9) (haii2_0 : (w_232 = lN (csN ii1 j_8 ii2))) (haii2_1 : (m38 w_233 = drS (m38 fs) ii1 ii2)) (hMl : okM w_233 w9 k9 h9) (f_262_0_0 : ¬ hasB (nI ii1) (nI ii2)) (e_264 : v_264 = (10 - (nI j_8))) (e_265 : v_265 = (w_232 * (v_264).toInt64)) (f_267_0_0 : ¬ hasB (nI ii1) (nI ii2)) (e_270 : v_270 = w_233 (8 + ii2)) (hu_271 : g_271 = upd w_233 (8 + ii2) v_270) : (m38 g_271 = drS (m38 fs) ii1 (ii2 + 1)) := by
  have hw6 := hM.2.2.2.1
  have h64 := hs6 hw6
  first
  | exact absurd f_267_1_0 f_262_0_0
  | exact absurd f_262_1_0 f_277_0_0
  | exact cm_d1 (by omega) (by omega) f_262_0_0 haii2_1 e_270 hu_271
  | exact cm_d2 (by omega) (by omega) f_262_1_0 haii2_1 hu_283
theorem lf_X8_calm_7 {mt : Int32} {ma : Nat} {fs : Nat → Int32} {w9 : Nat} {k9 : Nat} {h9 : Nat} {a3 : Int32} {j_1 : Nat} {j_5 : Nat} {j_8 : Nat} {sh : Nat} {fan_14 : Nat → Int32} {w_112 : Int64} {w_113 : Nat → Int32} {ii1 : Nat} {w_232 : Int64} {w_233 : Nat → Int32} {ii2 : Nat} {v_264 : Int32} {v_265 : Int64} {g_273 : Nat → Int32} (hM : okM fs w9 k9 h9) (hT : ¬ mt = 0 → 1 ≤ k9) (h999 : h9 ≤ 999) (hT0 : mt = 0 → fs 0 = 0 ∧ ma = 0) (hj_1 : j_1 < k9) (hkn1 : 1 ≤ k9) (hw1 : 1 ≤ w9) (h01 : ¬ fs 0 = 0) (f_5_1_0 : (¬ (((nI j_5)).toInt64 < 0 ∨ 60 < ((nI j_5)).toInt64))) (q_5 : ¬ ((nI j_5) < 0 ∨ 60 < (nI j_5))) (hj_5 : j_5 ≤ 60) (f_8_1_0 : (¬ (((nI j_8)).toInt64 < 0 ∨ 10 < ((nI j_8)).toInt64))) (q_8 : ¬ ((nI j_8) < 0 ∨ 10 < (nI j_8))) (hj_8 : j_8 ≤ 10) (f_11_1_0 : (¬ (a3 < 0 ∨ 1 < a3))) (hsh : (1 : Int32) <<< (nI w9 &&& 31) = nI sh) (hs6 : (w9 ≤ 6 → sh ≤ 64)) (hF_14_0 : (∀ j : Nat, j < 38 → fan_14 j = fs j)) (hii1 : ii1 < sh) (haii1_0 : (w_112 = lN (abN (m38 fs) j_1 j_5 j_8 w9 ii1))) (haii1_1 : (m38 w_113 = m38 fs)) (hii2 : ii2 < w9) (haii2_0 : (w_232 = lN (csN ii1 j_8 ii2))) (haii2_1 : (m38 w_233 = drS (m38 fs) ii1 ii2)) (hMl : okM w_233 w9 k9 h9) (f_262_0_0 : ¬ hasB (nI ii1) (nI ii2)) (e_264 : v_264 = (10 - (nI j_8))) (e_265 : v_265 = (w_232 * (v_264).toInt64)) (f_267_1_0 : hasB (nI ii1) (nI ii2)) (hu_273 : g_273 = upd w_233 (8 + ii2) 2) : (v_265 = lN (csN ii1 j_8 (ii2 + 1))) := by
  have hw6 := hM.2.2.2.1
  have h64 := hs6 hw6
  first
  | exact cm_c1 (by omega) (by omega) hj_8 f_262_0_0 haii2_0 e_264 e_265
  | exact cm_c2 (by omega) (by omega) hj_8 f_262_1_0 haii2_0 e_275
theorem lf_X8_calm_8 {mt : Int32} {ma : Nat} {fs : Nat → Int32} {w9 : Nat} {k9 : Nat} {h9 : Nat} {a3 : Int32} {j_1 : Nat} {j_5 : Nat} {j_8 : Nat} {sh : Nat} {fan_14 : Nat → Int32} {w_112 : Int64} {w_113 : Nat → Int32} {ii1 : Nat} {w_232 : Int64} {w_233 : Nat → Int32} {ii2 : Nat} {v_264 : Int32} {v_265 : Int64} {g_273 : Nat → Int32} (hM : okM fs w9 k9 h9) (hT : ¬ mt = 0 → 1 ≤ k9) (h999 : h9 ≤ 999) (hT0 : mt = 0 → fs 0 = 0 ∧ ma = 0) (hj_1 : j_1 < k9) (hkn1 : 1 ≤ k9) (hw1 : 1 ≤ w9) (h01 : ¬ fs 0 = 0) (f_5_1_0 : (¬ (((nI j_5)).toInt64 < 0 ∨ 60 < ((nI j_5)).toInt64))) (q_5 : ¬ ((nI j_5) < 0 ∨ 60 < (nI j_5))) (hj_5 : j_5 ≤ 60) (f_8_1_0 : (¬ (((nI j_8)).toInt64 < 0 ∨ 10 < ((nI j_8)).toInt64))) (q_8 : ¬ ((nI j_8) < 0 ∨ 10 < (nI j_8))) (hj_8 : j_8 ≤ 10) (f_11_1_0 : (¬ (a3 < 0 ∨ 1 < a3))) (hsh : (1 : Int32) <<< (nI w9 &&& 31) = nI sh) (hs6 : (w9 ≤ 6 → sh ≤ 64)) (hF_14_0 : (∀ j : Nat, j < 38 → fan_14 j = fs j)) (hii1 : ii1 < sh) (haii1_0 : (w_112 = lN (abN (m38 fs) j_1 j_5 j_8 w9 ii1))) (haii1_1 : (m38 w_113 = m38 fs)) (hii2 : ii2 < w9) (haii2_0 : (w_232 = lN (csN ii1 j_8 ii2))) (haii2_1 : (m38 w_233 = drS (m38 fs) ii1 ii2)) (hMl : okM w_233 w9 k9 h9) (f_262_0_0 : ¬ hasB (nI ii1) (nI ii2)) (e_264 : v_264 = (10 - (nI j_8))) (e_265 : v_265 = (w_232 * (v_264).toInt64)) (f_267_1_0 : hasB (nI ii1) (nI ii2)) (hu_273 : g_273 = upd w_233 (8 + ii2) 2) : (m38 g_273 = drS (m38 fs) ii1 (ii2 + 1)) := by
  have hw6 := hM.2.2.2.1
  have h64 := hs6 hw6
  first
  | exact absurd f_267_1_0 f_262_0_0
  | exact absurd f_262_1_0 f_277_0_0
  | exact cm_d1 (by omega) (by omega) f_262_0_0 haii2_1 e_270 hu_271
  | exact cm_d2 (by omega) (by omega) f_262_1_0 haii2_1 hu_283
theorem lf_X8_calm_9 {mt : Int32} {ma : Nat} {fs : Nat → Int32} {w9 : Nat} {k9 : Nat} {h9 : Nat} {a3 : Int32} {j_1 : Nat} {j_5 : Nat} {j_8 : Nat} {sh : Nat} {fan_14 : Nat → Int32} {w_112 : Int64} {w_113 : Nat → Int32} {ii1 : Nat} {w_232 : Int64} {w_233 : Nat → Int32} {ii2 : Nat} {v_275 : Int64} {v_280 : Int32} {g_281 : Nat → Int32} (hM : okM fs w9 k9 h9) (hT : ¬ mt = 0 → 1 ≤ k9) (h999 : h9 ≤ 999) (hT0 : mt = 0 → fs 0 = 0 ∧ ma = 0) (hj_1 : j_1 < k9) (hkn1 : 1 ≤ k9) (hw1 : 1 ≤ w9) (h01 : ¬ fs 0 = 0) (f_5_1_0 : (¬ (((nI j_5)).toInt64 < 0 ∨ 60 < ((nI j_5)).toInt64))) (q_5 : ¬ ((nI j_5) < 0 ∨ 60 < (nI j_5))) (hj_5 : j_5 ≤ 60) (f_8_1_0 : (¬ (((nI j_8)).toInt64 < 0 ∨ 10 < ((nI j_8)).toInt64))) (q_8 : ¬ ((nI j_8) < 0 ∨ 10 < (nI j_8))) (hj_8 : j_8 ≤ 10) (f_11_1_0 : (¬ (a3 < 0 ∨ 1 < a3))) (hsh : (1 : Int32) <<< (nI w9 &&& 31) = nI sh) (hs6 : (w9 ≤ 6 → sh ≤ 64)) (hF_14_0 : (∀ j : Nat, j < 38 → fan_14 j = fs j)) (hii1 : ii1 < sh) (haii1_0 : (w_112 = lN (abN (m38 fs) j_1 j_5 j_8 w9 ii1))) (haii1_1 : (m38 w_113 = m38 fs)) (hii2 : ii2 < w9) (haii2_0 : (w_232 = lN (csN ii1 j_8 ii2))) (haii2_1 : (m38 w_233 = drS (m38 fs) ii1 ii2)) (hMl : okM w_233 w9 k9 h9) (f_262_1_0 : hasB (nI ii1) (nI ii2)) (e_275 : v_275 = (w_232 * ((nI j_8)).toInt64)) (f_277_0_0 : ¬ hasB (nI ii1) (nI ii2)) (e_280 : v_280 = w_233 (8 + ii2)) (hu_281 : g_281 = upd w_233 (8 + ii2) v_280) : (v_275 = lN (csN ii1 j_8 (ii2 + 1))) := by
  have hw6 := hM.2.2.2.1
  have h64 := hs6 hw6
  first
  | exact cm_c1 (by omega) (by omega) hj_8 f_262_0_0 haii2_0 e_264 e_265
  | exact cm_c2 (by omega) (by omega) hj_8 f_262_1_0 haii2_0 e_275
theorem lf_X8_calm_10 {mt : Int32} {ma : Nat} {fs : Nat → Int32} {w9 : Nat} {k9 : Nat} {h9 : Nat} {a3 : Int32} {j_1 : Nat} {j_5 : Nat} {j_8 : Nat} {sh : Nat} {fan_14 : Nat → Int32} {w_112 : Int64} {w_113 : Nat → Int32} {ii1 : Nat} {w_232 : Int64} {w_233 : Nat → Int32} {ii2 : Nat} {v_275 : Int64} {v_280 : Int32} {g_281 : Nat → Int32} (hM : okM fs w9 k9 h9) (hT : ¬ mt = 0 → 1 ≤ k9) (h999 : h9 ≤ 999) (hT0 : mt = 0 → fs 0 = 0 ∧ ma = 0) (hj_1 : j_1 < k9) (hkn1 : 1 ≤ k9) (hw1 : 1 ≤ w9) (h01 : ¬ fs 0 = 0) (f_5_1_0 : (¬ (((nI j_5)).toInt64 < 0 ∨ 60 < ((nI j_5)).toInt64))) (q_5 : ¬ ((nI j_5) < 0 ∨ 60 < (nI j_5))) (hj_5 : j_5 ≤ 60) (f_8_1_0 : (¬ (((nI j_8)).toInt64 < 0 ∨ 10 < ((nI j_8)).toInt64))) (q_8 : ¬ ((nI j_8) < 0 ∨ 10 < (nI j_8))) (hj_8 : j_8 ≤ 10) (f_11_1_0 : (¬ (a3 < 0 ∨ 1 < a3))) (hsh : (1 : Int32) <<< (nI w9 &&& 31) = nI sh) (hs6 : (w9 ≤ 6 → sh ≤ 64)) (hF_14_0 : (∀ j : Nat, j < 38 → fan_14 j = fs j)) (hii1 : ii1 < sh) (haii1_0 : (w_112 = lN (abN (m38 fs) j_1 j_5 j_8 w9 ii1))) (haii1_1 : (m38 w_113 = m38 fs)) (hii2 : ii2 < w9) (haii2_0 : (w_232 = lN (csN ii1 j_8 ii2))) (haii2_1 : (m38 w_233 = drS (m38 fs) ii1 ii2)) (hMl : okM w_233 w9 k9 h9) (f_262_1_0 : hasB (nI ii1) (nI ii2)) (e_275 : v_275 = (w_232 * ((nI j_8)).toInt64)) (f_277_0_0 : ¬ hasB (nI ii1) (nI ii2)) (e_280 : v_280 = w_233 (8 + ii2)) (hu_281 : g_281 = upd w_233 (8 + ii2) v_280) : (m38 g_281 = drS (m38 fs) ii1 (ii2 + 1)) := by
  have hw6 := hM.2.2.2.1
  have h64 := hs6 hw6
  first
  | exact absurd f_267_1_0 f_262_0_0
  | exact absurd f_262_1_0 f_277_0_0
  | exact cm_d1 (by omega) (by omega) f_262_0_0 haii2_1 e_270 hu_271
  | exact cm_d2 (by omega) (by omega) f_262_1_0 haii2_1 hu_283
theorem lf_X8_calm_11 {mt : Int32} {ma : Nat} {fs : Nat → Int32} {w9 : Nat} {k9 : Nat} {h9 : Nat} {a3 : Int32} {j_1 : Nat} {j_5 : Nat} {j_8 : Nat} {sh : Nat} {fan_14 : Nat → Int32} {w_112 : Int64} {w_113 : Nat → Int32} {ii1 : Nat} {w_232 : Int64} {w_233 : Nat → Int32} {ii2 : Nat} {v_275 : Int64} {g_283 : Nat → Int32} (hM : okM fs w9 k9 h9) (hT : ¬ mt = 0 → 1 ≤ k9) (h999 : h9 ≤ 999) (hT0 : mt = 0 → fs 0 = 0 ∧ ma = 0) (hj_1 : j_1 < k9) (hkn1 : 1 ≤ k9) (hw1 : 1 ≤ w9) (h01 : ¬ fs 0 = 0) (f_5_1_0 : (¬ (((nI j_5)).toInt64 < 0 ∨ 60 < ((nI j_5)).toInt64))) (q_5 : ¬ ((nI j_5) < 0 ∨ 60 < (nI j_5))) (hj_5 : j_5 ≤ 60) (f_8_1_0 : (¬ (((nI j_8)).toInt64 < 0 ∨ 10 < ((nI j_8)).toInt64))) (q_8 : ¬ ((nI j_8) < 0 ∨ 10 < (nI j_8))) (hj_8 : j_8 ≤ 10) (f_11_1_0 : (¬ (a3 < 0 ∨ 1 < a3))) (hsh : (1 : Int32) <<< (nI w9 &&& 31) = nI sh) (hs6 : (w9 ≤ 6 → sh ≤ 64)) (hF_14_0 : (∀ j : Nat, j < 38 → fan_14 j = fs j)) (hii1 : ii1 < sh) (haii1_0 : (w_112 = lN (abN (m38 fs) j_1 j_5 j_8 w9 ii1))) (haii1_1 : (m38 w_113 = m38 fs)) (hii2 : ii2 < w9) (haii2_0 : (w_232 = lN (csN ii1 j_8 ii2))) (haii2_1 : (m38 w_233 = drS (m38 fs) ii1 ii2)) (hMl : okM w_233 w9 k9 h9) (f_262_1_0 : hasB (nI ii1) (nI ii2)) (e_275 : v_275 = (w_232 * ((nI j_8)).toInt64)) (f_277_1_0 : hasB (nI ii1) (nI ii2)) (hu_283 : g_283 = upd w_233 (8 + ii2) 2) : (v_275 = lN (csN ii1 j_8 (ii2 + 1))) := by
  have hw6 := hM.2.2.2.1
  have h64 := hs6 hw6
  first
  | exact cm_c1 (by omega) (by omega) hj_8 f_262_0_0 haii2_0 e_264 e_265
  | exact cm_c2 (by omega) (by omega) hj_8 f_262_1_0 haii2_0 e_275
theorem lf_X8_calm_12 {mt : Int32} {ma : Nat} {fs : Nat → Int32} {w9 : Nat} {k9 : Nat} {h9 : Nat} {a3 : Int32} {j_1 : Nat} {j_5 : Nat} {j_8 : Nat} {sh : Nat} {fan_14 : Nat → Int32} {w_112 : Int64} {w_113 : Nat → Int32} {ii1 : Nat} {w_232 : Int64} {w_233 : Nat → Int32} {ii2 : Nat} {v_275 : Int64} {g_283 : Nat → Int32} (hM : okM fs w9 k9 h9) (hT : ¬ mt = 0 → 1 ≤ k9) (h999 : h9 ≤ 999) (hT0 : mt = 0 → fs 0 = 0 ∧ ma = 0) (hj_1 : j_1 < k9) (hkn1 : 1 ≤ k9) (hw1 : 1 ≤ w9) (h01 : ¬ fs 0 = 0) (f_5_1_0 : (¬ (((nI j_5)).toInt64 < 0 ∨ 60 < ((nI j_5)).toInt64))) (q_5 : ¬ ((nI j_5) < 0 ∨ 60 < (nI j_5))) (hj_5 : j_5 ≤ 60) (f_8_1_0 : (¬ (((nI j_8)).toInt64 < 0 ∨ 10 < ((nI j_8)).toInt64))) (q_8 : ¬ ((nI j_8) < 0 ∨ 10 < (nI j_8))) (hj_8 : j_8 ≤ 10) (f_11_1_0 : (¬ (a3 < 0 ∨ 1 < a3))) (hsh : (1 : Int32) <<< (nI w9 &&& 31) = nI sh) (hs6 : (w9 ≤ 6 → sh ≤ 64)) (hF_14_0 : (∀ j : Nat, j < 38 → fan_14 j = fs j)) (hii1 : ii1 < sh) (haii1_0 : (w_112 = lN (abN (m38 fs) j_1 j_5 j_8 w9 ii1))) (haii1_1 : (m38 w_113 = m38 fs)) (hii2 : ii2 < w9) (haii2_0 : (w_232 = lN (csN ii1 j_8 ii2))) (haii2_1 : (m38 w_233 = drS (m38 fs) ii1 ii2)) (hMl : okM w_233 w9 k9 h9) (f_262_1_0 : hasB (nI ii1) (nI ii2)) (e_275 : v_275 = (w_232 * ((nI j_8)).toInt64)) (f_277_1_0 : hasB (nI ii1) (nI ii2)) (hu_283 : g_283 = upd w_233 (8 + ii2) 2) : (m38 g_283 = drS (m38 fs) ii1 (ii2 + 1)) := by
  have hw6 := hM.2.2.2.1
  have h64 := hs6 hw6
  first
  | exact absurd f_267_1_0 f_262_0_0
  | exact absurd f_262_1_0 f_277_0_0
  | exact cm_d1 (by omega) (by omega) f_262_0_0 haii2_1 e_270 hu_271
  | exact cm_d2 (by omega) (by omega) f_262_1_0 haii2_1 hu_283
theorem lf_X8_calm_13 {mt : Int32} {ma : Nat} {fs : Nat → Int32} {w9 : Nat} {k9 : Nat} {h9 : Nat} {a3 : Int32} {j_1 : Nat} {j_5 : Nat} {j_8 : Nat} {sh : Nat} {fan_14 : Nat → Int32} {w_112 : Int64} {w_113 : Nat → Int32} {ii1 : Nat} {w_232 : Int64} {w_233 : Nat → Int32} {fsn_286 : Nat → Int32} {v_288 : Int32} {v_290 : Int64} {fsn_291 : Nat → Int32} (hM : okM fs w9 k9 h9) (hT : ¬ mt = 0 → 1 ≤ k9) (h999 : h9 ≤ 999) (hT0 : mt = 0 → fs 0 = 0 ∧ ma = 0) (hj_1 : j_1 < k9) (hkn1 : 1 ≤ k9) (hw1 : 1 ≤ w9) (h01 : ¬ fs 0 = 0) (f_5_1_0 : (¬ (((nI j_5)).toInt64 < 0 ∨ 60 < ((nI j_5)).toInt64))) (q_5 : ¬ ((nI j_5) < 0 ∨ 60 < (nI j_5))) (hj_5 : j_5 ≤ 60) (f_8_1_0 : (¬ (((nI j_8)).toInt64 < 0 ∨ 10 < ((nI j_8)).toInt64))) (q_8 : ¬ ((nI j_8) < 0 ∨ 10 < (nI j_8))) (hj_8 : j_8 ≤ 10) (f_11_1_0 : (¬ (a3 < 0 ∨ 1 < a3))) (hsh : (1 : Int32) <<< (nI w9 &&& 31) = nI sh) (hs6 : (w9 ≤ 6 → sh ≤ 64)) (hF_14_0 : (∀ j : Nat, j < 38 → fan_14 j = fs j)) (hii1 : ii1 < sh) (haii1_0 : (w_112 = lN (abN (m38 fs) j_1 j_5 j_8 w9 ii1))) (haii1_1 : (m38 w_113 = m38 fs)) (haii2_0 : (w_232 = lN (csN ii1 j_8 w9))) (haii2_1 : (m38 w_233 = drS (m38 fs) ii1 w9)) (hMl : okM w_233 w9 k9 h9) (hF_286_0 : okM fsn_286 w9 k9 (h9 + j_5)) (hF_286_1 : fsn_286 = mGo j_5 w_233) (e_288 : v_288 = fsn_286 (26 + j_1)) (c_289 : ¬ (v_288 = 1)) (e_290 : v_290 = (w_112 + 0)) (hF_291_0 : (∀ j : Nat, j < 38 → fsn_291 j = fan_14 j)) : (v_290 = lN (abN (m38 fs) j_1 j_5 j_8 w9 (ii1 + 1))) := by
  have hw6 := hM.2.2.2.1
  have h64 := hs6 hw6
  first
  | exact cm_a0 (cm_gr hMl hw1 hj_1 haii2_1 hF_286_1 e_288) c_289 haii1_0 e_290
  | exact cm_a1 (cm_gr hMl hw1 hj_1 haii2_1 hF_286_1 e_288) c_289 haii1_0 haii2_0 e_292
theorem lf_X8_calm_14 {mt : Int32} {ma : Nat} {fs : Nat → Int32} {w9 : Nat} {k9 : Nat} {h9 : Nat} {a3 : Int32} {j_1 : Nat} {j_5 : Nat} {j_8 : Nat} {sh : Nat} {fan_14 : Nat → Int32} {w_112 : Int64} {w_113 : Nat → Int32} {ii1 : Nat} {w_232 : Int64} {w_233 : Nat → Int32} {fsn_286 : Nat → Int32} {v_288 : Int32} {v_292 : Int64} {fsn_293 : Nat → Int32} (hM : okM fs w9 k9 h9) (hT : ¬ mt = 0 → 1 ≤ k9) (h999 : h9 ≤ 999) (hT0 : mt = 0 → fs 0 = 0 ∧ ma = 0) (hj_1 : j_1 < k9) (hkn1 : 1 ≤ k9) (hw1 : 1 ≤ w9) (h01 : ¬ fs 0 = 0) (f_5_1_0 : (¬ (((nI j_5)).toInt64 < 0 ∨ 60 < ((nI j_5)).toInt64))) (q_5 : ¬ ((nI j_5) < 0 ∨ 60 < (nI j_5))) (hj_5 : j_5 ≤ 60) (f_8_1_0 : (¬ (((nI j_8)).toInt64 < 0 ∨ 10 < ((nI j_8)).toInt64))) (q_8 : ¬ ((nI j_8) < 0 ∨ 10 < (nI j_8))) (hj_8 : j_8 ≤ 10) (f_11_1_0 : (¬ (a3 < 0 ∨ 1 < a3))) (hsh : (1 : Int32) <<< (nI w9 &&& 31) = nI sh) (hs6 : (w9 ≤ 6 → sh ≤ 64)) (hF_14_0 : (∀ j : Nat, j < 38 → fan_14 j = fs j)) (hii1 : ii1 < sh) (haii1_0 : (w_112 = lN (abN (m38 fs) j_1 j_5 j_8 w9 ii1))) (haii1_1 : (m38 w_113 = m38 fs)) (haii2_0 : (w_232 = lN (csN ii1 j_8 w9))) (haii2_1 : (m38 w_233 = drS (m38 fs) ii1 w9)) (hMl : okM w_233 w9 k9 h9) (hF_286_0 : okM fsn_286 w9 k9 (h9 + j_5)) (hF_286_1 : fsn_286 = mGo j_5 w_233) (e_288 : v_288 = fsn_286 (26 + j_1)) (c_289 : v_288 = 1) (e_292 : v_292 = (w_112 + w_232)) (hF_293_0 : (∀ j : Nat, j < 38 → fsn_293 j = fan_14 j)) : (v_292 = lN (abN (m38 fs) j_1 j_5 j_8 w9 (ii1 + 1))) := by
  have hw6 := hM.2.2.2.1
  have h64 := hs6 hw6
  first
  | exact cm_a0 (cm_gr hMl hw1 hj_1 haii2_1 hF_286_1 e_288) c_289 haii1_0 e_290
  | exact cm_a1 (cm_gr hMl hw1 hj_1 haii2_1 hF_286_1 e_288) c_289 haii1_0 haii2_0 e_292
theorem lf_X8_calm_15 {mt : Int32} {ma : Nat} {fs : Nat → Int32} {w9 : Nat} {k9 : Nat} {h9 : Nat} {a3 : Int32} {j_1 : Nat} {j_5 : Nat} {j_8 : Nat} {sh : Nat} {fan_14 : Nat → Int32} {w_112 : Int64} {w_113 : Nat → Int32} (hM : okM fs w9 k9 h9) (hT : ¬ mt = 0 → 1 ≤ k9) (h999 : h9 ≤ 999) (hT0 : mt = 0 → fs 0 = 0 ∧ ma = 0) (hj_1 : j_1 < k9) (hkn1 : 1 ≤ k9) (hw1 : 1 ≤ w9) (h01 : ¬ fs 0 = 0) (f_5_1_0 : (¬ (((nI j_5)).toInt64 < 0 ∨ 60 < ((nI j_5)).toInt64))) (q_5 : ¬ ((nI j_5) < 0 ∨ 60 < (nI j_5))) (hj_5 : j_5 ≤ 60) (f_8_1_0 : (¬ (((nI j_8)).toInt64 < 0 ∨ 10 < ((nI j_8)).toInt64))) (q_8 : ¬ ((nI j_8) < 0 ∨ 10 < (nI j_8))) (hj_8 : j_8 ≤ 10) (f_11_1_0 : (¬ (a3 < 0 ∨ 1 < a3))) (hsh : (1 : Int32) <<< (nI w9 &&& 31) = nI sh) (hs6 : (w9 ≤ 6 → sh ≤ 64)) (hF_14_0 : (∀ j : Nat, j < 38 → fan_14 j = fs j)) (haii1_0 : (w_112 = lN (abN (m38 fs) j_1 j_5 j_8 w9 sh))) (haii1_1 : (m38 w_113 = m38 fs)) (hMl : okM w_113 w9 k9 h9) : (∃ X Y : Nat, X < 2 ^ 31 ∧ Y < 2 ^ 31 ∧ w_112 = lN X ∧ (lN (10 ^ w9)) = lN Y ∧ Nat.gcd X Y = Nat.gcd (abN (m38 fs) j_1 j_5 j_8 w9 sh) (10 ^ w9)) := by
  have hw6 := hM.2.2.2.1
  have h64 := hs6 hw6
  exact cm_i hj_8 hw6 hsh h64 haii1_0
theorem lf_X8_calm_16 {mt : Int32} {ma : Nat} {fs : Nat → Int32} {w9 : Nat} {k9 : Nat} {h9 : Nat} {a3 : Int32} {j_1 : Nat} {j_5 : Nat} {j_8 : Nat} {sh : Nat} {fan_14 : Nat → Int32} {w_112 : Int64} {w_113 : Nat → Int32} {w_302 : Int64} {w_303 : Int64} {v_313 : Int64} (hM : okM fs w9 k9 h9) (hT : ¬ mt = 0 → 1 ≤ k9) (h999 : h9 ≤ 999) (hT0 : mt = 0 → fs 0 = 0 ∧ ma = 0) (hj_1 : j_1 < k9) (hkn1 : 1 ≤ k9) (hw1 : 1 ≤ w9) (h01 : ¬ fs 0 = 0) (f_5_1_0 : (¬ (((nI j_5)).toInt64 < 0 ∨ 60 < ((nI j_5)).toInt64))) (q_5 : ¬ ((nI j_5) < 0 ∨ 60 < (nI j_5))) (hj_5 : j_5 ≤ 60) (f_8_1_0 : (¬ (((nI j_8)).toInt64 < 0 ∨ 10 < ((nI j_8)).toInt64))) (q_8 : ¬ ((nI j_8) < 0 ∨ 10 < (nI j_8))) (hj_8 : j_8 ≤ 10) (f_11_1_0 : (¬ (a3 < 0 ∨ 1 < a3))) (hsh : (1 : Int32) <<< (nI w9 &&& 31) = nI sh) (hs6 : (w9 ≤ 6 → sh ≤ 64)) (hF_14_0 : (∀ j : Nat, j < 38 → fan_14 j = fs j)) (haii1_0 : (w_112 = lN (abN (m38 fs) j_1 j_5 j_8 w9 sh))) (haii1_1 : (m38 w_113 = m38 fs)) (hMl : okM w_113 w9 k9 h9) (haf_0 : (¬ (w_302 = 0) ∨ ¬ (w_303 = 0))) (haf_1 : (∃ X Y : Nat, X < 2 ^ 31 ∧ Y < 2 ^ 31 ∧ w_303 = lN X ∧ w_302 = lN Y ∧ Nat.gcd X Y = Nat.gcd (abN (m38 fs) j_1 j_5 j_8 w9 sh) (10 ^ w9))) (c_311 : w_302 = 0) (c_312 : ¬ (a3 = 0)) (e_313 : v_313 = ((lN (10 ^ w9)) / w_303)) : v_313 = (a_clm (m38 fs) (nI j_1) (nI j_5) (nI j_8) a3) := by
  first
  | exact clm_n (Or.inr (Or.inl q_5))
  | exact clm_n (Or.inr (Or.inr (Or.inl q_8)))
  | (have h64 := hs6 hM.2.2.2.1; exact (cm_e (y := 0) hM hj_1 hj_5 hj_8 f_11_1_0 hsh h64 (cm_x haf_1 c_311)).1 c_312 e_313)
theorem lf_X8_calm_17 {mt : Int32} {ma : Nat} {fs : Nat → Int32} {w9 : Nat} {k9 : Nat} {h9 : Nat} {a3 : Int32} {j_1 : Nat} {j_5 : Nat} {j_8 : Nat} {sh : Nat} {fan_14 : Nat → Int32} {w_112 : Int64} {w_113 : Nat → Int32} {w_302 : Int64} {w_303 : Int64} {v_314 : Int64} (hM : okM fs w9 k9 h9) (hT : ¬ mt = 0 → 1 ≤ k9) (h999 : h9 ≤ 999) (hT0 : mt = 0 → fs 0 = 0 ∧ ma = 0) (hj_1 : j_1 < k9) (hkn1 : 1 ≤ k9) (hw1 : 1 ≤ w9) (h01 : ¬ fs 0 = 0) (f_5_1_0 : (¬ (((nI j_5)).toInt64 < 0 ∨ 60 < ((nI j_5)).toInt64))) (q_5 : ¬ ((nI j_5) < 0 ∨ 60 < (nI j_5))) (hj_5 : j_5 ≤ 60) (f_8_1_0 : (¬ (((nI j_8)).toInt64 < 0 ∨ 10 < ((nI j_8)).toInt64))) (q_8 : ¬ ((nI j_8) < 0 ∨ 10 < (nI j_8))) (hj_8 : j_8 ≤ 10) (f_11_1_0 : (¬ (a3 < 0 ∨ 1 < a3))) (hsh : (1 : Int32) <<< (nI w9 &&& 31) = nI sh) (hs6 : (w9 ≤ 6 → sh ≤ 64)) (hF_14_0 : (∀ j : Nat, j < 38 → fan_14 j = fs j)) (haii1_0 : (w_112 = lN (abN (m38 fs) j_1 j_5 j_8 w9 sh))) (haii1_1 : (m38 w_113 = m38 fs)) (hMl : okM w_113 w9 k9 h9) (haf_0 : (¬ (w_302 = 0) ∨ ¬ (w_303 = 0))) (haf_1 : (∃ X Y : Nat, X < 2 ^ 31 ∧ Y < 2 ^ 31 ∧ w_303 = lN X ∧ w_302 = lN Y ∧ Nat.gcd X Y = Nat.gcd (abN (m38 fs) j_1 j_5 j_8 w9 sh) (10 ^ w9))) (c_311 : w_302 = 0) (c_312 : a3 = 0) (e_314 : v_314 = (w_112 / w_303)) : v_314 = (a_clm (m38 fs) (nI j_1) (nI j_5) (nI j_8) a3) := by
  first
  | exact clm_n (Or.inr (Or.inl q_5))
  | exact clm_n (Or.inr (Or.inr (Or.inl q_8)))
  | (have h64 := hs6 hM.2.2.2.1; exact (cm_e hM hj_1 hj_5 hj_8 f_11_1_0 hsh h64 (cm_x haf_1 c_311)).2 c_312 haii1_0 e_314)
theorem lf_X8_calm_18 {mt : Int32} {ma : Nat} {fs : Nat → Int32} {w9 : Nat} {k9 : Nat} {h9 : Nat} {a3 : Int32} {j_1 : Nat} {j_5 : Nat} {j_8 : Nat} {sh : Nat} {fan_14 : Nat → Int32} {w_112 : Int64} {w_113 : Nat → Int32} {w_302 : Int64} {w_303 : Int64} {v_315 : Int64} (hM : okM fs w9 k9 h9) (hT : ¬ mt = 0 → 1 ≤ k9) (h999 : h9 ≤ 999) (hT0 : mt = 0 → fs 0 = 0 ∧ ma = 0) (hj_1 : j_1 < k9) (hkn1 : 1 ≤ k9) (hw1 : 1 ≤ w9) (h01 : ¬ fs 0 = 0) (f_5_1_0 : (¬ (((nI j_5)).toInt64 < 0 ∨ 60 < ((nI j_5)).toInt64))) (q_5 : ¬ ((nI j_5) < 0 ∨ 60 < (nI j_5))) (hj_5 : j_5 ≤ 60) (f_8_1_0 : (¬ (((nI j_8)).toInt64 < 0 ∨ 10 < ((nI j_8)).toInt64))) (q_8 : ¬ ((nI j_8) < 0 ∨ 10 < (nI j_8))) (hj_8 : j_8 ≤ 10) (f_11_1_0 : (¬ (a3 < 0 ∨ 1 < a3))) (hsh : (1 : Int32) <<< (nI w9 &&& 31) = nI sh) (hs6 : (w9 ≤ 6 → sh ≤ 64)) (hF_14_0 : (∀ j : Nat, j < 38 → fan_14 j = fs j)) (haii1_0 : (w_112 = lN (abN (m38 fs) j_1 j_5 j_8 w9 sh))) (haii1_1 : (m38 w_113 = m38 fs)) (hMl : okM w_113 w9 k9 h9) (haf_0 : (¬ (w_302 = 0) ∨ ¬ (w_303 = 0))) (haf_1 : (∃ X Y : Nat, X < 2 ^ 31 ∧ Y < 2 ^ 31 ∧ w_303 = lN X ∧ w_302 = lN Y ∧ Nat.gcd X Y = Nat.gcd (abN (m38 fs) j_1 j_5 j_8 w9 sh) (10 ^ w9))) (c_311 : ¬ (w_302 = 0)) (e_315 : v_315 = (w_303 - w_303 / w_302 * w_302)) : (∃ X Y : Nat, X < 2 ^ 31 ∧ Y < 2 ^ 31 ∧ w_302 = lN X ∧ v_315 = lN Y ∧ Nat.gcd X Y = Nat.gcd (abN (m38 fs) j_1 j_5 j_8 w9 sh) (10 ^ w9)) := by
  exact cm_st haf_1 c_311 e_315
set_option maxHeartbeats 4000000 in
set_option maxRecDepth 100000 in
theorem r_X8_calm (l : Launch) (dC : Nat → ClassId) (dI : Nat → Nat → Nat) (cI cZ cL cJ : ClassId) (sz : Nat) (mo : Nat) (m_la : Nat) (m_sz : Nat) (m_it : Nat) (m_st : Nat) (m_mv : Nat) (m_tp : Nat) (m_rd : Nat) (m_ac : Nat) (m_as : Nat) (m_wo : Nat) (m_ik : Nat) (m_ke : Nat) (m_tr : Nat) (ms : Int32) (mt : Int32) (ml : Int32) (mk : Int32) (mv : Int32) (mb : Int32) (mw : Int32) (mz : Nat) (mp : Nat) (ma : Nat) (mx : Nat) (fs : Nat → Int32) (w9 : Nat) (k9 : Nat) (h9 : Nat) (fa : Nat → Int32) (a0 : Int32) (a1 : Int32) (a2 : Int32) (a3 : Int32) (hM : okM fs w9 k9 h9) (hT : ¬ mt = 0 → 1 ≤ k9) (h999 : h9 ≤ 999) (hT0 : mt = 0 → fs 0 = 0 ∧ ma = 0) : Met l yX8_calm wsX8_calm ({ frames := 5, cells := 0, slots := 0, locals := 117 }) (va_Pc [.ref mo, .int a0, .int a1, .int a2, .int a3] (fun U => U.heap.size = sz ∧ va_P (dC, dI) vwCl [(xo_8_rrriirrriiiiiiirrirrrrri mo m_la m_sz m_it ms mt m_st m_mv m_tp (nI mz) ml (nI mp) mk mv mb mw m_rd m_ac (nI ma) m_as m_wo m_ik m_ke m_tr (nI mx)), (xI m_st cI 38 fs), (xI m_as cI 38 fa)] U.heap ∧ va_K (dC, dI) vwCl [(cI, .int), (cZ, .boolean), (cL, .object RX3), (cJ, .array .int)] U ∧ va_D (fun _ => True) [(xo_8_rrriirrriiiiiiirrirrrrri mo m_la m_sz m_it ms mt m_st m_mv m_tp (nI mz) ml (nI mp) mk mv mb mw m_rd m_ac (nI ma) m_as m_wo m_ik m_ke m_tr (nI mx)), (xI m_st cI 38 fs), (xI m_as cI 38 fa)])) (va_Ql (fun r (_ : Unit) => r = (a_clm (m38 fs) a0 a1 a2 a3)) (fun (_ : Unit) t => ∃ (fsn : Nat → Int32) (fan : Nat → Int32), va_P (dC, dI) vwCl [(xo_8_rrriirrriiiiiiirrirrrrri mo m_la m_sz m_it ms mt m_st m_mv m_tp (nI mz) ml (nI mp) mk mv mb mw m_rd m_ac (nI ma) m_as m_wo m_ik m_ke m_tr (nI mx)), (xI m_st cI 38 fsn), (xI m_as cI 38 fan)] t.heap ∧ va_D (va_A [(xo_8_rrriirrriiiiiiirrirrrrri mo m_la m_sz m_it ms mt m_st m_mv m_tp (nI mz) ml (nI mp) mk mv mb mw m_rd m_ac (nI ma) m_as m_wo m_ik m_ke m_tr (nI mx)), (xI m_st cI 38 fs), (xI m_as cI 38 fa)] sz) [(xo_8_rrriirrriiiiiiirrirrrrri mo m_la m_sz m_it ms mt m_st m_mv m_tp (nI mz) ml (nI mp) mk mv mb mw m_rd m_ac (nI ma) m_as m_wo m_ik m_ke m_tr (nI mx)), (xI m_st cI 38 fsn), (xI m_as cI 38 fan)] ∧ okM fsn w9 k9 h9 ∧ m38 fsn = m38 fs) (va_A [(xo_8_rrriirrriiiiiiirrirrrrri mo m_la m_sz m_it ms mt m_st m_mv m_tp (nI mz) ml (nI mp) mk mv mb mw m_rd m_ac (nI ma) m_as m_wo m_ik m_ke m_tr (nI mx)), (xI m_st cI 38 fs), (xI m_as cI 38 fa)] sz)) 0 0 (va_A [(xo_8_rrriirrriiiiiiirrirrrrri mo m_la m_sz m_it ms mt m_st m_mv m_tp (nI mz) ml (nI mp) mk mv mb mw m_rd m_ac (nI ma) m_as m_wo m_ik m_ke m_tr (nI mx)), (xI m_st cI 38 fs), (xI m_as cI 38 fa)] sz) := by
  refine Met.ofW (cc := cX8_calm) (maxL := 15) (ret := (some .long)) (by decide) rfl ?_
  intro p e s m args below meth c s₁ B hml hv
  obtain ⟨rfl, hsz, hP, hK, hD0⟩ := hv
  have hx := B.exec
  have hb := B.bytes
  have hr := B.returns
  have hts := atoms_spec (ws := wsX8_calm) B.pre
  have hown : s.vm.findClass RX8 = some m.cls := findClass_of_methodNamed B.named
  have hlocks := B.notSynchronized
  subst hsz
  have hD := hD0.self (sz := s.heap.size)
  generalize hAe : va_A [(xo_8_rrriirrriiiiiiirrirrrrri mo m_la m_sz m_it ms mt m_st m_mv m_tp (nI mz) ml (nI mp) mk mv mb mw m_rd m_ac (nI ma) m_as m_wo m_ik m_ke m_tr (nI mx)), (xI m_st cI 38 fs), (xI m_as cI 38 fa)] s.heap.size = A at hD ⊢
  have hA : ∀ q : Nat, s.heap.size ≤ q → A q := fun q h => by rw [← hAe]; exact Or.inr h
  have hS : va_S A s.heap s.heap [] := va_S.rf
  have hP : va_P (dC, dI) vwCl [(xo_8_rrriirrriiiiiiirrirrrrri mo m_la m_sz m_it ms mt m_st m_mv m_tp (nI mz) ml (nI mp) mk mv mb mw m_rd m_ac (nI ma) m_as m_wo m_ik m_ke m_tr (nI mx)), (xI m_st cI 38 fs), (xI m_as cI 38 fa)] s.heap := hP
  have hl := lv_entry ([.ref mo, .int a0, .int a1, .int a2, .int a3]) (n := 15) (Nat.le_of_ble_eq_true rfl)
  rw [lg_entry_eq]
  generalize (lg_sl ([.ref mo, .int a0, .int a1, .int a2, .int a3]) ++ List.replicate (15 - (lg_sl ([.ref mo, .int a0, .int a1, .int a2, .int a3])).length) Slot.unset).toArray = ls at hl ⊢
  have hl : lv_has ls 15 [(0, .ref mo), (1, .int a0), (2, .int a1), (3, .int a2), (4, .int a3)] := hl
  have hk6 := hM.2.2.2.2.1
  have hw6 := hM.2.2.2.1
  refine lv_aload_n hx hb dX8_calm_0 rfl (lv_at hl 0 rfl) ?_
  refine lv_iload_n hx hb dX8_calm_1 rfl (lv_at hl 1 rfl) ?_
  have hPc_1 := hP.sub (ws' := [(xo_8_rrriirrriiiiiiirrirrrrri mo m_la m_sz m_it ms mt m_st m_mv m_tp (nI mz) ml (nI mp) mk mv mb mw m_rd m_ac (nI ma) m_as m_wo m_ik m_ke m_tr (nI mx)), (xI m_st cI 38 fs)]) [0, 1] rfl
  refine vp_callSi (W.runV (As := [.int a0]) (rest := []) ⟨hx, hb, hml, hown, hts⟩ (r_X8_isSound l dC dI cI cZ cL cJ mo m_la m_sz m_it m_st m_mv m_tp m_rd m_ac m_as m_wo m_ik m_ke m_tr ms mt ml mk mv mb mw mz mp ma mx fs w9 k9 h9 a0 (hM)) (cwV 1 hts gX8_calm_X8_isSound rfl rfl rfl (by decide +kernel) ⟨Nat.le_of_ble_eq_true rfl, Nat.le_of_ble_eq_true rfl⟩) (pvP 8 0 hK hP rfl rfl hPc_1) rfl rfl hl.1 rfl (lv_room (Nat.le_of_ble_eq_true rfl)) dX8_calm_2 ⟨Nat.le_of_ble_eq_true rfl, Nat.le_of_ble_eq_true rfl⟩) (fun r_1 h_1 => ?_)
  rcases h_1 with ⟨h_1, f_1_0_0⟩ | ⟨h_1, f_1_1_0⟩
  · subst h_1
    refine lv_if_eq (tgt := 40) hx hb dX8_calm_5 (by decide) (fun _ => ?_) (fun c_ => absurd (by decide) c_)
    refine lv_ldc2 (own := RX8) (v := (-1000001)) hx hb hown (hts _ mx_X8_calm_3) dX8_calm_40 ?_
    have hX9 := cut2 (wc := [(xo_8_rrriirrriiiiiiirrirrrrri mo m_la m_sz m_it ms mt m_st m_mv m_tp (nI mz) ml (nI mp) mk mv mb mw m_rd m_ac (nI ma) m_as m_wo m_ik m_ke m_tr (nI mx)), (xI m_st cI 38 fs), (xI m_as cI 38 fa)]) hP hD [0, 1, 2] (by decide +kernel) rfl
    exact W.lret (v := (-1000001)) hx hb hr (fun t ht hW => ⟨⟨(-1000001), (), rfl, (lf_X8_calm_1 hM hT h999 hT0 f_1_0_0), ⟨fs, fa, va_Ht ht hX9.1, hX9.2, hM, rfl⟩⟩, hS.F ht⟩) hS.2.2 dX8_calm_43
  · subst h_1
    obtain ⟨j_1, hj_1, rfl⟩ := vp_in_of f_1_1_0 (by omega)
    have hkn1 : 1 ≤ k9 := by omega
    have hw1 := hM.2.2.2.2.2.1.mp hkn1
    have h01 : ¬ fs 0 = 0 := cell_nz hM hkn1
    refine lv_if_eq (tgt := 40) hx hb dX8_calm_5 (by decide) (fun c_ => absurd c_ (by decide)) (fun _ => ?_)
    refine lv_iload_n hx hb dX8_calm_8 rfl (lv_at hl 2 rfl) ?_
    refine lv_i2l hx hb dX8_calm_9 rfl ?_
    refine lv_lconst (v := 0) hx hb dX8_calm_10 (by decide) ?_
    refine lv_ldc2 (own := RX8) (v := 60) hx hb hown (hts _ mx_X8_calm_1) dX8_calm_11 ?_
    have hPc_5 := hP.sub (ws' := []) [] rfl
    refine vp_callSi (W.runS (As := [.long (a1).toInt64, .long 0, .long 60]) (rest := []) ⟨hx, hb, hml, hown, hts⟩ (r_X8_in l dC dI cI cZ cL cJ ((a1).toInt64) 0 60 ) (va_cwS 3 hts gX8_calm_X8_in rfl rfl rfl (by decide +kernel) ⟨Nat.le_of_ble_eq_true rfl, Nat.le_of_ble_eq_true rfl⟩) (psP hK hPc_5) rfl rfl hl.1 rfl (lv_room (Nat.le_of_ble_eq_true rfl)) dX8_calm_14 ⟨Nat.le_of_ble_eq_true rfl, Nat.le_of_ble_eq_true rfl⟩) (fun r_5 h_5 => ?_)
    rcases h_5 with ⟨h_5, f_5_0_0⟩ | ⟨h_5, f_5_1_0⟩
    · subst h_5
      have q_5 : (a1 < 0 ∨ 60 < a1) := (in32 (x := a1) (l := 0) (u := 60) (by decide) (by decide)).mp f_5_0_0
      refine lv_if_eq (tgt := 40) hx hb dX8_calm_17 (by decide) (fun _ => ?_) (fun c_ => absurd (by decide) c_)
      refine lv_ldc2 (own := RX8) (v := (-1000001)) hx hb hown (hts _ mx_X8_calm_3) dX8_calm_40 ?_
      have hX9 := cut2 (wc := [(xo_8_rrriirrriiiiiiirrirrrrri mo m_la m_sz m_it ms mt m_st m_mv m_tp (nI mz) ml (nI mp) mk mv mb mw m_rd m_ac (nI ma) m_as m_wo m_ik m_ke m_tr (nI mx)), (xI m_st cI 38 fs), (xI m_as cI 38 fa)]) hP hD [0, 1, 2] (by decide +kernel) rfl
      exact W.lret (v := (-1000001)) hx hb hr (fun t ht hW => ⟨⟨(-1000001), (), rfl, (lf_X8_calm_2 hM hT h999 hT0 hj_1 hkn1 hw1 h01 f_5_0_0 q_5), ⟨fs, fa, va_Ht ht hX9.1, hX9.2, hM, rfl⟩⟩, hS.F ht⟩) hS.2.2 dX8_calm_43
    · subst h_5
      have q_5 : ¬ (a1 < 0 ∨ 60 < a1) := fun q_ => f_5_1_0 ((in32 (x := a1) (l := 0) (u := 60) (by decide) (by decide)).mpr q_)
      obtain ⟨j_5, hj_5, hl_5, rfl⟩ := in64 (lo := 0) (n := 60) rfl rfl (by decide) f_5_1_0
      refine lv_if_eq (tgt := 40) hx hb dX8_calm_17 (by decide) (fun c_ => absurd c_ (by decide)) (fun _ => ?_)
      refine lv_iload_n hx hb dX8_calm_20 rfl (lv_at hl 3 rfl) ?_
      refine lv_i2l hx hb dX8_calm_21 rfl ?_
      refine lv_lconst (v := 0) hx hb dX8_calm_22 (by decide) ?_
      refine lv_ldc2 (own := RX8) (v := 10) hx hb hown (hts _ mx_X8_calm_2) dX8_calm_23 ?_
      have hPc_8 := hP.sub (ws' := []) [] rfl
      refine vp_callSi (W.runS (As := [.long (a2).toInt64, .long 0, .long 10]) (rest := []) ⟨hx, hb, hml, hown, hts⟩ (r_X8_in l dC dI cI cZ cL cJ ((a2).toInt64) 0 10 ) (va_cwS 3 hts gX8_calm_X8_in rfl rfl rfl (by decide +kernel) ⟨Nat.le_of_ble_eq_true rfl, Nat.le_of_ble_eq_true rfl⟩) (psP hK hPc_8) rfl rfl hl.1 rfl (lv_room (Nat.le_of_ble_eq_true rfl)) dX8_calm_26 ⟨Nat.le_of_ble_eq_true rfl, Nat.le_of_ble_eq_true rfl⟩) (fun r_8 h_8 => ?_)
      rcases h_8 with ⟨h_8, f_8_0_0⟩ | ⟨h_8, f_8_1_0⟩
      · subst h_8
        have q_8 : (a2 < 0 ∨ 10 < a2) := (in32 (x := a2) (l := 0) (u := 10) (by decide) (by decide)).mp f_8_0_0
        refine lv_if_eq (tgt := 40) hx hb dX8_calm_29 (by decide) (fun _ => ?_) (fun c_ => absurd (by decide) c_)
        refine lv_ldc2 (own := RX8) (v := (-1000001)) hx hb hown (hts _ mx_X8_calm_3) dX8_calm_40 ?_
        have hX9 := cut2 (wc := [(xo_8_rrriirrriiiiiiirrirrrrri mo m_la m_sz m_it ms mt m_st m_mv m_tp (nI mz) ml (nI mp) mk mv mb mw m_rd m_ac (nI ma) m_as m_wo m_ik m_ke m_tr (nI mx)), (xI m_st cI 38 fs), (xI m_as cI 38 fa)]) hP hD [0, 1, 2] (by decide +kernel) rfl
        exact W.lret (v := (-1000001)) hx hb hr (fun t ht hW => ⟨⟨(-1000001), (), rfl, (lf_X8_calm_3 hM hT h999 hT0 hj_1 hkn1 hw1 h01 f_5_1_0 q_5 hj_5 f_8_0_0 q_8), ⟨fs, fa, va_Ht ht hX9.1, hX9.2, hM, rfl⟩⟩, hS.F ht⟩) hS.2.2 dX8_calm_43
      · subst h_8
        have q_8 : ¬ (a2 < 0 ∨ 10 < a2) := fun q_ => f_8_1_0 ((in32 (x := a2) (l := 0) (u := 10) (by decide) (by decide)).mpr q_)
        obtain ⟨j_8, hj_8, hl_8, rfl⟩ := in64 (lo := 0) (n := 10) rfl rfl (by decide) f_8_1_0
        refine lv_if_eq (tgt := 40) hx hb dX8_calm_29 (by decide) (fun c_ => absurd c_ (by decide)) (fun _ => ?_)
        refine lv_iload hx hb dX8_calm_32 (lv_at hl 4 rfl) ?_
        have hPc_11 := hP.sub (ws' := []) [] rfl
        refine vp_callSi (W.runS (As := [.int a3]) (rest := []) ⟨hx, hb, hml, hown, hts⟩ (r_X8_isWhat l dC dI cI cZ cL cJ a3 ) (va_cwS 1 hts gX8_calm_X8_isWhat rfl rfl rfl (by decide +kernel) ⟨Nat.le_of_ble_eq_true rfl, Nat.le_of_ble_eq_true rfl⟩) (psP hK hPc_11) rfl rfl hl.1 rfl (lv_room (Nat.le_of_ble_eq_true rfl)) dX8_calm_34 ⟨Nat.le_of_ble_eq_true rfl, Nat.le_of_ble_eq_true rfl⟩) (fun r_11 h_11 => ?_)
        rcases h_11 with ⟨h_11, f_11_0_0⟩ | ⟨h_11, f_11_1_0⟩
        · subst h_11
          refine lv_if_ne (tgt := 44) hx hb dX8_calm_37 (by decide) (fun c_ => absurd (by decide) c_) (fun _ => ?_)
          refine lv_ldc2 (own := RX8) (v := (-1000001)) hx hb hown (hts _ mx_X8_calm_3) dX8_calm_40 ?_
          have hX9 := cut2 (wc := [(xo_8_rrriirrriiiiiiirrirrrrri mo m_la m_sz m_it ms mt m_st m_mv m_tp (nI mz) ml (nI mp) mk mv mb mw m_rd m_ac (nI ma) m_as m_wo m_ik m_ke m_tr (nI mx)), (xI m_st cI 38 fs), (xI m_as cI 38 fa)]) hP hD [0, 1, 2] (by decide +kernel) rfl
          exact W.lret (v := (-1000001)) hx hb hr (fun t ht hW => ⟨⟨(-1000001), (), rfl, (lf_X8_calm_4 hM hT h999 hT0 hj_1 hkn1 hw1 h01 f_5_1_0 q_5 hj_5 f_8_1_0 q_8 hj_8 f_11_0_0), ⟨fs, fa, va_Ht ht hX9.1, hX9.2, hM, rfl⟩⟩, hS.F ht⟩) hS.2.2 dX8_calm_43
        · subst h_11
          refine lv_if_ne (tgt := 44) hx hb dX8_calm_37 (by decide) (fun _ => ?_) (fun c_ => absurd c_ (by decide))
          obtain ⟨sh, hsh, hsb, hs4, hs5, hs6⟩ := shl8 w9 (by omega)
          refine lv_aload_n hx hb dX8_calm_44 rfl (lv_at hl 0 rfl) ?_
          have hc_14 := cutW (wc := [(xo_8_rrriirrriiiiiiirrirrrrri mo m_la m_sz m_it ms mt m_st m_mv m_tp (nI mz) ml (nI mp) mk mv mb mw m_rd m_ac (nI ma) m_as m_wo m_ik m_ke m_tr (nI mx)), (xI m_st cI 38 fs), (xI m_as cI 38 fa)]) hP hD hS hA [0, 1, 2] (by decide +kernel) rfl
          refine va_callv (va_runV (As := []) (rest := []) ⟨hx, hb, hml, hown, hts⟩ (r_X8_putAside l dC dI cI cZ cL cJ s.heap.size mo m_la m_sz m_it m_st m_mv m_tp m_rd m_ac m_as m_wo m_ik m_ke m_tr ms mt ml mk mv mb mw mz mp ma mx fs fa ) (cwV 0 hts gX8_calm_X8_putAside rfl rfl rfl (by decide +kernel) ⟨Nat.le_of_ble_eq_true rfl, Nat.le_of_ble_eq_true rfl⟩) (pvW 8 0 hK hP rfl rfl hc_14) rfl rfl hl.1 rfl (lv_room (Nat.le_of_ble_eq_true rfl)) dX8_calm_45 ⟨Nat.le_of_ble_eq_true rfl, Nat.le_of_ble_eq_true rfl⟩) hS (fun q _ h => hc_14.2.2 q h) hc_14.2.2 (fun u_14 t_14 H1 locs ht hvm h_14 hB hz1 hk1 hS => ?_)
          refine xl_1_3 hB (fun fan_14 hP1 hD1 hF_14_0 => ?_)
          clear hB
          rw [ht] at hP1
          obtain ⟨hP, hD⟩ := va_join (wr := []) (w1 := [(xo_8_rrriirrriiiiiiirrirrrrri mo m_la m_sz m_it ms mt m_st m_mv m_tp (nI mz) ml (nI mp) mk mv mb mw m_rd m_ac (nI ma) m_as m_wo m_ik m_ke m_tr (nI mx)), (xI m_st cI 38 fs), (xI m_as cI 38 fan_14)]) hP hD [0, 1, 2] [] rfl rfl (by decide +kernel) (by decide +kernel) hk1 hc_14.2.2 hP1 hD1
          generalize H1 = H at hP hS ⊢
          have hP : va_P (dC, dI) vwCl [(xo_8_rrriirrriiiiiiirrirrrrri mo m_la m_sz m_it ms mt m_st m_mv m_tp (nI mz) ml (nI mp) mk mv mb mw m_rd m_ac (nI ma) m_as m_wo m_ik m_ke m_tr (nI mx)), (xI m_st cI 38 fs), (xI m_as cI 38 fan_14)] H := hP
          have hD := dto hP hD
          have hA_14 := okM_eq hM hF_14_0
          refine lv_lconst (v := 0) hx hb dX8_calm_48 (by decide) ?_
          refine lv_lstore (lv' := [(5, .long 0), (0, .ref mo), (1, .int (nI j_1)), (2, .int (nI j_5)), (3, .int (nI j_8)), (4, .int a3)]) hx hb dX8_calm_49 hl (by decide) rfl (fun ls hl => ?_)
          refine lv_lconst (v := 1) hx hb dX8_calm_51 (by decide) ?_
          refine lv_lstore (lv' := [(7, .long 1), (5, .long 0), (0, .ref mo), (1, .int (nI j_1)), (2, .int (nI j_5)), (3, .int (nI j_8)), (4, .int a3)]) hx hb dX8_calm_52 hl (by decide) rfl (fun ls hl => ?_)
          refine lv_iconst (v := 0) hx hb dX8_calm_54 (by decide) ?_
          refine lv_istore (lv' := [(9, .int 0), (7, .long 1), (5, .long 0), (0, .ref mo), (1, .int (nI j_1)), (2, .int (nI j_5)), (3, .int (nI j_8)), (4, .int a3)]) hx hb dX8_calm_55 hl (by decide) rfl (fun ls hl => ?_)
          refine lp_go (σ := Unit) (fun ii (st : Unit) H locs ls => match st with | _ => lv_has ls 15 [(9, .int (nI ii)), (7, .long (lN (10 ^ ii))), (5, .long 0), (0, .ref mo), (1, .int (nI j_1)), (2, .int (nI j_5)), (3, .int (nI j_8)), (4, .int a3)] ∧ va_P (dC, dI) vwCl [(xo_8_rrriirrriiiiiiirrirrrrri mo m_la m_sz m_it ms mt m_st m_mv m_tp (nI mz) ml (nI mp) mk mv mb mw m_rd m_ac (nI ma) m_as m_wo m_ik m_ke m_tr (nI mx)), (xI m_st cI 38 fs), (xI m_as cI 38 fan_14)] H ∧ va_D A [(xo_8_rrriirrriiiiiiirrirrrrri mo m_la m_sz m_it ms mt m_st m_mv m_tp (nI mz) ml (nI mp) mk mv mb mw m_rd m_ac (nI ma) m_as m_wo m_ik m_ke m_tr (nI mx)), (xI m_st cI 38 fs), (xI m_as cI 38 fan_14)] ∧ va_S A s.heap H locs ∧ okM fs w9 k9 h9) w9 ?_ ?_ 0 (by omega) () ⟨lv_sub hl [0, 1, 2, 3, 4, 5, 6, 7] rfl, hP.sub (ws' := [(xo_8_rrriirrriiiiiiirrirrrrri mo m_la m_sz m_it ms mt m_st m_mv m_tp (nI mz) ml (nI mp) mk mv mb mw m_rd m_ac (nI ma) m_as m_wo m_ik m_ke m_tr (nI mx)), (xI m_st cI 38 fs), (xI m_as cI 38 fan_14)]) [0, 1, 2] rfl, hD.sub (ws' := [(xo_8_rrriirrriiiiiiirrirrrrri mo m_la m_sz m_it ms mt m_st m_mv m_tp (nI mz) ml (nI mp) mk mv mb mw m_rd m_ac (nI ma) m_as m_wo m_ik m_ke m_tr (nI mx)), (xI m_st cI 38 fs), (xI m_as cI 38 fan_14)]) [0, 1, 2] (by decide +kernel) rfl, hS, hM⟩
          · rintro ii _ H locs ls hii ⟨hl, hP, hD, hS, hMl⟩ ih
            refine lv_iload hx hb dX8_calm_57 (lv_at hl 0 rfl) ?_
            refine lv_aload_n hx hb dX8_calm_59 rfl (lv_at hl 3 rfl) ?_
            refine va_get (D := (dC, dI)) (ci := 8) (v := .ref m_st) (C := RX8) (T := TX8) (N := 24) hx hb hts i_X8_calm_X8 hown hK hP 0 rfl rfl 5 (by decide) (hts _ mx_X8_calm_4) (fun _ h9 => h9) rfl dX8_calm_60 ?_
            refine lv_iconst (v := 3) hx hb dX8_calm_63 (by decide) ?_
            refine va_iald hx hb hK hP 1 0 rfl rfl (by unfold vp_in; decide) dX8_calm_64 ?_
            refine lv_topi (fun v_18 e_18 => ?_)
            obtain rfl : v_18 = (nI w9) := (e_18).trans hMl.1
            refine lv_icmp_ge (tgt := 82) hx hb dX8_calm_65 (by decide) (fun c_ => absurd c_ (fun q_ => absurd ((nI_leI (a := w9) (b := ii) (by omega) (by omega)).mp q_) (by omega))) (fun _ => ?_)
            refine lv_lload hx hb dX8_calm_68 (lv_at hl 1 rfl) ?_
            refine lv_ldc2 (own := RX8) (v := 10) hx hb hown (hts _ mx_X8_calm_2) dX8_calm_70 ?_
            refine lv_lmul hx hb dX8_calm_73 ?_
            refine lv_topl (fun v_20 e_20 => ?_)
            obtain rfl : v_20 = (lN ((10 ^ ii) * 10)) := (e_20).trans (lN_mul (10 ^ ii) 10)
            refine lv_lstore (lv' := [(7, .long (lN ((10 ^ ii) * 10))), (9, .int (nI ii)), (5, .long 0), (0, .ref mo), (1, .int (nI j_1)), (2, .int (nI j_5)), (3, .int (nI j_8)), (4, .int a3)]) hx hb dX8_calm_74 hl (by decide) rfl (fun ls hl => ?_)
            refine lv_iinc (v := (nI (ii + 1))) (lv' := [(9, .int (nI (ii + 1))), (7, .long (lN ((10 ^ ii) * 10))), (5, .long 0), (0, .ref mo), (1, .int (nI j_1)), (2, .int (nI j_5)), (3, .int (nI j_8)), (4, .int a3)]) hx hb dX8_calm_76 hl (k := 1) rfl (nI_add ii 1) (by decide) rfl (fun ls hl => ?_)
            refine lv_goto (tgt := 57) hx hb dX8_calm_79 (by decide) ?_
            exact ih () _ _ _ ⟨lv_sub hl [0, 1, 2, 3, 4, 5, 6, 7] rfl, hP.sub (ws' := [(xo_8_rrriirrriiiiiiirrirrrrri mo m_la m_sz m_it ms mt m_st m_mv m_tp (nI mz) ml (nI mp) mk mv mb mw m_rd m_ac (nI ma) m_as m_wo m_ik m_ke m_tr (nI mx)), (xI m_st cI 38 fs), (xI m_as cI 38 fan_14)]) [0, 1, 2] rfl, hD.sub (ws' := [(xo_8_rrriirrriiiiiiirrirrrrri mo m_la m_sz m_it ms mt m_st m_mv m_tp (nI mz) ml (nI mp) mk mv mb mw m_rd m_ac (nI ma) m_as m_wo m_ik m_ke m_tr (nI mx)), (xI m_st cI 38 fs), (xI m_as cI 38 fan_14)]) [0, 1, 2] (by decide +kernel) rfl, hS, hMl⟩
          · rintro _ H locs ls ⟨hl, hP, hD, hS, hMl⟩
            refine lv_iload hx hb dX8_calm_57 (lv_at hl 0 rfl) ?_
            refine lv_aload_n hx hb dX8_calm_59 rfl (lv_at hl 3 rfl) ?_
            refine va_get (D := (dC, dI)) (ci := 8) (v := .ref m_st) (C := RX8) (T := TX8) (N := 24) hx hb hts i_X8_calm_X8 hown hK hP 0 rfl rfl 5 (by decide) (hts _ mx_X8_calm_4) (fun _ h9 => h9) rfl dX8_calm_60 ?_
            refine lv_iconst (v := 3) hx hb dX8_calm_63 (by decide) ?_
            refine va_iald hx hb hK hP 1 0 rfl rfl (by unfold vp_in; decide) dX8_calm_64 ?_
            refine lv_topi (fun v_21 e_21 => ?_)
            obtain rfl : v_21 = (nI w9) := (e_21).trans hMl.1
            refine lv_icmp_ge (tgt := 82) hx hb dX8_calm_65 (by decide) (fun _ => ?_) (fun c_ => absurd ((nI_leI (a := w9) (b := w9) (by omega) (by omega)).mpr (by omega)) c_)
            refine lv_iconst (v := 0) hx hb dX8_calm_82 (by decide) ?_
            refine lv_istore (lv' := [(9, .int 0), (7, .long (lN (10 ^ w9))), (5, .long 0), (0, .ref mo), (1, .int (nI j_1)), (2, .int (nI j_5)), (3, .int (nI j_8)), (4, .int a3)]) hx hb dX8_calm_83 hl (by decide) rfl (fun ls hl => ?_)
            refine lp_go (σ := (Int64) × (Nat → Int32)) (fun ii1 (st : (Int64) × (Nat → Int32)) H locs ls => match st with | (w_112, w_113) => lv_has ls 15 [(9, .int (nI ii1)), (7, .long (lN (10 ^ w9))), (5, .long w_112), (0, .ref mo), (1, .int (nI j_1)), (2, .int (nI j_5)), (3, .int (nI j_8)), (4, .int a3)] ∧ va_P (dC, dI) vwCl [(xo_8_rrriirrriiiiiiirrirrrrri mo m_la m_sz m_it ms mt m_st m_mv m_tp (nI mz) ml (nI mp) mk mv mb mw m_rd m_ac (nI ma) m_as m_wo m_ik m_ke m_tr (nI mx)), (xI m_st cI 38 w_113), (xI m_as cI 38 fan_14)] H ∧ va_D A [(xo_8_rrriirrriiiiiiirrirrrrri mo m_la m_sz m_it ms mt m_st m_mv m_tp (nI mz) ml (nI mp) mk mv mb mw m_rd m_ac (nI ma) m_as m_wo m_ik m_ke m_tr (nI mx)), (xI m_st cI 38 w_113), (xI m_as cI 38 fan_14)] ∧ va_S A s.heap H locs ∧ okM w_113 w9 k9 h9 ∧ (w_112 = lN (abN (m38 fs) j_1 j_5 j_8 w9 ii1)) ∧ (m38 w_113 = m38 fs)) sh ?_ ?_ 0 (by omega) (0, fs) ⟨lv_sub hl [0, 1, 2, 3, 4, 5, 6, 7] rfl, hP.sub (ws' := [(xo_8_rrriirrriiiiiiirrirrrrri mo m_la m_sz m_it ms mt m_st m_mv m_tp (nI mz) ml (nI mp) mk mv mb mw m_rd m_ac (nI ma) m_as m_wo m_ik m_ke m_tr (nI mx)), (xI m_st cI 38 fs), (xI m_as cI 38 fan_14)]) [0, 1, 2] rfl, hD.sub (ws' := [(xo_8_rrriirrriiiiiiirrirrrrri mo m_la m_sz m_it ms mt m_st m_mv m_tp (nI mz) ml (nI mp) mk mv mb mw m_rd m_ac (nI ma) m_as m_wo m_ik m_ke m_tr (nI mx)), (xI m_st cI 38 fs), (xI m_as cI 38 fan_14)]) [0, 1, 2] (by decide +kernel) rfl, hS, hMl, rfl, rfl⟩
            · rintro ii1 ⟨w_112, w_113⟩ H locs ls hii1 ⟨hl, hP, hD, hS, hMl, haii1_0, haii1_1⟩ ih
              refine lv_iload hx hb dX8_calm_85 (lv_at hl 0 rfl) ?_
              refine lv_iconst (v := 1) hx hb dX8_calm_87 (by decide) ?_
              refine lv_aload_n hx hb dX8_calm_88 rfl (lv_at hl 3 rfl) ?_
              refine va_get (D := (dC, dI)) (ci := 8) (v := .ref m_as) (C := RX8) (T := TX8) (N := 24) hx hb hts i_X8_calm_X8 hown hK hP 0 rfl rfl 18 (by decide) (hts _ mx_X8_calm_5) (fun _ h9 => h9) rfl dX8_calm_89 ?_
              refine lv_iconst (v := 3) hx hb dX8_calm_92 (by decide) ?_
              refine va_iald hx hb hK hP 2 0 rfl rfl (by unfold vp_in; decide) dX8_calm_93 ?_
              refine lv_topi (fun v_205 e_205 => ?_)
              obtain rfl : v_205 = (nI w9) := (e_205).trans hA_14.1
              refine lv_ishl hx hb dX8_calm_94 ?_
              refine lv_topi (fun v_206 e_206 => ?_)
              obtain rfl : v_206 = (nI sh) := (e_206).trans hsh
              refine lv_icmp_ge (tgt := 219) hx hb dX8_calm_95 (by decide) (fun c_ => absurd c_ (fun q_ => absurd ((nI_leI (a := sh) (b := ii1) (by omega) (by omega)).mp q_) (by omega))) (fun _ => ?_)
              refine lv_lconst (v := 1) hx hb dX8_calm_98 (by decide) ?_
              refine lv_lstore (lv' := [(10, .long 1), (9, .int (nI ii1)), (7, .long (lN (10 ^ w9))), (5, .long w_112), (0, .ref mo), (1, .int (nI j_1)), (2, .int (nI j_5)), (3, .int (nI j_8)), (4, .int a3)]) hx hb dX8_calm_99 hl (by decide) rfl (fun ls hl => ?_)
              refine lv_iconst (v := 0) hx hb dX8_calm_101 (by decide) ?_
              refine lv_istore (lv' := [(12, .int 0), (10, .long 1), (9, .int (nI ii1)), (7, .long (lN (10 ^ w9))), (5, .long w_112), (0, .ref mo), (1, .int (nI j_1)), (2, .int (nI j_5)), (3, .int (nI j_8)), (4, .int a3)]) hx hb dX8_calm_102 hl (by decide) rfl (fun ls hl => ?_)
              refine lp_go (σ := (Int64) × (Nat → Int32)) (fun ii2 (st : (Int64) × (Nat → Int32)) H locs ls => match st with | (w_232, w_233) => lv_has ls 15 [(12, .int (nI ii2)), (10, .long w_232), (9, .int (nI ii1)), (7, .long (lN (10 ^ w9))), (5, .long w_112), (0, .ref mo), (1, .int (nI j_1)), (2, .int (nI j_5)), (3, .int (nI j_8)), (4, .int a3)] ∧ va_P (dC, dI) vwCl [(xo_8_rrriirrriiiiiiirrirrrrri mo m_la m_sz m_it ms mt m_st m_mv m_tp (nI mz) ml (nI mp) mk mv mb mw m_rd m_ac (nI ma) m_as m_wo m_ik m_ke m_tr (nI mx)), (xI m_st cI 38 w_233), (xI m_as cI 38 fan_14)] H ∧ va_D A [(xo_8_rrriirrriiiiiiirrirrrrri mo m_la m_sz m_it ms mt m_st m_mv m_tp (nI mz) ml (nI mp) mk mv mb mw m_rd m_ac (nI ma) m_as m_wo m_ik m_ke m_tr (nI mx)), (xI m_st cI 38 w_233), (xI m_as cI 38 fan_14)] ∧ va_S A s.heap H locs ∧ okM w_233 w9 k9 h9 ∧ (w_232 = lN (csN ii1 j_8 ii2)) ∧ (m38 w_233 = drS (m38 fs) ii1 ii2)) w9 ?_ ?_ 0 (by omega) (1, w_113) ⟨lv_sub hl [0, 1, 2, 3, 4, 5, 6, 7, 8, 9] rfl, hP.sub (ws' := [(xo_8_rrriirrriiiiiiirrirrrrri mo m_la m_sz m_it ms mt m_st m_mv m_tp (nI mz) ml (nI mp) mk mv mb mw m_rd m_ac (nI ma) m_as m_wo m_ik m_ke m_tr (nI mx)), (xI m_st cI 38 w_113), (xI m_as cI 38 fan_14)]) [0, 1, 2] rfl, hD.sub (ws' := [(xo_8_rrriirrriiiiiiirrirrrrri mo m_la m_sz m_it ms mt m_st m_mv m_tp (nI mz) ml (nI mp) mk mv mb mw m_rd m_ac (nI ma) m_as m_wo m_ik m_ke m_tr (nI mx)), (xI m_st cI 38 w_113), (xI m_as cI 38 fan_14)]) [0, 1, 2] (by decide +kernel) rfl, hS, hMl, rfl, haii1_1⟩
              · rintro ii2 ⟨w_232, w_233⟩ H locs ls hii2 ⟨hl, hP, hD, hS, hMl, haii2_0, haii2_1⟩ ih
                refine lv_iload hx hb dX8_calm_104 (lv_at hl 0 rfl) ?_
                refine lv_aload_n hx hb dX8_calm_106 rfl (lv_at hl 5 rfl) ?_
                refine va_get (D := (dC, dI)) (ci := 8) (v := .ref m_st) (C := RX8) (T := TX8) (N := 24) hx hb hts i_X8_calm_X8 hown hK hP 0 rfl rfl 5 (by decide) (hts _ mx_X8_calm_4) (fun _ h9 => h9) rfl dX8_calm_107 ?_
                refine lv_iconst (v := 3) hx hb dX8_calm_110 (by decide) ?_
                refine va_iald hx hb hK hP 1 0 rfl rfl (by unfold vp_in; decide) dX8_calm_111 ?_
                refine lv_topi (fun v_260 e_260 => ?_)
                obtain rfl : v_260 = (nI w9) := (e_260).trans hMl.1
                refine lv_icmp_ge (tgt := 180) hx hb dX8_calm_112 (by decide) (fun c_ => absurd c_ (fun q_ => absurd ((nI_leI (a := w9) (b := ii2) (by omega) (by omega)).mp q_) (by omega))) (fun _ => ?_)
                refine lv_lload hx hb dX8_calm_115 (lv_at hl 1 rfl) ?_
                refine lv_iload hx hb dX8_calm_117 (lv_at hl 2 rfl) ?_
                refine lv_iload hx hb dX8_calm_119 (lv_at hl 0 rfl) ?_
                have hPc_262 := hP.sub (ws' := []) [] rfl
                refine vp_callSi (W.runS (As := [.int (nI ii1), .int (nI ii2)]) (rest := [.long w_232]) ⟨hx, hb, hml, hown, hts⟩ (r_X8_has l dC dI cI cZ cL cJ (nI ii1) (nI ii2) ) (va_cwS 2 hts gX8_calm_X8_has rfl rfl rfl (by decide +kernel) ⟨Nat.le_of_ble_eq_true rfl, Nat.le_of_ble_eq_true rfl⟩) (psP hK hPc_262) rfl rfl hl.1 rfl (lv_room (Nat.le_of_ble_eq_true rfl)) dX8_calm_121 ⟨Nat.le_of_ble_eq_true rfl, Nat.le_of_ble_eq_true rfl⟩) (fun r_262 h_262 => ?_)
                rcases h_262 with ⟨h_262, f_262_0_0⟩ | ⟨h_262, f_262_1_0⟩
                · subst h_262
                  refine lv_if_eq (tgt := 132) hx hb dX8_calm_124 (by decide) (fun _ => ?_) (fun c_ => absurd (by decide) c_)
                  refine lv_bipush (v := 10) hx hb dX8_calm_132 (by decide) ?_
                  refine lv_iload_n hx hb dX8_calm_134 rfl (lv_at hl 8 rfl) ?_
                  refine lv_isub hx hb dX8_calm_135 ?_
                  refine lv_topi (fun v_264 e_264 => ?_)
                  refine lv_i2l hx hb dX8_calm_136 rfl ?_
                  refine lv_lmul hx hb dX8_calm_137 ?_
                  refine lv_topl (fun v_265 e_265 => ?_)
                  refine lv_lstore (lv' := [(10, .long v_265), (12, .int (nI ii2)), (9, .int (nI ii1)), (7, .long (lN (10 ^ w9))), (5, .long w_112), (0, .ref mo), (1, .int (nI j_1)), (2, .int (nI j_5)), (3, .int (nI j_8)), (4, .int a3)]) hx hb dX8_calm_138 hl (by decide) rfl (fun ls hl => ?_)
                  refine lv_aload_n hx hb dX8_calm_140 rfl (lv_at hl 5 rfl) ?_
                  refine va_get (D := (dC, dI)) (ci := 8) (v := .ref m_st) (C := RX8) (T := TX8) (N := 24) hx hb hts i_X8_calm_X8 hown hK hP 0 rfl rfl 5 (by decide) (hts _ mx_X8_calm_4) (fun _ h9 => h9) rfl dX8_calm_141 ?_
                  refine lv_bipush (v := 8) hx hb dX8_calm_144 (by decide) ?_
                  refine lv_iload hx hb dX8_calm_146 (lv_at hl 1 rfl) ?_
                  refine lv_iadd hx hb dX8_calm_148 ?_
                  refine lv_topi (fun v_266 e_266 => ?_)
                  obtain rfl : v_266 = (nI (8 + ii2)) := (e_266).trans (nI_add 8 ii2)
                  refine lv_iload hx hb dX8_calm_149 (lv_at hl 2 rfl) ?_
                  refine lv_iload hx hb dX8_calm_151 (lv_at hl 1 rfl) ?_
                  have hPc_267 := hP.sub (ws' := []) [] rfl
                  refine vp_callSi (W.runS (As := [.int (nI ii1), .int (nI ii2)]) (rest := [.int (nI (8 + ii2)), .ref m_st]) ⟨hx, hb, hml, hown, hts⟩ (r_X8_has l dC dI cI cZ cL cJ (nI ii1) (nI ii2) ) (va_cwS 2 hts gX8_calm_X8_has rfl rfl rfl (by decide +kernel) ⟨Nat.le_of_ble_eq_true rfl, Nat.le_of_ble_eq_true rfl⟩) (psP hK hPc_267) rfl rfl hl.1 rfl (lv_room (Nat.le_of_ble_eq_true rfl)) dX8_calm_153 ⟨Nat.le_of_ble_eq_true rfl, Nat.le_of_ble_eq_true rfl⟩) (fun r_267 h_267 => ?_)
                  rcases h_267 with ⟨h_267, f_267_0_0⟩ | ⟨h_267, f_267_1_0⟩
                  · subst h_267
                    refine lv_if_eq (tgt := 163) hx hb dX8_calm_156 (by decide) (fun _ => ?_) (fun c_ => absurd (by decide) c_)
                    refine lv_aload_n hx hb dX8_calm_163 rfl (lv_at hl 5 rfl) ?_
                    refine va_get (D := (dC, dI)) (ci := 8) (v := .ref m_st) (C := RX8) (T := TX8) (N := 24) hx hb hts i_X8_calm_X8 hown hK hP 0 rfl rfl 5 (by decide) (hts _ mx_X8_calm_4) (fun _ h9 => h9) rfl dX8_calm_164 ?_
                    refine lv_bipush (v := 8) hx hb dX8_calm_167 (by decide) ?_
                    refine lv_iload hx hb dX8_calm_169 (lv_at hl 1 rfl) ?_
                    refine lv_iadd hx hb dX8_calm_171 ?_
                    refine lv_topi (fun v_269 e_269 => ?_)
                    obtain rfl : v_269 = (nI (8 + ii2)) := (e_269).trans (nI_add 8 ii2)
                    refine va_iald hx hb hK hP 1 0 rfl rfl (vp_in_nI (by omega) (by omega)) dX8_calm_172 ?_
                    refine lv_topi (fun v_270 e_270 => ?_)
                    have e_270 : v_270 = w_233 (8 + ii2) := e_270.trans (congrArg w_233 (nI_clamp (by omega)))
                    refine va_iast hx hb hK hP hD hS 1 0 rfl rfl (vp_in_nI (by omega) (by omega)) dX8_calm_173 (fun H locs hP hD hS => ?_)
                    generalize hg_271 : upd w_233 ((nI (8 + ii2)) : Int32).toNatClampNeg v_270 = g_271 at hP hD
                    have hu_271 : g_271 = upd w_233 (8 + ii2) v_270 := (by rw [← hg_271, nI_clamp (by omega)])
                    have hM_271 : okM g_271 w9 k9 h9 := okM_off (i := (8 + ii2)) hMl hg_271 (by omega) (by omega) (by omega) (by omega) (by omega)
                    have hP : va_P (dC, dI) vwCl [(xo_8_rrriirrriiiiiiirrirrrrri mo m_la m_sz m_it ms mt m_st m_mv m_tp (nI mz) ml (nI mp) mk mv mb mw m_rd m_ac (nI ma) m_as m_wo m_ik m_ke m_tr (nI mx)), (xI m_st cI 38 g_271), (xI m_as cI 38 fan_14)] H := hP
                    have hD := dto hP hD
                    refine lv_iinc (v := (nI (ii2 + 1))) (lv' := [(12, .int (nI (ii2 + 1))), (10, .long v_265), (9, .int (nI ii1)), (7, .long (lN (10 ^ w9))), (5, .long w_112), (0, .ref mo), (1, .int (nI j_1)), (2, .int (nI j_5)), (3, .int (nI j_8)), (4, .int a3)]) hx hb dX8_calm_174 hl (k := 1) rfl (nI_add ii2 1) (by decide) rfl (fun ls hl => ?_)
                    refine lv_goto (tgt := 104) hx hb dX8_calm_177 (by decide) ?_
                    exact ih (v_265, g_271) _ _ _ ⟨lv_sub hl [0, 1, 2, 3, 4, 5, 6, 7, 8, 9] rfl, hP.sub (ws' := [(xo_8_rrriirrriiiiiiirrirrrrri mo m_la m_sz m_it ms mt m_st m_mv m_tp (nI mz) ml (nI mp) mk mv mb mw m_rd m_ac (nI ma) m_as m_wo m_ik m_ke m_tr (nI mx)), (xI m_st cI 38 g_271), (xI m_as cI 38 fan_14)]) [0, 1, 2] rfl, hD.sub (ws' := [(xo_8_rrriirrriiiiiiirrirrrrri mo m_la m_sz m_it ms mt m_st m_mv m_tp (nI mz) ml (nI mp) mk mv mb mw m_rd m_ac (nI ma) m_as m_wo m_ik m_ke m_tr (nI mx)), (xI m_st cI 38 g_271), (xI m_as cI 38 fan_14)]) [0, 1, 2] (by decide +kernel) rfl, hS, hM_271, (lf_X8_calm_5 hM hT h999 hT0 hj_1 hkn1 hw1 h01 f_5_1_0 q_5 hj_5 f_8_1_0 q_8 hj_8 f_11_1_0 hsh hs6 hF_14_0 hii1 haii1_0 haii1_1 hii2 haii2_0 haii2_1 hMl f_262_0_0 e_264 e_265 f_267_0_0 e_270 hu_271), (lf_X8_calm_6 hM hT h999 hT0 hj_1 hkn1 hw1 h01 f_5_1_0 q_5 hj_5 f_8_1_0 q_8 hj_8 f_11_1_0 hsh hs6 hF_14_0 hii1 haii1_0 haii1_1 hii2 haii2_0 haii2_1 hMl f_262_0_0 e_264 e_265 f_267_0_0 e_270 hu_271)⟩
                  · subst h_267
                    refine lv_if_eq (tgt := 163) hx hb dX8_calm_156 (by decide) (fun c_ => absurd c_ (by decide)) (fun _ => ?_)
                    refine lv_iconst (v := 2) hx hb dX8_calm_159 (by decide) ?_
                    refine lv_goto (tgt := 173) hx hb dX8_calm_160 (by decide) ?_
                    refine va_iast hx hb hK hP hD hS 1 0 rfl rfl (vp_in_nI (by omega) (by omega)) dX8_calm_173 (fun H locs hP hD hS => ?_)
                    generalize hg_273 : upd w_233 ((nI (8 + ii2)) : Int32).toNatClampNeg 2 = g_273 at hP hD
                    have hu_273 : g_273 = upd w_233 (8 + ii2) 2 := (by rw [← hg_273, nI_clamp (by omega)])
                    have hM_273 : okM g_273 w9 k9 h9 := okM_off (i := (8 + ii2)) hMl hg_273 (by omega) (by omega) (by omega) (by omega) (by omega)
                    have hP : va_P (dC, dI) vwCl [(xo_8_rrriirrriiiiiiirrirrrrri mo m_la m_sz m_it ms mt m_st m_mv m_tp (nI mz) ml (nI mp) mk mv mb mw m_rd m_ac (nI ma) m_as m_wo m_ik m_ke m_tr (nI mx)), (xI m_st cI 38 g_273), (xI m_as cI 38 fan_14)] H := hP
                    have hD := dto hP hD
                    refine lv_iinc (v := (nI (ii2 + 1))) (lv' := [(12, .int (nI (ii2 + 1))), (10, .long v_265), (9, .int (nI ii1)), (7, .long (lN (10 ^ w9))), (5, .long w_112), (0, .ref mo), (1, .int (nI j_1)), (2, .int (nI j_5)), (3, .int (nI j_8)), (4, .int a3)]) hx hb dX8_calm_174 hl (k := 1) rfl (nI_add ii2 1) (by decide) rfl (fun ls hl => ?_)
                    refine lv_goto (tgt := 104) hx hb dX8_calm_177 (by decide) ?_
                    exact ih (v_265, g_273) _ _ _ ⟨lv_sub hl [0, 1, 2, 3, 4, 5, 6, 7, 8, 9] rfl, hP.sub (ws' := [(xo_8_rrriirrriiiiiiirrirrrrri mo m_la m_sz m_it ms mt m_st m_mv m_tp (nI mz) ml (nI mp) mk mv mb mw m_rd m_ac (nI ma) m_as m_wo m_ik m_ke m_tr (nI mx)), (xI m_st cI 38 g_273), (xI m_as cI 38 fan_14)]) [0, 1, 2] rfl, hD.sub (ws' := [(xo_8_rrriirrriiiiiiirrirrrrri mo m_la m_sz m_it ms mt m_st m_mv m_tp (nI mz) ml (nI mp) mk mv mb mw m_rd m_ac (nI ma) m_as m_wo m_ik m_ke m_tr (nI mx)), (xI m_st cI 38 g_273), (xI m_as cI 38 fan_14)]) [0, 1, 2] (by decide +kernel) rfl, hS, hM_273, (lf_X8_calm_7 hM hT h999 hT0 hj_1 hkn1 hw1 h01 f_5_1_0 q_5 hj_5 f_8_1_0 q_8 hj_8 f_11_1_0 hsh hs6 hF_14_0 hii1 haii1_0 haii1_1 hii2 haii2_0 haii2_1 hMl f_262_0_0 e_264 e_265 f_267_1_0 hu_273), (lf_X8_calm_8 hM hT h999 hT0 hj_1 hkn1 hw1 h01 f_5_1_0 q_5 hj_5 f_8_1_0 q_8 hj_8 f_11_1_0 hsh hs6 hF_14_0 hii1 haii1_0 haii1_1 hii2 haii2_0 haii2_1 hMl f_262_0_0 e_264 e_265 f_267_1_0 hu_273)⟩
                · subst h_262
                  refine lv_if_eq (tgt := 132) hx hb dX8_calm_124 (by decide) (fun c_ => absurd c_ (by decide)) (fun _ => ?_)
                  refine lv_iload_n hx hb dX8_calm_127 rfl (lv_at hl 8 rfl) ?_
                  refine lv_i2l hx hb dX8_calm_128 rfl ?_
                  refine lv_goto (tgt := 137) hx hb dX8_calm_129 (by decide) ?_
                  refine lv_lmul hx hb dX8_calm_137 ?_
                  refine lv_topl (fun v_275 e_275 => ?_)
                  refine lv_lstore (lv' := [(10, .long v_275), (12, .int (nI ii2)), (9, .int (nI ii1)), (7, .long (lN (10 ^ w9))), (5, .long w_112), (0, .ref mo), (1, .int (nI j_1)), (2, .int (nI j_5)), (3, .int (nI j_8)), (4, .int a3)]) hx hb dX8_calm_138 hl (by decide) rfl (fun ls hl => ?_)
                  refine lv_aload_n hx hb dX8_calm_140 rfl (lv_at hl 5 rfl) ?_
                  refine va_get (D := (dC, dI)) (ci := 8) (v := .ref m_st) (C := RX8) (T := TX8) (N := 24) hx hb hts i_X8_calm_X8 hown hK hP 0 rfl rfl 5 (by decide) (hts _ mx_X8_calm_4) (fun _ h9 => h9) rfl dX8_calm_141 ?_
                  refine lv_bipush (v := 8) hx hb dX8_calm_144 (by decide) ?_
                  refine lv_iload hx hb dX8_calm_146 (lv_at hl 1 rfl) ?_
                  refine lv_iadd hx hb dX8_calm_148 ?_
                  refine lv_topi (fun v_276 e_276 => ?_)
                  obtain rfl : v_276 = (nI (8 + ii2)) := (e_276).trans (nI_add 8 ii2)
                  refine lv_iload hx hb dX8_calm_149 (lv_at hl 2 rfl) ?_
                  refine lv_iload hx hb dX8_calm_151 (lv_at hl 1 rfl) ?_
                  have hPc_277 := hP.sub (ws' := []) [] rfl
                  refine vp_callSi (W.runS (As := [.int (nI ii1), .int (nI ii2)]) (rest := [.int (nI (8 + ii2)), .ref m_st]) ⟨hx, hb, hml, hown, hts⟩ (r_X8_has l dC dI cI cZ cL cJ (nI ii1) (nI ii2) ) (va_cwS 2 hts gX8_calm_X8_has rfl rfl rfl (by decide +kernel) ⟨Nat.le_of_ble_eq_true rfl, Nat.le_of_ble_eq_true rfl⟩) (psP hK hPc_277) rfl rfl hl.1 rfl (lv_room (Nat.le_of_ble_eq_true rfl)) dX8_calm_153 ⟨Nat.le_of_ble_eq_true rfl, Nat.le_of_ble_eq_true rfl⟩) (fun r_277 h_277 => ?_)
                  rcases h_277 with ⟨h_277, f_277_0_0⟩ | ⟨h_277, f_277_1_0⟩
                  · subst h_277
                    refine lv_if_eq (tgt := 163) hx hb dX8_calm_156 (by decide) (fun _ => ?_) (fun c_ => absurd (by decide) c_)
                    refine lv_aload_n hx hb dX8_calm_163 rfl (lv_at hl 5 rfl) ?_
                    refine va_get (D := (dC, dI)) (ci := 8) (v := .ref m_st) (C := RX8) (T := TX8) (N := 24) hx hb hts i_X8_calm_X8 hown hK hP 0 rfl rfl 5 (by decide) (hts _ mx_X8_calm_4) (fun _ h9 => h9) rfl dX8_calm_164 ?_
                    refine lv_bipush (v := 8) hx hb dX8_calm_167 (by decide) ?_
                    refine lv_iload hx hb dX8_calm_169 (lv_at hl 1 rfl) ?_
                    refine lv_iadd hx hb dX8_calm_171 ?_
                    refine lv_topi (fun v_279 e_279 => ?_)
                    obtain rfl : v_279 = (nI (8 + ii2)) := (e_279).trans (nI_add 8 ii2)
                    refine va_iald hx hb hK hP 1 0 rfl rfl (vp_in_nI (by omega) (by omega)) dX8_calm_172 ?_
                    refine lv_topi (fun v_280 e_280 => ?_)
                    have e_280 : v_280 = w_233 (8 + ii2) := e_280.trans (congrArg w_233 (nI_clamp (by omega)))
                    refine va_iast hx hb hK hP hD hS 1 0 rfl rfl (vp_in_nI (by omega) (by omega)) dX8_calm_173 (fun H locs hP hD hS => ?_)
                    generalize hg_281 : upd w_233 ((nI (8 + ii2)) : Int32).toNatClampNeg v_280 = g_281 at hP hD
                    have hu_281 : g_281 = upd w_233 (8 + ii2) v_280 := (by rw [← hg_281, nI_clamp (by omega)])
                    have hM_281 : okM g_281 w9 k9 h9 := okM_off (i := (8 + ii2)) hMl hg_281 (by omega) (by omega) (by omega) (by omega) (by omega)
                    have hP : va_P (dC, dI) vwCl [(xo_8_rrriirrriiiiiiirrirrrrri mo m_la m_sz m_it ms mt m_st m_mv m_tp (nI mz) ml (nI mp) mk mv mb mw m_rd m_ac (nI ma) m_as m_wo m_ik m_ke m_tr (nI mx)), (xI m_st cI 38 g_281), (xI m_as cI 38 fan_14)] H := hP
                    have hD := dto hP hD
                    refine lv_iinc (v := (nI (ii2 + 1))) (lv' := [(12, .int (nI (ii2 + 1))), (10, .long v_275), (9, .int (nI ii1)), (7, .long (lN (10 ^ w9))), (5, .long w_112), (0, .ref mo), (1, .int (nI j_1)), (2, .int (nI j_5)), (3, .int (nI j_8)), (4, .int a3)]) hx hb dX8_calm_174 hl (k := 1) rfl (nI_add ii2 1) (by decide) rfl (fun ls hl => ?_)
                    refine lv_goto (tgt := 104) hx hb dX8_calm_177 (by decide) ?_
                    exact ih (v_275, g_281) _ _ _ ⟨lv_sub hl [0, 1, 2, 3, 4, 5, 6, 7, 8, 9] rfl, hP.sub (ws' := [(xo_8_rrriirrriiiiiiirrirrrrri mo m_la m_sz m_it ms mt m_st m_mv m_tp (nI mz) ml (nI mp) mk mv mb mw m_rd m_ac (nI ma) m_as m_wo m_ik m_ke m_tr (nI mx)), (xI m_st cI 38 g_281), (xI m_as cI 38 fan_14)]) [0, 1, 2] rfl, hD.sub (ws' := [(xo_8_rrriirrriiiiiiirrirrrrri mo m_la m_sz m_it ms mt m_st m_mv m_tp (nI mz) ml (nI mp) mk mv mb mw m_rd m_ac (nI ma) m_as m_wo m_ik m_ke m_tr (nI mx)), (xI m_st cI 38 g_281), (xI m_as cI 38 fan_14)]) [0, 1, 2] (by decide +kernel) rfl, hS, hM_281, (lf_X8_calm_9 hM hT h999 hT0 hj_1 hkn1 hw1 h01 f_5_1_0 q_5 hj_5 f_8_1_0 q_8 hj_8 f_11_1_0 hsh hs6 hF_14_0 hii1 haii1_0 haii1_1 hii2 haii2_0 haii2_1 hMl f_262_1_0 e_275 f_277_0_0 e_280 hu_281), (lf_X8_calm_10 hM hT h999 hT0 hj_1 hkn1 hw1 h01 f_5_1_0 q_5 hj_5 f_8_1_0 q_8 hj_8 f_11_1_0 hsh hs6 hF_14_0 hii1 haii1_0 haii1_1 hii2 haii2_0 haii2_1 hMl f_262_1_0 e_275 f_277_0_0 e_280 hu_281)⟩
                  · subst h_277
                    refine lv_if_eq (tgt := 163) hx hb dX8_calm_156 (by decide) (fun c_ => absurd c_ (by decide)) (fun _ => ?_)
                    refine lv_iconst (v := 2) hx hb dX8_calm_159 (by decide) ?_
                    refine lv_goto (tgt := 173) hx hb dX8_calm_160 (by decide) ?_
                    refine va_iast hx hb hK hP hD hS 1 0 rfl rfl (vp_in_nI (by omega) (by omega)) dX8_calm_173 (fun H locs hP hD hS => ?_)
                    generalize hg_283 : upd w_233 ((nI (8 + ii2)) : Int32).toNatClampNeg 2 = g_283 at hP hD
                    have hu_283 : g_283 = upd w_233 (8 + ii2) 2 := (by rw [← hg_283, nI_clamp (by omega)])
                    have hM_283 : okM g_283 w9 k9 h9 := okM_off (i := (8 + ii2)) hMl hg_283 (by omega) (by omega) (by omega) (by omega) (by omega)
                    have hP : va_P (dC, dI) vwCl [(xo_8_rrriirrriiiiiiirrirrrrri mo m_la m_sz m_it ms mt m_st m_mv m_tp (nI mz) ml (nI mp) mk mv mb mw m_rd m_ac (nI ma) m_as m_wo m_ik m_ke m_tr (nI mx)), (xI m_st cI 38 g_283), (xI m_as cI 38 fan_14)] H := hP
                    have hD := dto hP hD
                    refine lv_iinc (v := (nI (ii2 + 1))) (lv' := [(12, .int (nI (ii2 + 1))), (10, .long v_275), (9, .int (nI ii1)), (7, .long (lN (10 ^ w9))), (5, .long w_112), (0, .ref mo), (1, .int (nI j_1)), (2, .int (nI j_5)), (3, .int (nI j_8)), (4, .int a3)]) hx hb dX8_calm_174 hl (k := 1) rfl (nI_add ii2 1) (by decide) rfl (fun ls hl => ?_)
                    refine lv_goto (tgt := 104) hx hb dX8_calm_177 (by decide) ?_
                    exact ih (v_275, g_283) _ _ _ ⟨lv_sub hl [0, 1, 2, 3, 4, 5, 6, 7, 8, 9] rfl, hP.sub (ws' := [(xo_8_rrriirrriiiiiiirrirrrrri mo m_la m_sz m_it ms mt m_st m_mv m_tp (nI mz) ml (nI mp) mk mv mb mw m_rd m_ac (nI ma) m_as m_wo m_ik m_ke m_tr (nI mx)), (xI m_st cI 38 g_283), (xI m_as cI 38 fan_14)]) [0, 1, 2] rfl, hD.sub (ws' := [(xo_8_rrriirrriiiiiiirrirrrrri mo m_la m_sz m_it ms mt m_st m_mv m_tp (nI mz) ml (nI mp) mk mv mb mw m_rd m_ac (nI ma) m_as m_wo m_ik m_ke m_tr (nI mx)), (xI m_st cI 38 g_283), (xI m_as cI 38 fan_14)]) [0, 1, 2] (by decide +kernel) rfl, hS, hM_283, (lf_X8_calm_11 hM hT h999 hT0 hj_1 hkn1 hw1 h01 f_5_1_0 q_5 hj_5 f_8_1_0 q_8 hj_8 f_11_1_0 hsh hs6 hF_14_0 hii1 haii1_0 haii1_1 hii2 haii2_0 haii2_1 hMl f_262_1_0 e_275 f_277_1_0 hu_283), (lf_X8_calm_12 hM hT h999 hT0 hj_1 hkn1 hw1 h01 f_5_1_0 q_5 hj_5 f_8_1_0 q_8 hj_8 f_11_1_0 hsh hs6 hF_14_0 hii1 haii1_0 haii1_1 hii2 haii2_0 haii2_1 hMl f_262_1_0 e_275 f_277_1_0 hu_283)⟩
              · rintro ⟨w_232, w_233⟩ H locs ls ⟨hl, hP, hD, hS, hMl, haii2_0, haii2_1⟩
                refine lv_iload hx hb dX8_calm_104 (lv_at hl 0 rfl) ?_
                refine lv_aload_n hx hb dX8_calm_106 rfl (lv_at hl 5 rfl) ?_
                refine va_get (D := (dC, dI)) (ci := 8) (v := .ref m_st) (C := RX8) (T := TX8) (N := 24) hx hb hts i_X8_calm_X8 hown hK hP 0 rfl rfl 5 (by decide) (hts _ mx_X8_calm_4) (fun _ h9 => h9) rfl dX8_calm_107 ?_
                refine lv_iconst (v := 3) hx hb dX8_calm_110 (by decide) ?_
                refine va_iald hx hb hK hP 1 0 rfl rfl (by unfold vp_in; decide) dX8_calm_111 ?_
                refine lv_topi (fun v_284 e_284 => ?_)
                obtain rfl : v_284 = (nI w9) := (e_284).trans hMl.1
                refine lv_icmp_ge (tgt := 180) hx hb dX8_calm_112 (by decide) (fun _ => ?_) (fun c_ => absurd ((nI_leI (a := w9) (b := w9) (by omega) (by omega)).mpr (by omega)) c_)
                refine lv_aload_n hx hb dX8_calm_180 rfl (lv_at hl 5 rfl) ?_
                refine lv_iload_n hx hb dX8_calm_181 rfl (lv_at hl 7 rfl) ?_
                have hc_286 := cutW (wc := [(xo_8_rrriirrriiiiiiirrirrrrri mo m_la m_sz m_it ms mt m_st m_mv m_tp (nI mz) ml (nI mp) mk mv mb mw m_rd m_ac (nI ma) m_as m_wo m_ik m_ke m_tr (nI mx)), (xI m_st cI 38 w_233)]) hP hD hS hA [0, 1] (by decide +kernel) rfl
                refine va_callv (va_runV (As := [.int (nI j_5)]) (rest := []) ⟨hx, hb, hml, hown, hts⟩ (r_X8_goOn l dC dI cI cZ cL cJ H.size mo m_la m_sz m_it m_st m_mv m_tp m_rd m_ac m_as m_wo m_ik m_ke m_tr ms mt ml mk mv mb mw mz mp ma mx w_233 w9 k9 h9 j_5 (hMl) (by omega) (by omega) (by omega)) (cwV 1 hts gX8_calm_X8_goOn rfl rfl rfl (by decide +kernel) ⟨Nat.le_of_ble_eq_true rfl, Nat.le_of_ble_eq_true rfl⟩) (pvW 8 0 hK hP rfl rfl hc_286) rfl rfl hl.1 rfl (lv_room (Nat.le_of_ble_eq_true rfl)) dX8_calm_182 ⟨Nat.le_of_ble_eq_true rfl, Nat.le_of_ble_eq_true rfl⟩) hS (fun q _ h => hc_286.2.2 q h) hc_286.2.2 (fun u_286 t_286 H1 locs ht hvm h_286 hB hz1 hk1 hS => ?_)
                refine xl_1_4 hB (fun fsn_286 hP1 hD1 hF_286_0 hF_286_1 => ?_)
                clear hB
                rw [ht] at hP1
                obtain ⟨hP, hD⟩ := va_join (wr := [(xI m_as cI 38 fan_14)]) (w1 := [(xo_8_rrriirrriiiiiiirrirrrrri mo m_la m_sz m_it ms mt m_st m_mv m_tp (nI mz) ml (nI mp) mk mv mb mw m_rd m_ac (nI ma) m_as m_wo m_ik m_ke m_tr (nI mx)), (xI m_st cI 38 fsn_286)]) hP hD [0, 1] [2] rfl rfl (by decide +kernel) (by decide +kernel) hk1 hc_286.2.2 hP1 hD1
                generalize H1 = H at hP hS ⊢
                have hP : va_P (dC, dI) vwCl [(xI m_as cI 38 fan_14), (xo_8_rrriirrriiiiiiirrirrrrri mo m_la m_sz m_it ms mt m_st m_mv m_tp (nI mz) ml (nI mp) mk mv mb mw m_rd m_ac (nI ma) m_as m_wo m_ik m_ke m_tr (nI mx)), (xI m_st cI 38 fsn_286)] H := hP
                have hD := dto hP hD
                refine lv_lload hx hb dX8_calm_185 (lv_at hl 4 rfl) ?_
                refine lv_aload_n hx hb dX8_calm_187 rfl (lv_at hl 5 rfl) ?_
                refine va_get (D := (dC, dI)) (ci := 8) (v := .ref m_st) (C := RX8) (T := TX8) (N := 24) hx hb hts i_X8_calm_X8 hown hK hP 1 rfl rfl 5 (by decide) (hts _ mx_X8_calm_4) (fun _ h9 => h9) rfl dX8_calm_188 ?_
                refine lv_bipush (v := 26) hx hb dX8_calm_191 (by decide) ?_
                refine lv_iload_n hx hb dX8_calm_193 rfl (lv_at hl 6 rfl) ?_
                refine lv_iadd hx hb dX8_calm_194 ?_
                refine lv_topi (fun v_287 e_287 => ?_)
                obtain rfl : v_287 = (nI (26 + j_1)) := (e_287).trans (nI_add 26 j_1)
                refine va_iald hx hb hK hP 2 0 rfl rfl (vp_in_nI (by omega) (by omega)) dX8_calm_195 ?_
                refine lv_topi (fun v_288 e_288 => ?_)
                have e_288 : v_288 = fsn_286 (26 + j_1) := e_288.trans (congrArg fsn_286 (nI_clamp (by omega)))
                refine lv_iconst (v := 1) hx hb dX8_calm_196 (by decide) ?_
                refine lv_icmp_ne (tgt := 205) hx hb dX8_calm_197 (by decide) (fun c_289 => ?_) (fun c_289 => ?_)
                · skip
                  refine lv_lconst (v := 0) hx hb dX8_calm_205 (by decide) ?_
                  refine lv_ladd hx hb dX8_calm_206 ?_
                  refine lv_topl (fun v_290 e_290 => ?_)
                  refine lv_lstore (lv' := [(5, .long v_290), (12, .int (nI w9)), (10, .long w_232), (9, .int (nI ii1)), (7, .long (lN (10 ^ w9))), (0, .ref mo), (1, .int (nI j_1)), (2, .int (nI j_5)), (3, .int (nI j_8)), (4, .int a3)]) hx hb dX8_calm_207 hl (by decide) rfl (fun ls hl => ?_)
                  refine lv_aload_n hx hb dX8_calm_209 rfl (lv_at hl 5 rfl) ?_
                  have hc_291 := cutW (wc := [(xo_8_rrriirrriiiiiiirrirrrrri mo m_la m_sz m_it ms mt m_st m_mv m_tp (nI mz) ml (nI mp) mk mv mb mw m_rd m_ac (nI ma) m_as m_wo m_ik m_ke m_tr (nI mx)), (xI m_st cI 38 fsn_286), (xI m_as cI 38 fan_14)]) hP hD hS hA [1, 2, 0] (by decide +kernel) rfl
                  refine va_callv (va_runV (As := []) (rest := []) ⟨hx, hb, hml, hown, hts⟩ (r_X8_takeBack l dC dI cI cZ cL cJ H.size mo m_la m_sz m_it m_st m_mv m_tp m_rd m_ac m_as m_wo m_ik m_ke m_tr ms mt ml mk mv mb mw mz mp ma mx fsn_286 fan_14 ) (cwV 0 hts gX8_calm_X8_takeBack rfl rfl rfl (by decide +kernel) ⟨Nat.le_of_ble_eq_true rfl, Nat.le_of_ble_eq_true rfl⟩) (pvW 8 1 hK hP rfl rfl hc_291) rfl rfl hl.1 rfl (lv_room (Nat.le_of_ble_eq_true rfl)) dX8_calm_210 ⟨Nat.le_of_ble_eq_true rfl, Nat.le_of_ble_eq_true rfl⟩) hS (fun q _ h => hc_291.2.2 q h) hc_291.2.2 (fun u_291 t_291 H1 locs ht hvm h_291 hB hz1 hk1 hS => ?_)
                  refine xl_1_3 hB (fun fsn_291 hP1 hD1 hF_291_0 => ?_)
                  clear hB
                  rw [ht] at hP1
                  obtain ⟨hP, hD⟩ := va_join (wr := []) (w1 := [(xo_8_rrriirrriiiiiiirrirrrrri mo m_la m_sz m_it ms mt m_st m_mv m_tp (nI mz) ml (nI mp) mk mv mb mw m_rd m_ac (nI ma) m_as m_wo m_ik m_ke m_tr (nI mx)), (xI m_st cI 38 fsn_291), (xI m_as cI 38 fan_14)]) hP hD [1, 2, 0] [] rfl rfl (by decide +kernel) (by decide +kernel) hk1 hc_291.2.2 hP1 hD1
                  generalize H1 = H at hP hS ⊢
                  have hP : va_P (dC, dI) vwCl [(xo_8_rrriirrriiiiiiirrirrrrri mo m_la m_sz m_it ms mt m_st m_mv m_tp (nI mz) ml (nI mp) mk mv mb mw m_rd m_ac (nI ma) m_as m_wo m_ik m_ke m_tr (nI mx)), (xI m_st cI 38 fsn_291), (xI m_as cI 38 fan_14)] H := hP
                  have hD := dto hP hD
                  have hT_291 := okM_eq hA_14 hF_291_0
                  refine lv_iinc (v := (nI (ii1 + 1))) (lv' := [(9, .int (nI (ii1 + 1))), (5, .long v_290), (12, .int (nI w9)), (10, .long w_232), (7, .long (lN (10 ^ w9))), (0, .ref mo), (1, .int (nI j_1)), (2, .int (nI j_5)), (3, .int (nI j_8)), (4, .int a3)]) hx hb dX8_calm_213 hl (k := 3) rfl (nI_add ii1 1) (by decide) rfl (fun ls hl => ?_)
                  refine lv_goto (tgt := 85) hx hb dX8_calm_216 (by decide) ?_
                  exact ih (v_290, fsn_291) _ _ _ ⟨lv_sub hl [0, 4, 1, 5, 6, 7, 8, 9] rfl, hP.sub (ws' := [(xo_8_rrriirrriiiiiiirrirrrrri mo m_la m_sz m_it ms mt m_st m_mv m_tp (nI mz) ml (nI mp) mk mv mb mw m_rd m_ac (nI ma) m_as m_wo m_ik m_ke m_tr (nI mx)), (xI m_st cI 38 fsn_291), (xI m_as cI 38 fan_14)]) [0, 1, 2] rfl, hD.sub (ws' := [(xo_8_rrriirrriiiiiiirrirrrrri mo m_la m_sz m_it ms mt m_st m_mv m_tp (nI mz) ml (nI mp) mk mv mb mw m_rd m_ac (nI ma) m_as m_wo m_ik m_ke m_tr (nI mx)), (xI m_st cI 38 fsn_291), (xI m_as cI 38 fan_14)]) [0, 1, 2] (by decide +kernel) rfl, hS, hT_291, (lf_X8_calm_13 hM hT h999 hT0 hj_1 hkn1 hw1 h01 f_5_1_0 q_5 hj_5 f_8_1_0 q_8 hj_8 f_11_1_0 hsh hs6 hF_14_0 hii1 haii1_0 haii1_1 haii2_0 haii2_1 hMl hF_286_0 hF_286_1 e_288 c_289 e_290 hF_291_0), ((m38_eq hF_291_0).trans ((m38_eq hF_14_0).trans rfl))⟩
                · skip
                  refine lv_lload hx hb dX8_calm_200 (lv_at hl 1 rfl) ?_
                  refine lv_goto (tgt := 206) hx hb dX8_calm_202 (by decide) ?_
                  refine lv_ladd hx hb dX8_calm_206 ?_
                  refine lv_topl (fun v_292 e_292 => ?_)
                  refine lv_lstore (lv' := [(5, .long v_292), (12, .int (nI w9)), (10, .long w_232), (9, .int (nI ii1)), (7, .long (lN (10 ^ w9))), (0, .ref mo), (1, .int (nI j_1)), (2, .int (nI j_5)), (3, .int (nI j_8)), (4, .int a3)]) hx hb dX8_calm_207 hl (by decide) rfl (fun ls hl => ?_)
                  refine lv_aload_n hx hb dX8_calm_209 rfl (lv_at hl 5 rfl) ?_
                  have hc_293 := cutW (wc := [(xo_8_rrriirrriiiiiiirrirrrrri mo m_la m_sz m_it ms mt m_st m_mv m_tp (nI mz) ml (nI mp) mk mv mb mw m_rd m_ac (nI ma) m_as m_wo m_ik m_ke m_tr (nI mx)), (xI m_st cI 38 fsn_286), (xI m_as cI 38 fan_14)]) hP hD hS hA [1, 2, 0] (by decide +kernel) rfl
                  refine va_callv (va_runV (As := []) (rest := []) ⟨hx, hb, hml, hown, hts⟩ (r_X8_takeBack l dC dI cI cZ cL cJ H.size mo m_la m_sz m_it m_st m_mv m_tp m_rd m_ac m_as m_wo m_ik m_ke m_tr ms mt ml mk mv mb mw mz mp ma mx fsn_286 fan_14 ) (cwV 0 hts gX8_calm_X8_takeBack rfl rfl rfl (by decide +kernel) ⟨Nat.le_of_ble_eq_true rfl, Nat.le_of_ble_eq_true rfl⟩) (pvW 8 1 hK hP rfl rfl hc_293) rfl rfl hl.1 rfl (lv_room (Nat.le_of_ble_eq_true rfl)) dX8_calm_210 ⟨Nat.le_of_ble_eq_true rfl, Nat.le_of_ble_eq_true rfl⟩) hS (fun q _ h => hc_293.2.2 q h) hc_293.2.2 (fun u_293 t_293 H1 locs ht hvm h_293 hB hz1 hk1 hS => ?_)
                  refine xl_1_3 hB (fun fsn_293 hP1 hD1 hF_293_0 => ?_)
                  clear hB
                  rw [ht] at hP1
                  obtain ⟨hP, hD⟩ := va_join (wr := []) (w1 := [(xo_8_rrriirrriiiiiiirrirrrrri mo m_la m_sz m_it ms mt m_st m_mv m_tp (nI mz) ml (nI mp) mk mv mb mw m_rd m_ac (nI ma) m_as m_wo m_ik m_ke m_tr (nI mx)), (xI m_st cI 38 fsn_293), (xI m_as cI 38 fan_14)]) hP hD [1, 2, 0] [] rfl rfl (by decide +kernel) (by decide +kernel) hk1 hc_293.2.2 hP1 hD1
                  generalize H1 = H at hP hS ⊢
                  have hP : va_P (dC, dI) vwCl [(xo_8_rrriirrriiiiiiirrirrrrri mo m_la m_sz m_it ms mt m_st m_mv m_tp (nI mz) ml (nI mp) mk mv mb mw m_rd m_ac (nI ma) m_as m_wo m_ik m_ke m_tr (nI mx)), (xI m_st cI 38 fsn_293), (xI m_as cI 38 fan_14)] H := hP
                  have hD := dto hP hD
                  have hT_293 := okM_eq hA_14 hF_293_0
                  refine lv_iinc (v := (nI (ii1 + 1))) (lv' := [(9, .int (nI (ii1 + 1))), (5, .long v_292), (12, .int (nI w9)), (10, .long w_232), (7, .long (lN (10 ^ w9))), (0, .ref mo), (1, .int (nI j_1)), (2, .int (nI j_5)), (3, .int (nI j_8)), (4, .int a3)]) hx hb dX8_calm_213 hl (k := 3) rfl (nI_add ii1 1) (by decide) rfl (fun ls hl => ?_)
                  refine lv_goto (tgt := 85) hx hb dX8_calm_216 (by decide) ?_
                  exact ih (v_292, fsn_293) _ _ _ ⟨lv_sub hl [0, 4, 1, 5, 6, 7, 8, 9] rfl, hP.sub (ws' := [(xo_8_rrriirrriiiiiiirrirrrrri mo m_la m_sz m_it ms mt m_st m_mv m_tp (nI mz) ml (nI mp) mk mv mb mw m_rd m_ac (nI ma) m_as m_wo m_ik m_ke m_tr (nI mx)), (xI m_st cI 38 fsn_293), (xI m_as cI 38 fan_14)]) [0, 1, 2] rfl, hD.sub (ws' := [(xo_8_rrriirrriiiiiiirrirrrrri mo m_la m_sz m_it ms mt m_st m_mv m_tp (nI mz) ml (nI mp) mk mv mb mw m_rd m_ac (nI ma) m_as m_wo m_ik m_ke m_tr (nI mx)), (xI m_st cI 38 fsn_293), (xI m_as cI 38 fan_14)]) [0, 1, 2] (by decide +kernel) rfl, hS, hT_293, (lf_X8_calm_14 hM hT h999 hT0 hj_1 hkn1 hw1 h01 f_5_1_0 q_5 hj_5 f_8_1_0 q_8 hj_8 f_11_1_0 hsh hs6 hF_14_0 hii1 haii1_0 haii1_1 haii2_0 haii2_1 hMl hF_286_0 hF_286_1 e_288 c_289 e_292 hF_293_0), ((m38_eq hF_293_0).trans ((m38_eq hF_14_0).trans rfl))⟩
            · rintro ⟨w_112, w_113⟩ H locs ls ⟨hl, hP, hD, hS, hMl, haii1_0, haii1_1⟩
              refine lv_iload hx hb dX8_calm_85 (lv_at hl 0 rfl) ?_
              refine lv_iconst (v := 1) hx hb dX8_calm_87 (by decide) ?_
              refine lv_aload_n hx hb dX8_calm_88 rfl (lv_at hl 3 rfl) ?_
              refine va_get (D := (dC, dI)) (ci := 8) (v := .ref m_as) (C := RX8) (T := TX8) (N := 24) hx hb hts i_X8_calm_X8 hown hK hP 0 rfl rfl 18 (by decide) (hts _ mx_X8_calm_5) (fun _ h9 => h9) rfl dX8_calm_89 ?_
              refine lv_iconst (v := 3) hx hb dX8_calm_92 (by decide) ?_
              refine va_iald hx hb hK hP 2 0 rfl rfl (by unfold vp_in; decide) dX8_calm_93 ?_
              refine lv_topi (fun v_294 e_294 => ?_)
              obtain rfl : v_294 = (nI w9) := (e_294).trans hA_14.1
              refine lv_ishl hx hb dX8_calm_94 ?_
              refine lv_topi (fun v_295 e_295 => ?_)
              obtain rfl : v_295 = (nI sh) := (e_295).trans hsh
              refine lv_icmp_ge (tgt := 219) hx hb dX8_calm_95 (by decide) (fun _ => ?_) (fun c_ => absurd ((nI_leI (a := sh) (b := sh) (by omega) (by omega)).mpr (by omega)) c_)
              refine lv_lload hx hb dX8_calm_219 (lv_at hl 2 rfl) ?_
              refine lv_lstore (lv' := [(9, .long w_112), (7, .long (lN (10 ^ w9))), (5, .long w_112), (0, .ref mo), (1, .int (nI j_1)), (2, .int (nI j_5)), (3, .int (nI j_8)), (4, .int a3)]) hx hb dX8_calm_221 hl (by decide) rfl (fun ls hl => ?_)
              refine lv_lload hx hb dX8_calm_223 (lv_at hl 1 rfl) ?_
              refine lv_lstore (lv' := [(11, .long (lN (10 ^ w9))), (9, .long w_112), (7, .long (lN (10 ^ w9))), (5, .long w_112), (0, .ref mo), (1, .int (nI j_1)), (2, .int (nI j_5)), (3, .int (nI j_8)), (4, .int a3)]) hx hb dX8_calm_225 hl (by decide) rfl (fun ls hl => ?_)
              have hstE := haii1_1
              refine lp_ms (σ := (Int64) × (Int64)) (fun (st : (Int64) × (Int64)) H locs ls => match st with | (w_302, w_303) => lv_has ls 15 [(11, .long w_302), (9, .long w_303), (7, .long (lN (10 ^ w9))), (5, .long w_112), (0, .ref mo), (1, .int (nI j_1)), (2, .int (nI j_5)), (3, .int (nI j_8)), (4, .int a3)] ∧ va_P (dC, dI) vwCl [(xo_8_rrriirrriiiiiiirrirrrrri mo m_la m_sz m_it ms mt m_st m_mv m_tp (nI mz) ml (nI mp) mk mv mb mw m_rd m_ac (nI ma) m_as m_wo m_ik m_ke m_tr (nI mx)), (xI m_st cI 38 w_113), (xI m_as cI 38 fan_14)] H ∧ va_D A [(xo_8_rrriirrriiiiiiirrirrrrri mo m_la m_sz m_it ms mt m_st m_mv m_tp (nI mz) ml (nI mp) mk mv mb mw m_rd m_ac (nI ma) m_as m_wo m_ik m_ke m_tr (nI mx)), (xI m_st cI 38 w_113), (xI m_as cI 38 fan_14)] ∧ va_S A s.heap H locs ∧ okM w_113 w9 k9 h9 ∧ (¬ (w_302 = 0) ∨ ¬ (w_303 = 0)) ∧ (∃ X Y : Nat, X < 2 ^ 31 ∧ Y < 2 ^ 31 ∧ w_303 = lN X ∧ w_302 = lN Y ∧ Nat.gcd X Y = Nat.gcd (abN (m38 fs) j_1 j_5 j_8 w9 sh) (10 ^ w9))) (fun (st : (Int64) × (Int64)) => match st with | (w_302, w_303) => (w_302).toInt.natAbs) ?_ ((lN (10 ^ w9)), w_112) ⟨lv_sub hl [0, 1, 2, 3, 4, 5, 6, 7, 8] rfl, hP.sub (ws' := [(xo_8_rrriirrriiiiiiirrirrrrri mo m_la m_sz m_it ms mt m_st m_mv m_tp (nI mz) ml (nI mp) mk mv mb mw m_rd m_ac (nI ma) m_as m_wo m_ik m_ke m_tr (nI mx)), (xI m_st cI 38 w_113), (xI m_as cI 38 fan_14)]) [0, 1, 2] rfl, hD.sub (ws' := [(xo_8_rrriirrriiiiiiirrirrrrri mo m_la m_sz m_it ms mt m_st m_mv m_tp (nI mz) ml (nI mp) mk mv mb mw m_rd m_ac (nI ma) m_as m_wo m_ik m_ke m_tr (nI mx)), (xI m_st cI 38 w_113), (xI m_as cI 38 fan_14)]) [0, 1, 2] (by decide +kernel) rfl, hS, hMl, (Or.inl (p10_nz (by omega))), (lf_X8_calm_15 hM hT h999 hT0 hj_1 hkn1 hw1 h01 f_5_1_0 q_5 hj_5 f_8_1_0 q_8 hj_8 f_11_1_0 hsh hs6 hF_14_0 haii1_0 haii1_1 hMl)⟩
              rintro ⟨w_302, w_303⟩ H locs ls ⟨hl, hP, hD, hS, hMl, haf_0, haf_1⟩ ih
              refine lv_lload hx hb dX8_calm_227 (lv_at hl 0 rfl) ?_
              refine lv_lconst (v := 0) hx hb dX8_calm_229 (by decide) ?_
              refine W.lcmp hx hb dX8_calm_230 ?_
              refine lv_if_eq (tgt := 252) hx hb dX8_calm_231 (by decide) (fun c_311 => ?_) (fun c_311 => ?_)
              · have c_311 : w_302 = 0 := (lg_cmp_eq _ _).mp c_311
                have hx0 : ¬ (w_303 = 0) := haf_0.resolve_left (fun q_ => q_ c_311)
                refine lv_iload hx hb dX8_calm_252 (lv_at hl 8 rfl) ?_
                refine lv_if_ne (tgt := 265) hx hb dX8_calm_254 (by decide) (fun c_312 => ?_) (fun c_312 => ?_)
                · skip
                  refine lv_lload hx hb dX8_calm_265 (lv_at hl 2 rfl) ?_
                  refine lv_lload hx hb dX8_calm_267 (lv_at hl 1 rfl) ?_
                  refine lv_ldiv hx hb dX8_calm_269 hx0 ?_
                  refine lv_topl (fun v_313 e_313 => ?_)
                  have hX9 := cut2 (wc := [(xo_8_rrriirrriiiiiiirrirrrrri mo m_la m_sz m_it ms mt m_st m_mv m_tp (nI mz) ml (nI mp) mk mv mb mw m_rd m_ac (nI ma) m_as m_wo m_ik m_ke m_tr (nI mx)), (xI m_st cI 38 w_113), (xI m_as cI 38 fan_14)]) hP hD [0, 1, 2] (by decide +kernel) rfl
                  exact W.lret (v := v_313) hx hb hr (fun t ht hW => ⟨⟨v_313, (), rfl, (lf_X8_calm_16 hM hT h999 hT0 hj_1 hkn1 hw1 h01 f_5_1_0 q_5 hj_5 f_8_1_0 q_8 hj_8 f_11_1_0 hsh hs6 hF_14_0 haii1_0 haii1_1 hMl haf_0 haf_1 c_311 c_312 e_313), ⟨w_113, fan_14, va_Ht ht hX9.1, hX9.2, hMl, hstE⟩⟩, hS.F ht⟩) hS.2.2 dX8_calm_270
                · skip
                  refine lv_lload hx hb dX8_calm_257 (lv_at hl 3 rfl) ?_
                  refine lv_lload hx hb dX8_calm_259 (lv_at hl 1 rfl) ?_
                  refine lv_ldiv hx hb dX8_calm_261 hx0 ?_
                  refine lv_topl (fun v_314 e_314 => ?_)
                  refine lv_goto (tgt := 270) hx hb dX8_calm_262 (by decide) ?_
                  have hX9 := cut2 (wc := [(xo_8_rrriirrriiiiiiirrirrrrri mo m_la m_sz m_it ms mt m_st m_mv m_tp (nI mz) ml (nI mp) mk mv mb mw m_rd m_ac (nI ma) m_as m_wo m_ik m_ke m_tr (nI mx)), (xI m_st cI 38 w_113), (xI m_as cI 38 fan_14)]) hP hD [0, 1, 2] (by decide +kernel) rfl
                  exact W.lret (v := v_314) hx hb hr (fun t ht hW => ⟨⟨v_314, (), rfl, (lf_X8_calm_17 hM hT h999 hT0 hj_1 hkn1 hw1 h01 f_5_1_0 q_5 hj_5 f_8_1_0 q_8 hj_8 f_11_1_0 hsh hs6 hF_14_0 haii1_0 haii1_1 hMl haf_0 haf_1 c_311 c_312 e_314), ⟨w_113, fan_14, va_Ht ht hX9.1, hX9.2, hMl, hstE⟩⟩, hS.F ht⟩) hS.2.2 dX8_calm_270
              · have c_311 : ¬ (w_302 = 0) := fun h => c_311 ((lg_cmp_eq _ _).mpr h)
                refine lv_lload hx hb dX8_calm_234 (lv_at hl 1 rfl) ?_
                refine lv_lload hx hb dX8_calm_236 (lv_at hl 0 rfl) ?_
                refine lv_lrem hx hb dX8_calm_238 c_311 ?_
                refine lv_topl (fun v_315 e_315 => ?_)
                refine lv_lstore (lv' := [(13, .long v_315), (11, .long w_302), (9, .long w_303), (7, .long (lN (10 ^ w9))), (5, .long w_112), (0, .ref mo), (1, .int (nI j_1)), (2, .int (nI j_5)), (3, .int (nI j_8)), (4, .int a3)]) hx hb dX8_calm_239 hl (by decide) rfl (fun ls hl => ?_)
                refine lv_lload hx hb dX8_calm_241 (lv_at hl 1 rfl) ?_
                refine lv_lstore (lv' := [(9, .long w_302), (13, .long v_315), (11, .long w_302), (7, .long (lN (10 ^ w9))), (5, .long w_112), (0, .ref mo), (1, .int (nI j_1)), (2, .int (nI j_5)), (3, .int (nI j_8)), (4, .int a3)]) hx hb dX8_calm_243 hl (by decide) rfl (fun ls hl => ?_)
                refine lv_lload hx hb dX8_calm_245 (lv_at hl 1 rfl) ?_
                refine lv_lstore (lv' := [(11, .long v_315), (9, .long w_302), (13, .long v_315), (7, .long (lN (10 ^ w9))), (5, .long w_112), (0, .ref mo), (1, .int (nI j_1)), (2, .int (nI j_5)), (3, .int (nI j_8)), (4, .int a3)]) hx hb dX8_calm_247 hl (by decide) rfl (fun ls hl => ?_)
                refine lv_goto (tgt := 227) hx hb dX8_calm_249 (by decide) ?_
                exact ih (v_315, w_302) _ _ _ (by show Int.natAbs (Int64.toInt v_315) < _; rw [e_315]; exact lrem_lt c_311) ⟨lv_sub hl [0, 1, 3, 4, 5, 6, 7, 8, 9] rfl, hP.sub (ws' := [(xo_8_rrriirrriiiiiiirrirrrrri mo m_la m_sz m_it ms mt m_st m_mv m_tp (nI mz) ml (nI mp) mk mv mb mw m_rd m_ac (nI ma) m_as m_wo m_ik m_ke m_tr (nI mx)), (xI m_st cI 38 w_113), (xI m_as cI 38 fan_14)]) [0, 1, 2] rfl, hD.sub (ws' := [(xo_8_rrriirrriiiiiiirrirrrrri mo m_la m_sz m_it ms mt m_st m_mv m_tp (nI mz) ml (nI mp) mk mv mb mw m_rd m_ac (nI ma) m_as m_wo m_ik m_ke m_tr (nI mx)), (xI m_st cI 38 w_113), (xI m_as cI 38 fan_14)]) [0, 1, 2] (by decide +kernel) rfl, hS, hMl, (Or.inr c_311), (lf_X8_calm_18 hM hT h999 hT0 hj_1 hkn1 hw1 h01 f_5_1_0 q_5 hj_5 f_8_1_0 q_8 hj_8 f_11_1_0 hsh hs6 hF_14_0 haii1_0 haii1_1 hMl haf_0 haf_1 c_311 e_315)⟩
theorem lf_X8_ones_1 {j : Nat} (hj : j < 64) : 0 + nI (onN j) = nI (onN j) := by
  first | (exact (Int32.zero_add _)) | (subst_vars; exact on_nI haf_0 (by omega) (by omega) rfl) | (refine Eq.trans ?_ (on_nI haf_0 (by omega) (by omega) (by assumption)); grind)
theorem lf_X8_ones_2 {j : Nat} {w_4 : Nat} {w_5 : Int32} (hj : j < 64) (haf_0 : (w_5 + nI (onN w_4) = nI (onN j))) (hnb_w_4 : w_4 ≤ 63) (c_12 : w_4 = 0) : w_5 = (nI (onN j)) := by
  first | (have h8 : onN 0 = 0 := rfl; grind [nI_0]) | grind
theorem lf_X8_ones_3 {j : Nat} {w_4 : Nat} {w_5 : Int32} {v_13 : Int32} {z_15 : Nat} (hj : j < 64) (haf_0 : (w_5 + nI (onN w_4) = nI (onN j))) (hnb_w_4 : w_4 ≤ 63) (c_12 : ¬ (w_4 = 0)) (e_13 : v_13 = w_5 + Int32.ofInt 1) (hz_15 : z_15 ≤ (w_4 - 1)) (hze_15 : z_15 = w_4 &&& (w_4 - 1)) : v_13 + nI (onN z_15) = nI (onN j) := by
  first | (exact (Int32.zero_add _)) | (subst_vars; exact on_nI haf_0 (by omega) (by omega) rfl) | (refine Eq.trans ?_ (on_nI haf_0 (by omega) (by omega) (by assumption)); grind)
set_option maxHeartbeats 4000000 in
set_option maxRecDepth 100000 in
theorem r_X8_ones (l : Launch) (dC : Nat → ClassId) (dI : Nat → Nat → Nat) (cI cZ cL cJ : ClassId) (j : Nat) (hj : j < 64) : Met l yX8_ones wsX8_ones ({ frames := 0, cells := 0, slots := 0, locals := 0 }) (va_Pc [.int (nI j)] (fun U => va_P (dC, dI) vwCl [] U.heap ∧ va_K (dC, dI) vwCl [(cI, .int), (cZ, .boolean), (cL, .object RX3), (cJ, .array .int)] U)) (vp_Si (fun r => r = (nI (onN j)))) 0 0 (fun _ => False) := by
  refine Met.ofW (cc := cX8_ones) (maxL := 3) (ret := (some .int)) (by decide) rfl ?_
  intro p e s m args below meth c s₁ B hml hv
  obtain ⟨rfl, hP, hK⟩ := hv
  have hx := B.exec
  have hb := B.bytes
  have hr := B.returns
  have hts := atoms_spec (ws := wsX8_ones) B.pre
  have hown : s.vm.findClass RX8 = some m.cls := findClass_of_methodNamed B.named
  have hlocks := B.notSynchronized
  have hP : va_P (dC, dI) vwCl [] s.heap := hP
  have hl := lv_entry ([.int (nI j)]) (n := 3) (Nat.le_of_ble_eq_true rfl)
  rw [lg_entry_eq]
  generalize (lg_sl ([.int (nI j)]) ++ List.replicate (3 - (lg_sl ([.int (nI j)])).length) Slot.unset).toArray = ls at hl ⊢
  have hl : lv_has ls 3 [(0, .int (nI j))] := hl
  refine lv_iconst (v := 0) hx hb dX8_ones_0 (by decide) ?_
  refine lv_istore_n (lv' := [(1, .int 0), (0, .int (nI j))]) hx hb dX8_ones_1 rfl hl (by decide) rfl (fun ls hl => ?_)
  refine lv_iload_n hx hb dX8_ones_2 rfl (lv_at hl 1 rfl) ?_
  refine lv_istore_n (lv' := [(2, .int (nI j)), (1, .int 0), (0, .int (nI j))]) hx hb dX8_ones_3 rfl hl (by decide) rfl (fun ls hl => ?_)
  refine lp_ms (σ := (Nat) × (Int32)) (fun (st : (Nat) × (Int32)) H locs ls => match st with | (w_4, w_5) => lv_has ls 3 [(2, .int (nI w_4)), (1, .int w_5), (0, .int (nI j))] ∧ H = s.heap ∧ locs = [] ∧ (w_5 + nI (onN w_4) = nI (onN j)) ∧ w_4 ≤ 63) (fun (st : (Nat) × (Int32)) => match st with | (w_4, w_5) => w_4) ?_ (j, 0) ⟨lv_sub hl [0, 1, 2] rfl, rfl, rfl, (lf_X8_ones_1 hj), (by omega)⟩
  rintro ⟨w_4, w_5⟩ H locs ls ⟨hl, rfl, rfl, haf_0, hnb_w_4⟩ ih
  refine lv_iload_n hx hb dX8_ones_4 rfl (lv_at hl 0 rfl) ?_
  refine lv_if_eq (tgt := 20) hx hb dX8_ones_5 (by decide) (fun c_12 => ?_) (fun c_12 => ?_)
  · have c_12 : w_4 = 0 := (nI_eq (a := w_4) (b := 0) (by omega) (by omega)).mp c_12
    refine lv_iload_n hx hb dX8_ones_20 rfl (lv_at hl 1 rfl) ?_
    exact W.iret (v := w_5) hx hb hr (fun t ht hW => ⟨w_5, rfl, (lf_X8_ones_2 hj haf_0 hnb_w_4 c_12), ht⟩) (fun _ h => by cases h) dX8_ones_21
  · have c_12 : ¬ (w_4 = 0) := fun q_ => c_12 ((nI_eq (a := w_4) (b := 0) (by omega) (by omega)).mpr q_)
    obtain ⟨v_13, e_13⟩ : ∃ y : Int32, y = w_5 + Int32.ofInt 1 := ⟨_, rfl⟩
    refine lv_iinc (v := v_13) (lv' := [(1, .int v_13), (2, .int (nI w_4)), (0, .int (nI j))]) hx hb dX8_ones_8 hl (k := 1) rfl e_13.symm (by decide) rfl (fun ls hl => ?_)
    refine lv_iload_n hx hb dX8_ones_11 rfl (lv_at hl 1 rfl) ?_
    refine lv_iload_n hx hb dX8_ones_12 rfl (lv_at hl 1 rfl) ?_
    refine lv_iconst (v := 1) hx hb dX8_ones_13 (by decide) ?_
    refine lv_isub hx hb dX8_ones_14 ?_
    refine lv_topi (fun v_14 e_14 => ?_)
    obtain rfl : v_14 = (nI (w_4 - 1)) := (e_14).trans (pk_sub (a := w_4) (b := 1) (by omega))
    refine lv_iand hx hb dX8_ones_15 ?_
    refine lv_topi (fun v_15 e_15 => ?_)
    obtain ⟨z_15, hz_15, hze_15, e2_15⟩ := and_nat (a := w_4) (b := (w_4 - 1)) (by omega) (by omega)
    obtain rfl : v_15 = nI z_15 := e_15.trans e2_15
    refine lv_istore_n (lv' := [(2, .int (nI z_15)), (1, .int v_13), (0, .int (nI j))]) hx hb dX8_ones_16 rfl hl (by decide) rfl (fun ls hl => ?_)
    refine lv_goto (tgt := 4) hx hb dX8_ones_17 (by decide) ?_
    exact ih (z_15, v_13) _ _ _ (by show z_15 < w_4; omega) ⟨lv_sub hl [0, 1, 2] rfl, rfl, rfl, (lf_X8_ones_3 hj haf_0 hnb_w_4 c_12 e_13 hz_15 hze_15), (by omega)⟩
set_option maxHeartbeats 4000000 in
set_option maxRecDepth 100000 in
theorem r_X8_drawn (l : Launch) (dC : Nat → ClassId) (dI : Nat → Nat → Nat) (cI cZ cL cJ : ClassId) (sz : Nat) (mo : Nat) (m_la : Nat) (m_sz : Nat) (m_it : Nat) (m_st : Nat) (m_mv : Nat) (m_tp : Nat) (m_rd : Nat) (m_ac : Nat) (m_as : Nat) (m_wo : Nat) (m_ik : Nat) (m_ke : Nat) (m_tr : Nat) (ms : Int32) (mt : Int32) (ml : Int32) (mk : Int32) (mv : Int32) (mb : Int32) (mw : Int32) (mz : Nat) (mp : Nat) (ma : Nat) (mx : Nat) (fs : Nat → Int32) (w9 : Nat) (k9 : Nat) (h9 : Nat) (fa : Nat → Int32) (a0 : Int32) (a1 : Int32) (a2 : Int32) (hM : okM fs w9 k9 h9) (hT : ¬ mt = 0 → 1 ≤ k9) (h999 : h9 ≤ 999) (hT0 : mt = 0 → fs 0 = 0 ∧ ma = 0) : Met l yX8_drawn wsX8_drawn ({ frames := 4, cells := 0, slots := 0, locals := 95 }) (va_Pc [.ref mo, .int a0, .int a1, .int a2] (fun U => U.heap.size = sz ∧ va_P (dC, dI) vwCl [(xo_8_rrriirrriiiiiiirrirrrrri mo m_la m_sz m_it ms mt m_st m_mv m_tp (nI mz) ml (nI mp) mk mv mb mw m_rd m_ac (nI ma) m_as m_wo m_ik m_ke m_tr (nI mx)), (xI m_st cI 38 fs), (xI m_as cI 38 fa)] U.heap ∧ va_K (dC, dI) vwCl [(cI, .int), (cZ, .boolean), (cL, .object RX3), (cJ, .array .int)] U ∧ va_D (fun _ => True) [(xo_8_rrriirrriiiiiiirrirrrrri mo m_la m_sz m_it ms mt m_st m_mv m_tp (nI mz) ml (nI mp) mk mv mb mw m_rd m_ac (nI ma) m_as m_wo m_ik m_ke m_tr (nI mx)), (xI m_st cI 38 fs), (xI m_as cI 38 fa)])) (va_Qi (fun r (_ : Unit) => True) (fun (_ : Unit) t => ∃ (fsn : Nat → Int32) (fan : Nat → Int32), va_P (dC, dI) vwCl [(xo_8_rrriirrriiiiiiirrirrrrri mo m_la m_sz m_it ms mt m_st m_mv m_tp (nI mz) ml (nI mp) mk mv mb mw m_rd m_ac (nI ma) m_as m_wo m_ik m_ke m_tr (nI mx)), (xI m_st cI 38 fsn), (xI m_as cI 38 fan)] t.heap ∧ va_D (va_A [(xo_8_rrriirrriiiiiiirrirrrrri mo m_la m_sz m_it ms mt m_st m_mv m_tp (nI mz) ml (nI mp) mk mv mb mw m_rd m_ac (nI ma) m_as m_wo m_ik m_ke m_tr (nI mx)), (xI m_st cI 38 fs), (xI m_as cI 38 fa)] sz) [(xo_8_rrriirrriiiiiiirrirrrrri mo m_la m_sz m_it ms mt m_st m_mv m_tp (nI mz) ml (nI mp) mk mv mb mw m_rd m_ac (nI ma) m_as m_wo m_ik m_ke m_tr (nI mx)), (xI m_st cI 38 fsn), (xI m_as cI 38 fan)] ∧ okM fsn w9 k9 h9 ∧ m38 fsn = m38 fs) (va_A [(xo_8_rrriirrriiiiiiirrirrrrri mo m_la m_sz m_it ms mt m_st m_mv m_tp (nI mz) ml (nI mp) mk mv mb mw m_rd m_ac (nI ma) m_as m_wo m_ik m_ke m_tr (nI mx)), (xI m_st cI 38 fs), (xI m_as cI 38 fa)] sz)) 0 0 (va_A [(xo_8_rrriirrriiiiiiirrirrrrri mo m_la m_sz m_it ms mt m_st m_mv m_tp (nI mz) ml (nI mp) mk mv mb mw m_rd m_ac (nI ma) m_as m_wo m_ik m_ke m_tr (nI mx)), (xI m_st cI 38 fs), (xI m_as cI 38 fa)] sz) := by
  refine Met.ofW (cc := cX8_drawn) (maxL := 9) (ret := (some .int)) (by decide) rfl ?_
  intro p e s m args below meth c s₁ B hml hv
  obtain ⟨rfl, hsz, hP, hK, hD0⟩ := hv
  have hx := B.exec
  have hb := B.bytes
  have hr := B.returns
  have hts := atoms_spec (ws := wsX8_drawn) B.pre
  have hown : s.vm.findClass RX8 = some m.cls := findClass_of_methodNamed B.named
  have hlocks := B.notSynchronized
  subst hsz
  have hD := hD0.self (sz := s.heap.size)
  generalize hAe : va_A [(xo_8_rrriirrriiiiiiirrirrrrri mo m_la m_sz m_it ms mt m_st m_mv m_tp (nI mz) ml (nI mp) mk mv mb mw m_rd m_ac (nI ma) m_as m_wo m_ik m_ke m_tr (nI mx)), (xI m_st cI 38 fs), (xI m_as cI 38 fa)] s.heap.size = A at hD ⊢
  have hA : ∀ q : Nat, s.heap.size ≤ q → A q := fun q h => by rw [← hAe]; exact Or.inr h
  have hS : va_S A s.heap s.heap [] := va_S.rf
  have hP : va_P (dC, dI) vwCl [(xo_8_rrriirrriiiiiiirrirrrrri mo m_la m_sz m_it ms mt m_st m_mv m_tp (nI mz) ml (nI mp) mk mv mb mw m_rd m_ac (nI ma) m_as m_wo m_ik m_ke m_tr (nI mx)), (xI m_st cI 38 fs), (xI m_as cI 38 fa)] s.heap := hP
  have hl := lv_entry ([.ref mo, .int a0, .int a1, .int a2]) (n := 9) (Nat.le_of_ble_eq_true rfl)
  rw [lg_entry_eq]
  generalize (lg_sl ([.ref mo, .int a0, .int a1, .int a2]) ++ List.replicate (9 - (lg_sl ([.ref mo, .int a0, .int a1, .int a2])).length) Slot.unset).toArray = ls at hl ⊢
  have hl : lv_has ls 9 [(0, .ref mo), (1, .int a0), (2, .int a1), (3, .int a2)] := hl
  have hk6 := hM.2.2.2.2.1
  have hw6 := hM.2.2.2.1
  refine lv_aload_n hx hb dX8_drawn_0 rfl (lv_at hl 0 rfl) ?_
  refine va_get (D := (dC, dI)) (ci := 8) (v := .int mt) (C := RX8) (T := TX8) (N := 24) hx hb hts i_X8_drawn_X8 hown hK hP 0 rfl rfl 4 (by decide) (hts _ mx_X8_drawn_1) (fun _ h9 => h9) rfl dX8_drawn_1 ?_
  refine lv_if_ne (tgt := 10) hx hb dX8_drawn_4 (by decide) (fun c_1 => ?_) (fun c_1 => ?_)
  · skip
    have hkn1 := hT c_1
    have hw1 := hM.2.2.2.2.2.1.mp hkn1
    refine lv_iload_n hx hb dX8_drawn_10 rfl (lv_at hl 1 rfl) ?_
    refine lv_i2l hx hb dX8_drawn_11 rfl ?_
    refine lv_lconst (v := 0) hx hb dX8_drawn_12 (by decide) ?_
    refine lv_ldc2 (own := RX8) (v := 60) hx hb hown (hts _ mx_X8_drawn_3) dX8_drawn_13 ?_
    have hPc_2 := hP.sub (ws' := []) [] rfl
    refine vp_callSi (W.runS (As := [.long (a0).toInt64, .long 0, .long 60]) (rest := []) ⟨hx, hb, hml, hown, hts⟩ (r_X8_in l dC dI cI cZ cL cJ ((a0).toInt64) 0 60 ) (va_cwS 3 hts gX8_drawn_X8_in rfl rfl rfl (by decide +kernel) ⟨Nat.le_of_ble_eq_true rfl, Nat.le_of_ble_eq_true rfl⟩) (psP hK hPc_2) rfl rfl hl.1 rfl (lv_room (Nat.le_of_ble_eq_true rfl)) dX8_drawn_16 ⟨Nat.le_of_ble_eq_true rfl, Nat.le_of_ble_eq_true rfl⟩) (fun r_2 h_2 => ?_)
    rcases h_2 with ⟨h_2, f_2_0_0⟩ | ⟨h_2, f_2_1_0⟩
    · subst h_2
      refine lv_if_eq (tgt := 41) hx hb dX8_drawn_19 (by decide) (fun _ => ?_) (fun c_ => absurd (by decide) c_)
      refine lv_ldc (own := RX8) (v := (-1000001)) hx hb hown (hts _ mx_X8_drawn_5) dX8_drawn_41 ?_
      have hX9 := cut2 (wc := [(xo_8_rrriirrriiiiiiirrirrrrri mo m_la m_sz m_it ms mt m_st m_mv m_tp (nI mz) ml (nI mp) mk mv mb mw m_rd m_ac (nI ma) m_as m_wo m_ik m_ke m_tr (nI mx)), (xI m_st cI 38 fs), (xI m_as cI 38 fa)]) hP hD [0, 1, 2] (by decide +kernel) rfl
      exact W.iret (v := (-1000001)) hx hb hr (fun t ht hW => ⟨⟨(-1000001), (), rfl, trivial, ⟨fs, fa, va_Ht ht hX9.1, hX9.2, hM, rfl⟩⟩, hS.F ht⟩) hS.2.2 dX8_drawn_43
    · subst h_2
      obtain ⟨j_2, hj_2, hl_2, rfl⟩ := in64 (lo := 0) (n := 60) rfl rfl (by decide) f_2_1_0
      refine lv_if_eq (tgt := 41) hx hb dX8_drawn_19 (by decide) (fun c_ => absurd c_ (by decide)) (fun _ => ?_)
      refine lv_iload_n hx hb dX8_drawn_22 rfl (lv_at hl 2 rfl) ?_
      refine lv_i2l hx hb dX8_drawn_23 rfl ?_
      refine lv_lconst (v := 1) hx hb dX8_drawn_24 (by decide) ?_
      refine lv_ldc2 (own := RX8) (v := 999999) hx hb hown (hts _ mx_X8_drawn_4) dX8_drawn_25 ?_
      have hPc_5 := hP.sub (ws' := []) [] rfl
      refine vp_callSi (W.runS (As := [.long (a1).toInt64, .long 1, .long 999999]) (rest := []) ⟨hx, hb, hml, hown, hts⟩ (r_X8_in l dC dI cI cZ cL cJ ((a1).toInt64) 1 999999 ) (va_cwS 3 hts gX8_drawn_X8_in rfl rfl rfl (by decide +kernel) ⟨Nat.le_of_ble_eq_true rfl, Nat.le_of_ble_eq_true rfl⟩) (psP hK hPc_5) rfl rfl hl.1 rfl (lv_room (Nat.le_of_ble_eq_true rfl)) dX8_drawn_28 ⟨Nat.le_of_ble_eq_true rfl, Nat.le_of_ble_eq_true rfl⟩) (fun r_5 h_5 => ?_)
      rcases h_5 with ⟨h_5, f_5_0_0⟩ | ⟨h_5, f_5_1_0⟩
      · subst h_5
        refine lv_if_eq (tgt := 41) hx hb dX8_drawn_31 (by decide) (fun _ => ?_) (fun c_ => absurd (by decide) c_)
        refine lv_ldc (own := RX8) (v := (-1000001)) hx hb hown (hts _ mx_X8_drawn_5) dX8_drawn_41 ?_
        have hX9 := cut2 (wc := [(xo_8_rrriirrriiiiiiirrirrrrri mo m_la m_sz m_it ms mt m_st m_mv m_tp (nI mz) ml (nI mp) mk mv mb mw m_rd m_ac (nI ma) m_as m_wo m_ik m_ke m_tr (nI mx)), (xI m_st cI 38 fs), (xI m_as cI 38 fa)]) hP hD [0, 1, 2] (by decide +kernel) rfl
        exact W.iret (v := (-1000001)) hx hb hr (fun t ht hW => ⟨⟨(-1000001), (), rfl, trivial, ⟨fs, fa, va_Ht ht hX9.1, hX9.2, hM, rfl⟩⟩, hS.F ht⟩) hS.2.2 dX8_drawn_43
      · subst h_5
        obtain ⟨j_5, hj_5, hl_5, rfl⟩ := in64 (lo := 1) (n := 999999) rfl rfl (by decide) f_5_1_0
        refine lv_if_eq (tgt := 41) hx hb dX8_drawn_31 (by decide) (fun c_ => absurd c_ (by decide)) (fun _ => ?_)
        refine lv_iload_n hx hb dX8_drawn_34 rfl (lv_at hl 3 rfl) ?_
        have hPc_8 := hP.sub (ws' := []) [] rfl
        refine vp_callSi (W.runS (As := [.int a2]) (rest := []) ⟨hx, hb, hml, hown, hts⟩ (r_X8_isWhat l dC dI cI cZ cL cJ a2 ) (va_cwS 1 hts gX8_drawn_X8_isWhat rfl rfl rfl (by decide +kernel) ⟨Nat.le_of_ble_eq_true rfl, Nat.le_of_ble_eq_true rfl⟩) (psP hK hPc_8) rfl rfl hl.1 rfl (lv_room (Nat.le_of_ble_eq_true rfl)) dX8_drawn_35 ⟨Nat.le_of_ble_eq_true rfl, Nat.le_of_ble_eq_true rfl⟩) (fun r_8 h_8 => ?_)
        rcases h_8 with ⟨h_8, f_8_0_0⟩ | ⟨h_8, f_8_1_0⟩
        · subst h_8
          refine lv_if_ne (tgt := 44) hx hb dX8_drawn_38 (by decide) (fun c_ => absurd (by decide) c_) (fun _ => ?_)
          refine lv_ldc (own := RX8) (v := (-1000001)) hx hb hown (hts _ mx_X8_drawn_5) dX8_drawn_41 ?_
          have hX9 := cut2 (wc := [(xo_8_rrriirrriiiiiiirrirrrrri mo m_la m_sz m_it ms mt m_st m_mv m_tp (nI mz) ml (nI mp) mk mv mb mw m_rd m_ac (nI ma) m_as m_wo m_ik m_ke m_tr (nI mx)), (xI m_st cI 38 fs), (xI m_as cI 38 fa)]) hP hD [0, 1, 2] (by decide +kernel) rfl
          exact W.iret (v := (-1000001)) hx hb hr (fun t ht hW => ⟨⟨(-1000001), (), rfl, trivial, ⟨fs, fa, va_Ht ht hX9.1, hX9.2, hM, rfl⟩⟩, hS.F ht⟩) hS.2.2 dX8_drawn_43
        · subst h_8
          refine lv_if_ne (tgt := 44) hx hb dX8_drawn_38 (by decide) (fun _ => ?_) (fun c_ => absurd c_ (by decide))
          refine lv_aload_n hx hb dX8_drawn_44 rfl (lv_at hl 0 rfl) ?_
          have hc_11 := cutW (wc := [(xo_8_rrriirrriiiiiiirrirrrrri mo m_la m_sz m_it ms mt m_st m_mv m_tp (nI mz) ml (nI mp) mk mv mb mw m_rd m_ac (nI ma) m_as m_wo m_ik m_ke m_tr (nI mx)), (xI m_st cI 38 fs), (xI m_as cI 38 fa)]) hP hD hS hA [0, 1, 2] (by decide +kernel) rfl
          refine va_callv (va_runV (As := []) (rest := []) ⟨hx, hb, hml, hown, hts⟩ (r_X8_putAside l dC dI cI cZ cL cJ s.heap.size mo m_la m_sz m_it m_st m_mv m_tp m_rd m_ac m_as m_wo m_ik m_ke m_tr ms mt ml mk mv mb mw mz mp ma mx fs fa ) (cwV 0 hts gX8_drawn_X8_putAside rfl rfl rfl (by decide +kernel) ⟨Nat.le_of_ble_eq_true rfl, Nat.le_of_ble_eq_true rfl⟩) (pvW 8 0 hK hP rfl rfl hc_11) rfl rfl hl.1 rfl (lv_room (Nat.le_of_ble_eq_true rfl)) dX8_drawn_45 ⟨Nat.le_of_ble_eq_true rfl, Nat.le_of_ble_eq_true rfl⟩) hS (fun q _ h => hc_11.2.2 q h) hc_11.2.2 (fun u_11 t_11 H1 locs ht hvm h_11 hB hz1 hk1 hS => ?_)
          refine xl_1_3 hB (fun fan_11 hP1 hD1 hF_11_0 => ?_)
          clear hB
          rw [ht] at hP1
          obtain ⟨hP, hD⟩ := va_join (wr := []) (w1 := [(xo_8_rrriirrriiiiiiirrirrrrri mo m_la m_sz m_it ms mt m_st m_mv m_tp (nI mz) ml (nI mp) mk mv mb mw m_rd m_ac (nI ma) m_as m_wo m_ik m_ke m_tr (nI mx)), (xI m_st cI 38 fs), (xI m_as cI 38 fan_11)]) hP hD [0, 1, 2] [] rfl rfl (by decide +kernel) (by decide +kernel) hk1 hc_11.2.2 hP1 hD1
          generalize H1 = H at hP hS ⊢
          have hP : va_P (dC, dI) vwCl [(xo_8_rrriirrriiiiiiirrirrrrri mo m_la m_sz m_it ms mt m_st m_mv m_tp (nI mz) ml (nI mp) mk mv mb mw m_rd m_ac (nI ma) m_as m_wo m_ik m_ke m_tr (nI mx)), (xI m_st cI 38 fs), (xI m_as cI 38 fan_11)] H := hP
          have hD := dto hP hD
          have hA_11 := okM_eq hM hF_11_0
          refine lv_iload_n hx hb dX8_drawn_48 rfl (lv_at hl 2 rfl) ?_
          refine lv_i2l (v := (lN j_5)) hx hb dX8_drawn_49 (nI_l (by omega)) ?_
          refine lv_lstore (lv' := [(4, .long (lN j_5)), (0, .ref mo), (1, .int (nI j_2)), (2, .int (nI j_5)), (3, .int a2)]) hx hb dX8_drawn_50 hl (by decide) rfl (fun ls hl => ?_)
          refine lv_iconst (v := 0) hx hb dX8_drawn_52 (by decide) ?_
          refine lv_istore (lv' := [(6, .int 0), (4, .long (lN j_5)), (0, .ref mo), (1, .int (nI j_2)), (2, .int (nI j_5)), (3, .int a2)]) hx hb dX8_drawn_53 hl (by decide) rfl (fun ls hl => ?_)
          refine lv_iconst (v := 0) hx hb dX8_drawn_55 (by decide) ?_
          refine lv_istore (lv' := [(7, .int 0), (6, .int 0), (4, .long (lN j_5)), (0, .ref mo), (1, .int (nI j_2)), (2, .int (nI j_5)), (3, .int a2)]) hx hb dX8_drawn_56 hl (by decide) rfl (fun ls hl => ?_)
          refine lp_go (σ := (Int32) × (Nat) × (Nat → Int32)) (fun ii (st : (Int32) × (Nat) × (Nat → Int32)) H locs ls => match st with | (w_55, w_56, w_57) => lv_has ls 9 [(7, .int (nI ii)), (6, .int w_55), (4, .long (lN w_56)), (0, .ref mo), (1, .int (nI j_2)), (2, .int (nI j_5)), (3, .int a2)] ∧ va_P (dC, dI) vwCl [(xo_8_rrriirrriiiiiiirrirrrrri mo m_la m_sz m_it ms mt m_st m_mv m_tp (nI mz) ml (nI mp) mk mv mb mw m_rd m_ac (nI ma) m_as m_wo m_ik m_ke m_tr (nI mx)), (xI m_st cI 38 w_57), (xI m_as cI 38 fan_11)] H ∧ va_D A [(xo_8_rrriirrriiiiiiirrirrrrri mo m_la m_sz m_it ms mt m_st m_mv m_tp (nI mz) ml (nI mp) mk mv mb mw m_rd m_ac (nI ma) m_as m_wo m_ik m_ke m_tr (nI mx)), (xI m_st cI 38 w_57), (xI m_as cI 38 fan_11)] ∧ va_S A s.heap H locs ∧ okM w_57 w9 k9 (h9 + ii) ∧ w_56 ≤ 2147483646) j_2 ?_ ?_ 0 (by omega) (0, j_5, fs) ⟨lv_sub hl [0, 1, 2, 3, 4, 5, 6] rfl, hP.sub (ws' := [(xo_8_rrriirrriiiiiiirrirrrrri mo m_la m_sz m_it ms mt m_st m_mv m_tp (nI mz) ml (nI mp) mk mv mb mw m_rd m_ac (nI ma) m_as m_wo m_ik m_ke m_tr (nI mx)), (xI m_st cI 38 fs), (xI m_as cI 38 fan_11)]) [0, 1, 2] rfl, hD.sub (ws' := [(xo_8_rrriirrriiiiiiirrirrrrri mo m_la m_sz m_it ms mt m_st m_mv m_tp (nI mz) ml (nI mp) mk mv mb mw m_rd m_ac (nI ma) m_as m_wo m_ik m_ke m_tr (nI mx)), (xI m_st cI 38 fs), (xI m_as cI 38 fan_11)]) [0, 1, 2] (by decide +kernel) rfl, hS, hM, (by omega)⟩
          · rintro ii ⟨w_55, w_56, w_57⟩ H locs ls hii ⟨hl, hP, hD, hS, hMl, hnb_w_56⟩ ih
            refine lv_iload hx hb dX8_drawn_58 (lv_at hl 0 rfl) ?_
            refine lv_iload_n hx hb dX8_drawn_60 rfl (lv_at hl 4 rfl) ?_
            refine lv_icmp_ge (tgt := 194) hx hb dX8_drawn_61 (by decide) (fun c_ => absurd c_ (fun q_ => absurd ((nI_leI (a := j_2) (b := ii) (by omega) (by omega)).mp q_) (by omega))) (fun _ => ?_)
            refine lv_lload hx hb dX8_drawn_64 (lv_at hl 2 rfl) ?_
            refine lv_ldc2 (own := RX8) (v := 16807) hx hb hown (hts _ mx_X8_drawn_6) dX8_drawn_66 ?_
            refine lv_lmul hx hb dX8_drawn_69 ?_
            refine lv_topl (fun v_105 e_105 => ?_)
            obtain rfl : v_105 = (lN (w_56 * 16807)) := (e_105).trans (lN_mul w_56 16807)
            refine lv_ldc2 (own := RX8) (v := 2147483647) hx hb hown (hts _ mx_X8_drawn_7) dX8_drawn_70 ?_
            refine lv_lrem hx hb dX8_drawn_73 (by decide) ?_
            refine lv_topl (fun v_106 e_106 => ?_)
            obtain ⟨z_106, hz_106, rfl⟩ : ∃ z : Nat, z < 2147483647 ∧ v_106 = lN z := ⟨(w_56 * 16807) % 2147483647, Nat.mod_lt _ (by omega), e_106.trans (pk_lRem (a := (w_56 * 16807)) (b := 2147483647) (by omega) (by omega) (by omega))⟩
            refine lv_lstore (lv' := [(4, .long (lN z_106)), (7, .int (nI ii)), (6, .int w_55), (0, .ref mo), (1, .int (nI j_2)), (2, .int (nI j_5)), (3, .int a2)]) hx hb dX8_drawn_74 hl (by decide) rfl (fun ls hl => ?_)
            refine lv_lload hx hb dX8_drawn_76 (lv_at hl 0 rfl) ?_
            refine lv_ldc2 (own := RX8) (v := 3) hx hb hown (hts _ mx_X8_drawn_8) dX8_drawn_78 ?_
            refine lv_lrem hx hb dX8_drawn_81 (by decide) ?_
            refine lv_topl (fun v_107 e_107 => ?_)
            obtain ⟨z_107, hz_107, rfl⟩ : ∃ z : Nat, z < 3 ∧ v_107 = lN z := ⟨z_106 % 3, Nat.mod_lt _ (by omega), e_107.trans (pk_lRem (a := z_106) (b := 3) (by omega) (by omega) (by omega))⟩
            refine lv_lconst (v := 0) hx hb dX8_drawn_82 (by decide) ?_
            refine W.lcmp hx hb dX8_drawn_83 ?_
            refine lv_topi (fun v_108 e_108 => ?_)
            refine jn (σ := (Nat → Int32)) (fun (st : (Nat → Int32)) H locs g => match st with | w_115 => ∃ ls : Array Slot, g = F0 m 113 ls [] ∧ lv_has ls 9 [(4, .long (lN z_106)), (7, .int (nI ii)), (6, .int w_55), (0, .ref mo), (1, .int (nI j_2)), (2, .int (nI j_5)), (3, .int a2)] ∧ va_P (dC, dI) vwCl [(xo_8_rrriirrriiiiiiirrirrrrri mo m_la m_sz m_it ms mt m_st m_mv m_tp (nI mz) ml (nI mp) mk mv mb mw m_rd m_ac (nI ma) m_as m_wo m_ik m_ke m_tr (nI mx)), (xI m_st cI 38 w_115), (xI m_as cI 38 fan_11)] H ∧ va_D A [(xo_8_rrriirrriiiiiiirrirrrrri mo m_la m_sz m_it ms mt m_st m_mv m_tp (nI mz) ml (nI mp) mk mv mb mw m_rd m_ac (nI ma) m_as m_wo m_ik m_ke m_tr (nI mx)), (xI m_st cI 38 w_115), (xI m_as cI 38 fan_11)] ∧ va_S A s.heap H locs ∧ okM w_115 w9 k9 (h9 + ii)) ?_ ?_
            · rintro w_115 H locs _ ⟨ls, rfl, hl, hP, hD, hS, hMl⟩
              refine lv_aload_n hx hb dX8_drawn_113 rfl (lv_at hl 3 rfl) ?_
              refine va_get (D := (dC, dI)) (ci := 8) (v := .ref m_st) (C := RX8) (T := TX8) (N := 24) hx hb hts i_X8_drawn_X8 hown hK hP 0 rfl rfl 5 (by decide) (hts _ mx_X8_drawn_9) (fun _ h9 => h9) rfl dX8_drawn_114 ?_
              refine lv_bipush (v := 6) hx hb dX8_drawn_117 (by decide) ?_
              refine lv_lload hx hb dX8_drawn_119 (lv_at hl 0 rfl) ?_
              refine lv_ldc2 (own := RX8) (v := 2) hx hb hown (hts _ mx_X8_drawn_11) dX8_drawn_121 ?_
              refine lv_lrem hx hb dX8_drawn_124 (by decide) ?_
              refine lv_topl (fun v_117 e_117 => ?_)
              obtain ⟨z_117, hz_117, rfl⟩ : ∃ z : Nat, z < 2 ∧ v_117 = lN z := ⟨z_106 % 2, Nat.mod_lt _ (by omega), e_117.trans (pk_lRem (a := z_106) (b := 2) (by omega) (by omega) (by omega))⟩
              refine lv_l2i (v := (nI z_117)) hx hb dX8_drawn_125 (lN_i z_117) ?_
              refine va_iast hx hb hK hP hD hS 1 0 rfl rfl (by unfold vp_in; decide) dX8_drawn_126 (fun H locs hP hD hS => ?_)
              generalize hg_118 : upd w_115 (6 : Int32).toNatClampNeg (nI z_117) = g_118 at hP hD
              have hM_118 : okM g_118 w9 k9 (h9 + ii) := okM_off (i := 6) hMl hg_118 (by omega) (by omega) (by omega) (by omega) (by omega)
              have hP : va_P (dC, dI) vwCl [(xo_8_rrriirrriiiiiiirrirrrrri mo m_la m_sz m_it ms mt m_st m_mv m_tp (nI mz) ml (nI mp) mk mv mb mw m_rd m_ac (nI ma) m_as m_wo m_ik m_ke m_tr (nI mx)), (xI m_st cI 38 g_118), (xI m_as cI 38 fan_11)] H := hP
              have hD := dto hP hD
              refine lv_lload hx hb dX8_drawn_127 (lv_at hl 0 rfl) ?_
              refine lv_aload_n hx hb dX8_drawn_129 rfl (lv_at hl 3 rfl) ?_
              refine va_get (D := (dC, dI)) (ci := 8) (v := .ref m_st) (C := RX8) (T := TX8) (N := 24) hx hb hts i_X8_drawn_X8 hown hK hP 0 rfl rfl 5 (by decide) (hts _ mx_X8_drawn_9) (fun _ h9 => h9) rfl dX8_drawn_130 ?_
              refine lv_iconst (v := 4) hx hb dX8_drawn_133 (by decide) ?_
              refine va_iald hx hb hK hP 1 0 rfl rfl (by unfold vp_in; decide) dX8_drawn_134 ?_
              refine lv_topi (fun v_119 e_119 => ?_)
              obtain rfl : v_119 = (nI k9) := (e_119).trans hM_118.2.1
              refine lv_i2l (v := (lN k9)) hx hb dX8_drawn_135 (nI_l (by omega)) ?_
              refine lv_lrem hx hb dX8_drawn_136 (lN_nz (by omega) (by omega)) ?_
              refine lv_topl (fun v_120 e_120 => ?_)
              obtain ⟨z_120, hz_120, rfl⟩ : ∃ z : Nat, z < k9 ∧ v_120 = lN z := ⟨z_106 % k9, Nat.mod_lt _ (by omega), e_120.trans (pk_lRem (a := z_106) (b := k9) (by omega) (by omega) (by omega))⟩
              refine lv_l2i (v := (nI z_120)) hx hb dX8_drawn_137 (lN_i z_120) ?_
              refine lv_istore (lv' := [(8, .int (nI z_120)), (4, .long (lN z_106)), (7, .int (nI ii)), (6, .int w_55), (0, .ref mo), (1, .int (nI j_2)), (2, .int (nI j_5)), (3, .int a2)]) hx hb dX8_drawn_138 hl (by decide) rfl (fun ls hl => ?_)
              refine lv_aload_n hx hb dX8_drawn_140 rfl (lv_at hl 4 rfl) ?_
              refine va_get (D := (dC, dI)) (ci := 8) (v := .ref m_st) (C := RX8) (T := TX8) (N := 24) hx hb hts i_X8_drawn_X8 hown hK hP 0 rfl rfl 5 (by decide) (hts _ mx_X8_drawn_9) (fun _ h9 => h9) rfl dX8_drawn_141 ?_
              refine lv_bipush (v := 26) hx hb dX8_drawn_144 (by decide) ?_
              refine lv_iload hx hb dX8_drawn_146 (lv_at hl 0 rfl) ?_
              refine lv_iadd hx hb dX8_drawn_148 ?_
              refine lv_topi (fun v_121 e_121 => ?_)
              obtain rfl : v_121 = (nI (26 + z_120)) := (e_121).trans (nI_add 26 z_120)
              refine va_iald hx hb hK hP 1 0 rfl rfl (vp_in_nI (by omega) (by omega)) dX8_drawn_149 ?_
              refine lv_topi (fun v_122 e_122 => ?_)
              refine jn (σ := (Nat → Int32)) (fun (st : (Nat → Int32)) H locs g => match st with | w_130 => ∃ ls : Array Slot, g = F0 m 179 ls [] ∧ lv_has ls 9 [(8, .int (nI z_120)), (4, .long (lN z_106)), (7, .int (nI ii)), (6, .int w_55), (0, .ref mo), (1, .int (nI j_2)), (2, .int (nI j_5)), (3, .int a2)] ∧ va_P (dC, dI) vwCl [(xo_8_rrriirrriiiiiiirrirrrrri mo m_la m_sz m_it ms mt m_st m_mv m_tp (nI mz) ml (nI mp) mk mv mb mw m_rd m_ac (nI ma) m_as m_wo m_ik m_ke m_tr (nI mx)), (xI m_st cI 38 w_130), (xI m_as cI 38 fan_11)] H ∧ va_D A [(xo_8_rrriirrriiiiiiirrirrrrri mo m_la m_sz m_it ms mt m_st m_mv m_tp (nI mz) ml (nI mp) mk mv mb mw m_rd m_ac (nI ma) m_as m_wo m_ik m_ke m_tr (nI mx)), (xI m_st cI 38 w_130), (xI m_as cI 38 fan_11)] ∧ va_S A s.heap H locs ∧ okM w_130 w9 k9 (h9 + ii)) ?_ ?_
              · rintro w_130 H locs _ ⟨ls, rfl, hl, hP, hD, hS, hMl⟩
                refine lv_iload hx hb dX8_drawn_179 (lv_at hl 3 rfl) ?_
                refine lv_aload_n hx hb dX8_drawn_181 rfl (lv_at hl 4 rfl) ?_
                have hc_132 := cutW (wc := [(xo_8_rrriirrriiiiiiirrirrrrri mo m_la m_sz m_it ms mt m_st m_mv m_tp (nI mz) ml (nI mp) mk mv mb mw m_rd m_ac (nI ma) m_as m_wo m_ik m_ke m_tr (nI mx)), (xI m_st cI 38 w_130)]) hP hD hS hA [0, 1] (by decide +kernel) rfl
                refine va_calli (va_runV (As := []) (rest := [.int w_55]) ⟨hx, hb, hml, hown, hts⟩ (r_X8_oneHour l dC dI cI cZ cL cJ H.size mo m_la m_sz m_it m_st m_mv m_tp m_rd m_ac m_as m_wo m_ik m_ke m_tr ms mt ml mk mv mb mw mz mp ma mx w_130 w9 k9 (h9 + ii) (hMl) (by omega) (by omega)) (cwV 0 hts gX8_drawn_X8_oneHour rfl rfl rfl (by decide +kernel) ⟨Nat.le_of_ble_eq_true rfl, Nat.le_of_ble_eq_true rfl⟩) (pvW 8 0 hK hP rfl rfl hc_132) rfl rfl hl.1 rfl (lv_room (Nat.le_of_ble_eq_true rfl)) dX8_drawn_182 ⟨Nat.le_of_ble_eq_true rfl, Nat.le_of_ble_eq_true rfl⟩) hS (fun q _ h => hc_132.2.2 q h) hc_132.2.2 (fun r_132 u_132 t_132 H1 locs ht hvm h_132 hB hz1 hk1 hS => ?_)
                refine xl_1_4 hB (fun fsn_132 hP1 hD1 hF_132_0 hF_132_1 => ?_)
                clear hB
                rw [ht] at hP1
                obtain ⟨hP, hD⟩ := va_join (wr := [(xI m_as cI 38 fan_11)]) (w1 := [(xo_8_rrriirrriiiiiiirrirrrrri mo m_la m_sz m_it ms mt m_st m_mv m_tp (nI mz) ml (nI mp) mk mv mb mw m_rd m_ac (nI ma) m_as m_wo m_ik m_ke m_tr (nI mx)), (xI m_st cI 38 fsn_132)]) hP hD [0, 1] [2] rfl rfl (by decide +kernel) (by decide +kernel) hk1 hc_132.2.2 hP1 hD1
                generalize H1 = H at hP hS ⊢
                have hP : va_P (dC, dI) vwCl [(xI m_as cI 38 fan_11), (xo_8_rrriirrriiiiiiirrirrrrri mo m_la m_sz m_it ms mt m_st m_mv m_tp (nI mz) ml (nI mp) mk mv mb mw m_rd m_ac (nI ma) m_as m_wo m_ik m_ke m_tr (nI mx)), (xI m_st cI 38 fsn_132)] H := hP
                have hD := dto hP hD
                refine lv_iadd hx hb dX8_drawn_185 ?_
                refine lv_topi (fun v_133 e_133 => ?_)
                refine lv_istore (lv' := [(6, .int v_133), (8, .int (nI z_120)), (4, .long (lN z_106)), (7, .int (nI ii)), (0, .ref mo), (1, .int (nI j_2)), (2, .int (nI j_5)), (3, .int a2)]) hx hb dX8_drawn_186 hl (by decide) rfl (fun ls hl => ?_)
                refine lv_iinc (v := (nI (ii + 1))) (lv' := [(7, .int (nI (ii + 1))), (6, .int v_133), (8, .int (nI z_120)), (4, .long (lN z_106)), (0, .ref mo), (1, .int (nI j_2)), (2, .int (nI j_5)), (3, .int a2)]) hx hb dX8_drawn_188 hl (k := 3) rfl (nI_add ii 1) (by decide) rfl (fun ls hl => ?_)
                refine lv_goto (tgt := 58) hx hb dX8_drawn_191 (by decide) ?_
                exact ih (v_133, z_106, fsn_132) _ _ _ ⟨lv_sub hl [0, 1, 3, 4, 5, 6, 7] rfl, hP.sub (ws' := [(xo_8_rrriirrriiiiiiirrirrrrri mo m_la m_sz m_it ms mt m_st m_mv m_tp (nI mz) ml (nI mp) mk mv mb mw m_rd m_ac (nI ma) m_as m_wo m_ik m_ke m_tr (nI mx)), (xI m_st cI 38 fsn_132), (xI m_as cI 38 fan_11)]) [1, 2, 0] rfl, hD.sub (ws' := [(xo_8_rrriirrriiiiiiirrirrrrri mo m_la m_sz m_it ms mt m_st m_mv m_tp (nI mz) ml (nI mp) mk mv mb mw m_rd m_ac (nI ma) m_as m_wo m_ik m_ke m_tr (nI mx)), (xI m_st cI 38 fsn_132), (xI m_as cI 38 fan_11)]) [1, 2, 0] (by decide +kernel) rfl, hS, hF_132_0, (by omega)⟩
              · intro jk_131
                refine lv_if_eq (tgt := 179) hx hb dX8_drawn_150 (by decide) (fun c_134 => ?_) (fun c_134 => ?_)
                · skip
                  exact jk_131 (g_118) _ _ _ ⟨ls, rfl, lv_sub hl [0, 1, 2, 3, 4, 5, 6, 7] rfl, hP.sub (ws' := [(xo_8_rrriirrriiiiiiirrirrrrri mo m_la m_sz m_it ms mt m_st m_mv m_tp (nI mz) ml (nI mp) mk mv mb mw m_rd m_ac (nI ma) m_as m_wo m_ik m_ke m_tr (nI mx)), (xI m_st cI 38 g_118), (xI m_as cI 38 fan_11)]) [0, 1, 2] rfl, hD.sub (ws' := [(xo_8_rrriirrriiiiiiirrirrrrri mo m_la m_sz m_it ms mt m_st m_mv m_tp (nI mz) ml (nI mp) mk mv mb mw m_rd m_ac (nI ma) m_as m_wo m_ik m_ke m_tr (nI mx)), (xI m_st cI 38 g_118), (xI m_as cI 38 fan_11)]) [0, 1, 2] (by decide +kernel) rfl, hS, hM_118⟩
                · skip
                  refine lv_aload_n hx hb dX8_drawn_153 rfl (lv_at hl 4 rfl) ?_
                  refine lv_iload hx hb dX8_drawn_154 (lv_at hl 0 rfl) ?_
                  refine lv_lload hx hb dX8_drawn_156 (lv_at hl 1 rfl) ?_
                  refine lv_aload_n hx hb dX8_drawn_158 rfl (lv_at hl 4 rfl) ?_
                  refine va_get (D := (dC, dI)) (ci := 8) (v := .ref m_st) (C := RX8) (T := TX8) (N := 24) hx hb hts i_X8_drawn_X8 hown hK hP 0 rfl rfl 5 (by decide) (hts _ mx_X8_drawn_9) (fun _ h9 => h9) rfl dX8_drawn_159 ?_
                  refine lv_iconst (v := 0) hx hb dX8_drawn_162 (by decide) ?_
                  refine va_iald hx hb hK hP 1 0 rfl rfl (by unfold vp_in; decide) dX8_drawn_163 ?_
                  obtain ⟨c_135, hc1_135, hc2_135, hce_135⟩ := hM_118.2.2.2.2.2.2.1
                  refine lv_topi (fun v_136 e_136 => ?_)
                  obtain rfl : v_136 = (nI c_135) := (e_136).trans hce_135
                  refine lv_i2l (v := (lN c_135)) hx hb dX8_drawn_164 (nI_l (by omega)) ?_
                  refine lv_lrem hx hb dX8_drawn_165 (lN_nz (by omega) (by omega)) ?_
                  refine lv_topl (fun v_137 e_137 => ?_)
                  obtain ⟨z_137, hz_137, rfl⟩ : ∃ z : Nat, z < c_135 ∧ v_137 = lN z := ⟨z_106 % c_135, Nat.mod_lt _ (by omega), e_137.trans (pk_lRem (a := z_106) (b := c_135) (by omega) (by omega) (by omega))⟩
                  refine lv_l2i (v := (nI z_137)) hx hb dX8_drawn_166 (lN_i z_137) ?_
                  refine lv_lload hx hb dX8_drawn_167 (lv_at hl 1 rfl) ?_
                  refine lv_ldc2 (own := RX8) (v := 9) hx hb hown (hts _ mx_X8_drawn_12) dX8_drawn_169 ?_
                  refine lv_lrem hx hb dX8_drawn_172 (by decide) ?_
                  refine lv_topl (fun v_138 e_138 => ?_)
                  obtain ⟨z_138, hz_138, rfl⟩ : ∃ z : Nat, z < 9 ∧ v_138 = lN z := ⟨z_106 % 9, Nat.mod_lt _ (by omega), e_138.trans (pk_lRem (a := z_106) (b := 9) (by omega) (by omega) (by omega))⟩
                  refine lv_l2i (v := (nI z_138)) hx hb dX8_drawn_173 (lN_i z_138) ?_
                  refine lv_iconst (v := 1) hx hb dX8_drawn_174 (by decide) ?_
                  refine lv_iadd hx hb dX8_drawn_175 ?_
                  refine lv_topi (fun v_139 e_139 => ?_)
                  obtain rfl : v_139 = (nI (z_138 + 1)) := (e_139).trans (nI_add z_138 1)
                  have hc_140 := cutW (wc := [(xo_8_rrriirrriiiiiiirrirrrrri mo m_la m_sz m_it ms mt m_st m_mv m_tp (nI mz) ml (nI mp) mk mv mb mw m_rd m_ac (nI ma) m_as m_wo m_ik m_ke m_tr (nI mx)), (xI m_st cI 38 g_118)]) hP hD hS hA [0, 1] (by decide +kernel) rfl
                  refine va_callv (va_runV (As := [.int (nI z_120), .int (nI z_137), .int (nI (z_138 + 1))]) (rest := []) ⟨hx, hb, hml, hown, hts⟩ (r_X8_letLoose l dC dI cI cZ cL cJ H.size mo m_la m_sz m_it m_st m_mv m_tp m_rd m_ac m_as m_wo m_ik m_ke m_tr ms mt ml mk mv mb mw mz mp ma mx g_118 w9 k9 (h9 + ii) z_120 (z_138 + 1) (nI z_137) (hM_118) (by omega) (by omega) (by omega)) (cwV 3 hts gX8_drawn_X8_letLoose rfl rfl rfl (by decide +kernel) ⟨Nat.le_of_ble_eq_true rfl, Nat.le_of_ble_eq_true rfl⟩) (pvW 8 0 hK hP rfl rfl hc_140) rfl rfl hl.1 rfl (lv_room (Nat.le_of_ble_eq_true rfl)) dX8_drawn_176 ⟨Nat.le_of_ble_eq_true rfl, Nat.le_of_ble_eq_true rfl⟩) hS (fun q _ h => hc_140.2.2 q h) hc_140.2.2 (fun u_140 t_140 H1 locs ht hvm h_140 hB hz1 hk1 hS => ?_)
                  refine xl_1_4 hB (fun fsn_140 hP1 hD1 hF_140_0 hF_140_1 => ?_)
                  clear hB
                  rw [ht] at hP1
                  obtain ⟨hP, hD⟩ := va_join (wr := [(xI m_as cI 38 fan_11)]) (w1 := [(xo_8_rrriirrriiiiiiirrirrrrri mo m_la m_sz m_it ms mt m_st m_mv m_tp (nI mz) ml (nI mp) mk mv mb mw m_rd m_ac (nI ma) m_as m_wo m_ik m_ke m_tr (nI mx)), (xI m_st cI 38 fsn_140)]) hP hD [0, 1] [2] rfl rfl (by decide +kernel) (by decide +kernel) hk1 hc_140.2.2 hP1 hD1
                  generalize H1 = H at hP hS ⊢
                  have hP : va_P (dC, dI) vwCl [(xI m_as cI 38 fan_11), (xo_8_rrriirrriiiiiiirrirrrrri mo m_la m_sz m_it ms mt m_st m_mv m_tp (nI mz) ml (nI mp) mk mv mb mw m_rd m_ac (nI ma) m_as m_wo m_ik m_ke m_tr (nI mx)), (xI m_st cI 38 fsn_140)] H := hP
                  have hD := dto hP hD
                  exact jk_131 (fsn_140) _ _ _ ⟨ls, rfl, lv_sub hl [0, 1, 2, 3, 4, 5, 6, 7] rfl, hP.sub (ws' := [(xo_8_rrriirrriiiiiiirrirrrrri mo m_la m_sz m_it ms mt m_st m_mv m_tp (nI mz) ml (nI mp) mk mv mb mw m_rd m_ac (nI ma) m_as m_wo m_ik m_ke m_tr (nI mx)), (xI m_st cI 38 fsn_140), (xI m_as cI 38 fan_11)]) [1, 2, 0] rfl, hD.sub (ws' := [(xo_8_rrriirrriiiiiiirrirrrrri mo m_la m_sz m_it ms mt m_st m_mv m_tp (nI mz) ml (nI mp) mk mv mb mw m_rd m_ac (nI ma) m_as m_wo m_ik m_ke m_tr (nI mx)), (xI m_st cI 38 fsn_140), (xI m_as cI 38 fan_11)]) [1, 2, 0] (by decide +kernel) rfl, hS, hF_140_0⟩
            · intro jk_116
              refine lv_if_ne (tgt := 113) hx hb dX8_drawn_84 (by decide) (fun c_141 => ?_) (fun c_141 => ?_)
              · skip
                exact jk_116 (w_57) _ _ _ ⟨ls, rfl, lv_sub hl [0, 1, 2, 3, 4, 5, 6] rfl, hP.sub (ws' := [(xo_8_rrriirrriiiiiiirrirrrrri mo m_la m_sz m_it ms mt m_st m_mv m_tp (nI mz) ml (nI mp) mk mv mb mw m_rd m_ac (nI ma) m_as m_wo m_ik m_ke m_tr (nI mx)), (xI m_st cI 38 w_57), (xI m_as cI 38 fan_11)]) [0, 1, 2] rfl, hD.sub (ws' := [(xo_8_rrriirrriiiiiiirrirrrrri mo m_la m_sz m_it ms mt m_st m_mv m_tp (nI mz) ml (nI mp) mk mv mb mw m_rd m_ac (nI ma) m_as m_wo m_ik m_ke m_tr (nI mx)), (xI m_st cI 38 w_57), (xI m_as cI 38 fan_11)]) [0, 1, 2] (by decide +kernel) rfl, hS, hMl⟩
              · skip
                refine lv_aload_n hx hb dX8_drawn_87 rfl (lv_at hl 3 rfl) ?_
                refine va_get (D := (dC, dI)) (ci := 8) (v := .ref m_st) (C := RX8) (T := TX8) (N := 24) hx hb hts i_X8_drawn_X8 hown hK hP 0 rfl rfl 5 (by decide) (hts _ mx_X8_drawn_9) (fun _ h9 => h9) rfl dX8_drawn_88 ?_
                refine lv_bipush (v := 8) hx hb dX8_drawn_91 (by decide) ?_
                refine lv_lload hx hb dX8_drawn_93 (lv_at hl 0 rfl) ?_
                refine lv_aload_n hx hb dX8_drawn_95 rfl (lv_at hl 3 rfl) ?_
                refine va_get (D := (dC, dI)) (ci := 8) (v := .ref m_st) (C := RX8) (T := TX8) (N := 24) hx hb hts i_X8_drawn_X8 hown hK hP 0 rfl rfl 5 (by decide) (hts _ mx_X8_drawn_9) (fun _ h9 => h9) rfl dX8_drawn_96 ?_
                refine lv_iconst (v := 3) hx hb dX8_drawn_99 (by decide) ?_
                refine va_iald hx hb hK hP 1 0 rfl rfl (by unfold vp_in; decide) dX8_drawn_100 ?_
                refine lv_topi (fun v_142 e_142 => ?_)
                obtain rfl : v_142 = (nI w9) := (e_142).trans hMl.1
                refine lv_i2l (v := (lN w9)) hx hb dX8_drawn_101 (nI_l (by omega)) ?_
                refine lv_lrem hx hb dX8_drawn_102 (lN_nz (by omega) (by omega)) ?_
                refine lv_topl (fun v_143 e_143 => ?_)
                obtain ⟨z_143, hz_143, rfl⟩ : ∃ z : Nat, z < w9 ∧ v_143 = lN z := ⟨z_106 % w9, Nat.mod_lt _ (by omega), e_143.trans (pk_lRem (a := z_106) (b := w9) (by omega) (by omega) (by omega))⟩
                refine lv_l2i (v := (nI z_143)) hx hb dX8_drawn_103 (lN_i z_143) ?_
                refine lv_iadd hx hb dX8_drawn_104 ?_
                refine lv_topi (fun v_144 e_144 => ?_)
                obtain rfl : v_144 = (nI (8 + z_143)) := (e_144).trans (nI_add 8 z_143)
                refine lv_lload hx hb dX8_drawn_105 (lv_at hl 0 rfl) ?_
                refine lv_ldc2 (own := RX8) (v := 5) hx hb hown (hts _ mx_X8_drawn_10) dX8_drawn_107 ?_
                refine lv_lrem hx hb dX8_drawn_110 (by decide) ?_
                refine lv_topl (fun v_145 e_145 => ?_)
                obtain ⟨z_145, hz_145, rfl⟩ : ∃ z : Nat, z < 5 ∧ v_145 = lN z := ⟨z_106 % 5, Nat.mod_lt _ (by omega), e_145.trans (pk_lRem (a := z_106) (b := 5) (by omega) (by omega) (by omega))⟩
                refine lv_l2i (v := (nI z_145)) hx hb dX8_drawn_111 (lN_i z_145) ?_
                refine va_iast hx hb hK hP hD hS 1 0 rfl rfl (vp_in_nI (by omega) (by omega)) dX8_drawn_112 (fun H locs hP hD hS => ?_)
                generalize hg_146 : upd w_57 ((nI (8 + z_143)) : Int32).toNatClampNeg (nI z_145) = g_146 at hP hD
                have hM_146 : okM g_146 w9 k9 (h9 + ii) := okM_off (i := (8 + z_143)) hMl hg_146 (by omega) (by omega) (by omega) (by omega) (by omega)
                have hP : va_P (dC, dI) vwCl [(xo_8_rrriirrriiiiiiirrirrrrri mo m_la m_sz m_it ms mt m_st m_mv m_tp (nI mz) ml (nI mp) mk mv mb mw m_rd m_ac (nI ma) m_as m_wo m_ik m_ke m_tr (nI mx)), (xI m_st cI 38 g_146), (xI m_as cI 38 fan_11)] H := hP
                have hD := dto hP hD
                exact jk_116 (g_146) _ _ _ ⟨ls, rfl, lv_sub hl [0, 1, 2, 3, 4, 5, 6] rfl, hP.sub (ws' := [(xo_8_rrriirrriiiiiiirrirrrrri mo m_la m_sz m_it ms mt m_st m_mv m_tp (nI mz) ml (nI mp) mk mv mb mw m_rd m_ac (nI ma) m_as m_wo m_ik m_ke m_tr (nI mx)), (xI m_st cI 38 g_146), (xI m_as cI 38 fan_11)]) [0, 1, 2] rfl, hD.sub (ws' := [(xo_8_rrriirrriiiiiiirrirrrrri mo m_la m_sz m_it ms mt m_st m_mv m_tp (nI mz) ml (nI mp) mk mv mb mw m_rd m_ac (nI ma) m_as m_wo m_ik m_ke m_tr (nI mx)), (xI m_st cI 38 g_146), (xI m_as cI 38 fan_11)]) [0, 1, 2] (by decide +kernel) rfl, hS, hM_146⟩
          · rintro ⟨w_55, w_56, w_57⟩ H locs ls ⟨hl, hP, hD, hS, hMl, hnb_w_56⟩
            refine lv_iload hx hb dX8_drawn_58 (lv_at hl 0 rfl) ?_
            refine lv_iload_n hx hb dX8_drawn_60 rfl (lv_at hl 4 rfl) ?_
            refine lv_icmp_ge (tgt := 194) hx hb dX8_drawn_61 (by decide) (fun _ => ?_) (fun c_ => absurd ((nI_leI (a := j_2) (b := j_2) (by omega) (by omega)).mpr (by omega)) c_)
            refine lv_aload_n hx hb dX8_drawn_194 rfl (lv_at hl 3 rfl) ?_
            refine lv_iconst (v := 2) hx hb dX8_drawn_195 (by decide) ?_
            have hPc_148 := hP.sub (ws' := [(xo_8_rrriirrriiiiiiirrirrrrri mo m_la m_sz m_it ms mt m_st m_mv m_tp (nI mz) ml (nI mp) mk mv mb mw m_rd m_ac (nI ma) m_as m_wo m_ik m_ke m_tr (nI mx)), (xI m_st cI 38 w_57)]) [0, 1] rfl
            refine vp_callSi (W.runV (As := [.int 2]) (rest := []) ⟨hx, hb, hml, hown, hts⟩ (r_X8_those l dC dI cI cZ cL cJ mo m_la m_sz m_it m_st m_mv m_tp m_rd m_ac m_as m_wo m_ik m_ke m_tr ms mt ml mk mv mb mw mz mp ma mx w_57 w9 k9 (h9 + j_2) 2 (hMl)) (cwV 1 hts gX8_drawn_X8_those rfl rfl rfl (by decide +kernel) ⟨Nat.le_of_ble_eq_true rfl, Nat.le_of_ble_eq_true rfl⟩) (pvP 8 0 hK hP rfl rfl hPc_148) rfl rfl hl.1 rfl (lv_room (Nat.le_of_ble_eq_true rfl)) dX8_drawn_196 ⟨Nat.le_of_ble_eq_true rfl, Nat.le_of_ble_eq_true rfl⟩) (fun r_148 h_148 => ?_)
            obtain ⟨j_148, rfl, hz_148_0, hz_148_1⟩ := h_148
            have hPc_149 := hP.sub (ws' := []) [] rfl
            refine vp_callSi (W.runS (As := [.int (nI j_148)]) (rest := []) ⟨hx, hb, hml, hown, hts⟩ (r_X8_ones l dC dI cI cZ cL cJ j_148 (by omega)) (va_cwS 1 hts gX8_drawn_X8_ones rfl rfl rfl (by decide +kernel) ⟨Nat.le_of_ble_eq_true rfl, Nat.le_of_ble_eq_true rfl⟩) (psP hK hPc_149) rfl rfl hl.1 rfl (lv_room (Nat.le_of_ble_eq_true rfl)) dX8_drawn_199 ⟨Nat.le_of_ble_eq_true rfl, Nat.le_of_ble_eq_true rfl⟩) (fun r_149 h_149 => ?_)
            refine lv_istore (lv' := [(7, .int r_149), (6, .int w_55), (4, .long (lN w_56)), (0, .ref mo), (1, .int (nI j_2)), (2, .int (nI j_5)), (3, .int a2)]) hx hb dX8_drawn_202 hl (by decide) rfl (fun ls hl => ?_)
            refine lv_aload_n hx hb dX8_drawn_204 rfl (lv_at hl 3 rfl) ?_
            have hc_150 := cutW (wc := [(xo_8_rrriirrriiiiiiirrirrrrri mo m_la m_sz m_it ms mt m_st m_mv m_tp (nI mz) ml (nI mp) mk mv mb mw m_rd m_ac (nI ma) m_as m_wo m_ik m_ke m_tr (nI mx)), (xI m_st cI 38 w_57), (xI m_as cI 38 fan_11)]) hP hD hS hA [0, 1, 2] (by decide +kernel) rfl
            refine va_callv (va_runV (As := []) (rest := []) ⟨hx, hb, hml, hown, hts⟩ (r_X8_takeBack l dC dI cI cZ cL cJ H.size mo m_la m_sz m_it m_st m_mv m_tp m_rd m_ac m_as m_wo m_ik m_ke m_tr ms mt ml mk mv mb mw mz mp ma mx w_57 fan_11 ) (cwV 0 hts gX8_drawn_X8_takeBack rfl rfl rfl (by decide +kernel) ⟨Nat.le_of_ble_eq_true rfl, Nat.le_of_ble_eq_true rfl⟩) (pvW 8 0 hK hP rfl rfl hc_150) rfl rfl hl.1 rfl (lv_room (Nat.le_of_ble_eq_true rfl)) dX8_drawn_205 ⟨Nat.le_of_ble_eq_true rfl, Nat.le_of_ble_eq_true rfl⟩) hS (fun q _ h => hc_150.2.2 q h) hc_150.2.2 (fun u_150 t_150 H1 locs ht hvm h_150 hB hz1 hk1 hS => ?_)
            refine xl_1_3 hB (fun fsn_150 hP1 hD1 hF_150_0 => ?_)
            clear hB
            rw [ht] at hP1
            obtain ⟨hP, hD⟩ := va_join (wr := []) (w1 := [(xo_8_rrriirrriiiiiiirrirrrrri mo m_la m_sz m_it ms mt m_st m_mv m_tp (nI mz) ml (nI mp) mk mv mb mw m_rd m_ac (nI ma) m_as m_wo m_ik m_ke m_tr (nI mx)), (xI m_st cI 38 fsn_150), (xI m_as cI 38 fan_11)]) hP hD [0, 1, 2] [] rfl rfl (by decide +kernel) (by decide +kernel) hk1 hc_150.2.2 hP1 hD1
            generalize H1 = H at hP hS ⊢
            have hP : va_P (dC, dI) vwCl [(xo_8_rrriirrriiiiiiirrirrrrri mo m_la m_sz m_it ms mt m_st m_mv m_tp (nI mz) ml (nI mp) mk mv mb mw m_rd m_ac (nI ma) m_as m_wo m_ik m_ke m_tr (nI mx)), (xI m_st cI 38 fsn_150), (xI m_as cI 38 fan_11)] H := hP
            have hD := dto hP hD
            have hT_150 := okM_eq hA_11 hF_150_0
            refine lv_iload_n hx hb dX8_drawn_208 rfl (lv_at hl 6 rfl) ?_
            refine lv_if_ne (tgt := 217) hx hb dX8_drawn_209 (by decide) (fun c_151 => ?_) (fun c_151 => ?_)
            · skip
              refine lv_iload hx hb dX8_drawn_217 (lv_at hl 0 rfl) ?_
              have hX9 := cut2 (wc := [(xo_8_rrriirrriiiiiiirrirrrrri mo m_la m_sz m_it ms mt m_st m_mv m_tp (nI mz) ml (nI mp) mk mv mb mw m_rd m_ac (nI ma) m_as m_wo m_ik m_ke m_tr (nI mx)), (xI m_st cI 38 fsn_150), (xI m_as cI 38 fan_11)]) hP hD [0, 1, 2] (by decide +kernel) rfl
              exact W.iret (v := r_149) hx hb hr (fun t ht hW => ⟨⟨r_149, (), rfl, trivial, ⟨fsn_150, fan_11, va_Ht ht hX9.1, hX9.2, hT_150, ((m38_eq hF_150_0).trans ((m38_eq hF_11_0).trans rfl))⟩⟩, hS.F ht⟩) hS.2.2 dX8_drawn_219
            · skip
              refine lv_iload hx hb dX8_drawn_212 (lv_at hl 1 rfl) ?_
              refine lv_goto (tgt := 219) hx hb dX8_drawn_214 (by decide) ?_
              have hX9 := cut2 (wc := [(xo_8_rrriirrriiiiiiirrirrrrri mo m_la m_sz m_it ms mt m_st m_mv m_tp (nI mz) ml (nI mp) mk mv mb mw m_rd m_ac (nI ma) m_as m_wo m_ik m_ke m_tr (nI mx)), (xI m_st cI 38 fsn_150), (xI m_as cI 38 fan_11)]) hP hD [0, 1, 2] (by decide +kernel) rfl
              exact W.iret (v := w_55) hx hb hr (fun t ht hW => ⟨⟨w_55, (), rfl, trivial, ⟨fsn_150, fan_11, va_Ht ht hX9.1, hX9.2, hT_150, ((m38_eq hF_150_0).trans ((m38_eq hF_11_0).trans rfl))⟩⟩, hS.F ht⟩) hS.2.2 dX8_drawn_219
  · skip
    refine lv_ldc (own := RX8) (v := (-1000002)) hx hb hown (hts _ mx_X8_drawn_2) dX8_drawn_7 ?_
    have hX9 := cut2 (wc := [(xo_8_rrriirrriiiiiiirrirrrrri mo m_la m_sz m_it ms mt m_st m_mv m_tp (nI mz) ml (nI mp) mk mv mb mw m_rd m_ac (nI ma) m_as m_wo m_ik m_ke m_tr (nI mx)), (xI m_st cI 38 fs), (xI m_as cI 38 fa)]) hP hD [0, 1, 2] (by decide +kernel) rfl
    exact W.iret (v := (-1000002)) hx hb hr (fun t ht hW => ⟨⟨(-1000002), (), rfl, trivial, ⟨fs, fa, va_Ht ht hX9.1, hX9.2, hM, rfl⟩⟩, hS.F ht⟩) hS.2.2 dX8_drawn_9
