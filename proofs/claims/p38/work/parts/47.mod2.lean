set_option maxHeartbeats 4000000 in
set_option maxRecDepth 100000 in
theorem r_X8_putAside (l : Launch) (dC : Nat → ClassId) (dI : Nat → Nat → Nat) (cI cZ cL cJ : ClassId) (sz : Nat) (mo : Nat) (m_la : Nat) (m_sz : Nat) (m_it : Nat) (m_st : Nat) (m_mv : Nat) (m_tp : Nat) (m_rd : Nat) (m_ac : Nat) (m_as : Nat) (m_wo : Nat) (m_ik : Nat) (m_ke : Nat) (m_tr : Nat) (ms : Int32) (mt : Int32) (ml : Int32) (mk : Int32) (mv : Int32) (mb : Int32) (mw : Int32) (mz : Nat) (mp : Nat) (ma : Nat) (mx : Nat) (fs : Nat → Int32) (fa : Nat → Int32)  : Met l yX8_putAside wsX8_putAside ({ frames := 0, cells := 0, slots := 0, locals := 0 }) (va_Pc [.ref mo] (fun U => U.heap.size = sz ∧ va_P (dC, dI) vwCl [(xo_8_rrriirrriiiiiiirrirrrrri mo m_la m_sz m_it ms mt m_st m_mv m_tp (nI mz) ml (nI mp) mk mv mb mw m_rd m_ac (nI ma) m_as m_wo m_ik m_ke m_tr (nI mx)), (xI m_st cI 38 fs), (xI m_as cI 38 fa)] U.heap ∧ va_K (dC, dI) vwCl [(cI, .int), (cZ, .boolean), (cL, .object RX3), (cJ, .array .int)] U ∧ va_D (fun _ => True) [(xo_8_rrriirrriiiiiiirrirrrrri mo m_la m_sz m_it ms mt m_st m_mv m_tp (nI mz) ml (nI mp) mk mv mb mw m_rd m_ac (nI ma) m_as m_wo m_ik m_ke m_tr (nI mx)), (xI m_st cI 38 fs), (xI m_as cI 38 fa)])) (va_Qv (fun (_ : Unit) => True) (fun (_ : Unit) t => ∃ (fan : Nat → Int32), va_P (dC, dI) vwCl [(xo_8_rrriirrriiiiiiirrirrrrri mo m_la m_sz m_it ms mt m_st m_mv m_tp (nI mz) ml (nI mp) mk mv mb mw m_rd m_ac (nI ma) m_as m_wo m_ik m_ke m_tr (nI mx)), (xI m_st cI 38 fs), (xI m_as cI 38 fan)] t.heap ∧ va_D (va_A [(xo_8_rrriirrriiiiiiirrirrrrri mo m_la m_sz m_it ms mt m_st m_mv m_tp (nI mz) ml (nI mp) mk mv mb mw m_rd m_ac (nI ma) m_as m_wo m_ik m_ke m_tr (nI mx)), (xI m_st cI 38 fs), (xI m_as cI 38 fa)] sz) [(xo_8_rrriirrriiiiiiirrirrrrri mo m_la m_sz m_it ms mt m_st m_mv m_tp (nI mz) ml (nI mp) mk mv mb mw m_rd m_ac (nI ma) m_as m_wo m_ik m_ke m_tr (nI mx)), (xI m_st cI 38 fs), (xI m_as cI 38 fan)] ∧ (∀ j : Nat, j < 38 → fan j = fs j)) (va_A [(xo_8_rrriirrriiiiiiirrirrrrri mo m_la m_sz m_it ms mt m_st m_mv m_tp (nI mz) ml (nI mp) mk mv mb mw m_rd m_ac (nI ma) m_as m_wo m_ik m_ke m_tr (nI mx)), (xI m_st cI 38 fs), (xI m_as cI 38 fa)] sz)) 0 0 (va_A [(xo_8_rrriirrriiiiiiirrirrrrri mo m_la m_sz m_it ms mt m_st m_mv m_tp (nI mz) ml (nI mp) mk mv mb mw m_rd m_ac (nI ma) m_as m_wo m_ik m_ke m_tr (nI mx)), (xI m_st cI 38 fs), (xI m_as cI 38 fa)] sz) := by
  refine Met.ofW (cc := cX8_putAside) (maxL := 2) (ret := none) (by decide) rfl ?_
  intro p e s m args below meth c s₁ B hml hv
  obtain ⟨rfl, hsz, hP, hK, hD0⟩ := hv
  have hx := B.exec
  have hb := B.bytes
  have hr := B.returns
  have hts := atoms_spec (ws := wsX8_putAside) B.pre
  have hown : s.vm.findClass RX8 = some m.cls := findClass_of_methodNamed B.named
  have hlocks := B.notSynchronized
  subst hsz
  have hD := hD0.self (sz := s.heap.size)
  generalize hAe : va_A [(xo_8_rrriirrriiiiiiirrirrrrri mo m_la m_sz m_it ms mt m_st m_mv m_tp (nI mz) ml (nI mp) mk mv mb mw m_rd m_ac (nI ma) m_as m_wo m_ik m_ke m_tr (nI mx)), (xI m_st cI 38 fs), (xI m_as cI 38 fa)] s.heap.size = A at hD ⊢
  have hA : ∀ q : Nat, s.heap.size ≤ q → A q := fun q h => by rw [← hAe]; exact Or.inr h
  have hS : va_S A s.heap s.heap [] := va_S.rf
  have hP : va_P (dC, dI) vwCl [(xo_8_rrriirrriiiiiiirrirrrrri mo m_la m_sz m_it ms mt m_st m_mv m_tp (nI mz) ml (nI mp) mk mv mb mw m_rd m_ac (nI ma) m_as m_wo m_ik m_ke m_tr (nI mx)), (xI m_st cI 38 fs), (xI m_as cI 38 fa)] s.heap := hP
  have hl := lv_entry ([.ref mo]) (n := 2) (Nat.le_of_ble_eq_true rfl)
  rw [lg_entry_eq]
  generalize (lg_sl ([.ref mo]) ++ List.replicate (2 - (lg_sl ([.ref mo])).length) Slot.unset).toArray = ls at hl ⊢
  have hl : lv_has ls 2 [(0, .ref mo)] := hl
  refine lv_iconst (v := 0) hx hb dX8_putAside_0 (by decide) ?_
  refine lv_istore_n (lv' := [(1, .int 0), (0, .ref mo)]) hx hb dX8_putAside_1 rfl hl (by decide) rfl (fun ls hl => ?_)
  refine lp_go (σ := (Nat → Int32)) (fun ii (st : (Nat → Int32)) H locs ls => match st with | w_4 => lv_has ls 2 [(1, .int (nI ii)), (0, .ref mo)] ∧ va_P (dC, dI) vwCl [(xo_8_rrriirrriiiiiiirrirrrrri mo m_la m_sz m_it ms mt m_st m_mv m_tp (nI mz) ml (nI mp) mk mv mb mw m_rd m_ac (nI ma) m_as m_wo m_ik m_ke m_tr (nI mx)), (xI m_st cI 38 fs), (xI m_as cI 38 w_4)] H ∧ va_D A [(xo_8_rrriirrriiiiiiirrirrrrri mo m_la m_sz m_it ms mt m_st m_mv m_tp (nI mz) ml (nI mp) mk mv mb mw m_rd m_ac (nI ma) m_as m_wo m_ik m_ke m_tr (nI mx)), (xI m_st cI 38 fs), (xI m_as cI 38 w_4)] ∧ va_S A s.heap H locs ∧ (∀ j : Nat, j < ii → w_4 j = fs j)) 38 ?_ ?_ 0 (by omega) (fa) ⟨lv_sub hl [0, 1] rfl, hP.sub (ws' := [(xo_8_rrriirrriiiiiiirrirrrrri mo m_la m_sz m_it ms mt m_st m_mv m_tp (nI mz) ml (nI mp) mk mv mb mw m_rd m_ac (nI ma) m_as m_wo m_ik m_ke m_tr (nI mx)), (xI m_st cI 38 fs), (xI m_as cI 38 fa)]) [0, 1, 2] rfl, hD.sub (ws' := [(xo_8_rrriirrriiiiiiirrirrrrri mo m_la m_sz m_it ms mt m_st m_mv m_tp (nI mz) ml (nI mp) mk mv mb mw m_rd m_ac (nI ma) m_as m_wo m_ik m_ke m_tr (nI mx)), (xI m_st cI 38 fs), (xI m_as cI 38 fa)]) [0, 1, 2] (by decide +kernel) rfl, hS, (fun j h_ => absurd h_ (Nat.not_lt_zero j))⟩
  · rintro ii w_4 H locs ls hii ⟨hl, hP, hD, hS, haf_0⟩ ih
    refine lv_iload_n hx hb dX8_putAside_2 rfl (lv_at hl 0 rfl) ?_
    refine lv_bipush (v := 38) hx hb dX8_putAside_3 (by decide) ?_
    refine lv_icmp_ge (tgt := 26) hx hb dX8_putAside_5 (by decide) (fun c_ => absurd c_ (fun q_ => absurd ((nI_leI (a := 38) (b := ii) (by omega) (by omega)).mp q_) (by omega))) (fun _ => ?_)
    refine lv_aload_n hx hb dX8_putAside_8 rfl (lv_at hl 1 rfl) ?_
    refine va_get (D := (dC, dI)) (ci := 8) (v := .ref m_as) (C := RX8) (T := TX8) (N := 24) hx hb hts i_X8_putAside_X8 hown hK hP 0 rfl rfl 18 (by decide) (hts _ mx_X8_putAside_1) (fun _ h9 => h9) rfl dX8_putAside_9 ?_
    refine lv_iload_n hx hb dX8_putAside_12 rfl (lv_at hl 0 rfl) ?_
    refine lv_aload_n hx hb dX8_putAside_13 rfl (lv_at hl 1 rfl) ?_
    refine va_get (D := (dC, dI)) (ci := 8) (v := .ref m_st) (C := RX8) (T := TX8) (N := 24) hx hb hts i_X8_putAside_X8 hown hK hP 0 rfl rfl 5 (by decide) (hts _ mx_X8_putAside_2) (fun _ h9 => h9) rfl dX8_putAside_14 ?_
    refine lv_iload_n hx hb dX8_putAside_17 rfl (lv_at hl 0 rfl) ?_
    refine va_iald hx hb hK hP 1 0 rfl rfl (vp_in_nI (by omega) (by omega)) dX8_putAside_18 ?_
    refine lv_topi (fun v_10 e_10 => ?_)
    refine va_iast hx hb hK hP hD hS 2 0 rfl rfl (vp_in_nI (by omega) (by omega)) dX8_putAside_19 (fun H locs hP hD hS => ?_)
    generalize hg_11 : upd w_4 ((nI ii) : Int32).toNatClampNeg v_10 = g_11 at hP hD
    have hP : va_P (dC, dI) vwCl [(xo_8_rrriirrriiiiiiirrirrrrri mo m_la m_sz m_it ms mt m_st m_mv m_tp (nI mz) ml (nI mp) mk mv mb mw m_rd m_ac (nI ma) m_as m_wo m_ik m_ke m_tr (nI mx)), (xI m_st cI 38 fs), (xI m_as cI 38 g_11)] H := hP
    have hD := dto hP hD
    refine lv_iinc (v := (nI (ii + 1))) (lv' := [(1, .int (nI (ii + 1))), (0, .ref mo)]) hx hb dX8_putAside_20 hl (k := 0) rfl (nI_add ii 1) (by decide) rfl (fun ls hl => ?_)
    refine lv_goto (tgt := 2) hx hb dX8_putAside_23 (by decide) ?_
    exact ih (g_11) _ _ _ ⟨lv_sub hl [0, 1] rfl, hP.sub (ws' := [(xo_8_rrriirrriiiiiiirrirrrrri mo m_la m_sz m_it ms mt m_st m_mv m_tp (nI mz) ml (nI mp) mk mv mb mw m_rd m_ac (nI ma) m_as m_wo m_ik m_ke m_tr (nI mx)), (xI m_st cI 38 fs), (xI m_as cI 38 g_11)]) [0, 1, 2] rfl, hD.sub (ws' := [(xo_8_rrriirrriiiiiiirrirrrrri mo m_la m_sz m_it ms mt m_st m_mv m_tp (nI mz) ml (nI mp) mk mv mb mw m_rd m_ac (nI ma) m_as m_wo m_ik m_ke m_tr (nI mx)), (xI m_st cI 38 fs), (xI m_as cI 38 g_11)]) [0, 1, 2] (by decide +kernel) rfl, hS, (cp_0 haf_0 (by omega) e_10 hg_11)⟩
  · rintro w_4 H locs ls ⟨hl, hP, hD, hS, haf_0⟩
    refine lv_iload_n hx hb dX8_putAside_2 rfl (lv_at hl 0 rfl) ?_
    refine lv_bipush (v := 38) hx hb dX8_putAside_3 (by decide) ?_
    refine lv_icmp_ge (tgt := 26) hx hb dX8_putAside_5 (by decide) (fun _ => ?_) (fun c_ => absurd ((nI_leI (a := 38) (b := 38) (by omega) (by omega)).mpr (by omega)) c_)
    have hX9 := cut2 (wc := [(xo_8_rrriirrriiiiiiirrirrrrri mo m_la m_sz m_it ms mt m_st m_mv m_tp (nI mz) ml (nI mp) mk mv mb mw m_rd m_ac (nI ma) m_as m_wo m_ik m_ke m_tr (nI mx)), (xI m_st cI 38 fs), (xI m_as cI 38 w_4)]) hP hD [0, 1, 2] (by decide +kernel) rfl
    exact W.vret hx hb hr (fun t ht hW => ⟨⟨(), rfl, trivial, ⟨w_4, va_Ht ht hX9.1, hX9.2, haf_0⟩⟩, hS.F ht⟩) hS.2.2 dX8_putAside_26
set_option maxHeartbeats 4000000 in
set_option maxRecDepth 100000 in
theorem r_X8_takeBack (l : Launch) (dC : Nat → ClassId) (dI : Nat → Nat → Nat) (cI cZ cL cJ : ClassId) (sz : Nat) (mo : Nat) (m_la : Nat) (m_sz : Nat) (m_it : Nat) (m_st : Nat) (m_mv : Nat) (m_tp : Nat) (m_rd : Nat) (m_ac : Nat) (m_as : Nat) (m_wo : Nat) (m_ik : Nat) (m_ke : Nat) (m_tr : Nat) (ms : Int32) (mt : Int32) (ml : Int32) (mk : Int32) (mv : Int32) (mb : Int32) (mw : Int32) (mz : Nat) (mp : Nat) (ma : Nat) (mx : Nat) (fs : Nat → Int32) (fa : Nat → Int32)  : Met l yX8_takeBack wsX8_takeBack ({ frames := 0, cells := 0, slots := 0, locals := 0 }) (va_Pc [.ref mo] (fun U => U.heap.size = sz ∧ va_P (dC, dI) vwCl [(xo_8_rrriirrriiiiiiirrirrrrri mo m_la m_sz m_it ms mt m_st m_mv m_tp (nI mz) ml (nI mp) mk mv mb mw m_rd m_ac (nI ma) m_as m_wo m_ik m_ke m_tr (nI mx)), (xI m_st cI 38 fs), (xI m_as cI 38 fa)] U.heap ∧ va_K (dC, dI) vwCl [(cI, .int), (cZ, .boolean), (cL, .object RX3), (cJ, .array .int)] U ∧ va_D (fun _ => True) [(xo_8_rrriirrriiiiiiirrirrrrri mo m_la m_sz m_it ms mt m_st m_mv m_tp (nI mz) ml (nI mp) mk mv mb mw m_rd m_ac (nI ma) m_as m_wo m_ik m_ke m_tr (nI mx)), (xI m_st cI 38 fs), (xI m_as cI 38 fa)])) (va_Qv (fun (_ : Unit) => True) (fun (_ : Unit) t => ∃ (fsn : Nat → Int32), va_P (dC, dI) vwCl [(xo_8_rrriirrriiiiiiirrirrrrri mo m_la m_sz m_it ms mt m_st m_mv m_tp (nI mz) ml (nI mp) mk mv mb mw m_rd m_ac (nI ma) m_as m_wo m_ik m_ke m_tr (nI mx)), (xI m_st cI 38 fsn), (xI m_as cI 38 fa)] t.heap ∧ va_D (va_A [(xo_8_rrriirrriiiiiiirrirrrrri mo m_la m_sz m_it ms mt m_st m_mv m_tp (nI mz) ml (nI mp) mk mv mb mw m_rd m_ac (nI ma) m_as m_wo m_ik m_ke m_tr (nI mx)), (xI m_st cI 38 fs), (xI m_as cI 38 fa)] sz) [(xo_8_rrriirrriiiiiiirrirrrrri mo m_la m_sz m_it ms mt m_st m_mv m_tp (nI mz) ml (nI mp) mk mv mb mw m_rd m_ac (nI ma) m_as m_wo m_ik m_ke m_tr (nI mx)), (xI m_st cI 38 fsn), (xI m_as cI 38 fa)] ∧ (∀ j : Nat, j < 38 → fsn j = fa j)) (va_A [(xo_8_rrriirrriiiiiiirrirrrrri mo m_la m_sz m_it ms mt m_st m_mv m_tp (nI mz) ml (nI mp) mk mv mb mw m_rd m_ac (nI ma) m_as m_wo m_ik m_ke m_tr (nI mx)), (xI m_st cI 38 fs), (xI m_as cI 38 fa)] sz)) 0 0 (va_A [(xo_8_rrriirrriiiiiiirrirrrrri mo m_la m_sz m_it ms mt m_st m_mv m_tp (nI mz) ml (nI mp) mk mv mb mw m_rd m_ac (nI ma) m_as m_wo m_ik m_ke m_tr (nI mx)), (xI m_st cI 38 fs), (xI m_as cI 38 fa)] sz) := by
  refine Met.ofW (cc := cX8_takeBack) (maxL := 2) (ret := none) (by decide) rfl ?_
  intro p e s m args below meth c s₁ B hml hv
  obtain ⟨rfl, hsz, hP, hK, hD0⟩ := hv
  have hx := B.exec
  have hb := B.bytes
  have hr := B.returns
  have hts := atoms_spec (ws := wsX8_takeBack) B.pre
  have hown : s.vm.findClass RX8 = some m.cls := findClass_of_methodNamed B.named
  have hlocks := B.notSynchronized
  subst hsz
  have hD := hD0.self (sz := s.heap.size)
  generalize hAe : va_A [(xo_8_rrriirrriiiiiiirrirrrrri mo m_la m_sz m_it ms mt m_st m_mv m_tp (nI mz) ml (nI mp) mk mv mb mw m_rd m_ac (nI ma) m_as m_wo m_ik m_ke m_tr (nI mx)), (xI m_st cI 38 fs), (xI m_as cI 38 fa)] s.heap.size = A at hD ⊢
  have hA : ∀ q : Nat, s.heap.size ≤ q → A q := fun q h => by rw [← hAe]; exact Or.inr h
  have hS : va_S A s.heap s.heap [] := va_S.rf
  have hP : va_P (dC, dI) vwCl [(xo_8_rrriirrriiiiiiirrirrrrri mo m_la m_sz m_it ms mt m_st m_mv m_tp (nI mz) ml (nI mp) mk mv mb mw m_rd m_ac (nI ma) m_as m_wo m_ik m_ke m_tr (nI mx)), (xI m_st cI 38 fs), (xI m_as cI 38 fa)] s.heap := hP
  have hl := lv_entry ([.ref mo]) (n := 2) (Nat.le_of_ble_eq_true rfl)
  rw [lg_entry_eq]
  generalize (lg_sl ([.ref mo]) ++ List.replicate (2 - (lg_sl ([.ref mo])).length) Slot.unset).toArray = ls at hl ⊢
  have hl : lv_has ls 2 [(0, .ref mo)] := hl
  refine lv_iconst (v := 0) hx hb dX8_takeBack_0 (by decide) ?_
  refine lv_istore_n (lv' := [(1, .int 0), (0, .ref mo)]) hx hb dX8_takeBack_1 rfl hl (by decide) rfl (fun ls hl => ?_)
  refine lp_go (σ := (Nat → Int32)) (fun ii (st : (Nat → Int32)) H locs ls => match st with | w_4 => lv_has ls 2 [(1, .int (nI ii)), (0, .ref mo)] ∧ va_P (dC, dI) vwCl [(xo_8_rrriirrriiiiiiirrirrrrri mo m_la m_sz m_it ms mt m_st m_mv m_tp (nI mz) ml (nI mp) mk mv mb mw m_rd m_ac (nI ma) m_as m_wo m_ik m_ke m_tr (nI mx)), (xI m_st cI 38 w_4), (xI m_as cI 38 fa)] H ∧ va_D A [(xo_8_rrriirrriiiiiiirrirrrrri mo m_la m_sz m_it ms mt m_st m_mv m_tp (nI mz) ml (nI mp) mk mv mb mw m_rd m_ac (nI ma) m_as m_wo m_ik m_ke m_tr (nI mx)), (xI m_st cI 38 w_4), (xI m_as cI 38 fa)] ∧ va_S A s.heap H locs ∧ (∀ j : Nat, j < ii → w_4 j = fa j)) 38 ?_ ?_ 0 (by omega) (fs) ⟨lv_sub hl [0, 1] rfl, hP.sub (ws' := [(xo_8_rrriirrriiiiiiirrirrrrri mo m_la m_sz m_it ms mt m_st m_mv m_tp (nI mz) ml (nI mp) mk mv mb mw m_rd m_ac (nI ma) m_as m_wo m_ik m_ke m_tr (nI mx)), (xI m_st cI 38 fs), (xI m_as cI 38 fa)]) [0, 1, 2] rfl, hD.sub (ws' := [(xo_8_rrriirrriiiiiiirrirrrrri mo m_la m_sz m_it ms mt m_st m_mv m_tp (nI mz) ml (nI mp) mk mv mb mw m_rd m_ac (nI ma) m_as m_wo m_ik m_ke m_tr (nI mx)), (xI m_st cI 38 fs), (xI m_as cI 38 fa)]) [0, 1, 2] (by decide +kernel) rfl, hS, (fun j h_ => absurd h_ (Nat.not_lt_zero j))⟩
  · rintro ii w_4 H locs ls hii ⟨hl, hP, hD, hS, haf_0⟩ ih
    refine lv_iload_n hx hb dX8_takeBack_2 rfl (lv_at hl 0 rfl) ?_
    refine lv_bipush (v := 38) hx hb dX8_takeBack_3 (by decide) ?_
    refine lv_icmp_ge (tgt := 26) hx hb dX8_takeBack_5 (by decide) (fun c_ => absurd c_ (fun q_ => absurd ((nI_leI (a := 38) (b := ii) (by omega) (by omega)).mp q_) (by omega))) (fun _ => ?_)
    refine lv_aload_n hx hb dX8_takeBack_8 rfl (lv_at hl 1 rfl) ?_
    refine va_get (D := (dC, dI)) (ci := 8) (v := .ref m_st) (C := RX8) (T := TX8) (N := 24) hx hb hts i_X8_takeBack_X8 hown hK hP 0 rfl rfl 5 (by decide) (hts _ mx_X8_takeBack_1) (fun _ h9 => h9) rfl dX8_takeBack_9 ?_
    refine lv_iload_n hx hb dX8_takeBack_12 rfl (lv_at hl 0 rfl) ?_
    refine lv_aload_n hx hb dX8_takeBack_13 rfl (lv_at hl 1 rfl) ?_
    refine va_get (D := (dC, dI)) (ci := 8) (v := .ref m_as) (C := RX8) (T := TX8) (N := 24) hx hb hts i_X8_takeBack_X8 hown hK hP 0 rfl rfl 18 (by decide) (hts _ mx_X8_takeBack_2) (fun _ h9 => h9) rfl dX8_takeBack_14 ?_
    refine lv_iload_n hx hb dX8_takeBack_17 rfl (lv_at hl 0 rfl) ?_
    refine va_iald hx hb hK hP 2 0 rfl rfl (vp_in_nI (by omega) (by omega)) dX8_takeBack_18 ?_
    refine lv_topi (fun v_10 e_10 => ?_)
    refine va_iast hx hb hK hP hD hS 1 0 rfl rfl (vp_in_nI (by omega) (by omega)) dX8_takeBack_19 (fun H locs hP hD hS => ?_)
    generalize hg_11 : upd w_4 ((nI ii) : Int32).toNatClampNeg v_10 = g_11 at hP hD
    have hP : va_P (dC, dI) vwCl [(xo_8_rrriirrriiiiiiirrirrrrri mo m_la m_sz m_it ms mt m_st m_mv m_tp (nI mz) ml (nI mp) mk mv mb mw m_rd m_ac (nI ma) m_as m_wo m_ik m_ke m_tr (nI mx)), (xI m_st cI 38 g_11), (xI m_as cI 38 fa)] H := hP
    have hD := dto hP hD
    refine lv_iinc (v := (nI (ii + 1))) (lv' := [(1, .int (nI (ii + 1))), (0, .ref mo)]) hx hb dX8_takeBack_20 hl (k := 0) rfl (nI_add ii 1) (by decide) rfl (fun ls hl => ?_)
    refine lv_goto (tgt := 2) hx hb dX8_takeBack_23 (by decide) ?_
    exact ih (g_11) _ _ _ ⟨lv_sub hl [0, 1] rfl, hP.sub (ws' := [(xo_8_rrriirrriiiiiiirrirrrrri mo m_la m_sz m_it ms mt m_st m_mv m_tp (nI mz) ml (nI mp) mk mv mb mw m_rd m_ac (nI ma) m_as m_wo m_ik m_ke m_tr (nI mx)), (xI m_st cI 38 g_11), (xI m_as cI 38 fa)]) [0, 1, 2] rfl, hD.sub (ws' := [(xo_8_rrriirrriiiiiiirrirrrrri mo m_la m_sz m_it ms mt m_st m_mv m_tp (nI mz) ml (nI mp) mk mv mb mw m_rd m_ac (nI ma) m_as m_wo m_ik m_ke m_tr (nI mx)), (xI m_st cI 38 g_11), (xI m_as cI 38 fa)]) [0, 1, 2] (by decide +kernel) rfl, hS, (cp_0 haf_0 (by omega) e_10 hg_11)⟩
  · rintro w_4 H locs ls ⟨hl, hP, hD, hS, haf_0⟩
    refine lv_iload_n hx hb dX8_takeBack_2 rfl (lv_at hl 0 rfl) ?_
    refine lv_bipush (v := 38) hx hb dX8_takeBack_3 (by decide) ?_
    refine lv_icmp_ge (tgt := 26) hx hb dX8_takeBack_5 (by decide) (fun _ => ?_) (fun c_ => absurd ((nI_leI (a := 38) (b := 38) (by omega) (by omega)).mpr (by omega)) c_)
    have hX9 := cut2 (wc := [(xo_8_rrriirrriiiiiiirrirrrrri mo m_la m_sz m_it ms mt m_st m_mv m_tp (nI mz) ml (nI mp) mk mv mb mw m_rd m_ac (nI ma) m_as m_wo m_ik m_ke m_tr (nI mx)), (xI m_st cI 38 w_4), (xI m_as cI 38 fa)]) hP hD [0, 1, 2] (by decide +kernel) rfl
    exact W.vret hx hb hr (fun t ht hW => ⟨⟨(), rfl, trivial, ⟨w_4, va_Ht ht hX9.1, hX9.2, haf_0⟩⟩, hS.F ht⟩) hS.2.2 dX8_takeBack_26
theorem lf_X8_goOn_1 {fs : Nat → Int32} {w9 : Nat} {k9 : Nat} {h9 : Nat} {j : Nat} {w_3 : Nat → Int32} {ii : Nat} {fsn_8 : Nat → Int32} (hM : okM fs w9 k9 h9) (hw1 : 1 ≤ w9) (hh9 : h9 < 1000000000) (hj : j ≤ 1000) (hii : ii < j) (haf_0 : (w_3 = mGo ii fs)) (hMl : okM w_3 w9 k9 (h9 + ii)) (hF_8_0 : okM fsn_8 w9 k9 ((h9 + ii) + 1)) (hF_8_1 : fsn_8 = mH w_3) : fsn_8 = mGo (ii + 1) fs := by
  first | assumption | (simp only [mGo]; grind)
theorem lf_X8_goOn_2 {fs : Nat → Int32} {w9 : Nat} {k9 : Nat} {h9 : Nat} {j : Nat} {w_3 : Nat → Int32} (hM : okM fs w9 k9 h9) (hw1 : 1 ≤ w9) (hh9 : h9 < 1000000000) (hj : j ≤ 1000) (haf_0 : (w_3 = mGo j fs)) (hMl : okM w_3 w9 k9 (h9 + j)) : w_3 = mGo j fs := by
  first | assumption | (simp only [mGo]; grind)
set_option maxHeartbeats 4000000 in
set_option maxRecDepth 100000 in
theorem r_X8_goOn (l : Launch) (dC : Nat → ClassId) (dI : Nat → Nat → Nat) (cI cZ cL cJ : ClassId) (sz : Nat) (mo : Nat) (m_la : Nat) (m_sz : Nat) (m_it : Nat) (m_st : Nat) (m_mv : Nat) (m_tp : Nat) (m_rd : Nat) (m_ac : Nat) (m_as : Nat) (m_wo : Nat) (m_ik : Nat) (m_ke : Nat) (m_tr : Nat) (ms : Int32) (mt : Int32) (ml : Int32) (mk : Int32) (mv : Int32) (mb : Int32) (mw : Int32) (mz : Nat) (mp : Nat) (ma : Nat) (mx : Nat) (fs : Nat → Int32) (w9 : Nat) (k9 : Nat) (h9 : Nat) (j : Nat) (hM : okM fs w9 k9 h9) (hw1 : 1 ≤ w9) (hh9 : h9 < 1000000000) (hj : j ≤ 1000) : Met l yX8_goOn wsX8_goOn ({ frames := 4, cells := 0, slots := 0, locals := 95 }) (va_Pc [.ref mo, .int (nI j)] (fun U => U.heap.size = sz ∧ va_P (dC, dI) vwCl [(xo_8_rrriirrriiiiiiirrirrrrri mo m_la m_sz m_it ms mt m_st m_mv m_tp (nI mz) ml (nI mp) mk mv mb mw m_rd m_ac (nI ma) m_as m_wo m_ik m_ke m_tr (nI mx)), (xI m_st cI 38 fs)] U.heap ∧ va_K (dC, dI) vwCl [(cI, .int), (cZ, .boolean), (cL, .object RX3), (cJ, .array .int)] U ∧ va_D (fun _ => True) [(xo_8_rrriirrriiiiiiirrirrrrri mo m_la m_sz m_it ms mt m_st m_mv m_tp (nI mz) ml (nI mp) mk mv mb mw m_rd m_ac (nI ma) m_as m_wo m_ik m_ke m_tr (nI mx)), (xI m_st cI 38 fs)])) (va_Qv (fun (_ : Unit) => True) (fun (_ : Unit) t => ∃ (fsn : Nat → Int32), va_P (dC, dI) vwCl [(xo_8_rrriirrriiiiiiirrirrrrri mo m_la m_sz m_it ms mt m_st m_mv m_tp (nI mz) ml (nI mp) mk mv mb mw m_rd m_ac (nI ma) m_as m_wo m_ik m_ke m_tr (nI mx)), (xI m_st cI 38 fsn)] t.heap ∧ va_D (va_A [(xo_8_rrriirrriiiiiiirrirrrrri mo m_la m_sz m_it ms mt m_st m_mv m_tp (nI mz) ml (nI mp) mk mv mb mw m_rd m_ac (nI ma) m_as m_wo m_ik m_ke m_tr (nI mx)), (xI m_st cI 38 fs)] sz) [(xo_8_rrriirrriiiiiiirrirrrrri mo m_la m_sz m_it ms mt m_st m_mv m_tp (nI mz) ml (nI mp) mk mv mb mw m_rd m_ac (nI ma) m_as m_wo m_ik m_ke m_tr (nI mx)), (xI m_st cI 38 fsn)] ∧ okM fsn w9 k9 (h9 + j) ∧ fsn = mGo j fs) (va_A [(xo_8_rrriirrriiiiiiirrirrrrri mo m_la m_sz m_it ms mt m_st m_mv m_tp (nI mz) ml (nI mp) mk mv mb mw m_rd m_ac (nI ma) m_as m_wo m_ik m_ke m_tr (nI mx)), (xI m_st cI 38 fs)] sz)) 0 0 (va_A [(xo_8_rrriirrriiiiiiirrirrrrri mo m_la m_sz m_it ms mt m_st m_mv m_tp (nI mz) ml (nI mp) mk mv mb mw m_rd m_ac (nI ma) m_as m_wo m_ik m_ke m_tr (nI mx)), (xI m_st cI 38 fs)] sz) := by
  refine Met.ofW (cc := cX8_goOn) (maxL := 3) (ret := none) (by decide) rfl ?_
  intro p e s m args below meth c s₁ B hml hv
  obtain ⟨rfl, hsz, hP, hK, hD0⟩ := hv
  have hx := B.exec
  have hb := B.bytes
  have hr := B.returns
  have hts := atoms_spec (ws := wsX8_goOn) B.pre
  have hown : s.vm.findClass RX8 = some m.cls := findClass_of_methodNamed B.named
  have hlocks := B.notSynchronized
  subst hsz
  have hD := hD0.self (sz := s.heap.size)
  generalize hAe : va_A [(xo_8_rrriirrriiiiiiirrirrrrri mo m_la m_sz m_it ms mt m_st m_mv m_tp (nI mz) ml (nI mp) mk mv mb mw m_rd m_ac (nI ma) m_as m_wo m_ik m_ke m_tr (nI mx)), (xI m_st cI 38 fs)] s.heap.size = A at hD ⊢
  have hA : ∀ q : Nat, s.heap.size ≤ q → A q := fun q h => by rw [← hAe]; exact Or.inr h
  have hS : va_S A s.heap s.heap [] := va_S.rf
  have hP : va_P (dC, dI) vwCl [(xo_8_rrriirrriiiiiiirrirrrrri mo m_la m_sz m_it ms mt m_st m_mv m_tp (nI mz) ml (nI mp) mk mv mb mw m_rd m_ac (nI ma) m_as m_wo m_ik m_ke m_tr (nI mx)), (xI m_st cI 38 fs)] s.heap := hP
  have hl := lv_entry ([.ref mo, .int (nI j)]) (n := 3) (Nat.le_of_ble_eq_true rfl)
  rw [lg_entry_eq]
  generalize (lg_sl ([.ref mo, .int (nI j)]) ++ List.replicate (3 - (lg_sl ([.ref mo, .int (nI j)])).length) Slot.unset).toArray = ls at hl ⊢
  have hl : lv_has ls 3 [(0, .ref mo), (1, .int (nI j))] := hl
  have hk6 := hM.2.2.2.2.1
  have hw6 := hM.2.2.2.1
  refine lv_iconst (v := 0) hx hb dX8_goOn_0 (by decide) ?_
  refine lv_istore_n (lv' := [(2, .int 0), (0, .ref mo), (1, .int (nI j))]) hx hb dX8_goOn_1 rfl hl (by decide) rfl (fun ls hl => ?_)
  refine lp_go (σ := (Nat → Int32)) (fun ii (st : (Nat → Int32)) H locs ls => match st with | w_3 => lv_has ls 3 [(2, .int (nI ii)), (0, .ref mo), (1, .int (nI j))] ∧ va_P (dC, dI) vwCl [(xo_8_rrriirrriiiiiiirrirrrrri mo m_la m_sz m_it ms mt m_st m_mv m_tp (nI mz) ml (nI mp) mk mv mb mw m_rd m_ac (nI ma) m_as m_wo m_ik m_ke m_tr (nI mx)), (xI m_st cI 38 w_3)] H ∧ va_D A [(xo_8_rrriirrriiiiiiirrirrrrri mo m_la m_sz m_it ms mt m_st m_mv m_tp (nI mz) ml (nI mp) mk mv mb mw m_rd m_ac (nI ma) m_as m_wo m_ik m_ke m_tr (nI mx)), (xI m_st cI 38 w_3)] ∧ va_S A s.heap H locs ∧ okM w_3 w9 k9 (h9 + ii) ∧ (w_3 = mGo ii fs)) j ?_ ?_ 0 (by omega) (fs) ⟨lv_sub hl [0, 1, 2] rfl, hP.sub (ws' := [(xo_8_rrriirrriiiiiiirrirrrrri mo m_la m_sz m_it ms mt m_st m_mv m_tp (nI mz) ml (nI mp) mk mv mb mw m_rd m_ac (nI ma) m_as m_wo m_ik m_ke m_tr (nI mx)), (xI m_st cI 38 fs)]) [0, 1] rfl, hD.sub (ws' := [(xo_8_rrriirrriiiiiiirrirrrrri mo m_la m_sz m_it ms mt m_st m_mv m_tp (nI mz) ml (nI mp) mk mv mb mw m_rd m_ac (nI ma) m_as m_wo m_ik m_ke m_tr (nI mx)), (xI m_st cI 38 fs)]) [0, 1] (by decide +kernel) rfl, hS, hM, rfl⟩
  · rintro ii w_3 H locs ls hii ⟨hl, hP, hD, hS, hMl, haf_0⟩ ih
    refine lv_iload_n hx hb dX8_goOn_2 rfl (lv_at hl 0 rfl) ?_
    refine lv_iload_n hx hb dX8_goOn_3 rfl (lv_at hl 2 rfl) ?_
    refine lv_icmp_ge (tgt := 18) hx hb dX8_goOn_4 (by decide) (fun c_ => absurd c_ (fun q_ => absurd ((nI_leI (a := j) (b := ii) (by omega) (by omega)).mp q_) (by omega))) (fun _ => ?_)
    refine lv_aload_n hx hb dX8_goOn_7 rfl (lv_at hl 1 rfl) ?_
    have hc_8 := cutW (wc := [(xo_8_rrriirrriiiiiiirrirrrrri mo m_la m_sz m_it ms mt m_st m_mv m_tp (nI mz) ml (nI mp) mk mv mb mw m_rd m_ac (nI ma) m_as m_wo m_ik m_ke m_tr (nI mx)), (xI m_st cI 38 w_3)]) hP hD hS hA [0, 1] (by decide +kernel) rfl
    refine va_calli (va_runV (As := []) (rest := []) ⟨hx, hb, hml, hown, hts⟩ (r_X8_oneHour l dC dI cI cZ cL cJ H.size mo m_la m_sz m_it m_st m_mv m_tp m_rd m_ac m_as m_wo m_ik m_ke m_tr ms mt ml mk mv mb mw mz mp ma mx w_3 w9 k9 (h9 + ii) (hMl) (by omega) (by omega)) (cwV 0 hts gX8_goOn_X8_oneHour rfl rfl rfl (by decide +kernel) ⟨Nat.le_of_ble_eq_true rfl, Nat.le_of_ble_eq_true rfl⟩) (pvW 8 0 hK hP rfl rfl hc_8) rfl rfl hl.1 rfl (lv_room (Nat.le_of_ble_eq_true rfl)) dX8_goOn_8 ⟨Nat.le_of_ble_eq_true rfl, Nat.le_of_ble_eq_true rfl⟩) hS (fun q _ h => hc_8.2.2 q h) hc_8.2.2 (fun r_8 u_8 t_8 H1 locs ht hvm h_8 hB hz1 hk1 hS => ?_)
    refine xl_1_4 hB (fun fsn_8 hP1 hD1 hF_8_0 hF_8_1 => ?_)
    clear hB
    rw [ht] at hP1
    obtain ⟨hP, hD⟩ := va_join (wr := []) (w1 := [(xo_8_rrriirrriiiiiiirrirrrrri mo m_la m_sz m_it ms mt m_st m_mv m_tp (nI mz) ml (nI mp) mk mv mb mw m_rd m_ac (nI ma) m_as m_wo m_ik m_ke m_tr (nI mx)), (xI m_st cI 38 fsn_8)]) hP hD [0, 1] [] rfl rfl (by decide +kernel) (by decide +kernel) hk1 hc_8.2.2 hP1 hD1
    generalize H1 = H at hP hS ⊢
    have hP : va_P (dC, dI) vwCl [(xo_8_rrriirrriiiiiiirrirrrrri mo m_la m_sz m_it ms mt m_st m_mv m_tp (nI mz) ml (nI mp) mk mv mb mw m_rd m_ac (nI ma) m_as m_wo m_ik m_ke m_tr (nI mx)), (xI m_st cI 38 fsn_8)] H := hP
    have hD := dto hP hD
    refine lv_pop hx hb dX8_goOn_11 rfl ?_
    refine lv_iinc (v := (nI (ii + 1))) (lv' := [(2, .int (nI (ii + 1))), (0, .ref mo), (1, .int (nI j))]) hx hb dX8_goOn_12 hl (k := 0) rfl (nI_add ii 1) (by decide) rfl (fun ls hl => ?_)
    refine lv_goto (tgt := 2) hx hb dX8_goOn_15 (by decide) ?_
    exact ih (fsn_8) _ _ _ ⟨lv_sub hl [0, 1, 2] rfl, hP.sub (ws' := [(xo_8_rrriirrriiiiiiirrirrrrri mo m_la m_sz m_it ms mt m_st m_mv m_tp (nI mz) ml (nI mp) mk mv mb mw m_rd m_ac (nI ma) m_as m_wo m_ik m_ke m_tr (nI mx)), (xI m_st cI 38 fsn_8)]) [0, 1] rfl, hD.sub (ws' := [(xo_8_rrriirrriiiiiiirrirrrrri mo m_la m_sz m_it ms mt m_st m_mv m_tp (nI mz) ml (nI mp) mk mv mb mw m_rd m_ac (nI ma) m_as m_wo m_ik m_ke m_tr (nI mx)), (xI m_st cI 38 fsn_8)]) [0, 1] (by decide +kernel) rfl, hS, hF_8_0, (lf_X8_goOn_1 hM hw1 hh9 hj hii haf_0 hMl hF_8_0 hF_8_1)⟩
  · rintro w_3 H locs ls ⟨hl, hP, hD, hS, hMl, haf_0⟩
    refine lv_iload_n hx hb dX8_goOn_2 rfl (lv_at hl 0 rfl) ?_
    refine lv_iload_n hx hb dX8_goOn_3 rfl (lv_at hl 2 rfl) ?_
    refine lv_icmp_ge (tgt := 18) hx hb dX8_goOn_4 (by decide) (fun _ => ?_) (fun c_ => absurd ((nI_leI (a := j) (b := j) (by omega) (by omega)).mpr (by omega)) c_)
    have hX9 := cut2 (wc := [(xo_8_rrriirrriiiiiiirrirrrrri mo m_la m_sz m_it ms mt m_st m_mv m_tp (nI mz) ml (nI mp) mk mv mb mw m_rd m_ac (nI ma) m_as m_wo m_ik m_ke m_tr (nI mx)), (xI m_st cI 38 w_3)]) hP hD [0, 1] (by decide +kernel) rfl
    exact W.vret hx hb hr (fun t ht hW => ⟨⟨(), rfl, trivial, ⟨w_3, va_Ht ht hX9.1, hX9.2, hMl, (lf_X8_goOn_2 hM hw1 hh9 hj haf_0 hMl)⟩⟩, hS.F ht⟩) hS.2.2 dX8_goOn_18
theorem lf_X8_mealBehind_1 {fs : Nat → Int32} {w9 : Nat} {k9 : Nat} {h9 : Nat} {fa : Nat → Int32} {j : Nat} {fsn_1 : Nat → Int32} {v_2 : Int32} {fsn_3 : Nat → Int32} (hM : okM fs w9 k9 h9) (hw1 : 1 ≤ w9) (hh9 : h9 < 1000000000) (hj : j ≤ 1000) (hF_1_0 : okM fsn_1 w9 k9 (h9 + j)) (hF_1_1 : fsn_1 = mGo j fs) (e_2 : v_2 = fsn_1 7) (hF_3_0 : (∀ j : Nat, j < 38 → fsn_3 j = fa j)) : v_2 = (mGo j fs 7) := by
  first | (subst_vars; rfl) | grind
set_option maxHeartbeats 4000000 in
set_option maxRecDepth 100000 in
theorem r_X8_mealBehind (l : Launch) (dC : Nat → ClassId) (dI : Nat → Nat → Nat) (cI cZ cL cJ : ClassId) (sz : Nat) (mo : Nat) (m_la : Nat) (m_sz : Nat) (m_it : Nat) (m_st : Nat) (m_mv : Nat) (m_tp : Nat) (m_rd : Nat) (m_ac : Nat) (m_as : Nat) (m_wo : Nat) (m_ik : Nat) (m_ke : Nat) (m_tr : Nat) (ms : Int32) (mt : Int32) (ml : Int32) (mk : Int32) (mv : Int32) (mb : Int32) (mw : Int32) (mz : Nat) (mp : Nat) (ma : Nat) (mx : Nat) (fs : Nat → Int32) (w9 : Nat) (k9 : Nat) (h9 : Nat) (fa : Nat → Int32) (j : Nat) (hM : okM fs w9 k9 h9) (hw1 : 1 ≤ w9) (hh9 : h9 < 1000000000) (hj : j ≤ 1000) : Met l yX8_mealBehind wsX8_mealBehind ({ frames := 5, cells := 0, slots := 0, locals := 117 }) (va_Pc [.ref mo, .int (nI j)] (fun U => U.heap.size = sz ∧ va_P (dC, dI) vwCl [(xo_8_rrriirrriiiiiiirrirrrrri mo m_la m_sz m_it ms mt m_st m_mv m_tp (nI mz) ml (nI mp) mk mv mb mw m_rd m_ac (nI ma) m_as m_wo m_ik m_ke m_tr (nI mx)), (xI m_st cI 38 fs), (xI m_as cI 38 fa)] U.heap ∧ va_K (dC, dI) vwCl [(cI, .int), (cZ, .boolean), (cL, .object RX3), (cJ, .array .int)] U ∧ va_D (fun _ => True) [(xo_8_rrriirrriiiiiiirrirrrrri mo m_la m_sz m_it ms mt m_st m_mv m_tp (nI mz) ml (nI mp) mk mv mb mw m_rd m_ac (nI ma) m_as m_wo m_ik m_ke m_tr (nI mx)), (xI m_st cI 38 fs), (xI m_as cI 38 fa)])) (va_Qi (fun r (_ : Unit) => r = (mGo j fs 7)) (fun (_ : Unit) t => ∃ (fsn : Nat → Int32), va_P (dC, dI) vwCl [(xo_8_rrriirrriiiiiiirrirrrrri mo m_la m_sz m_it ms mt m_st m_mv m_tp (nI mz) ml (nI mp) mk mv mb mw m_rd m_ac (nI ma) m_as m_wo m_ik m_ke m_tr (nI mx)), (xI m_st cI 38 fsn), (xI m_as cI 38 fa)] t.heap ∧ va_D (va_A [(xo_8_rrriirrriiiiiiirrirrrrri mo m_la m_sz m_it ms mt m_st m_mv m_tp (nI mz) ml (nI mp) mk mv mb mw m_rd m_ac (nI ma) m_as m_wo m_ik m_ke m_tr (nI mx)), (xI m_st cI 38 fs), (xI m_as cI 38 fa)] sz) [(xo_8_rrriirrriiiiiiirrirrrrri mo m_la m_sz m_it ms mt m_st m_mv m_tp (nI mz) ml (nI mp) mk mv mb mw m_rd m_ac (nI ma) m_as m_wo m_ik m_ke m_tr (nI mx)), (xI m_st cI 38 fsn), (xI m_as cI 38 fa)] ∧ (∀ j : Nat, j < 38 → fsn j = fa j)) (va_A [(xo_8_rrriirrriiiiiiirrirrrrri mo m_la m_sz m_it ms mt m_st m_mv m_tp (nI mz) ml (nI mp) mk mv mb mw m_rd m_ac (nI ma) m_as m_wo m_ik m_ke m_tr (nI mx)), (xI m_st cI 38 fs), (xI m_as cI 38 fa)] sz)) 0 0 (va_A [(xo_8_rrriirrriiiiiiirrirrrrri mo m_la m_sz m_it ms mt m_st m_mv m_tp (nI mz) ml (nI mp) mk mv mb mw m_rd m_ac (nI ma) m_as m_wo m_ik m_ke m_tr (nI mx)), (xI m_st cI 38 fs), (xI m_as cI 38 fa)] sz) := by
  refine Met.ofW (cc := cX8_mealBehind) (maxL := 3) (ret := (some .int)) (by decide) rfl ?_
  intro p e s m args below meth c s₁ B hml hv
  obtain ⟨rfl, hsz, hP, hK, hD0⟩ := hv
  have hx := B.exec
  have hb := B.bytes
  have hr := B.returns
  have hts := atoms_spec (ws := wsX8_mealBehind) B.pre
  have hown : s.vm.findClass RX8 = some m.cls := findClass_of_methodNamed B.named
  have hlocks := B.notSynchronized
  subst hsz
  have hD := hD0.self (sz := s.heap.size)
  generalize hAe : va_A [(xo_8_rrriirrriiiiiiirrirrrrri mo m_la m_sz m_it ms mt m_st m_mv m_tp (nI mz) ml (nI mp) mk mv mb mw m_rd m_ac (nI ma) m_as m_wo m_ik m_ke m_tr (nI mx)), (xI m_st cI 38 fs), (xI m_as cI 38 fa)] s.heap.size = A at hD ⊢
  have hA : ∀ q : Nat, s.heap.size ≤ q → A q := fun q h => by rw [← hAe]; exact Or.inr h
  have hS : va_S A s.heap s.heap [] := va_S.rf
  have hP : va_P (dC, dI) vwCl [(xo_8_rrriirrriiiiiiirrirrrrri mo m_la m_sz m_it ms mt m_st m_mv m_tp (nI mz) ml (nI mp) mk mv mb mw m_rd m_ac (nI ma) m_as m_wo m_ik m_ke m_tr (nI mx)), (xI m_st cI 38 fs), (xI m_as cI 38 fa)] s.heap := hP
  have hl := lv_entry ([.ref mo, .int (nI j)]) (n := 3) (Nat.le_of_ble_eq_true rfl)
  rw [lg_entry_eq]
  generalize (lg_sl ([.ref mo, .int (nI j)]) ++ List.replicate (3 - (lg_sl ([.ref mo, .int (nI j)])).length) Slot.unset).toArray = ls at hl ⊢
  have hl : lv_has ls 3 [(0, .ref mo), (1, .int (nI j))] := hl
  have hk6 := hM.2.2.2.2.1
  have hw6 := hM.2.2.2.1
  refine lv_aload_n hx hb dX8_mealBehind_0 rfl (lv_at hl 0 rfl) ?_
  refine lv_iload_n hx hb dX8_mealBehind_1 rfl (lv_at hl 1 rfl) ?_
  have hc_1 := cutW (wc := [(xo_8_rrriirrriiiiiiirrirrrrri mo m_la m_sz m_it ms mt m_st m_mv m_tp (nI mz) ml (nI mp) mk mv mb mw m_rd m_ac (nI ma) m_as m_wo m_ik m_ke m_tr (nI mx)), (xI m_st cI 38 fs)]) hP hD hS hA [0, 1] (by decide +kernel) rfl
  refine va_callv (va_runV (As := [.int (nI j)]) (rest := []) ⟨hx, hb, hml, hown, hts⟩ (r_X8_goOn l dC dI cI cZ cL cJ s.heap.size mo m_la m_sz m_it m_st m_mv m_tp m_rd m_ac m_as m_wo m_ik m_ke m_tr ms mt ml mk mv mb mw mz mp ma mx fs w9 k9 h9 j (hM) (by omega) (by omega) (by omega)) (cwV 1 hts gX8_mealBehind_X8_goOn rfl rfl rfl (by decide +kernel) ⟨Nat.le_of_ble_eq_true rfl, Nat.le_of_ble_eq_true rfl⟩) (pvW 8 0 hK hP rfl rfl hc_1) rfl rfl hl.1 rfl (lv_room (Nat.le_of_ble_eq_true rfl)) dX8_mealBehind_2 ⟨Nat.le_of_ble_eq_true rfl, Nat.le_of_ble_eq_true rfl⟩) hS (fun q _ h => hc_1.2.2 q h) hc_1.2.2 (fun u_1 t_1 H1 locs ht hvm h_1 hB hz1 hk1 hS => ?_)
  refine xl_1_4 hB (fun fsn_1 hP1 hD1 hF_1_0 hF_1_1 => ?_)
  clear hB
  rw [ht] at hP1
  obtain ⟨hP, hD⟩ := va_join (wr := [(xI m_as cI 38 fa)]) (w1 := [(xo_8_rrriirrriiiiiiirrirrrrri mo m_la m_sz m_it ms mt m_st m_mv m_tp (nI mz) ml (nI mp) mk mv mb mw m_rd m_ac (nI ma) m_as m_wo m_ik m_ke m_tr (nI mx)), (xI m_st cI 38 fsn_1)]) hP hD [0, 1] [2] rfl rfl (by decide +kernel) (by decide +kernel) hk1 hc_1.2.2 hP1 hD1
  generalize H1 = H at hP hS ⊢
  have hP : va_P (dC, dI) vwCl [(xI m_as cI 38 fa), (xo_8_rrriirrriiiiiiirrirrrrri mo m_la m_sz m_it ms mt m_st m_mv m_tp (nI mz) ml (nI mp) mk mv mb mw m_rd m_ac (nI ma) m_as m_wo m_ik m_ke m_tr (nI mx)), (xI m_st cI 38 fsn_1)] H := hP
  have hD := dto hP hD
  refine lv_aload_n hx hb dX8_mealBehind_5 rfl (lv_at hl 0 rfl) ?_
  refine va_get (D := (dC, dI)) (ci := 8) (v := .ref m_st) (C := RX8) (T := TX8) (N := 24) hx hb hts i_X8_mealBehind_X8 hown hK hP 1 rfl rfl 5 (by decide) (hts _ mx_X8_mealBehind_1) (fun _ h9 => h9) rfl dX8_mealBehind_6 ?_
  refine lv_bipush (v := 7) hx hb dX8_mealBehind_9 (by decide) ?_
  refine va_iald hx hb hK hP 2 0 rfl rfl (by unfold vp_in; decide) dX8_mealBehind_11 ?_
  refine lv_topi (fun v_2 e_2 => ?_)
  have e_2 : v_2 = fsn_1 7 := e_2
  refine lv_istore_n (lv' := [(2, .int v_2), (0, .ref mo), (1, .int (nI j))]) hx hb dX8_mealBehind_12 rfl hl (by decide) rfl (fun ls hl => ?_)
  refine lv_aload_n hx hb dX8_mealBehind_13 rfl (lv_at hl 1 rfl) ?_
  have hc_3 := cutW (wc := [(xo_8_rrriirrriiiiiiirrirrrrri mo m_la m_sz m_it ms mt m_st m_mv m_tp (nI mz) ml (nI mp) mk mv mb mw m_rd m_ac (nI ma) m_as m_wo m_ik m_ke m_tr (nI mx)), (xI m_st cI 38 fsn_1), (xI m_as cI 38 fa)]) hP hD hS hA [1, 2, 0] (by decide +kernel) rfl
  refine va_callv (va_runV (As := []) (rest := []) ⟨hx, hb, hml, hown, hts⟩ (r_X8_takeBack l dC dI cI cZ cL cJ H.size mo m_la m_sz m_it m_st m_mv m_tp m_rd m_ac m_as m_wo m_ik m_ke m_tr ms mt ml mk mv mb mw mz mp ma mx fsn_1 fa ) (cwV 0 hts gX8_mealBehind_X8_takeBack rfl rfl rfl (by decide +kernel) ⟨Nat.le_of_ble_eq_true rfl, Nat.le_of_ble_eq_true rfl⟩) (pvW 8 1 hK hP rfl rfl hc_3) rfl rfl hl.1 rfl (lv_room (Nat.le_of_ble_eq_true rfl)) dX8_mealBehind_14 ⟨Nat.le_of_ble_eq_true rfl, Nat.le_of_ble_eq_true rfl⟩) hS (fun q _ h => hc_3.2.2 q h) hc_3.2.2 (fun u_3 t_3 H1 locs ht hvm h_3 hB hz1 hk1 hS => ?_)
  refine xl_1_3 hB (fun fsn_3 hP1 hD1 hF_3_0 => ?_)
  clear hB
  rw [ht] at hP1
  obtain ⟨hP, hD⟩ := va_join (wr := []) (w1 := [(xo_8_rrriirrriiiiiiirrirrrrri mo m_la m_sz m_it ms mt m_st m_mv m_tp (nI mz) ml (nI mp) mk mv mb mw m_rd m_ac (nI ma) m_as m_wo m_ik m_ke m_tr (nI mx)), (xI m_st cI 38 fsn_3), (xI m_as cI 38 fa)]) hP hD [1, 2, 0] [] rfl rfl (by decide +kernel) (by decide +kernel) hk1 hc_3.2.2 hP1 hD1
  generalize H1 = H at hP hS ⊢
  have hP : va_P (dC, dI) vwCl [(xo_8_rrriirrriiiiiiirrirrrrri mo m_la m_sz m_it ms mt m_st m_mv m_tp (nI mz) ml (nI mp) mk mv mb mw m_rd m_ac (nI ma) m_as m_wo m_ik m_ke m_tr (nI mx)), (xI m_st cI 38 fsn_3), (xI m_as cI 38 fa)] H := hP
  have hD := dto hP hD
  refine lv_iload_n hx hb dX8_mealBehind_17 rfl (lv_at hl 0 rfl) ?_
  have hX9 := cut2 (wc := [(xo_8_rrriirrriiiiiiirrirrrrri mo m_la m_sz m_it ms mt m_st m_mv m_tp (nI mz) ml (nI mp) mk mv mb mw m_rd m_ac (nI ma) m_as m_wo m_ik m_ke m_tr (nI mx)), (xI m_st cI 38 fsn_3), (xI m_as cI 38 fa)]) hP hD [0, 1, 2] (by decide +kernel) rfl
  exact W.iret (v := v_2) hx hb hr (fun t ht hW => ⟨⟨v_2, (), rfl, (lf_X8_mealBehind_1 hM hw1 hh9 hj hF_1_0 hF_1_1 e_2 hF_3_0), ⟨fsn_3, va_Ht ht hX9.1, hX9.2, hF_3_0⟩⟩, hS.F ht⟩) hS.2.2 dX8_mealBehind_18
theorem lf_X8_ahead_1 {mt : Int32} {ma : Nat} {fs : Nat → Int32} {w9 : Nat} {k9 : Nat} {h9 : Nat} {a0 : Int32} {a1 : Int32} {a2 : Int32} (hM : okM fs w9 k9 h9) (hT : ¬ mt = 0 → 1 ≤ k9) (h999 : h9 ≤ 999) (hT0 : mt = 0 → fs 0 = 0 ∧ ma = 0) (f_1_0_0 : ¬ sB (nI k9) a0) : (-1000001) = (a_ahd (m38 fs) a0 a1 a2) := by
  first
  | exact ahdM_n1 hM.2.1 f_1_0_0
  | exact ahd_n (Or.inr (Or.inl q_5))
  | exact ahd_n (Or.inr (Or.inr q_8))
theorem lf_X8_ahead_2 {mt : Int32} {ma : Nat} {fs : Nat → Int32} {w9 : Nat} {k9 : Nat} {h9 : Nat} {a1 : Int32} {a2 : Int32} {j_1 : Nat} (hM : okM fs w9 k9 h9) (hT : ¬ mt = 0 → 1 ≤ k9) (h999 : h9 ≤ 999) (hT0 : mt = 0 → fs 0 = 0 ∧ ma = 0) (hj_1 : j_1 < k9) (hkn1 : 1 ≤ k9) (hw1 : 1 ≤ w9) (h01 : ¬ fs 0 = 0) (f_5_0_0 : ((a1).toInt64 < 0 ∨ 60 < (a1).toInt64)) (q_5 : (a1 < 0 ∨ 60 < a1)) : (-1000001) = (a_ahd (m38 fs) (nI j_1) a1 a2) := by
  first
  | exact ahd_n (Or.inr (Or.inl q_5))
  | exact ahd_n (Or.inr (Or.inr q_8))
theorem lf_X8_ahead_3 {mt : Int32} {ma : Nat} {fs : Nat → Int32} {w9 : Nat} {k9 : Nat} {h9 : Nat} {a2 : Int32} {j_1 : Nat} {j_5 : Nat} (hM : okM fs w9 k9 h9) (hT : ¬ mt = 0 → 1 ≤ k9) (h999 : h9 ≤ 999) (hT0 : mt = 0 → fs 0 = 0 ∧ ma = 0) (hj_1 : j_1 < k9) (hkn1 : 1 ≤ k9) (hw1 : 1 ≤ w9) (h01 : ¬ fs 0 = 0) (f_5_1_0 : (¬ (((nI j_5)).toInt64 < 0 ∨ 60 < ((nI j_5)).toInt64))) (q_5 : ¬ ((nI j_5) < 0 ∨ 60 < (nI j_5))) (hj_5 : j_5 ≤ 60) (f_8_0_0 : ((a2).toInt64 < 0 ∨ 2 < (a2).toInt64)) (q_8 : (a2 < 0 ∨ 2 < a2)) : (-1000001) = (a_ahd (m38 fs) (nI j_1) (nI j_5) a2) := by
  first
  | exact ahd_n (Or.inr (Or.inl q_5))
  | exact ahd_n (Or.inr (Or.inr q_8))
theorem lf_X8_ahead_4 {mt : Int32} {ma : Nat} {fs : Nat → Int32} {w9 : Nat} {k9 : Nat} {h9 : Nat} {j_1 : Nat} {j_5 : Nat} {j_8 : Nat} {fan_11 : Nat → Int32} {fsn_12 : Nat → Int32} {v_14 : Int32} {fsn_18 : Nat → Int32} (hM : okM fs w9 k9 h9) (hT : ¬ mt = 0 → 1 ≤ k9) (h999 : h9 ≤ 999) (hT0 : mt = 0 → fs 0 = 0 ∧ ma = 0) (hj_1 : j_1 < k9) (hkn1 : 1 ≤ k9) (hw1 : 1 ≤ w9) (h01 : ¬ fs 0 = 0) (f_5_1_0 : (¬ (((nI j_5)).toInt64 < 0 ∨ 60 < ((nI j_5)).toInt64))) (q_5 : ¬ ((nI j_5) < 0 ∨ 60 < (nI j_5))) (hj_5 : j_5 ≤ 60) (f_8_1_0 : (¬ (((nI j_8)).toInt64 < 0 ∨ 2 < ((nI j_8)).toInt64))) (q_8 : ¬ ((nI j_8) < 0 ∨ 2 < (nI j_8))) (hj_8 : j_8 ≤ 2) (hF_11_0 : (∀ j : Nat, j < 38 → fan_11 j = fs j)) (hF_12_0 : okM fsn_12 w9 k9 (h9 + j_5)) (hF_12_1 : fsn_12 = mGo j_5 fs) (e_14 : v_14 = fsn_12 (26 + j_1)) (c_15 : ¬ (j_8 = 1)) (c_16 : ¬ (j_8 = 2)) (c_17 : ¬ (v_14 = 0)) (hF_18_0 : (∀ j : Nat, j < 38 → fsn_18 j = fan_11 j)) : (-1000000) = (a_ahd (m38 fs) (nI j_1) (nI j_5) (nI j_8)) := by
  first
  | exact ahd_n (Or.inr (Or.inl q_5))
  | exact ahd_n (Or.inr (Or.inr q_8))
  | exact ahdM_0a hM hw1 hj_1 hj_5 q_8 hF_12_1 (by omega) e_14 c_17
  | exact ahdM_1 hM hw1 hj_1 hj_5 q_8 hF_12_1 c_15 e_14
theorem lf_X8_ahead_5 {mt : Int32} {ma : Nat} {fs : Nat → Int32} {w9 : Nat} {k9 : Nat} {h9 : Nat} {j_1 : Nat} {j_5 : Nat} {j_8 : Nat} {fan_11 : Nat → Int32} {fsn_12 : Nat → Int32} {v_14 : Int32} {v_20 : Int32} {fsn_21 : Nat → Int32} (hM : okM fs w9 k9 h9) (hT : ¬ mt = 0 → 1 ≤ k9) (h999 : h9 ≤ 999) (hT0 : mt = 0 → fs 0 = 0 ∧ ma = 0) (hj_1 : j_1 < k9) (hkn1 : 1 ≤ k9) (hw1 : 1 ≤ w9) (h01 : ¬ fs 0 = 0) (f_5_1_0 : (¬ (((nI j_5)).toInt64 < 0 ∨ 60 < ((nI j_5)).toInt64))) (q_5 : ¬ ((nI j_5) < 0 ∨ 60 < (nI j_5))) (hj_5 : j_5 ≤ 60) (f_8_1_0 : (¬ (((nI j_8)).toInt64 < 0 ∨ 2 < ((nI j_8)).toInt64))) (q_8 : ¬ ((nI j_8) < 0 ∨ 2 < (nI j_8))) (hj_8 : j_8 ≤ 2) (hF_11_0 : (∀ j : Nat, j < 38 → fan_11 j = fs j)) (hF_12_0 : okM fsn_12 w9 k9 (h9 + j_5)) (hF_12_1 : fsn_12 = mGo j_5 fs) (e_14 : v_14 = fsn_12 (26 + j_1)) (c_15 : ¬ (j_8 = 1)) (c_16 : ¬ (j_8 = 2)) (c_17 : v_14 = 0) (e_20 : v_20 = fsn_12 (20 + j_1)) (hF_21_0 : (∀ j : Nat, j < 38 → fsn_21 j = fan_11 j)) : v_20 = (a_ahd (m38 fs) (nI j_1) (nI j_5) (nI j_8)) := by
  first
  | exact ahd_n (Or.inr (Or.inl q_5))
  | exact ahd_n (Or.inr (Or.inr q_8))
  | exact ahdM_0a hM hw1 hj_1 hj_5 q_8 hF_12_1 (by omega) e_14 c_17
  | exact ahdM_0b hM hw1 hj_1 hj_5 q_8 hF_12_1 (by omega) e_14 c_17 e_20
  | exact ahdM_1 hM hw1 hj_1 hj_5 q_8 hF_12_1 c_15 e_14
theorem lf_X8_ahead_6 {mt : Int32} {ma : Nat} {fs : Nat → Int32} {w9 : Nat} {k9 : Nat} {h9 : Nat} {j_1 : Nat} {j_5 : Nat} {j_8 : Nat} {fan_11 : Nat → Int32} {fsn_12 : Nat → Int32} {v_14 : Int32} {v_23 : Int32} {fsn_24 : Nat → Int32} (hM : okM fs w9 k9 h9) (hT : ¬ mt = 0 → 1 ≤ k9) (h999 : h9 ≤ 999) (hT0 : mt = 0 → fs 0 = 0 ∧ ma = 0) (hj_1 : j_1 < k9) (hkn1 : 1 ≤ k9) (hw1 : 1 ≤ w9) (h01 : ¬ fs 0 = 0) (f_5_1_0 : (¬ (((nI j_5)).toInt64 < 0 ∨ 60 < ((nI j_5)).toInt64))) (q_5 : ¬ ((nI j_5) < 0 ∨ 60 < (nI j_5))) (hj_5 : j_5 ≤ 60) (f_8_1_0 : (¬ (((nI j_8)).toInt64 < 0 ∨ 2 < ((nI j_8)).toInt64))) (q_8 : ¬ ((nI j_8) < 0 ∨ 2 < (nI j_8))) (hj_8 : j_8 ≤ 2) (hF_11_0 : (∀ j : Nat, j < 38 → fan_11 j = fs j)) (hF_12_0 : okM fsn_12 w9 k9 (h9 + j_5)) (hF_12_1 : fsn_12 = mGo j_5 fs) (e_14 : v_14 = fsn_12 (26 + j_1)) (c_15 : ¬ (j_8 = 1)) (c_16 : j_8 = 2) (e_23 : v_23 = fsn_12 (32 + j_1)) (hF_24_0 : (∀ j : Nat, j < 38 → fsn_24 j = fan_11 j)) : v_23 = (a_ahd (m38 fs) (nI j_1) (nI j_5) (nI j_8)) := by
  first
  | exact ahd_n (Or.inr (Or.inl q_5))
  | exact ahd_n (Or.inr (Or.inr q_8))
  | exact ahdM_2 hM hw1 hj_1 hj_5 q_8 hF_12_1 c_16 e_23
  | exact ahdM_1 hM hw1 hj_1 hj_5 q_8 hF_12_1 c_15 e_14
theorem lf_X8_ahead_7 {mt : Int32} {ma : Nat} {fs : Nat → Int32} {w9 : Nat} {k9 : Nat} {h9 : Nat} {j_1 : Nat} {j_5 : Nat} {j_8 : Nat} {fan_11 : Nat → Int32} {fsn_12 : Nat → Int32} {v_14 : Int32} {fsn_25 : Nat → Int32} (hM : okM fs w9 k9 h9) (hT : ¬ mt = 0 → 1 ≤ k9) (h999 : h9 ≤ 999) (hT0 : mt = 0 → fs 0 = 0 ∧ ma = 0) (hj_1 : j_1 < k9) (hkn1 : 1 ≤ k9) (hw1 : 1 ≤ w9) (h01 : ¬ fs 0 = 0) (f_5_1_0 : (¬ (((nI j_5)).toInt64 < 0 ∨ 60 < ((nI j_5)).toInt64))) (q_5 : ¬ ((nI j_5) < 0 ∨ 60 < (nI j_5))) (hj_5 : j_5 ≤ 60) (f_8_1_0 : (¬ (((nI j_8)).toInt64 < 0 ∨ 2 < ((nI j_8)).toInt64))) (q_8 : ¬ ((nI j_8) < 0 ∨ 2 < (nI j_8))) (hj_8 : j_8 ≤ 2) (hF_11_0 : (∀ j : Nat, j < 38 → fan_11 j = fs j)) (hF_12_0 : okM fsn_12 w9 k9 (h9 + j_5)) (hF_12_1 : fsn_12 = mGo j_5 fs) (e_14 : v_14 = fsn_12 (26 + j_1)) (c_15 : j_8 = 1) (hF_25_0 : (∀ j : Nat, j < 38 → fsn_25 j = fan_11 j)) : v_14 = (a_ahd (m38 fs) (nI j_1) (nI j_5) (nI j_8)) := by
  first
  | exact ahd_n (Or.inr (Or.inl q_5))
  | exact ahd_n (Or.inr (Or.inr q_8))
  | exact ahdM_1 hM hw1 hj_1 hj_5 q_8 hF_12_1 c_15 e_14
set_option maxHeartbeats 4000000 in
set_option maxRecDepth 100000 in
theorem r_X8_ahead (l : Launch) (dC : Nat → ClassId) (dI : Nat → Nat → Nat) (cI cZ cL cJ : ClassId) (sz : Nat) (mo : Nat) (m_la : Nat) (m_sz : Nat) (m_it : Nat) (m_st : Nat) (m_mv : Nat) (m_tp : Nat) (m_rd : Nat) (m_ac : Nat) (m_as : Nat) (m_wo : Nat) (m_ik : Nat) (m_ke : Nat) (m_tr : Nat) (ms : Int32) (mt : Int32) (ml : Int32) (mk : Int32) (mv : Int32) (mb : Int32) (mw : Int32) (mz : Nat) (mp : Nat) (ma : Nat) (mx : Nat) (fs : Nat → Int32) (w9 : Nat) (k9 : Nat) (h9 : Nat) (fa : Nat → Int32) (a0 : Int32) (a1 : Int32) (a2 : Int32) (hM : okM fs w9 k9 h9) (hT : ¬ mt = 0 → 1 ≤ k9) (h999 : h9 ≤ 999) (hT0 : mt = 0 → fs 0 = 0 ∧ ma = 0) : Met l yX8_ahead wsX8_ahead ({ frames := 5, cells := 0, slots := 0, locals := 117 }) (va_Pc [.ref mo, .int a0, .int a1, .int a2] (fun U => U.heap.size = sz ∧ va_P (dC, dI) vwCl [(xo_8_rrriirrriiiiiiirrirrrrri mo m_la m_sz m_it ms mt m_st m_mv m_tp (nI mz) ml (nI mp) mk mv mb mw m_rd m_ac (nI ma) m_as m_wo m_ik m_ke m_tr (nI mx)), (xI m_st cI 38 fs), (xI m_as cI 38 fa)] U.heap ∧ va_K (dC, dI) vwCl [(cI, .int), (cZ, .boolean), (cL, .object RX3), (cJ, .array .int)] U ∧ va_D (fun _ => True) [(xo_8_rrriirrriiiiiiirrirrrrri mo m_la m_sz m_it ms mt m_st m_mv m_tp (nI mz) ml (nI mp) mk mv mb mw m_rd m_ac (nI ma) m_as m_wo m_ik m_ke m_tr (nI mx)), (xI m_st cI 38 fs), (xI m_as cI 38 fa)])) (va_Qi (fun r (_ : Unit) => r = (a_ahd (m38 fs) a0 a1 a2)) (fun (_ : Unit) t => ∃ (fsn : Nat → Int32) (fan : Nat → Int32), va_P (dC, dI) vwCl [(xo_8_rrriirrriiiiiiirrirrrrri mo m_la m_sz m_it ms mt m_st m_mv m_tp (nI mz) ml (nI mp) mk mv mb mw m_rd m_ac (nI ma) m_as m_wo m_ik m_ke m_tr (nI mx)), (xI m_st cI 38 fsn), (xI m_as cI 38 fan)] t.heap ∧ va_D (va_A [(xo_8_rrriirrriiiiiiirrirrrrri mo m_la m_sz m_it ms mt m_st m_mv m_tp (nI mz) ml (nI mp) mk mv mb mw m_rd m_ac (nI ma) m_as m_wo m_ik m_ke m_tr (nI mx)), (xI m_st cI 38 fs), (xI m_as cI 38 fa)] sz) [(xo_8_rrriirrriiiiiiirrirrrrri mo m_la m_sz m_it ms mt m_st m_mv m_tp (nI mz) ml (nI mp) mk mv mb mw m_rd m_ac (nI ma) m_as m_wo m_ik m_ke m_tr (nI mx)), (xI m_st cI 38 fsn), (xI m_as cI 38 fan)] ∧ okM fsn w9 k9 h9 ∧ m38 fsn = m38 fs) (va_A [(xo_8_rrriirrriiiiiiirrirrrrri mo m_la m_sz m_it ms mt m_st m_mv m_tp (nI mz) ml (nI mp) mk mv mb mw m_rd m_ac (nI ma) m_as m_wo m_ik m_ke m_tr (nI mx)), (xI m_st cI 38 fs), (xI m_as cI 38 fa)] sz)) 0 0 (va_A [(xo_8_rrriirrriiiiiiirrirrrrri mo m_la m_sz m_it ms mt m_st m_mv m_tp (nI mz) ml (nI mp) mk mv mb mw m_rd m_ac (nI ma) m_as m_wo m_ik m_ke m_tr (nI mx)), (xI m_st cI 38 fs), (xI m_as cI 38 fa)] sz) := by
  refine Met.ofW (cc := cX8_ahead) (maxL := 6) (ret := (some .int)) (by decide) rfl ?_
  intro p e s m args below meth c s₁ B hml hv
  obtain ⟨rfl, hsz, hP, hK, hD0⟩ := hv
  have hx := B.exec
  have hb := B.bytes
  have hr := B.returns
  have hts := atoms_spec (ws := wsX8_ahead) B.pre
  have hown : s.vm.findClass RX8 = some m.cls := findClass_of_methodNamed B.named
  have hlocks := B.notSynchronized
  subst hsz
  have hD := hD0.self (sz := s.heap.size)
  generalize hAe : va_A [(xo_8_rrriirrriiiiiiirrirrrrri mo m_la m_sz m_it ms mt m_st m_mv m_tp (nI mz) ml (nI mp) mk mv mb mw m_rd m_ac (nI ma) m_as m_wo m_ik m_ke m_tr (nI mx)), (xI m_st cI 38 fs), (xI m_as cI 38 fa)] s.heap.size = A at hD ⊢
  have hA : ∀ q : Nat, s.heap.size ≤ q → A q := fun q h => by rw [← hAe]; exact Or.inr h
  have hS : va_S A s.heap s.heap [] := va_S.rf
  have hP : va_P (dC, dI) vwCl [(xo_8_rrriirrriiiiiiirrirrrrri mo m_la m_sz m_it ms mt m_st m_mv m_tp (nI mz) ml (nI mp) mk mv mb mw m_rd m_ac (nI ma) m_as m_wo m_ik m_ke m_tr (nI mx)), (xI m_st cI 38 fs), (xI m_as cI 38 fa)] s.heap := hP
  have hl := lv_entry ([.ref mo, .int a0, .int a1, .int a2]) (n := 6) (Nat.le_of_ble_eq_true rfl)
  rw [lg_entry_eq]
  generalize (lg_sl ([.ref mo, .int a0, .int a1, .int a2]) ++ List.replicate (6 - (lg_sl ([.ref mo, .int a0, .int a1, .int a2])).length) Slot.unset).toArray = ls at hl ⊢
  have hl : lv_has ls 6 [(0, .ref mo), (1, .int a0), (2, .int a1), (3, .int a2)] := hl
  have hk6 := hM.2.2.2.2.1
  have hw6 := hM.2.2.2.1
  refine lv_aload_n hx hb dX8_ahead_0 rfl (lv_at hl 0 rfl) ?_
  refine lv_iload_n hx hb dX8_ahead_1 rfl (lv_at hl 1 rfl) ?_
  have hPc_1 := hP.sub (ws' := [(xo_8_rrriirrriiiiiiirrirrrrri mo m_la m_sz m_it ms mt m_st m_mv m_tp (nI mz) ml (nI mp) mk mv mb mw m_rd m_ac (nI ma) m_as m_wo m_ik m_ke m_tr (nI mx)), (xI m_st cI 38 fs)]) [0, 1] rfl
  refine vp_callSi (W.runV (As := [.int a0]) (rest := []) ⟨hx, hb, hml, hown, hts⟩ (r_X8_isSound l dC dI cI cZ cL cJ mo m_la m_sz m_it m_st m_mv m_tp m_rd m_ac m_as m_wo m_ik m_ke m_tr ms mt ml mk mv mb mw mz mp ma mx fs w9 k9 h9 a0 (hM)) (cwV 1 hts gX8_ahead_X8_isSound rfl rfl rfl (by decide +kernel) ⟨Nat.le_of_ble_eq_true rfl, Nat.le_of_ble_eq_true rfl⟩) (pvP 8 0 hK hP rfl rfl hPc_1) rfl rfl hl.1 rfl (lv_room (Nat.le_of_ble_eq_true rfl)) dX8_ahead_2 ⟨Nat.le_of_ble_eq_true rfl, Nat.le_of_ble_eq_true rfl⟩) (fun r_1 h_1 => ?_)
  rcases h_1 with ⟨h_1, f_1_0_0⟩ | ⟨h_1, f_1_1_0⟩
  · subst h_1
    refine lv_if_eq (tgt := 32) hx hb dX8_ahead_5 (by decide) (fun _ => ?_) (fun c_ => absurd (by decide) c_)
    refine lv_ldc (own := RX8) (v := (-1000001)) hx hb hown (hts _ mx_X8_ahead_3) dX8_ahead_32 ?_
    have hX9 := cut2 (wc := [(xo_8_rrriirrriiiiiiirrirrrrri mo m_la m_sz m_it ms mt m_st m_mv m_tp (nI mz) ml (nI mp) mk mv mb mw m_rd m_ac (nI ma) m_as m_wo m_ik m_ke m_tr (nI mx)), (xI m_st cI 38 fs), (xI m_as cI 38 fa)]) hP hD [0, 1, 2] (by decide +kernel) rfl
    exact W.iret (v := (-1000001)) hx hb hr (fun t ht hW => ⟨⟨(-1000001), (), rfl, (lf_X8_ahead_1 hM hT h999 hT0 f_1_0_0), ⟨fs, fa, va_Ht ht hX9.1, hX9.2, hM, rfl⟩⟩, hS.F ht⟩) hS.2.2 dX8_ahead_34
  · subst h_1
    obtain ⟨j_1, hj_1, rfl⟩ := vp_in_of f_1_1_0 (by omega)
    have hkn1 : 1 ≤ k9 := by omega
    have hw1 := hM.2.2.2.2.2.1.mp hkn1
    have h01 : ¬ fs 0 = 0 := cell_nz hM hkn1
    refine lv_if_eq (tgt := 32) hx hb dX8_ahead_5 (by decide) (fun c_ => absurd c_ (by decide)) (fun _ => ?_)
    refine lv_iload_n hx hb dX8_ahead_8 rfl (lv_at hl 2 rfl) ?_
    refine lv_i2l hx hb dX8_ahead_9 rfl ?_
    refine lv_lconst (v := 0) hx hb dX8_ahead_10 (by decide) ?_
    refine lv_ldc2 (own := RX8) (v := 60) hx hb hown (hts _ mx_X8_ahead_1) dX8_ahead_11 ?_
    have hPc_5 := hP.sub (ws' := []) [] rfl
    refine vp_callSi (W.runS (As := [.long (a1).toInt64, .long 0, .long 60]) (rest := []) ⟨hx, hb, hml, hown, hts⟩ (r_X8_in l dC dI cI cZ cL cJ ((a1).toInt64) 0 60 ) (va_cwS 3 hts gX8_ahead_X8_in rfl rfl rfl (by decide +kernel) ⟨Nat.le_of_ble_eq_true rfl, Nat.le_of_ble_eq_true rfl⟩) (psP hK hPc_5) rfl rfl hl.1 rfl (lv_room (Nat.le_of_ble_eq_true rfl)) dX8_ahead_14 ⟨Nat.le_of_ble_eq_true rfl, Nat.le_of_ble_eq_true rfl⟩) (fun r_5 h_5 => ?_)
    rcases h_5 with ⟨h_5, f_5_0_0⟩ | ⟨h_5, f_5_1_0⟩
    · subst h_5
      have q_5 : (a1 < 0 ∨ 60 < a1) := (in32 (x := a1) (l := 0) (u := 60) (by decide) (by decide)).mp f_5_0_0
      refine lv_if_eq (tgt := 32) hx hb dX8_ahead_17 (by decide) (fun _ => ?_) (fun c_ => absurd (by decide) c_)
      refine lv_ldc (own := RX8) (v := (-1000001)) hx hb hown (hts _ mx_X8_ahead_3) dX8_ahead_32 ?_
      have hX9 := cut2 (wc := [(xo_8_rrriirrriiiiiiirrirrrrri mo m_la m_sz m_it ms mt m_st m_mv m_tp (nI mz) ml (nI mp) mk mv mb mw m_rd m_ac (nI ma) m_as m_wo m_ik m_ke m_tr (nI mx)), (xI m_st cI 38 fs), (xI m_as cI 38 fa)]) hP hD [0, 1, 2] (by decide +kernel) rfl
      exact W.iret (v := (-1000001)) hx hb hr (fun t ht hW => ⟨⟨(-1000001), (), rfl, (lf_X8_ahead_2 hM hT h999 hT0 hj_1 hkn1 hw1 h01 f_5_0_0 q_5), ⟨fs, fa, va_Ht ht hX9.1, hX9.2, hM, rfl⟩⟩, hS.F ht⟩) hS.2.2 dX8_ahead_34
    · subst h_5
      have q_5 : ¬ (a1 < 0 ∨ 60 < a1) := fun q_ => f_5_1_0 ((in32 (x := a1) (l := 0) (u := 60) (by decide) (by decide)).mpr q_)
      obtain ⟨j_5, hj_5, hl_5, rfl⟩ := in64 (lo := 0) (n := 60) rfl rfl (by decide) f_5_1_0
      refine lv_if_eq (tgt := 32) hx hb dX8_ahead_17 (by decide) (fun c_ => absurd c_ (by decide)) (fun _ => ?_)
      refine lv_iload_n hx hb dX8_ahead_20 rfl (lv_at hl 3 rfl) ?_
      refine lv_i2l hx hb dX8_ahead_21 rfl ?_
      refine lv_lconst (v := 0) hx hb dX8_ahead_22 (by decide) ?_
      refine lv_ldc2 (own := RX8) (v := 2) hx hb hown (hts _ mx_X8_ahead_2) dX8_ahead_23 ?_
      have hPc_8 := hP.sub (ws' := []) [] rfl
      refine vp_callSi (W.runS (As := [.long (a2).toInt64, .long 0, .long 2]) (rest := []) ⟨hx, hb, hml, hown, hts⟩ (r_X8_in l dC dI cI cZ cL cJ ((a2).toInt64) 0 2 ) (va_cwS 3 hts gX8_ahead_X8_in rfl rfl rfl (by decide +kernel) ⟨Nat.le_of_ble_eq_true rfl, Nat.le_of_ble_eq_true rfl⟩) (psP hK hPc_8) rfl rfl hl.1 rfl (lv_room (Nat.le_of_ble_eq_true rfl)) dX8_ahead_26 ⟨Nat.le_of_ble_eq_true rfl, Nat.le_of_ble_eq_true rfl⟩) (fun r_8 h_8 => ?_)
      rcases h_8 with ⟨h_8, f_8_0_0⟩ | ⟨h_8, f_8_1_0⟩
      · subst h_8
        have q_8 : (a2 < 0 ∨ 2 < a2) := (in32 (x := a2) (l := 0) (u := 2) (by decide) (by decide)).mp f_8_0_0
        refine lv_if_ne (tgt := 35) hx hb dX8_ahead_29 (by decide) (fun c_ => absurd (by decide) c_) (fun _ => ?_)
        refine lv_ldc (own := RX8) (v := (-1000001)) hx hb hown (hts _ mx_X8_ahead_3) dX8_ahead_32 ?_
        have hX9 := cut2 (wc := [(xo_8_rrriirrriiiiiiirrirrrrri mo m_la m_sz m_it ms mt m_st m_mv m_tp (nI mz) ml (nI mp) mk mv mb mw m_rd m_ac (nI ma) m_as m_wo m_ik m_ke m_tr (nI mx)), (xI m_st cI 38 fs), (xI m_as cI 38 fa)]) hP hD [0, 1, 2] (by decide +kernel) rfl
        exact W.iret (v := (-1000001)) hx hb hr (fun t ht hW => ⟨⟨(-1000001), (), rfl, (lf_X8_ahead_3 hM hT h999 hT0 hj_1 hkn1 hw1 h01 f_5_1_0 q_5 hj_5 f_8_0_0 q_8), ⟨fs, fa, va_Ht ht hX9.1, hX9.2, hM, rfl⟩⟩, hS.F ht⟩) hS.2.2 dX8_ahead_34
      · subst h_8
        have q_8 : ¬ (a2 < 0 ∨ 2 < a2) := fun q_ => f_8_1_0 ((in32 (x := a2) (l := 0) (u := 2) (by decide) (by decide)).mpr q_)
        obtain ⟨j_8, hj_8, hl_8, rfl⟩ := in64 (lo := 0) (n := 2) rfl rfl (by decide) f_8_1_0
        refine lv_if_ne (tgt := 35) hx hb dX8_ahead_29 (by decide) (fun _ => ?_) (fun c_ => absurd c_ (by decide))
        refine lv_aload_n hx hb dX8_ahead_35 rfl (lv_at hl 0 rfl) ?_
        have hc_11 := cutW (wc := [(xo_8_rrriirrriiiiiiirrirrrrri mo m_la m_sz m_it ms mt m_st m_mv m_tp (nI mz) ml (nI mp) mk mv mb mw m_rd m_ac (nI ma) m_as m_wo m_ik m_ke m_tr (nI mx)), (xI m_st cI 38 fs), (xI m_as cI 38 fa)]) hP hD hS hA [0, 1, 2] (by decide +kernel) rfl
        refine va_callv (va_runV (As := []) (rest := []) ⟨hx, hb, hml, hown, hts⟩ (r_X8_putAside l dC dI cI cZ cL cJ s.heap.size mo m_la m_sz m_it m_st m_mv m_tp m_rd m_ac m_as m_wo m_ik m_ke m_tr ms mt ml mk mv mb mw mz mp ma mx fs fa ) (cwV 0 hts gX8_ahead_X8_putAside rfl rfl rfl (by decide +kernel) ⟨Nat.le_of_ble_eq_true rfl, Nat.le_of_ble_eq_true rfl⟩) (pvW 8 0 hK hP rfl rfl hc_11) rfl rfl hl.1 rfl (lv_room (Nat.le_of_ble_eq_true rfl)) dX8_ahead_36 ⟨Nat.le_of_ble_eq_true rfl, Nat.le_of_ble_eq_true rfl⟩) hS (fun q _ h => hc_11.2.2 q h) hc_11.2.2 (fun u_11 t_11 H1 locs ht hvm h_11 hB hz1 hk1 hS => ?_)
        refine xl_1_3 hB (fun fan_11 hP1 hD1 hF_11_0 => ?_)
        clear hB
        rw [ht] at hP1
        obtain ⟨hP, hD⟩ := va_join (wr := []) (w1 := [(xo_8_rrriirrriiiiiiirrirrrrri mo m_la m_sz m_it ms mt m_st m_mv m_tp (nI mz) ml (nI mp) mk mv mb mw m_rd m_ac (nI ma) m_as m_wo m_ik m_ke m_tr (nI mx)), (xI m_st cI 38 fs), (xI m_as cI 38 fan_11)]) hP hD [0, 1, 2] [] rfl rfl (by decide +kernel) (by decide +kernel) hk1 hc_11.2.2 hP1 hD1
        generalize H1 = H at hP hS ⊢
        have hP : va_P (dC, dI) vwCl [(xo_8_rrriirrriiiiiiirrirrrrri mo m_la m_sz m_it ms mt m_st m_mv m_tp (nI mz) ml (nI mp) mk mv mb mw m_rd m_ac (nI ma) m_as m_wo m_ik m_ke m_tr (nI mx)), (xI m_st cI 38 fs), (xI m_as cI 38 fan_11)] H := hP
        have hD := dto hP hD
        have hA_11 := okM_eq hM hF_11_0
        refine lv_aload_n hx hb dX8_ahead_39 rfl (lv_at hl 0 rfl) ?_
        refine lv_iload_n hx hb dX8_ahead_40 rfl (lv_at hl 2 rfl) ?_
        have hc_12 := cutW (wc := [(xo_8_rrriirrriiiiiiirrirrrrri mo m_la m_sz m_it ms mt m_st m_mv m_tp (nI mz) ml (nI mp) mk mv mb mw m_rd m_ac (nI ma) m_as m_wo m_ik m_ke m_tr (nI mx)), (xI m_st cI 38 fs)]) hP hD hS hA [0, 1] (by decide +kernel) rfl
        refine va_callv (va_runV (As := [.int (nI j_5)]) (rest := []) ⟨hx, hb, hml, hown, hts⟩ (r_X8_goOn l dC dI cI cZ cL cJ H.size mo m_la m_sz m_it m_st m_mv m_tp m_rd m_ac m_as m_wo m_ik m_ke m_tr ms mt ml mk mv mb mw mz mp ma mx fs w9 k9 h9 j_5 (hM) (by omega) (by omega) (by omega)) (cwV 1 hts gX8_ahead_X8_goOn rfl rfl rfl (by decide +kernel) ⟨Nat.le_of_ble_eq_true rfl, Nat.le_of_ble_eq_true rfl⟩) (pvW 8 0 hK hP rfl rfl hc_12) rfl rfl hl.1 rfl (lv_room (Nat.le_of_ble_eq_true rfl)) dX8_ahead_41 ⟨Nat.le_of_ble_eq_true rfl, Nat.le_of_ble_eq_true rfl⟩) hS (fun q _ h => hc_12.2.2 q h) hc_12.2.2 (fun u_12 t_12 H1 locs ht hvm h_12 hB hz1 hk1 hS => ?_)
        refine xl_1_4 hB (fun fsn_12 hP1 hD1 hF_12_0 hF_12_1 => ?_)
        clear hB
        rw [ht] at hP1
        obtain ⟨hP, hD⟩ := va_join (wr := [(xI m_as cI 38 fan_11)]) (w1 := [(xo_8_rrriirrriiiiiiirrirrrrri mo m_la m_sz m_it ms mt m_st m_mv m_tp (nI mz) ml (nI mp) mk mv mb mw m_rd m_ac (nI ma) m_as m_wo m_ik m_ke m_tr (nI mx)), (xI m_st cI 38 fsn_12)]) hP hD [0, 1] [2] rfl rfl (by decide +kernel) (by decide +kernel) hk1 hc_12.2.2 hP1 hD1
        generalize H1 = H at hP hS ⊢
        have hP : va_P (dC, dI) vwCl [(xI m_as cI 38 fan_11), (xo_8_rrriirrriiiiiiirrirrrrri mo m_la m_sz m_it ms mt m_st m_mv m_tp (nI mz) ml (nI mp) mk mv mb mw m_rd m_ac (nI ma) m_as m_wo m_ik m_ke m_tr (nI mx)), (xI m_st cI 38 fsn_12)] H := hP
        have hD := dto hP hD
        refine lv_aload_n hx hb dX8_ahead_44 rfl (lv_at hl 0 rfl) ?_
        refine va_get (D := (dC, dI)) (ci := 8) (v := .ref m_st) (C := RX8) (T := TX8) (N := 24) hx hb hts i_X8_ahead_X8 hown hK hP 1 rfl rfl 5 (by decide) (hts _ mx_X8_ahead_4) (fun _ h9 => h9) rfl dX8_ahead_45 ?_
        refine lv_bipush (v := 26) hx hb dX8_ahead_48 (by decide) ?_
        refine lv_iload_n hx hb dX8_ahead_50 rfl (lv_at hl 1 rfl) ?_
        refine lv_iadd hx hb dX8_ahead_51 ?_
        refine lv_topi (fun v_13 e_13 => ?_)
        obtain rfl : v_13 = (nI (26 + j_1)) := (e_13).trans (nI_add 26 j_1)
        refine va_iald hx hb hK hP 2 0 rfl rfl (vp_in_nI (by omega) (by omega)) dX8_ahead_52 ?_
        refine lv_topi (fun v_14 e_14 => ?_)
        have e_14 : v_14 = fsn_12 (26 + j_1) := e_14.trans (congrArg fsn_12 (nI_clamp (by omega)))
        refine lv_istore (lv' := [(4, .int v_14), (0, .ref mo), (1, .int (nI j_1)), (2, .int (nI j_5)), (3, .int (nI j_8))]) hx hb dX8_ahead_53 hl (by decide) rfl (fun ls hl => ?_)
        refine lv_iload_n hx hb dX8_ahead_55 rfl (lv_at hl 4 rfl) ?_
        refine lv_iconst (v := 1) hx hb dX8_ahead_56 (by decide) ?_
        refine lv_icmp_ne (tgt := 65) hx hb dX8_ahead_57 (by decide) (fun c_15 => ?_) (fun c_15 => ?_)
        · have c_15 : ¬ (j_8 = 1) := fun q_ => c_15 ((nI_eq (a := j_8) (b := 1) (by omega) (by omega)).mpr q_)
          refine lv_iload_n hx hb dX8_ahead_65 rfl (lv_at hl 4 rfl) ?_
          refine lv_iconst (v := 2) hx hb dX8_ahead_66 (by decide) ?_
          refine lv_icmp_ne (tgt := 82) hx hb dX8_ahead_67 (by decide) (fun c_16 => ?_) (fun c_16 => ?_)
          · have c_16 : ¬ (j_8 = 2) := fun q_ => c_16 ((nI_eq (a := j_8) (b := 2) (by omega) (by omega)).mpr q_)
            refine lv_iload hx hb dX8_ahead_82 (lv_at hl 0 rfl) ?_
            refine lv_if_ne (tgt := 99) hx hb dX8_ahead_84 (by decide) (fun c_17 => ?_) (fun c_17 => ?_)
            · skip
              refine lv_ldc (own := RX8) (v := (-1000000)) hx hb hown (hts _ mx_X8_ahead_5) dX8_ahead_99 ?_
              refine lv_istore (lv' := [(5, .int (-1000000)), (4, .int v_14), (0, .ref mo), (1, .int (nI j_1)), (2, .int (nI j_5)), (3, .int (nI j_8))]) hx hb dX8_ahead_101 hl (by decide) rfl (fun ls hl => ?_)
              refine lv_aload_n hx hb dX8_ahead_103 rfl (lv_at hl 2 rfl) ?_
              have hc_18 := cutW (wc := [(xo_8_rrriirrriiiiiiirrirrrrri mo m_la m_sz m_it ms mt m_st m_mv m_tp (nI mz) ml (nI mp) mk mv mb mw m_rd m_ac (nI ma) m_as m_wo m_ik m_ke m_tr (nI mx)), (xI m_st cI 38 fsn_12), (xI m_as cI 38 fan_11)]) hP hD hS hA [1, 2, 0] (by decide +kernel) rfl
              refine va_callv (va_runV (As := []) (rest := []) ⟨hx, hb, hml, hown, hts⟩ (r_X8_takeBack l dC dI cI cZ cL cJ H.size mo m_la m_sz m_it m_st m_mv m_tp m_rd m_ac m_as m_wo m_ik m_ke m_tr ms mt ml mk mv mb mw mz mp ma mx fsn_12 fan_11 ) (cwV 0 hts gX8_ahead_X8_takeBack rfl rfl rfl (by decide +kernel) ⟨Nat.le_of_ble_eq_true rfl, Nat.le_of_ble_eq_true rfl⟩) (pvW 8 1 hK hP rfl rfl hc_18) rfl rfl hl.1 rfl (lv_room (Nat.le_of_ble_eq_true rfl)) dX8_ahead_104 ⟨Nat.le_of_ble_eq_true rfl, Nat.le_of_ble_eq_true rfl⟩) hS (fun q _ h => hc_18.2.2 q h) hc_18.2.2 (fun u_18 t_18 H1 locs ht hvm h_18 hB hz1 hk1 hS => ?_)
              refine xl_1_3 hB (fun fsn_18 hP1 hD1 hF_18_0 => ?_)
              clear hB
              rw [ht] at hP1
              obtain ⟨hP, hD⟩ := va_join (wr := []) (w1 := [(xo_8_rrriirrriiiiiiirrirrrrri mo m_la m_sz m_it ms mt m_st m_mv m_tp (nI mz) ml (nI mp) mk mv mb mw m_rd m_ac (nI ma) m_as m_wo m_ik m_ke m_tr (nI mx)), (xI m_st cI 38 fsn_18), (xI m_as cI 38 fan_11)]) hP hD [1, 2, 0] [] rfl rfl (by decide +kernel) (by decide +kernel) hk1 hc_18.2.2 hP1 hD1
              generalize H1 = H at hP hS ⊢
              have hP : va_P (dC, dI) vwCl [(xo_8_rrriirrriiiiiiirrirrrrri mo m_la m_sz m_it ms mt m_st m_mv m_tp (nI mz) ml (nI mp) mk mv mb mw m_rd m_ac (nI ma) m_as m_wo m_ik m_ke m_tr (nI mx)), (xI m_st cI 38 fsn_18), (xI m_as cI 38 fan_11)] H := hP
              have hD := dto hP hD
              have hT_18 := okM_eq hA_11 hF_18_0
              refine lv_iload hx hb dX8_ahead_107 (lv_at hl 0 rfl) ?_
              have hX9 := cut2 (wc := [(xo_8_rrriirrriiiiiiirrirrrrri mo m_la m_sz m_it ms mt m_st m_mv m_tp (nI mz) ml (nI mp) mk mv mb mw m_rd m_ac (nI ma) m_as m_wo m_ik m_ke m_tr (nI mx)), (xI m_st cI 38 fsn_18), (xI m_as cI 38 fan_11)]) hP hD [0, 1, 2] (by decide +kernel) rfl
              exact W.iret (v := (-1000000)) hx hb hr (fun t ht hW => ⟨⟨(-1000000), (), rfl, (lf_X8_ahead_4 hM hT h999 hT0 hj_1 hkn1 hw1 h01 f_5_1_0 q_5 hj_5 f_8_1_0 q_8 hj_8 hF_11_0 hF_12_0 hF_12_1 e_14 c_15 c_16 c_17 hF_18_0), ⟨fsn_18, fan_11, va_Ht ht hX9.1, hX9.2, hT_18, ((m38_eq hF_18_0).trans ((m38_eq hF_11_0).trans rfl))⟩⟩, hS.F ht⟩) hS.2.2 dX8_ahead_109
            · skip
              refine lv_aload_n hx hb dX8_ahead_87 rfl (lv_at hl 1 rfl) ?_
              refine va_get (D := (dC, dI)) (ci := 8) (v := .ref m_st) (C := RX8) (T := TX8) (N := 24) hx hb hts i_X8_ahead_X8 hown hK hP 1 rfl rfl 5 (by decide) (hts _ mx_X8_ahead_4) (fun _ h9 => h9) rfl dX8_ahead_88 ?_
              refine lv_bipush (v := 20) hx hb dX8_ahead_91 (by decide) ?_
              refine lv_iload_n hx hb dX8_ahead_93 rfl (lv_at hl 2 rfl) ?_
              refine lv_iadd hx hb dX8_ahead_94 ?_
              refine lv_topi (fun v_19 e_19 => ?_)
              obtain rfl : v_19 = (nI (20 + j_1)) := (e_19).trans (nI_add 20 j_1)
              refine va_iald hx hb hK hP 2 0 rfl rfl (vp_in_nI (by omega) (by omega)) dX8_ahead_95 ?_
              refine lv_topi (fun v_20 e_20 => ?_)
              have e_20 : v_20 = fsn_12 (20 + j_1) := e_20.trans (congrArg fsn_12 (nI_clamp (by omega)))
              refine lv_goto (tgt := 101) hx hb dX8_ahead_96 (by decide) ?_
              refine lv_istore (lv' := [(5, .int v_20), (4, .int v_14), (0, .ref mo), (1, .int (nI j_1)), (2, .int (nI j_5)), (3, .int (nI j_8))]) hx hb dX8_ahead_101 hl (by decide) rfl (fun ls hl => ?_)
              refine lv_aload_n hx hb dX8_ahead_103 rfl (lv_at hl 2 rfl) ?_
              have hc_21 := cutW (wc := [(xo_8_rrriirrriiiiiiirrirrrrri mo m_la m_sz m_it ms mt m_st m_mv m_tp (nI mz) ml (nI mp) mk mv mb mw m_rd m_ac (nI ma) m_as m_wo m_ik m_ke m_tr (nI mx)), (xI m_st cI 38 fsn_12), (xI m_as cI 38 fan_11)]) hP hD hS hA [1, 2, 0] (by decide +kernel) rfl
              refine va_callv (va_runV (As := []) (rest := []) ⟨hx, hb, hml, hown, hts⟩ (r_X8_takeBack l dC dI cI cZ cL cJ H.size mo m_la m_sz m_it m_st m_mv m_tp m_rd m_ac m_as m_wo m_ik m_ke m_tr ms mt ml mk mv mb mw mz mp ma mx fsn_12 fan_11 ) (cwV 0 hts gX8_ahead_X8_takeBack rfl rfl rfl (by decide +kernel) ⟨Nat.le_of_ble_eq_true rfl, Nat.le_of_ble_eq_true rfl⟩) (pvW 8 1 hK hP rfl rfl hc_21) rfl rfl hl.1 rfl (lv_room (Nat.le_of_ble_eq_true rfl)) dX8_ahead_104 ⟨Nat.le_of_ble_eq_true rfl, Nat.le_of_ble_eq_true rfl⟩) hS (fun q _ h => hc_21.2.2 q h) hc_21.2.2 (fun u_21 t_21 H1 locs ht hvm h_21 hB hz1 hk1 hS => ?_)
              refine xl_1_3 hB (fun fsn_21 hP1 hD1 hF_21_0 => ?_)
              clear hB
              rw [ht] at hP1
              obtain ⟨hP, hD⟩ := va_join (wr := []) (w1 := [(xo_8_rrriirrriiiiiiirrirrrrri mo m_la m_sz m_it ms mt m_st m_mv m_tp (nI mz) ml (nI mp) mk mv mb mw m_rd m_ac (nI ma) m_as m_wo m_ik m_ke m_tr (nI mx)), (xI m_st cI 38 fsn_21), (xI m_as cI 38 fan_11)]) hP hD [1, 2, 0] [] rfl rfl (by decide +kernel) (by decide +kernel) hk1 hc_21.2.2 hP1 hD1
              generalize H1 = H at hP hS ⊢
              have hP : va_P (dC, dI) vwCl [(xo_8_rrriirrriiiiiiirrirrrrri mo m_la m_sz m_it ms mt m_st m_mv m_tp (nI mz) ml (nI mp) mk mv mb mw m_rd m_ac (nI ma) m_as m_wo m_ik m_ke m_tr (nI mx)), (xI m_st cI 38 fsn_21), (xI m_as cI 38 fan_11)] H := hP
              have hD := dto hP hD
              have hT_21 := okM_eq hA_11 hF_21_0
              refine lv_iload hx hb dX8_ahead_107 (lv_at hl 0 rfl) ?_
              have hX9 := cut2 (wc := [(xo_8_rrriirrriiiiiiirrirrrrri mo m_la m_sz m_it ms mt m_st m_mv m_tp (nI mz) ml (nI mp) mk mv mb mw m_rd m_ac (nI ma) m_as m_wo m_ik m_ke m_tr (nI mx)), (xI m_st cI 38 fsn_21), (xI m_as cI 38 fan_11)]) hP hD [0, 1, 2] (by decide +kernel) rfl
              exact W.iret (v := v_20) hx hb hr (fun t ht hW => ⟨⟨v_20, (), rfl, (lf_X8_ahead_5 hM hT h999 hT0 hj_1 hkn1 hw1 h01 f_5_1_0 q_5 hj_5 f_8_1_0 q_8 hj_8 hF_11_0 hF_12_0 hF_12_1 e_14 c_15 c_16 c_17 e_20 hF_21_0), ⟨fsn_21, fan_11, va_Ht ht hX9.1, hX9.2, hT_21, ((m38_eq hF_21_0).trans ((m38_eq hF_11_0).trans rfl))⟩⟩, hS.F ht⟩) hS.2.2 dX8_ahead_109
          · have c_16 : j_8 = 2 := (nI_eq (a := j_8) (b := 2) (by omega) (by omega)).mp c_16
            refine lv_aload_n hx hb dX8_ahead_70 rfl (lv_at hl 1 rfl) ?_
            refine va_get (D := (dC, dI)) (ci := 8) (v := .ref m_st) (C := RX8) (T := TX8) (N := 24) hx hb hts i_X8_ahead_X8 hown hK hP 1 rfl rfl 5 (by decide) (hts _ mx_X8_ahead_4) (fun _ h9 => h9) rfl dX8_ahead_71 ?_
            refine lv_bipush (v := 32) hx hb dX8_ahead_74 (by decide) ?_
            refine lv_iload_n hx hb dX8_ahead_76 rfl (lv_at hl 2 rfl) ?_
            refine lv_iadd hx hb dX8_ahead_77 ?_
            refine lv_topi (fun v_22 e_22 => ?_)
            obtain rfl : v_22 = (nI (32 + j_1)) := (e_22).trans (nI_add 32 j_1)
            refine va_iald hx hb hK hP 2 0 rfl rfl (vp_in_nI (by omega) (by omega)) dX8_ahead_78 ?_
            refine lv_topi (fun v_23 e_23 => ?_)
            have e_23 : v_23 = fsn_12 (32 + j_1) := e_23.trans (congrArg fsn_12 (nI_clamp (by omega)))
            refine lv_goto (tgt := 101) hx hb dX8_ahead_79 (by decide) ?_
            refine lv_istore (lv' := [(5, .int v_23), (4, .int v_14), (0, .ref mo), (1, .int (nI j_1)), (2, .int (nI j_5)), (3, .int (nI j_8))]) hx hb dX8_ahead_101 hl (by decide) rfl (fun ls hl => ?_)
            refine lv_aload_n hx hb dX8_ahead_103 rfl (lv_at hl 2 rfl) ?_
            have hc_24 := cutW (wc := [(xo_8_rrriirrriiiiiiirrirrrrri mo m_la m_sz m_it ms mt m_st m_mv m_tp (nI mz) ml (nI mp) mk mv mb mw m_rd m_ac (nI ma) m_as m_wo m_ik m_ke m_tr (nI mx)), (xI m_st cI 38 fsn_12), (xI m_as cI 38 fan_11)]) hP hD hS hA [1, 2, 0] (by decide +kernel) rfl
            refine va_callv (va_runV (As := []) (rest := []) ⟨hx, hb, hml, hown, hts⟩ (r_X8_takeBack l dC dI cI cZ cL cJ H.size mo m_la m_sz m_it m_st m_mv m_tp m_rd m_ac m_as m_wo m_ik m_ke m_tr ms mt ml mk mv mb mw mz mp ma mx fsn_12 fan_11 ) (cwV 0 hts gX8_ahead_X8_takeBack rfl rfl rfl (by decide +kernel) ⟨Nat.le_of_ble_eq_true rfl, Nat.le_of_ble_eq_true rfl⟩) (pvW 8 1 hK hP rfl rfl hc_24) rfl rfl hl.1 rfl (lv_room (Nat.le_of_ble_eq_true rfl)) dX8_ahead_104 ⟨Nat.le_of_ble_eq_true rfl, Nat.le_of_ble_eq_true rfl⟩) hS (fun q _ h => hc_24.2.2 q h) hc_24.2.2 (fun u_24 t_24 H1 locs ht hvm h_24 hB hz1 hk1 hS => ?_)
            refine xl_1_3 hB (fun fsn_24 hP1 hD1 hF_24_0 => ?_)
            clear hB
            rw [ht] at hP1
            obtain ⟨hP, hD⟩ := va_join (wr := []) (w1 := [(xo_8_rrriirrriiiiiiirrirrrrri mo m_la m_sz m_it ms mt m_st m_mv m_tp (nI mz) ml (nI mp) mk mv mb mw m_rd m_ac (nI ma) m_as m_wo m_ik m_ke m_tr (nI mx)), (xI m_st cI 38 fsn_24), (xI m_as cI 38 fan_11)]) hP hD [1, 2, 0] [] rfl rfl (by decide +kernel) (by decide +kernel) hk1 hc_24.2.2 hP1 hD1
            generalize H1 = H at hP hS ⊢
            have hP : va_P (dC, dI) vwCl [(xo_8_rrriirrriiiiiiirrirrrrri mo m_la m_sz m_it ms mt m_st m_mv m_tp (nI mz) ml (nI mp) mk mv mb mw m_rd m_ac (nI ma) m_as m_wo m_ik m_ke m_tr (nI mx)), (xI m_st cI 38 fsn_24), (xI m_as cI 38 fan_11)] H := hP
            have hD := dto hP hD
            have hT_24 := okM_eq hA_11 hF_24_0
            refine lv_iload hx hb dX8_ahead_107 (lv_at hl 0 rfl) ?_
            have hX9 := cut2 (wc := [(xo_8_rrriirrriiiiiiirrirrrrri mo m_la m_sz m_it ms mt m_st m_mv m_tp (nI mz) ml (nI mp) mk mv mb mw m_rd m_ac (nI ma) m_as m_wo m_ik m_ke m_tr (nI mx)), (xI m_st cI 38 fsn_24), (xI m_as cI 38 fan_11)]) hP hD [0, 1, 2] (by decide +kernel) rfl
            exact W.iret (v := v_23) hx hb hr (fun t ht hW => ⟨⟨v_23, (), rfl, (lf_X8_ahead_6 hM hT h999 hT0 hj_1 hkn1 hw1 h01 f_5_1_0 q_5 hj_5 f_8_1_0 q_8 hj_8 hF_11_0 hF_12_0 hF_12_1 e_14 c_15 c_16 e_23 hF_24_0), ⟨fsn_24, fan_11, va_Ht ht hX9.1, hX9.2, hT_24, ((m38_eq hF_24_0).trans ((m38_eq hF_11_0).trans rfl))⟩⟩, hS.F ht⟩) hS.2.2 dX8_ahead_109
        · have c_15 : j_8 = 1 := (nI_eq (a := j_8) (b := 1) (by omega) (by omega)).mp c_15
          refine lv_iload hx hb dX8_ahead_60 (lv_at hl 0 rfl) ?_
          refine lv_goto (tgt := 101) hx hb dX8_ahead_62 (by decide) ?_
          refine lv_istore (lv' := [(5, .int v_14), (4, .int v_14), (0, .ref mo), (1, .int (nI j_1)), (2, .int (nI j_5)), (3, .int (nI j_8))]) hx hb dX8_ahead_101 hl (by decide) rfl (fun ls hl => ?_)
          refine lv_aload_n hx hb dX8_ahead_103 rfl (lv_at hl 2 rfl) ?_
          have hc_25 := cutW (wc := [(xo_8_rrriirrriiiiiiirrirrrrri mo m_la m_sz m_it ms mt m_st m_mv m_tp (nI mz) ml (nI mp) mk mv mb mw m_rd m_ac (nI ma) m_as m_wo m_ik m_ke m_tr (nI mx)), (xI m_st cI 38 fsn_12), (xI m_as cI 38 fan_11)]) hP hD hS hA [1, 2, 0] (by decide +kernel) rfl
          refine va_callv (va_runV (As := []) (rest := []) ⟨hx, hb, hml, hown, hts⟩ (r_X8_takeBack l dC dI cI cZ cL cJ H.size mo m_la m_sz m_it m_st m_mv m_tp m_rd m_ac m_as m_wo m_ik m_ke m_tr ms mt ml mk mv mb mw mz mp ma mx fsn_12 fan_11 ) (cwV 0 hts gX8_ahead_X8_takeBack rfl rfl rfl (by decide +kernel) ⟨Nat.le_of_ble_eq_true rfl, Nat.le_of_ble_eq_true rfl⟩) (pvW 8 1 hK hP rfl rfl hc_25) rfl rfl hl.1 rfl (lv_room (Nat.le_of_ble_eq_true rfl)) dX8_ahead_104 ⟨Nat.le_of_ble_eq_true rfl, Nat.le_of_ble_eq_true rfl⟩) hS (fun q _ h => hc_25.2.2 q h) hc_25.2.2 (fun u_25 t_25 H1 locs ht hvm h_25 hB hz1 hk1 hS => ?_)
          refine xl_1_3 hB (fun fsn_25 hP1 hD1 hF_25_0 => ?_)
          clear hB
          rw [ht] at hP1
          obtain ⟨hP, hD⟩ := va_join (wr := []) (w1 := [(xo_8_rrriirrriiiiiiirrirrrrri mo m_la m_sz m_it ms mt m_st m_mv m_tp (nI mz) ml (nI mp) mk mv mb mw m_rd m_ac (nI ma) m_as m_wo m_ik m_ke m_tr (nI mx)), (xI m_st cI 38 fsn_25), (xI m_as cI 38 fan_11)]) hP hD [1, 2, 0] [] rfl rfl (by decide +kernel) (by decide +kernel) hk1 hc_25.2.2 hP1 hD1
          generalize H1 = H at hP hS ⊢
          have hP : va_P (dC, dI) vwCl [(xo_8_rrriirrriiiiiiirrirrrrri mo m_la m_sz m_it ms mt m_st m_mv m_tp (nI mz) ml (nI mp) mk mv mb mw m_rd m_ac (nI ma) m_as m_wo m_ik m_ke m_tr (nI mx)), (xI m_st cI 38 fsn_25), (xI m_as cI 38 fan_11)] H := hP
          have hD := dto hP hD
          have hT_25 := okM_eq hA_11 hF_25_0
          refine lv_iload hx hb dX8_ahead_107 (lv_at hl 0 rfl) ?_
          have hX9 := cut2 (wc := [(xo_8_rrriirrriiiiiiirrirrrrri mo m_la m_sz m_it ms mt m_st m_mv m_tp (nI mz) ml (nI mp) mk mv mb mw m_rd m_ac (nI ma) m_as m_wo m_ik m_ke m_tr (nI mx)), (xI m_st cI 38 fsn_25), (xI m_as cI 38 fan_11)]) hP hD [0, 1, 2] (by decide +kernel) rfl
          exact W.iret (v := v_14) hx hb hr (fun t ht hW => ⟨⟨v_14, (), rfl, (lf_X8_ahead_7 hM hT h999 hT0 hj_1 hkn1 hw1 h01 f_5_1_0 q_5 hj_5 f_8_1_0 q_8 hj_8 hF_11_0 hF_12_0 hF_12_1 e_14 c_15 hF_25_0), ⟨fsn_25, fan_11, va_Ht ht hX9.1, hX9.2, hT_25, ((m38_eq hF_25_0).trans ((m38_eq hF_11_0).trans rfl))⟩⟩, hS.F ht⟩) hS.2.2 dX8_ahead_109
theorem lf_X8_meal_1 {mt : Int32} {ma : Nat} {fs : Nat → Int32} {w9 : Nat} {k9 : Nat} {h9 : Nat} {a0 : Int32} (hM : okM fs w9 k9 h9) (hT : ¬ mt = 0 → 1 ≤ k9) (h999 : h9 ≤ 999) (hT0 : mt = 0 → fs 0 = 0 ∧ ma = 0) (c_1 : ¬ (mt = 0)) (hkn1 : 1 ≤ k9) (hw1 : 1 ≤ w9) (h01 : ¬ fs 0 = 0) (f_2_0_0 : ((a0).toInt64 < 0 ∨ 60 < (a0).toInt64)) (q_2 : (a0 < 0 ∨ 60 < a0)) : (-1000001) = (a_meal (m38 fs) a0) := by
  first
  | exact mealM_0 h00
  | exact meal_1 h01 q_2
theorem lf_X8_meal_2 {mt : Int32} {ma : Nat} {fs : Nat → Int32} {w9 : Nat} {k9 : Nat} {h9 : Nat} {j_2 : Nat} {fan_5 : Nat → Int32} {fsn_6 : Nat → Int32} {r_6 : Int32} (hM : okM fs w9 k9 h9) (hT : ¬ mt = 0 → 1 ≤ k9) (h999 : h9 ≤ 999) (hT0 : mt = 0 → fs 0 = 0 ∧ ma = 0) (c_1 : ¬ (mt = 0)) (hkn1 : 1 ≤ k9) (hw1 : 1 ≤ w9) (h01 : ¬ fs 0 = 0) (f_2_1_0 : (¬ (((nI j_2)).toInt64 < 0 ∨ 60 < ((nI j_2)).toInt64))) (q_2 : ¬ ((nI j_2) < 0 ∨ 60 < (nI j_2))) (hj_2 : j_2 ≤ 60) (hF_5_0 : (∀ j : Nat, j < 38 → fan_5 j = fs j)) (hF_6_0 : (∀ j_2 : Nat, j_2 < 38 → fsn_6 j_2 = fan_5 j_2)) (h_6 : r_6 = (mGo j_2 fs 7)) : r_6 = (a_meal (m38 fs) (nI j_2)) := by
  first
  | exact mealM_0 h00
  | exact meal_1 h01 q_2
  | exact mealM hM hw1 h01 hj_2 h_6
theorem lf_X8_meal_3 {mt : Int32} {ma : Nat} {fs : Nat → Int32} {w9 : Nat} {k9 : Nat} {h9 : Nat} {a0 : Int32} (hM : okM fs w9 k9 h9) (hT : ¬ mt = 0 → 1 ≤ k9) (h999 : h9 ≤ 999) (hT0 : mt = 0 → fs 0 = 0 ∧ ma = 0) (c_1 : mt = 0) (h00 : fs 0 = 0) : (-1000002) = (a_meal (m38 fs) a0) := by
  first
  | exact mealM_0 h00
  | exact meal_1 h01 q_2
set_option maxHeartbeats 4000000 in
set_option maxRecDepth 100000 in
theorem r_X8_meal (l : Launch) (dC : Nat → ClassId) (dI : Nat → Nat → Nat) (cI cZ cL cJ : ClassId) (sz : Nat) (mo : Nat) (m_la : Nat) (m_sz : Nat) (m_it : Nat) (m_st : Nat) (m_mv : Nat) (m_tp : Nat) (m_rd : Nat) (m_ac : Nat) (m_as : Nat) (m_wo : Nat) (m_ik : Nat) (m_ke : Nat) (m_tr : Nat) (ms : Int32) (mt : Int32) (ml : Int32) (mk : Int32) (mv : Int32) (mb : Int32) (mw : Int32) (mz : Nat) (mp : Nat) (ma : Nat) (mx : Nat) (fs : Nat → Int32) (w9 : Nat) (k9 : Nat) (h9 : Nat) (fa : Nat → Int32) (a0 : Int32) (hM : okM fs w9 k9 h9) (hT : ¬ mt = 0 → 1 ≤ k9) (h999 : h9 ≤ 999) (hT0 : mt = 0 → fs 0 = 0 ∧ ma = 0) : Met l yX8_meal wsX8_meal ({ frames := 6, cells := 0, slots := 0, locals := 139 }) (va_Pc [.ref mo, .int a0] (fun U => U.heap.size = sz ∧ va_P (dC, dI) vwCl [(xo_8_rrriirrriiiiiiirrirrrrri mo m_la m_sz m_it ms mt m_st m_mv m_tp (nI mz) ml (nI mp) mk mv mb mw m_rd m_ac (nI ma) m_as m_wo m_ik m_ke m_tr (nI mx)), (xI m_st cI 38 fs), (xI m_as cI 38 fa)] U.heap ∧ va_K (dC, dI) vwCl [(cI, .int), (cZ, .boolean), (cL, .object RX3), (cJ, .array .int)] U ∧ va_D (fun _ => True) [(xo_8_rrriirrriiiiiiirrirrrrri mo m_la m_sz m_it ms mt m_st m_mv m_tp (nI mz) ml (nI mp) mk mv mb mw m_rd m_ac (nI ma) m_as m_wo m_ik m_ke m_tr (nI mx)), (xI m_st cI 38 fs), (xI m_as cI 38 fa)])) (va_Qi (fun r (_ : Unit) => r = (a_meal (m38 fs) a0)) (fun (_ : Unit) t => ∃ (fsn : Nat → Int32) (fan : Nat → Int32), va_P (dC, dI) vwCl [(xo_8_rrriirrriiiiiiirrirrrrri mo m_la m_sz m_it ms mt m_st m_mv m_tp (nI mz) ml (nI mp) mk mv mb mw m_rd m_ac (nI ma) m_as m_wo m_ik m_ke m_tr (nI mx)), (xI m_st cI 38 fsn), (xI m_as cI 38 fan)] t.heap ∧ va_D (va_A [(xo_8_rrriirrriiiiiiirrirrrrri mo m_la m_sz m_it ms mt m_st m_mv m_tp (nI mz) ml (nI mp) mk mv mb mw m_rd m_ac (nI ma) m_as m_wo m_ik m_ke m_tr (nI mx)), (xI m_st cI 38 fs), (xI m_as cI 38 fa)] sz) [(xo_8_rrriirrriiiiiiirrirrrrri mo m_la m_sz m_it ms mt m_st m_mv m_tp (nI mz) ml (nI mp) mk mv mb mw m_rd m_ac (nI ma) m_as m_wo m_ik m_ke m_tr (nI mx)), (xI m_st cI 38 fsn), (xI m_as cI 38 fan)] ∧ okM fsn w9 k9 h9 ∧ m38 fsn = m38 fs) (va_A [(xo_8_rrriirrriiiiiiirrirrrrri mo m_la m_sz m_it ms mt m_st m_mv m_tp (nI mz) ml (nI mp) mk mv mb mw m_rd m_ac (nI ma) m_as m_wo m_ik m_ke m_tr (nI mx)), (xI m_st cI 38 fs), (xI m_as cI 38 fa)] sz)) 0 0 (va_A [(xo_8_rrriirrriiiiiiirrirrrrri mo m_la m_sz m_it ms mt m_st m_mv m_tp (nI mz) ml (nI mp) mk mv mb mw m_rd m_ac (nI ma) m_as m_wo m_ik m_ke m_tr (nI mx)), (xI m_st cI 38 fs), (xI m_as cI 38 fa)] sz) := by
  refine Met.ofW (cc := cX8_meal) (maxL := 2) (ret := (some .int)) (by decide) rfl ?_
  intro p e s m args below meth c s₁ B hml hv
  obtain ⟨rfl, hsz, hP, hK, hD0⟩ := hv
  have hx := B.exec
  have hb := B.bytes
  have hr := B.returns
  have hts := atoms_spec (ws := wsX8_meal) B.pre
  have hown : s.vm.findClass RX8 = some m.cls := findClass_of_methodNamed B.named
  have hlocks := B.notSynchronized
  subst hsz
  have hD := hD0.self (sz := s.heap.size)
  generalize hAe : va_A [(xo_8_rrriirrriiiiiiirrirrrrri mo m_la m_sz m_it ms mt m_st m_mv m_tp (nI mz) ml (nI mp) mk mv mb mw m_rd m_ac (nI ma) m_as m_wo m_ik m_ke m_tr (nI mx)), (xI m_st cI 38 fs), (xI m_as cI 38 fa)] s.heap.size = A at hD ⊢
  have hA : ∀ q : Nat, s.heap.size ≤ q → A q := fun q h => by rw [← hAe]; exact Or.inr h
  have hS : va_S A s.heap s.heap [] := va_S.rf
  have hP : va_P (dC, dI) vwCl [(xo_8_rrriirrriiiiiiirrirrrrri mo m_la m_sz m_it ms mt m_st m_mv m_tp (nI mz) ml (nI mp) mk mv mb mw m_rd m_ac (nI ma) m_as m_wo m_ik m_ke m_tr (nI mx)), (xI m_st cI 38 fs), (xI m_as cI 38 fa)] s.heap := hP
  have hl := lv_entry ([.ref mo, .int a0]) (n := 2) (Nat.le_of_ble_eq_true rfl)
  rw [lg_entry_eq]
  generalize (lg_sl ([.ref mo, .int a0]) ++ List.replicate (2 - (lg_sl ([.ref mo, .int a0])).length) Slot.unset).toArray = ls at hl ⊢
  have hl : lv_has ls 2 [(0, .ref mo), (1, .int a0)] := hl
  have hk6 := hM.2.2.2.2.1
  have hw6 := hM.2.2.2.1
  refine lv_aload_n hx hb dX8_meal_0 rfl (lv_at hl 0 rfl) ?_
  refine va_get (D := (dC, dI)) (ci := 8) (v := .int mt) (C := RX8) (T := TX8) (N := 24) hx hb hts i_X8_meal_X8 hown hK hP 0 rfl rfl 4 (by decide) (hts _ mx_X8_meal_1) (fun _ h9 => h9) rfl dX8_meal_1 ?_
  refine lv_if_ne (tgt := 10) hx hb dX8_meal_4 (by decide) (fun c_1 => ?_) (fun c_1 => ?_)
  · skip
    have hkn1 := hT c_1
    have hw1 := hM.2.2.2.2.2.1.mp hkn1
    have h01 : ¬ fs 0 = 0 := cell_nz hM hkn1
    refine lv_iload_n hx hb dX8_meal_10 rfl (lv_at hl 1 rfl) ?_
    refine lv_i2l hx hb dX8_meal_11 rfl ?_
    refine lv_lconst (v := 0) hx hb dX8_meal_12 (by decide) ?_
    refine lv_ldc2 (own := RX8) (v := 60) hx hb hown (hts _ mx_X8_meal_3) dX8_meal_13 ?_
    have hPc_2 := hP.sub (ws' := []) [] rfl
    refine vp_callSi (W.runS (As := [.long (a0).toInt64, .long 0, .long 60]) (rest := []) ⟨hx, hb, hml, hown, hts⟩ (r_X8_in l dC dI cI cZ cL cJ ((a0).toInt64) 0 60 ) (va_cwS 3 hts gX8_meal_X8_in rfl rfl rfl (by decide +kernel) ⟨Nat.le_of_ble_eq_true rfl, Nat.le_of_ble_eq_true rfl⟩) (psP hK hPc_2) rfl rfl hl.1 rfl (lv_room (Nat.le_of_ble_eq_true rfl)) dX8_meal_16 ⟨Nat.le_of_ble_eq_true rfl, Nat.le_of_ble_eq_true rfl⟩) (fun r_2 h_2 => ?_)
    rcases h_2 with ⟨h_2, f_2_0_0⟩ | ⟨h_2, f_2_1_0⟩
    · subst h_2
      have q_2 : (a0 < 0 ∨ 60 < a0) := (in32 (x := a0) (l := 0) (u := 60) (by decide) (by decide)).mp f_2_0_0
      refine lv_if_ne (tgt := 25) hx hb dX8_meal_19 (by decide) (fun c_ => absurd (by decide) c_) (fun _ => ?_)
      refine lv_ldc (own := RX8) (v := (-1000001)) hx hb hown (hts _ mx_X8_meal_4) dX8_meal_22 ?_
      have hX9 := cut2 (wc := [(xo_8_rrriirrriiiiiiirrirrrrri mo m_la m_sz m_it ms mt m_st m_mv m_tp (nI mz) ml (nI mp) mk mv mb mw m_rd m_ac (nI ma) m_as m_wo m_ik m_ke m_tr (nI mx)), (xI m_st cI 38 fs), (xI m_as cI 38 fa)]) hP hD [0, 1, 2] (by decide +kernel) rfl
      exact W.iret (v := (-1000001)) hx hb hr (fun t ht hW => ⟨⟨(-1000001), (), rfl, (lf_X8_meal_1 hM hT h999 hT0 c_1 hkn1 hw1 h01 f_2_0_0 q_2), ⟨fs, fa, va_Ht ht hX9.1, hX9.2, hM, rfl⟩⟩, hS.F ht⟩) hS.2.2 dX8_meal_24
    · subst h_2
      have q_2 : ¬ (a0 < 0 ∨ 60 < a0) := fun q_ => f_2_1_0 ((in32 (x := a0) (l := 0) (u := 60) (by decide) (by decide)).mpr q_)
      obtain ⟨j_2, hj_2, hl_2, rfl⟩ := in64 (lo := 0) (n := 60) rfl rfl (by decide) f_2_1_0
      refine lv_if_ne (tgt := 25) hx hb dX8_meal_19 (by decide) (fun _ => ?_) (fun c_ => absurd c_ (by decide))
      refine lv_aload_n hx hb dX8_meal_25 rfl (lv_at hl 0 rfl) ?_
      have hc_5 := cutW (wc := [(xo_8_rrriirrriiiiiiirrirrrrri mo m_la m_sz m_it ms mt m_st m_mv m_tp (nI mz) ml (nI mp) mk mv mb mw m_rd m_ac (nI ma) m_as m_wo m_ik m_ke m_tr (nI mx)), (xI m_st cI 38 fs), (xI m_as cI 38 fa)]) hP hD hS hA [0, 1, 2] (by decide +kernel) rfl
      refine va_callv (va_runV (As := []) (rest := []) ⟨hx, hb, hml, hown, hts⟩ (r_X8_putAside l dC dI cI cZ cL cJ s.heap.size mo m_la m_sz m_it m_st m_mv m_tp m_rd m_ac m_as m_wo m_ik m_ke m_tr ms mt ml mk mv mb mw mz mp ma mx fs fa ) (cwV 0 hts gX8_meal_X8_putAside rfl rfl rfl (by decide +kernel) ⟨Nat.le_of_ble_eq_true rfl, Nat.le_of_ble_eq_true rfl⟩) (pvW 8 0 hK hP rfl rfl hc_5) rfl rfl hl.1 rfl (lv_room (Nat.le_of_ble_eq_true rfl)) dX8_meal_26 ⟨Nat.le_of_ble_eq_true rfl, Nat.le_of_ble_eq_true rfl⟩) hS (fun q _ h => hc_5.2.2 q h) hc_5.2.2 (fun u_5 t_5 H1 locs ht hvm h_5 hB hz1 hk1 hS => ?_)
      refine xl_1_3 hB (fun fan_5 hP1 hD1 hF_5_0 => ?_)
      clear hB
      rw [ht] at hP1
      obtain ⟨hP, hD⟩ := va_join (wr := []) (w1 := [(xo_8_rrriirrriiiiiiirrirrrrri mo m_la m_sz m_it ms mt m_st m_mv m_tp (nI mz) ml (nI mp) mk mv mb mw m_rd m_ac (nI ma) m_as m_wo m_ik m_ke m_tr (nI mx)), (xI m_st cI 38 fs), (xI m_as cI 38 fan_5)]) hP hD [0, 1, 2] [] rfl rfl (by decide +kernel) (by decide +kernel) hk1 hc_5.2.2 hP1 hD1
      generalize H1 = H at hP hS ⊢
      have hP : va_P (dC, dI) vwCl [(xo_8_rrriirrriiiiiiirrirrrrri mo m_la m_sz m_it ms mt m_st m_mv m_tp (nI mz) ml (nI mp) mk mv mb mw m_rd m_ac (nI ma) m_as m_wo m_ik m_ke m_tr (nI mx)), (xI m_st cI 38 fs), (xI m_as cI 38 fan_5)] H := hP
      have hD := dto hP hD
      have hA_5 := okM_eq hM hF_5_0
      refine lv_aload_n hx hb dX8_meal_29 rfl (lv_at hl 0 rfl) ?_
      refine lv_iload_n hx hb dX8_meal_30 rfl (lv_at hl 1 rfl) ?_
      have hc_6 := cutW (wc := [(xo_8_rrriirrriiiiiiirrirrrrri mo m_la m_sz m_it ms mt m_st m_mv m_tp (nI mz) ml (nI mp) mk mv mb mw m_rd m_ac (nI ma) m_as m_wo m_ik m_ke m_tr (nI mx)), (xI m_st cI 38 fs), (xI m_as cI 38 fan_5)]) hP hD hS hA [0, 1, 2] (by decide +kernel) rfl
      refine va_calli (va_runV (As := [.int (nI j_2)]) (rest := []) ⟨hx, hb, hml, hown, hts⟩ (r_X8_mealBehind l dC dI cI cZ cL cJ H.size mo m_la m_sz m_it m_st m_mv m_tp m_rd m_ac m_as m_wo m_ik m_ke m_tr ms mt ml mk mv mb mw mz mp ma mx fs w9 k9 h9 fan_5 j_2 (hM) (by omega) (by omega) (by omega)) (cwV 1 hts gX8_meal_X8_mealBehind rfl rfl rfl (by decide +kernel) ⟨Nat.le_of_ble_eq_true rfl, Nat.le_of_ble_eq_true rfl⟩) (pvW 8 0 hK hP rfl rfl hc_6) rfl rfl hl.1 rfl (lv_room (Nat.le_of_ble_eq_true rfl)) dX8_meal_31 ⟨Nat.le_of_ble_eq_true rfl, Nat.le_of_ble_eq_true rfl⟩) hS (fun q _ h => hc_6.2.2 q h) hc_6.2.2 (fun r_6 u_6 t_6 H1 locs ht hvm h_6 hB hz1 hk1 hS => ?_)
      refine xl_1_3 hB (fun fsn_6 hP1 hD1 hF_6_0 => ?_)
      clear hB
      rw [ht] at hP1
      obtain ⟨hP, hD⟩ := va_join (wr := []) (w1 := [(xo_8_rrriirrriiiiiiirrirrrrri mo m_la m_sz m_it ms mt m_st m_mv m_tp (nI mz) ml (nI mp) mk mv mb mw m_rd m_ac (nI ma) m_as m_wo m_ik m_ke m_tr (nI mx)), (xI m_st cI 38 fsn_6), (xI m_as cI 38 fan_5)]) hP hD [0, 1, 2] [] rfl rfl (by decide +kernel) (by decide +kernel) hk1 hc_6.2.2 hP1 hD1
      generalize H1 = H at hP hS ⊢
      have hP : va_P (dC, dI) vwCl [(xo_8_rrriirrriiiiiiirrirrrrri mo m_la m_sz m_it ms mt m_st m_mv m_tp (nI mz) ml (nI mp) mk mv mb mw m_rd m_ac (nI ma) m_as m_wo m_ik m_ke m_tr (nI mx)), (xI m_st cI 38 fsn_6), (xI m_as cI 38 fan_5)] H := hP
      have hD := dto hP hD
      have hT_6 := okM_eq hA_5 hF_6_0
      have hX9 := cut2 (wc := [(xo_8_rrriirrriiiiiiirrirrrrri mo m_la m_sz m_it ms mt m_st m_mv m_tp (nI mz) ml (nI mp) mk mv mb mw m_rd m_ac (nI ma) m_as m_wo m_ik m_ke m_tr (nI mx)), (xI m_st cI 38 fsn_6), (xI m_as cI 38 fan_5)]) hP hD [0, 1, 2] (by decide +kernel) rfl
      exact W.iret (v := r_6) hx hb hr (fun t ht hW => ⟨⟨r_6, (), rfl, (lf_X8_meal_2 hM hT h999 hT0 c_1 hkn1 hw1 h01 f_2_1_0 q_2 hj_2 hF_5_0 hF_6_0 h_6), ⟨fsn_6, fan_5, va_Ht ht hX9.1, hX9.2, hT_6, ((m38_eq hF_6_0).trans ((m38_eq hF_5_0).trans rfl))⟩⟩, hS.F ht⟩) hS.2.2 dX8_meal_34
  · skip
    have h00 : fs 0 = 0 := (hT0 c_1).1
    refine lv_ldc (own := RX8) (v := (-1000002)) hx hb hown (hts _ mx_X8_meal_2) dX8_meal_7 ?_
    have hX9 := cut2 (wc := [(xo_8_rrriirrriiiiiiirrirrrrri mo m_la m_sz m_it ms mt m_st m_mv m_tp (nI mz) ml (nI mp) mk mv mb mw m_rd m_ac (nI ma) m_as m_wo m_ik m_ke m_tr (nI mx)), (xI m_st cI 38 fs), (xI m_as cI 38 fa)]) hP hD [0, 1, 2] (by decide +kernel) rfl
    exact W.iret (v := (-1000002)) hx hb hr (fun t ht hW => ⟨⟨(-1000002), (), rfl, (lf_X8_meal_3 hM hT h999 hT0 c_1 h00), ⟨fs, fa, va_Ht ht hX9.1, hX9.2, hM, rfl⟩⟩, hS.F ht⟩) hS.2.2 dX8_meal_9
theorem lf_X8_when_1 {mt : Int32} {ma : Nat} {fs : Nat → Int32} {w9 : Nat} {k9 : Nat} {h9 : Nat} {a0 : Int32} {a1 : Int32} (hM : okM fs w9 k9 h9) (hT : ¬ mt = 0 → 1 ≤ k9) (h999 : h9 ≤ 999) (hT0 : mt = 0 → fs 0 = 0 ∧ ma = 0) (f_1_0_0 : ¬ sB (nI k9) a0) : (-1000001) = (a_when (m38 fs) a0 a1) := by
  first
  | exact whenM_n1 hM.2.1 f_1_0_0
  | exact when_n (Or.inr q_5)
theorem lf_X8_when_2 {mt : Int32} {ma : Nat} {fs : Nat → Int32} {w9 : Nat} {k9 : Nat} {h9 : Nat} {a1 : Int32} {j_1 : Nat} (hM : okM fs w9 k9 h9) (hT : ¬ mt = 0 → 1 ≤ k9) (h999 : h9 ≤ 999) (hT0 : mt = 0 → fs 0 = 0 ∧ ma = 0) (hj_1 : j_1 < k9) (hkn1 : 1 ≤ k9) (hw1 : 1 ≤ w9) (h01 : ¬ fs 0 = 0) (f_5_0_0 : ((a1).toInt64 < 1 ∨ 2 < (a1).toInt64)) (q_5 : (a1 < 1 ∨ 2 < a1)) : (-1000001) = (a_when (m38 fs) (nI j_1) a1) := by
  exact when_n (Or.inr q_5)
theorem lf_X8_when_3 {mt : Int32} {ma : Nat} {fs : Nat → Int32} {w9 : Nat} {k9 : Nat} {h9 : Nat} {j_1 : Nat} {j_5 : Nat} {fan_8 : Nat → Int32} {w_21 : Nat → Int32} {ii : Nat} {v_36 : Int32} {v_39 : Int32} {fsn_41 : Nat → Int32} (hM : okM fs w9 k9 h9) (hT : ¬ mt = 0 → 1 ≤ k9) (h999 : h9 ≤ 999) (hT0 : mt = 0 → fs 0 = 0 ∧ ma = 0) (hj_1 : j_1 < k9) (hkn1 : 1 ≤ k9) (hw1 : 1 ≤ w9) (h01 : ¬ fs 0 = 0) (f_5_1_0 : (¬ (((nI j_5)).toInt64 < 1 ∨ 2 < ((nI j_5)).toInt64))) (q_5 : ¬ ((nI j_5) < 1 ∨ 2 < (nI j_5))) (hj_5 : j_5 ≤ 2) (hF_8_0 : (∀ j : Nat, j < 38 → fan_8 j = fs j)) (hii : ii < 60) (haf_0 : (w_21 = mGo ii fs)) (haf_1 : (∀ t : Nat, t < ii → ¬ mGo t fs (26 + j_1) = (nI j_5))) (hMl : okM w_21 w9 k9 (h9 + ii)) (e_36 : v_36 = w_21 (26 + j_1)) (c_37 : v_36 = (nI j_5)) (e_39 : v_39 = w_21 (26 + j_1)) (c_40 : ¬ (v_39 = (nI j_5))) (hF_41_0 : (∀ j : Nat, j < 38 → fsn_41 j = fan_8 j)) : (-1000000) = (a_when (m38 fs) (nI j_1) (nI j_5)) := by
  first
  | exact when_n (Or.inr q_5)
  | exact absurd (e_39.trans (e_36.symm.trans c_37)) c_40
  | exact whenM_hit hM hw1 hj_1 q_5 (by omega) haf_0 haf_1 e_36 c_37
theorem lf_X8_when_4 {mt : Int32} {ma : Nat} {fs : Nat → Int32} {w9 : Nat} {k9 : Nat} {h9 : Nat} {j_1 : Nat} {j_5 : Nat} {fan_8 : Nat → Int32} {w_21 : Nat → Int32} {ii : Nat} {v_36 : Int32} {v_39 : Int32} {fsn_43 : Nat → Int32} (hM : okM fs w9 k9 h9) (hT : ¬ mt = 0 → 1 ≤ k9) (h999 : h9 ≤ 999) (hT0 : mt = 0 → fs 0 = 0 ∧ ma = 0) (hj_1 : j_1 < k9) (hkn1 : 1 ≤ k9) (hw1 : 1 ≤ w9) (h01 : ¬ fs 0 = 0) (f_5_1_0 : (¬ (((nI j_5)).toInt64 < 1 ∨ 2 < ((nI j_5)).toInt64))) (q_5 : ¬ ((nI j_5) < 1 ∨ 2 < (nI j_5))) (hj_5 : j_5 ≤ 2) (hF_8_0 : (∀ j : Nat, j < 38 → fan_8 j = fs j)) (hii : ii < 60) (haf_0 : (w_21 = mGo ii fs)) (haf_1 : (∀ t : Nat, t < ii → ¬ mGo t fs (26 + j_1) = (nI j_5))) (hMl : okM w_21 w9 k9 (h9 + ii)) (e_36 : v_36 = w_21 (26 + j_1)) (c_37 : v_36 = (nI j_5)) (e_39 : v_39 = w_21 (26 + j_1)) (c_40 : v_39 = (nI j_5)) (hF_43_0 : (∀ j : Nat, j < 38 → fsn_43 j = fan_8 j)) : (nI ii) = (a_when (m38 fs) (nI j_1) (nI j_5)) := by
  first
  | exact when_n (Or.inr q_5)
  | exact absurd (e_39.trans (e_36.symm.trans c_37)) c_40
  | exact whenM_hit hM hw1 hj_1 q_5 (by omega) haf_0 haf_1 e_36 c_37
theorem lf_X8_when_5 {mt : Int32} {ma : Nat} {fs : Nat → Int32} {w9 : Nat} {k9 : Nat} {h9 : Nat} {j_1 : Nat} {j_5 : Nat} {fan_8 : Nat → Int32} {w_21 : Nat → Int32} {ii : Nat} {v_36 : Int32} {fsn_46 : Nat → Int32} (hM : okM fs w9 k9 h9) (hT : ¬ mt = 0 → 1 ≤ k9) (h999 : h9 ≤ 999) (hT0 : mt = 0 → fs 0 = 0 ∧ ma = 0) (hj_1 : j_1 < k9) (hkn1 : 1 ≤ k9) (hw1 : 1 ≤ w9) (h01 : ¬ fs 0 = 0) (f_5_1_0 : (¬ (((nI j_5)).toInt64 < 1 ∨ 2 < ((nI j_5)).toInt64))) (q_5 : ¬ ((nI j_5) < 1 ∨ 2 < (nI j_5))) (hj_5 : j_5 ≤ 2) (hF_8_0 : (∀ j : Nat, j < 38 → fan_8 j = fs j)) (hii : ii < 60) (haf_0 : (w_21 = mGo ii fs)) (haf_1 : (∀ t : Nat, t < ii → ¬ mGo t fs (26 + j_1) = (nI j_5))) (hMl : okM w_21 w9 k9 (h9 + ii)) (e_36 : v_36 = w_21 (26 + j_1)) (c_37 : ¬ (v_36 = (nI j_5))) (hF_46_0 : okM fsn_46 w9 k9 ((h9 + ii) + 1)) (hF_46_1 : fsn_46 = mH w_21) : fsn_46 = mGo (ii + 1) fs := by
  exact hF_46_1.trans (congrArg mH haf_0)
theorem lf_X8_when_6 {mt : Int32} {ma : Nat} {fs : Nat → Int32} {w9 : Nat} {k9 : Nat} {h9 : Nat} {j_1 : Nat} {j_5 : Nat} {fan_8 : Nat → Int32} {w_21 : Nat → Int32} {ii : Nat} {v_36 : Int32} {fsn_46 : Nat → Int32} (hM : okM fs w9 k9 h9) (hT : ¬ mt = 0 → 1 ≤ k9) (h999 : h9 ≤ 999) (hT0 : mt = 0 → fs 0 = 0 ∧ ma = 0) (hj_1 : j_1 < k9) (hkn1 : 1 ≤ k9) (hw1 : 1 ≤ w9) (h01 : ¬ fs 0 = 0) (f_5_1_0 : (¬ (((nI j_5)).toInt64 < 1 ∨ 2 < ((nI j_5)).toInt64))) (q_5 : ¬ ((nI j_5) < 1 ∨ 2 < (nI j_5))) (hj_5 : j_5 ≤ 2) (hF_8_0 : (∀ j : Nat, j < 38 → fan_8 j = fs j)) (hii : ii < 60) (haf_0 : (w_21 = mGo ii fs)) (haf_1 : (∀ t : Nat, t < ii → ¬ mGo t fs (26 + j_1) = (nI j_5))) (hMl : okM w_21 w9 k9 (h9 + ii)) (e_36 : v_36 = w_21 (26 + j_1)) (c_37 : ¬ (v_36 = (nI j_5))) (hF_46_0 : okM fsn_46 w9 k9 ((h9 + ii) + 1)) (hF_46_1 : fsn_46 = mH w_21) : ∀ t : Nat, t < ii + 1 → ¬ mGo t fs (26 + j_1) = (nI j_5) := by
  exact wh_step (P := fun t => mGo t fs (26 + j_1) = (nI j_5)) haf_1 (fun z => c_37 (e_36.trans ((congrFun haf_0 _).trans z)))
theorem lf_X8_when_7 {mt : Int32} {ma : Nat} {fs : Nat → Int32} {w9 : Nat} {k9 : Nat} {h9 : Nat} {j_1 : Nat} {j_5 : Nat} {fan_8 : Nat → Int32} {w_21 : Nat → Int32} {v_48 : Int32} {v_51 : Int32} {fsn_53 : Nat → Int32} (hM : okM fs w9 k9 h9) (hT : ¬ mt = 0 → 1 ≤ k9) (h999 : h9 ≤ 999) (hT0 : mt = 0 → fs 0 = 0 ∧ ma = 0) (hj_1 : j_1 < k9) (hkn1 : 1 ≤ k9) (hw1 : 1 ≤ w9) (h01 : ¬ fs 0 = 0) (f_5_1_0 : (¬ (((nI j_5)).toInt64 < 1 ∨ 2 < ((nI j_5)).toInt64))) (q_5 : ¬ ((nI j_5) < 1 ∨ 2 < (nI j_5))) (hj_5 : j_5 ≤ 2) (hF_8_0 : (∀ j : Nat, j < 38 → fan_8 j = fs j)) (haf_0 : (w_21 = mGo 60 fs)) (haf_1 : (∀ t : Nat, t < 60 → ¬ mGo t fs (26 + j_1) = (nI j_5))) (hMl : okM w_21 w9 k9 (h9 + 60)) (e_48 : v_48 = w_21 (26 + j_1)) (c_49 : v_48 = (nI j_5)) (e_51 : v_51 = w_21 (26 + j_1)) (c_52 : ¬ (v_51 = (nI j_5))) (hF_53_0 : (∀ j : Nat, j < 38 → fsn_53 j = fan_8 j)) : (-1000000) = (a_when (m38 fs) (nI j_1) (nI j_5)) := by
  first
  | exact when_n (Or.inr q_5)
  | exact absurd (e_51.trans (e_48.symm.trans c_49)) c_52
  | exact whenM_no hM hw1 hj_1 q_5 haf_0 haf_1 e_48 c_49
  | exact whenM_hit hM hw1 hj_1 q_5 (by omega) haf_0 haf_1 e_48 c_49
theorem lf_X8_when_8 {mt : Int32} {ma : Nat} {fs : Nat → Int32} {w9 : Nat} {k9 : Nat} {h9 : Nat} {j_1 : Nat} {j_5 : Nat} {fan_8 : Nat → Int32} {w_21 : Nat → Int32} {v_48 : Int32} {v_51 : Int32} {fsn_55 : Nat → Int32} (hM : okM fs w9 k9 h9) (hT : ¬ mt = 0 → 1 ≤ k9) (h999 : h9 ≤ 999) (hT0 : mt = 0 → fs 0 = 0 ∧ ma = 0) (hj_1 : j_1 < k9) (hkn1 : 1 ≤ k9) (hw1 : 1 ≤ w9) (h01 : ¬ fs 0 = 0) (f_5_1_0 : (¬ (((nI j_5)).toInt64 < 1 ∨ 2 < ((nI j_5)).toInt64))) (q_5 : ¬ ((nI j_5) < 1 ∨ 2 < (nI j_5))) (hj_5 : j_5 ≤ 2) (hF_8_0 : (∀ j : Nat, j < 38 → fan_8 j = fs j)) (haf_0 : (w_21 = mGo 60 fs)) (haf_1 : (∀ t : Nat, t < 60 → ¬ mGo t fs (26 + j_1) = (nI j_5))) (hMl : okM w_21 w9 k9 (h9 + 60)) (e_48 : v_48 = w_21 (26 + j_1)) (c_49 : v_48 = (nI j_5)) (e_51 : v_51 = w_21 (26 + j_1)) (c_52 : v_51 = (nI j_5)) (hF_55_0 : (∀ j : Nat, j < 38 → fsn_55 j = fan_8 j)) : (nI 60) = (a_when (m38 fs) (nI j_1) (nI j_5)) := by
  first
  | exact when_n (Or.inr q_5)
  | exact absurd (e_51.trans (e_48.symm.trans c_49)) c_52
  | exact whenM_no hM hw1 hj_1 q_5 haf_0 haf_1 e_48 c_49
  | exact whenM_hit hM hw1 hj_1 q_5 (by omega) haf_0 haf_1 e_48 c_49
theorem lf_X8_when_9 {mt : Int32} {ma : Nat} {fs : Nat → Int32} {w9 : Nat} {k9 : Nat} {h9 : Nat} {j_1 : Nat} {j_5 : Nat} {fan_8 : Nat → Int32} {w_21 : Nat → Int32} {v_48 : Int32} {v_59 : Int32} {fsn_61 : Nat → Int32} (hM : okM fs w9 k9 h9) (hT : ¬ mt = 0 → 1 ≤ k9) (h999 : h9 ≤ 999) (hT0 : mt = 0 → fs 0 = 0 ∧ ma = 0) (hj_1 : j_1 < k9) (hkn1 : 1 ≤ k9) (hw1 : 1 ≤ w9) (h01 : ¬ fs 0 = 0) (f_5_1_0 : (¬ (((nI j_5)).toInt64 < 1 ∨ 2 < ((nI j_5)).toInt64))) (q_5 : ¬ ((nI j_5) < 1 ∨ 2 < (nI j_5))) (hj_5 : j_5 ≤ 2) (hF_8_0 : (∀ j : Nat, j < 38 → fan_8 j = fs j)) (haf_0 : (w_21 = mGo 60 fs)) (haf_1 : (∀ t : Nat, t < 60 → ¬ mGo t fs (26 + j_1) = (nI j_5))) (hMl : okM w_21 w9 k9 (h9 + 60)) (e_48 : v_48 = w_21 (26 + j_1)) (c_49 : ¬ (v_48 = (nI j_5))) (e_59 : v_59 = w_21 (26 + j_1)) (c_60 : ¬ (v_59 = (nI j_5))) (hF_61_0 : (∀ j : Nat, j < 38 → fsn_61 j = fan_8 j)) : (-1000000) = (a_when (m38 fs) (nI j_1) (nI j_5)) := by
  first
  | exact when_n (Or.inr q_5)
  | exact absurd (e_48.trans (e_59.symm.trans c_60)) c_49
  | exact whenM_no hM hw1 hj_1 q_5 haf_0 haf_1 e_48 c_49
  | exact whenM_hit hM hw1 hj_1 q_5 (by omega) haf_0 haf_1 e_48 c_49
theorem lf_X8_when_10 {mt : Int32} {ma : Nat} {fs : Nat → Int32} {w9 : Nat} {k9 : Nat} {h9 : Nat} {j_1 : Nat} {j_5 : Nat} {fan_8 : Nat → Int32} {w_21 : Nat → Int32} {v_48 : Int32} {v_59 : Int32} {fsn_63 : Nat → Int32} (hM : okM fs w9 k9 h9) (hT : ¬ mt = 0 → 1 ≤ k9) (h999 : h9 ≤ 999) (hT0 : mt = 0 → fs 0 = 0 ∧ ma = 0) (hj_1 : j_1 < k9) (hkn1 : 1 ≤ k9) (hw1 : 1 ≤ w9) (h01 : ¬ fs 0 = 0) (f_5_1_0 : (¬ (((nI j_5)).toInt64 < 1 ∨ 2 < ((nI j_5)).toInt64))) (q_5 : ¬ ((nI j_5) < 1 ∨ 2 < (nI j_5))) (hj_5 : j_5 ≤ 2) (hF_8_0 : (∀ j : Nat, j < 38 → fan_8 j = fs j)) (haf_0 : (w_21 = mGo 60 fs)) (haf_1 : (∀ t : Nat, t < 60 → ¬ mGo t fs (26 + j_1) = (nI j_5))) (hMl : okM w_21 w9 k9 (h9 + 60)) (e_48 : v_48 = w_21 (26 + j_1)) (c_49 : ¬ (v_48 = (nI j_5))) (e_59 : v_59 = w_21 (26 + j_1)) (c_60 : v_59 = (nI j_5)) (hF_63_0 : (∀ j : Nat, j < 38 → fsn_63 j = fan_8 j)) : (nI 60) = (a_when (m38 fs) (nI j_1) (nI j_5)) := by
  first
  | exact when_n (Or.inr q_5)
  | exact absurd (e_48.trans (e_59.symm.trans c_60)) c_49
  | exact whenM_no hM hw1 hj_1 q_5 haf_0 haf_1 e_48 c_49
  | exact whenM_hit hM hw1 hj_1 q_5 (by omega) haf_0 haf_1 e_48 c_49
set_option maxHeartbeats 4000000 in
set_option maxRecDepth 100000 in
theorem r_X8_when (l : Launch) (dC : Nat → ClassId) (dI : Nat → Nat → Nat) (cI cZ cL cJ : ClassId) (sz : Nat) (mo : Nat) (m_la : Nat) (m_sz : Nat) (m_it : Nat) (m_st : Nat) (m_mv : Nat) (m_tp : Nat) (m_rd : Nat) (m_ac : Nat) (m_as : Nat) (m_wo : Nat) (m_ik : Nat) (m_ke : Nat) (m_tr : Nat) (ms : Int32) (mt : Int32) (ml : Int32) (mk : Int32) (mv : Int32) (mb : Int32) (mw : Int32) (mz : Nat) (mp : Nat) (ma : Nat) (mx : Nat) (fs : Nat → Int32) (w9 : Nat) (k9 : Nat) (h9 : Nat) (fa : Nat → Int32) (a0 : Int32) (a1 : Int32) (hM : okM fs w9 k9 h9) (hT : ¬ mt = 0 → 1 ≤ k9) (h999 : h9 ≤ 999) (hT0 : mt = 0 → fs 0 = 0 ∧ ma = 0) : Met l yX8_when wsX8_when ({ frames := 4, cells := 0, slots := 0, locals := 95 }) (va_Pc [.ref mo, .int a0, .int a1] (fun U => U.heap.size = sz ∧ va_P (dC, dI) vwCl [(xo_8_rrriirrriiiiiiirrirrrrri mo m_la m_sz m_it ms mt m_st m_mv m_tp (nI mz) ml (nI mp) mk mv mb mw m_rd m_ac (nI ma) m_as m_wo m_ik m_ke m_tr (nI mx)), (xI m_st cI 38 fs), (xI m_as cI 38 fa)] U.heap ∧ va_K (dC, dI) vwCl [(cI, .int), (cZ, .boolean), (cL, .object RX3), (cJ, .array .int)] U ∧ va_D (fun _ => True) [(xo_8_rrriirrriiiiiiirrirrrrri mo m_la m_sz m_it ms mt m_st m_mv m_tp (nI mz) ml (nI mp) mk mv mb mw m_rd m_ac (nI ma) m_as m_wo m_ik m_ke m_tr (nI mx)), (xI m_st cI 38 fs), (xI m_as cI 38 fa)])) (va_Qi (fun r (_ : Unit) => r = (a_when (m38 fs) a0 a1)) (fun (_ : Unit) t => ∃ (fsn : Nat → Int32) (fan : Nat → Int32), va_P (dC, dI) vwCl [(xo_8_rrriirrriiiiiiirrirrrrri mo m_la m_sz m_it ms mt m_st m_mv m_tp (nI mz) ml (nI mp) mk mv mb mw m_rd m_ac (nI ma) m_as m_wo m_ik m_ke m_tr (nI mx)), (xI m_st cI 38 fsn), (xI m_as cI 38 fan)] t.heap ∧ va_D (va_A [(xo_8_rrriirrriiiiiiirrirrrrri mo m_la m_sz m_it ms mt m_st m_mv m_tp (nI mz) ml (nI mp) mk mv mb mw m_rd m_ac (nI ma) m_as m_wo m_ik m_ke m_tr (nI mx)), (xI m_st cI 38 fs), (xI m_as cI 38 fa)] sz) [(xo_8_rrriirrriiiiiiirrirrrrri mo m_la m_sz m_it ms mt m_st m_mv m_tp (nI mz) ml (nI mp) mk mv mb mw m_rd m_ac (nI ma) m_as m_wo m_ik m_ke m_tr (nI mx)), (xI m_st cI 38 fsn), (xI m_as cI 38 fan)] ∧ okM fsn w9 k9 h9 ∧ m38 fsn = m38 fs) (va_A [(xo_8_rrriirrriiiiiiirrirrrrri mo m_la m_sz m_it ms mt m_st m_mv m_tp (nI mz) ml (nI mp) mk mv mb mw m_rd m_ac (nI ma) m_as m_wo m_ik m_ke m_tr (nI mx)), (xI m_st cI 38 fs), (xI m_as cI 38 fa)] sz)) 0 0 (va_A [(xo_8_rrriirrriiiiiiirrirrrrri mo m_la m_sz m_it ms mt m_st m_mv m_tp (nI mz) ml (nI mp) mk mv mb mw m_rd m_ac (nI ma) m_as m_wo m_ik m_ke m_tr (nI mx)), (xI m_st cI 38 fs), (xI m_as cI 38 fa)] sz) := by
  refine Met.ofW (cc := cX8_when) (maxL := 5) (ret := (some .int)) (by decide) rfl ?_
  intro p e s m args below meth c s₁ B hml hv
  obtain ⟨rfl, hsz, hP, hK, hD0⟩ := hv
  have hx := B.exec
  have hb := B.bytes
  have hr := B.returns
  have hts := atoms_spec (ws := wsX8_when) B.pre
  have hown : s.vm.findClass RX8 = some m.cls := findClass_of_methodNamed B.named
  have hlocks := B.notSynchronized
  subst hsz
  have hD := hD0.self (sz := s.heap.size)
  generalize hAe : va_A [(xo_8_rrriirrriiiiiiirrirrrrri mo m_la m_sz m_it ms mt m_st m_mv m_tp (nI mz) ml (nI mp) mk mv mb mw m_rd m_ac (nI ma) m_as m_wo m_ik m_ke m_tr (nI mx)), (xI m_st cI 38 fs), (xI m_as cI 38 fa)] s.heap.size = A at hD ⊢
  have hA : ∀ q : Nat, s.heap.size ≤ q → A q := fun q h => by rw [← hAe]; exact Or.inr h
  have hS : va_S A s.heap s.heap [] := va_S.rf
  have hP : va_P (dC, dI) vwCl [(xo_8_rrriirrriiiiiiirrirrrrri mo m_la m_sz m_it ms mt m_st m_mv m_tp (nI mz) ml (nI mp) mk mv mb mw m_rd m_ac (nI ma) m_as m_wo m_ik m_ke m_tr (nI mx)), (xI m_st cI 38 fs), (xI m_as cI 38 fa)] s.heap := hP
  have hl := lv_entry ([.ref mo, .int a0, .int a1]) (n := 5) (Nat.le_of_ble_eq_true rfl)
  rw [lg_entry_eq]
  generalize (lg_sl ([.ref mo, .int a0, .int a1]) ++ List.replicate (5 - (lg_sl ([.ref mo, .int a0, .int a1])).length) Slot.unset).toArray = ls at hl ⊢
  have hl : lv_has ls 5 [(0, .ref mo), (1, .int a0), (2, .int a1)] := hl
  have hk6 := hM.2.2.2.2.1
  have hw6 := hM.2.2.2.1
  refine lv_aload_n hx hb dX8_when_0 rfl (lv_at hl 0 rfl) ?_
  refine lv_iload_n hx hb dX8_when_1 rfl (lv_at hl 1 rfl) ?_
  have hPc_1 := hP.sub (ws' := [(xo_8_rrriirrriiiiiiirrirrrrri mo m_la m_sz m_it ms mt m_st m_mv m_tp (nI mz) ml (nI mp) mk mv mb mw m_rd m_ac (nI ma) m_as m_wo m_ik m_ke m_tr (nI mx)), (xI m_st cI 38 fs)]) [0, 1] rfl
  refine vp_callSi (W.runV (As := [.int a0]) (rest := []) ⟨hx, hb, hml, hown, hts⟩ (r_X8_isSound l dC dI cI cZ cL cJ mo m_la m_sz m_it m_st m_mv m_tp m_rd m_ac m_as m_wo m_ik m_ke m_tr ms mt ml mk mv mb mw mz mp ma mx fs w9 k9 h9 a0 (hM)) (cwV 1 hts gX8_when_X8_isSound rfl rfl rfl (by decide +kernel) ⟨Nat.le_of_ble_eq_true rfl, Nat.le_of_ble_eq_true rfl⟩) (pvP 8 0 hK hP rfl rfl hPc_1) rfl rfl hl.1 rfl (lv_room (Nat.le_of_ble_eq_true rfl)) dX8_when_2 ⟨Nat.le_of_ble_eq_true rfl, Nat.le_of_ble_eq_true rfl⟩) (fun r_1 h_1 => ?_)
  rcases h_1 with ⟨h_1, f_1_0_0⟩ | ⟨h_1, f_1_1_0⟩
  · subst h_1
    refine lv_if_eq (tgt := 20) hx hb dX8_when_5 (by decide) (fun _ => ?_) (fun c_ => absurd (by decide) c_)
    refine lv_ldc (own := RX8) (v := (-1000001)) hx hb hown (hts _ mx_X8_when_2) dX8_when_20 ?_
    have hX9 := cut2 (wc := [(xo_8_rrriirrriiiiiiirrirrrrri mo m_la m_sz m_it ms mt m_st m_mv m_tp (nI mz) ml (nI mp) mk mv mb mw m_rd m_ac (nI ma) m_as m_wo m_ik m_ke m_tr (nI mx)), (xI m_st cI 38 fs), (xI m_as cI 38 fa)]) hP hD [0, 1, 2] (by decide +kernel) rfl
    exact W.iret (v := (-1000001)) hx hb hr (fun t ht hW => ⟨⟨(-1000001), (), rfl, (lf_X8_when_1 hM hT h999 hT0 f_1_0_0), ⟨fs, fa, va_Ht ht hX9.1, hX9.2, hM, rfl⟩⟩, hS.F ht⟩) hS.2.2 dX8_when_22
  · subst h_1
    obtain ⟨j_1, hj_1, rfl⟩ := vp_in_of f_1_1_0 (by omega)
    have hkn1 : 1 ≤ k9 := by omega
    have hw1 := hM.2.2.2.2.2.1.mp hkn1
    have h01 : ¬ fs 0 = 0 := cell_nz hM hkn1
    refine lv_if_eq (tgt := 20) hx hb dX8_when_5 (by decide) (fun c_ => absurd c_ (by decide)) (fun _ => ?_)
    refine lv_iload_n hx hb dX8_when_8 rfl (lv_at hl 2 rfl) ?_
    refine lv_i2l hx hb dX8_when_9 rfl ?_
    refine lv_lconst (v := 1) hx hb dX8_when_10 (by decide) ?_
    refine lv_ldc2 (own := RX8) (v := 2) hx hb hown (hts _ mx_X8_when_1) dX8_when_11 ?_
    have hPc_5 := hP.sub (ws' := []) [] rfl
    refine vp_callSi (W.runS (As := [.long (a1).toInt64, .long 1, .long 2]) (rest := []) ⟨hx, hb, hml, hown, hts⟩ (r_X8_in l dC dI cI cZ cL cJ ((a1).toInt64) 1 2 ) (va_cwS 3 hts gX8_when_X8_in rfl rfl rfl (by decide +kernel) ⟨Nat.le_of_ble_eq_true rfl, Nat.le_of_ble_eq_true rfl⟩) (psP hK hPc_5) rfl rfl hl.1 rfl (lv_room (Nat.le_of_ble_eq_true rfl)) dX8_when_14 ⟨Nat.le_of_ble_eq_true rfl, Nat.le_of_ble_eq_true rfl⟩) (fun r_5 h_5 => ?_)
    rcases h_5 with ⟨h_5, f_5_0_0⟩ | ⟨h_5, f_5_1_0⟩
    · subst h_5
      have q_5 : (a1 < 1 ∨ 2 < a1) := (in32 (x := a1) (l := 1) (u := 2) (by decide) (by decide)).mp f_5_0_0
      refine lv_if_ne (tgt := 23) hx hb dX8_when_17 (by decide) (fun c_ => absurd (by decide) c_) (fun _ => ?_)
      refine lv_ldc (own := RX8) (v := (-1000001)) hx hb hown (hts _ mx_X8_when_2) dX8_when_20 ?_
      have hX9 := cut2 (wc := [(xo_8_rrriirrriiiiiiirrirrrrri mo m_la m_sz m_it ms mt m_st m_mv m_tp (nI mz) ml (nI mp) mk mv mb mw m_rd m_ac (nI ma) m_as m_wo m_ik m_ke m_tr (nI mx)), (xI m_st cI 38 fs), (xI m_as cI 38 fa)]) hP hD [0, 1, 2] (by decide +kernel) rfl
      exact W.iret (v := (-1000001)) hx hb hr (fun t ht hW => ⟨⟨(-1000001), (), rfl, (lf_X8_when_2 hM hT h999 hT0 hj_1 hkn1 hw1 h01 f_5_0_0 q_5), ⟨fs, fa, va_Ht ht hX9.1, hX9.2, hM, rfl⟩⟩, hS.F ht⟩) hS.2.2 dX8_when_22
    · subst h_5
      have q_5 : ¬ (a1 < 1 ∨ 2 < a1) := fun q_ => f_5_1_0 ((in32 (x := a1) (l := 1) (u := 2) (by decide) (by decide)).mpr q_)
      obtain ⟨j_5, hj_5, hl_5, rfl⟩ := in64 (lo := 1) (n := 2) rfl rfl (by decide) f_5_1_0
      refine lv_if_ne (tgt := 23) hx hb dX8_when_17 (by decide) (fun _ => ?_) (fun c_ => absurd c_ (by decide))
      refine lv_aload_n hx hb dX8_when_23 rfl (lv_at hl 0 rfl) ?_
      have hc_8 := cutW (wc := [(xo_8_rrriirrriiiiiiirrirrrrri mo m_la m_sz m_it ms mt m_st m_mv m_tp (nI mz) ml (nI mp) mk mv mb mw m_rd m_ac (nI ma) m_as m_wo m_ik m_ke m_tr (nI mx)), (xI m_st cI 38 fs), (xI m_as cI 38 fa)]) hP hD hS hA [0, 1, 2] (by decide +kernel) rfl
      refine va_callv (va_runV (As := []) (rest := []) ⟨hx, hb, hml, hown, hts⟩ (r_X8_putAside l dC dI cI cZ cL cJ s.heap.size mo m_la m_sz m_it m_st m_mv m_tp m_rd m_ac m_as m_wo m_ik m_ke m_tr ms mt ml mk mv mb mw mz mp ma mx fs fa ) (cwV 0 hts gX8_when_X8_putAside rfl rfl rfl (by decide +kernel) ⟨Nat.le_of_ble_eq_true rfl, Nat.le_of_ble_eq_true rfl⟩) (pvW 8 0 hK hP rfl rfl hc_8) rfl rfl hl.1 rfl (lv_room (Nat.le_of_ble_eq_true rfl)) dX8_when_24 ⟨Nat.le_of_ble_eq_true rfl, Nat.le_of_ble_eq_true rfl⟩) hS (fun q _ h => hc_8.2.2 q h) hc_8.2.2 (fun u_8 t_8 H1 locs ht hvm h_8 hB hz1 hk1 hS => ?_)
      refine xl_1_3 hB (fun fan_8 hP1 hD1 hF_8_0 => ?_)
      clear hB
      rw [ht] at hP1
      obtain ⟨hP, hD⟩ := va_join (wr := []) (w1 := [(xo_8_rrriirrriiiiiiirrirrrrri mo m_la m_sz m_it ms mt m_st m_mv m_tp (nI mz) ml (nI mp) mk mv mb mw m_rd m_ac (nI ma) m_as m_wo m_ik m_ke m_tr (nI mx)), (xI m_st cI 38 fs), (xI m_as cI 38 fan_8)]) hP hD [0, 1, 2] [] rfl rfl (by decide +kernel) (by decide +kernel) hk1 hc_8.2.2 hP1 hD1
      generalize H1 = H at hP hS ⊢
      have hP : va_P (dC, dI) vwCl [(xo_8_rrriirrriiiiiiirrirrrrri mo m_la m_sz m_it ms mt m_st m_mv m_tp (nI mz) ml (nI mp) mk mv mb mw m_rd m_ac (nI ma) m_as m_wo m_ik m_ke m_tr (nI mx)), (xI m_st cI 38 fs), (xI m_as cI 38 fan_8)] H := hP
      have hD := dto hP hD
      have hA_8 := okM_eq hM hF_8_0
      refine lv_iconst (v := 0) hx hb dX8_when_27 (by decide) ?_
      refine lv_istore_n (lv' := [(3, .int 0), (0, .ref mo), (1, .int (nI j_1)), (2, .int (nI j_5))]) hx hb dX8_when_28 rfl hl (by decide) rfl (fun ls hl => ?_)
      refine lp_go (σ := (Nat → Int32)) (fun ii (st : (Nat → Int32)) H locs ls => match st with | w_21 => lv_has ls 5 [(3, .int (nI ii)), (0, .ref mo), (1, .int (nI j_1)), (2, .int (nI j_5))] ∧ va_P (dC, dI) vwCl [(xo_8_rrriirrriiiiiiirrirrrrri mo m_la m_sz m_it ms mt m_st m_mv m_tp (nI mz) ml (nI mp) mk mv mb mw m_rd m_ac (nI ma) m_as m_wo m_ik m_ke m_tr (nI mx)), (xI m_st cI 38 w_21), (xI m_as cI 38 fan_8)] H ∧ va_D A [(xo_8_rrriirrriiiiiiirrirrrrri mo m_la m_sz m_it ms mt m_st m_mv m_tp (nI mz) ml (nI mp) mk mv mb mw m_rd m_ac (nI ma) m_as m_wo m_ik m_ke m_tr (nI mx)), (xI m_st cI 38 w_21), (xI m_as cI 38 fan_8)] ∧ va_S A s.heap H locs ∧ okM w_21 w9 k9 (h9 + ii) ∧ (w_21 = mGo ii fs) ∧ (∀ t : Nat, t < ii → ¬ mGo t fs (26 + j_1) = (nI j_5))) 60 ?_ ?_ 0 (by omega) (fs) ⟨lv_sub hl [0, 1, 2, 3] rfl, hP.sub (ws' := [(xo_8_rrriirrriiiiiiirrirrrrri mo m_la m_sz m_it ms mt m_st m_mv m_tp (nI mz) ml (nI mp) mk mv mb mw m_rd m_ac (nI ma) m_as m_wo m_ik m_ke m_tr (nI mx)), (xI m_st cI 38 fs), (xI m_as cI 38 fan_8)]) [0, 1, 2] rfl, hD.sub (ws' := [(xo_8_rrriirrriiiiiiirrirrrrri mo m_la m_sz m_it ms mt m_st m_mv m_tp (nI mz) ml (nI mp) mk mv mb mw m_rd m_ac (nI ma) m_as m_wo m_ik m_ke m_tr (nI mx)), (xI m_st cI 38 fs), (xI m_as cI 38 fan_8)]) [0, 1, 2] (by decide +kernel) rfl, hS, hM, rfl, (fun t h_ => absurd h_ (Nat.not_lt_zero t))⟩
      · rintro ii w_21 H locs ls hii ⟨hl, hP, hD, hS, hMl, haf_0, haf_1⟩ ih
        refine lv_aload_n hx hb dX8_when_29 rfl (lv_at hl 1 rfl) ?_
        refine va_get (D := (dC, dI)) (ci := 8) (v := .ref m_st) (C := RX8) (T := TX8) (N := 24) hx hb hts i_X8_when_X8 hown hK hP 0 rfl rfl 5 (by decide) (hts _ mx_X8_when_3) (fun _ h9 => h9) rfl dX8_when_30 ?_
        refine lv_bipush (v := 26) hx hb dX8_when_33 (by decide) ?_
        refine lv_iload_n hx hb dX8_when_35 rfl (lv_at hl 2 rfl) ?_
        refine lv_iadd hx hb dX8_when_36 ?_
        refine lv_topi (fun v_35 e_35 => ?_)
        obtain rfl : v_35 = (nI (26 + j_1)) := (e_35).trans (nI_add 26 j_1)
        refine va_iald hx hb hK hP 1 0 rfl rfl (vp_in_nI (by omega) (by omega)) dX8_when_37 ?_
        refine lv_topi (fun v_36 e_36 => ?_)
        have e_36 : v_36 = w_21 (26 + j_1) := e_36.trans (congrArg w_21 (nI_clamp (by omega)))
        refine lv_iload_n hx hb dX8_when_38 rfl (lv_at hl 3 rfl) ?_
        refine lv_icmp_eq (tgt := 59) hx hb dX8_when_39 (by decide) (fun c_37 => ?_) (fun c_37 => ?_)
        · skip
          refine lv_aload_n hx hb dX8_when_59 rfl (lv_at hl 1 rfl) ?_
          refine va_get (D := (dC, dI)) (ci := 8) (v := .ref m_st) (C := RX8) (T := TX8) (N := 24) hx hb hts i_X8_when_X8 hown hK hP 0 rfl rfl 5 (by decide) (hts _ mx_X8_when_3) (fun _ h9 => h9) rfl dX8_when_60 ?_
          refine lv_bipush (v := 26) hx hb dX8_when_63 (by decide) ?_
          refine lv_iload_n hx hb dX8_when_65 rfl (lv_at hl 2 rfl) ?_
          refine lv_iadd hx hb dX8_when_66 ?_
          refine lv_topi (fun v_38 e_38 => ?_)
          obtain rfl : v_38 = (nI (26 + j_1)) := (e_38).trans (nI_add 26 j_1)
          refine va_iald hx hb hK hP 1 0 rfl rfl (vp_in_nI (by omega) (by omega)) dX8_when_67 ?_
          refine lv_topi (fun v_39 e_39 => ?_)
          have e_39 : v_39 = w_21 (26 + j_1) := e_39.trans (congrArg w_21 (nI_clamp (by omega)))
          refine lv_iload_n hx hb dX8_when_68 rfl (lv_at hl 3 rfl) ?_
          refine lv_icmp_ne (tgt := 76) hx hb dX8_when_69 (by decide) (fun c_40 => ?_) (fun c_40 => ?_)
          · skip
            refine lv_iconst (v := 0) hx hb dX8_when_76 (by decide) ?_
            refine lv_istore (lv' := [(4, .int 0), (3, .int (nI ii)), (0, .ref mo), (1, .int (nI j_1)), (2, .int (nI j_5))]) hx hb dX8_when_77 hl (by decide) rfl (fun ls hl => ?_)
            refine lv_aload_n hx hb dX8_when_79 rfl (lv_at hl 2 rfl) ?_
            have hc_41 := cutW (wc := [(xo_8_rrriirrriiiiiiirrirrrrri mo m_la m_sz m_it ms mt m_st m_mv m_tp (nI mz) ml (nI mp) mk mv mb mw m_rd m_ac (nI ma) m_as m_wo m_ik m_ke m_tr (nI mx)), (xI m_st cI 38 w_21), (xI m_as cI 38 fan_8)]) hP hD hS hA [0, 1, 2] (by decide +kernel) rfl
            refine va_callv (va_runV (As := []) (rest := []) ⟨hx, hb, hml, hown, hts⟩ (r_X8_takeBack l dC dI cI cZ cL cJ H.size mo m_la m_sz m_it m_st m_mv m_tp m_rd m_ac m_as m_wo m_ik m_ke m_tr ms mt ml mk mv mb mw mz mp ma mx w_21 fan_8 ) (cwV 0 hts gX8_when_X8_takeBack rfl rfl rfl (by decide +kernel) ⟨Nat.le_of_ble_eq_true rfl, Nat.le_of_ble_eq_true rfl⟩) (pvW 8 0 hK hP rfl rfl hc_41) rfl rfl hl.1 rfl (lv_room (Nat.le_of_ble_eq_true rfl)) dX8_when_80 ⟨Nat.le_of_ble_eq_true rfl, Nat.le_of_ble_eq_true rfl⟩) hS (fun q _ h => hc_41.2.2 q h) hc_41.2.2 (fun u_41 t_41 H1 locs ht hvm h_41 hB hz1 hk1 hS => ?_)
            refine xl_1_3 hB (fun fsn_41 hP1 hD1 hF_41_0 => ?_)
            clear hB
            rw [ht] at hP1
            obtain ⟨hP, hD⟩ := va_join (wr := []) (w1 := [(xo_8_rrriirrriiiiiiirrirrrrri mo m_la m_sz m_it ms mt m_st m_mv m_tp (nI mz) ml (nI mp) mk mv mb mw m_rd m_ac (nI ma) m_as m_wo m_ik m_ke m_tr (nI mx)), (xI m_st cI 38 fsn_41), (xI m_as cI 38 fan_8)]) hP hD [0, 1, 2] [] rfl rfl (by decide +kernel) (by decide +kernel) hk1 hc_41.2.2 hP1 hD1
            generalize H1 = H at hP hS ⊢
            have hP : va_P (dC, dI) vwCl [(xo_8_rrriirrriiiiiiirrirrrrri mo m_la m_sz m_it ms mt m_st m_mv m_tp (nI mz) ml (nI mp) mk mv mb mw m_rd m_ac (nI ma) m_as m_wo m_ik m_ke m_tr (nI mx)), (xI m_st cI 38 fsn_41), (xI m_as cI 38 fan_8)] H := hP
            have hD := dto hP hD
            have hT_41 := okM_eq hA_8 hF_41_0
            refine lv_iload hx hb dX8_when_83 (lv_at hl 0 rfl) ?_
            refine lv_if_eq (tgt := 92) hx hb dX8_when_85 (by decide) (fun _ => ?_) (fun c_ => absurd (by decide) c_)
            refine lv_ldc (own := RX8) (v := (-1000000)) hx hb hown (hts _ mx_X8_when_4) dX8_when_92 ?_
            have hX9 := cut2 (wc := [(xo_8_rrriirrriiiiiiirrirrrrri mo m_la m_sz m_it ms mt m_st m_mv m_tp (nI mz) ml (nI mp) mk mv mb mw m_rd m_ac (nI ma) m_as m_wo m_ik m_ke m_tr (nI mx)), (xI m_st cI 38 fsn_41), (xI m_as cI 38 fan_8)]) hP hD [0, 1, 2] (by decide +kernel) rfl
            exact W.iret (v := (-1000000)) hx hb hr (fun t ht hW => ⟨⟨(-1000000), (), rfl, (lf_X8_when_3 hM hT h999 hT0 hj_1 hkn1 hw1 h01 f_5_1_0 q_5 hj_5 hF_8_0 hii haf_0 haf_1 hMl e_36 c_37 e_39 c_40 hF_41_0), ⟨fsn_41, fan_8, va_Ht ht hX9.1, hX9.2, hT_41, ((m38_eq hF_41_0).trans ((m38_eq hF_8_0).trans rfl))⟩⟩, hS.F ht⟩) hS.2.2 dX8_when_94
          · skip
            refine lv_iconst (v := 1) hx hb dX8_when_72 (by decide) ?_
            refine lv_goto (tgt := 77) hx hb dX8_when_73 (by decide) ?_
            refine lv_istore (lv' := [(4, .int 1), (3, .int (nI ii)), (0, .ref mo), (1, .int (nI j_1)), (2, .int (nI j_5))]) hx hb dX8_when_77 hl (by decide) rfl (fun ls hl => ?_)
            refine lv_aload_n hx hb dX8_when_79 rfl (lv_at hl 2 rfl) ?_
            have hc_43 := cutW (wc := [(xo_8_rrriirrriiiiiiirrirrrrri mo m_la m_sz m_it ms mt m_st m_mv m_tp (nI mz) ml (nI mp) mk mv mb mw m_rd m_ac (nI ma) m_as m_wo m_ik m_ke m_tr (nI mx)), (xI m_st cI 38 w_21), (xI m_as cI 38 fan_8)]) hP hD hS hA [0, 1, 2] (by decide +kernel) rfl
            refine va_callv (va_runV (As := []) (rest := []) ⟨hx, hb, hml, hown, hts⟩ (r_X8_takeBack l dC dI cI cZ cL cJ H.size mo m_la m_sz m_it m_st m_mv m_tp m_rd m_ac m_as m_wo m_ik m_ke m_tr ms mt ml mk mv mb mw mz mp ma mx w_21 fan_8 ) (cwV 0 hts gX8_when_X8_takeBack rfl rfl rfl (by decide +kernel) ⟨Nat.le_of_ble_eq_true rfl, Nat.le_of_ble_eq_true rfl⟩) (pvW 8 0 hK hP rfl rfl hc_43) rfl rfl hl.1 rfl (lv_room (Nat.le_of_ble_eq_true rfl)) dX8_when_80 ⟨Nat.le_of_ble_eq_true rfl, Nat.le_of_ble_eq_true rfl⟩) hS (fun q _ h => hc_43.2.2 q h) hc_43.2.2 (fun u_43 t_43 H1 locs ht hvm h_43 hB hz1 hk1 hS => ?_)
            refine xl_1_3 hB (fun fsn_43 hP1 hD1 hF_43_0 => ?_)
            clear hB
            rw [ht] at hP1
            obtain ⟨hP, hD⟩ := va_join (wr := []) (w1 := [(xo_8_rrriirrriiiiiiirrirrrrri mo m_la m_sz m_it ms mt m_st m_mv m_tp (nI mz) ml (nI mp) mk mv mb mw m_rd m_ac (nI ma) m_as m_wo m_ik m_ke m_tr (nI mx)), (xI m_st cI 38 fsn_43), (xI m_as cI 38 fan_8)]) hP hD [0, 1, 2] [] rfl rfl (by decide +kernel) (by decide +kernel) hk1 hc_43.2.2 hP1 hD1
            generalize H1 = H at hP hS ⊢
            have hP : va_P (dC, dI) vwCl [(xo_8_rrriirrriiiiiiirrirrrrri mo m_la m_sz m_it ms mt m_st m_mv m_tp (nI mz) ml (nI mp) mk mv mb mw m_rd m_ac (nI ma) m_as m_wo m_ik m_ke m_tr (nI mx)), (xI m_st cI 38 fsn_43), (xI m_as cI 38 fan_8)] H := hP
            have hD := dto hP hD
            have hT_43 := okM_eq hA_8 hF_43_0
            refine lv_iload hx hb dX8_when_83 (lv_at hl 0 rfl) ?_
            refine lv_if_eq (tgt := 92) hx hb dX8_when_85 (by decide) (fun c_ => absurd c_ (by decide)) (fun _ => ?_)
            refine lv_iload_n hx hb dX8_when_88 rfl (lv_at hl 1 rfl) ?_
            refine lv_goto (tgt := 94) hx hb dX8_when_89 (by decide) ?_
            have hX9 := cut2 (wc := [(xo_8_rrriirrriiiiiiirrirrrrri mo m_la m_sz m_it ms mt m_st m_mv m_tp (nI mz) ml (nI mp) mk mv mb mw m_rd m_ac (nI ma) m_as m_wo m_ik m_ke m_tr (nI mx)), (xI m_st cI 38 fsn_43), (xI m_as cI 38 fan_8)]) hP hD [0, 1, 2] (by decide +kernel) rfl
            exact W.iret (v := (nI ii)) hx hb hr (fun t ht hW => ⟨⟨(nI ii), (), rfl, (lf_X8_when_4 hM hT h999 hT0 hj_1 hkn1 hw1 h01 f_5_1_0 q_5 hj_5 hF_8_0 hii haf_0 haf_1 hMl e_36 c_37 e_39 c_40 hF_43_0), ⟨fsn_43, fan_8, va_Ht ht hX9.1, hX9.2, hT_43, ((m38_eq hF_43_0).trans ((m38_eq hF_8_0).trans rfl))⟩⟩, hS.F ht⟩) hS.2.2 dX8_when_94
        · skip
          refine lv_iload_n hx hb dX8_when_42 rfl (lv_at hl 0 rfl) ?_
          refine lv_bipush (v := 60) hx hb dX8_when_43 (by decide) ?_
          refine lv_icmp_ge (tgt := 59) hx hb dX8_when_45 (by decide) (fun c_ => absurd c_ (fun q_ => absurd ((nI_leI (a := 60) (b := ii) (by omega) (by omega)).mp q_) (by omega))) (fun _ => ?_)
          refine lv_aload_n hx hb dX8_when_48 rfl (lv_at hl 1 rfl) ?_
          have hc_46 := cutW (wc := [(xo_8_rrriirrriiiiiiirrirrrrri mo m_la m_sz m_it ms mt m_st m_mv m_tp (nI mz) ml (nI mp) mk mv mb mw m_rd m_ac (nI ma) m_as m_wo m_ik m_ke m_tr (nI mx)), (xI m_st cI 38 w_21)]) hP hD hS hA [0, 1] (by decide +kernel) rfl
          refine va_calli (va_runV (As := []) (rest := []) ⟨hx, hb, hml, hown, hts⟩ (r_X8_oneHour l dC dI cI cZ cL cJ H.size mo m_la m_sz m_it m_st m_mv m_tp m_rd m_ac m_as m_wo m_ik m_ke m_tr ms mt ml mk mv mb mw mz mp ma mx w_21 w9 k9 (h9 + ii) (hMl) (by omega) (by omega)) (cwV 0 hts gX8_when_X8_oneHour rfl rfl rfl (by decide +kernel) ⟨Nat.le_of_ble_eq_true rfl, Nat.le_of_ble_eq_true rfl⟩) (pvW 8 0 hK hP rfl rfl hc_46) rfl rfl hl.1 rfl (lv_room (Nat.le_of_ble_eq_true rfl)) dX8_when_49 ⟨Nat.le_of_ble_eq_true rfl, Nat.le_of_ble_eq_true rfl⟩) hS (fun q _ h => hc_46.2.2 q h) hc_46.2.2 (fun r_46 u_46 t_46 H1 locs ht hvm h_46 hB hz1 hk1 hS => ?_)
          refine xl_1_4 hB (fun fsn_46 hP1 hD1 hF_46_0 hF_46_1 => ?_)
          clear hB
          rw [ht] at hP1
          obtain ⟨hP, hD⟩ := va_join (wr := [(xI m_as cI 38 fan_8)]) (w1 := [(xo_8_rrriirrriiiiiiirrirrrrri mo m_la m_sz m_it ms mt m_st m_mv m_tp (nI mz) ml (nI mp) mk mv mb mw m_rd m_ac (nI ma) m_as m_wo m_ik m_ke m_tr (nI mx)), (xI m_st cI 38 fsn_46)]) hP hD [0, 1] [2] rfl rfl (by decide +kernel) (by decide +kernel) hk1 hc_46.2.2 hP1 hD1
          generalize H1 = H at hP hS ⊢
          have hP : va_P (dC, dI) vwCl [(xI m_as cI 38 fan_8), (xo_8_rrriirrriiiiiiirrirrrrri mo m_la m_sz m_it ms mt m_st m_mv m_tp (nI mz) ml (nI mp) mk mv mb mw m_rd m_ac (nI ma) m_as m_wo m_ik m_ke m_tr (nI mx)), (xI m_st cI 38 fsn_46)] H := hP
          have hD := dto hP hD
          refine lv_pop hx hb dX8_when_52 rfl ?_
          refine lv_iinc (v := (nI (ii + 1))) (lv' := [(3, .int (nI (ii + 1))), (0, .ref mo), (1, .int (nI j_1)), (2, .int (nI j_5))]) hx hb dX8_when_53 hl (k := 0) rfl (nI_add ii 1) (by decide) rfl (fun ls hl => ?_)
          refine lv_goto (tgt := 29) hx hb dX8_when_56 (by decide) ?_
          exact ih (fsn_46) _ _ _ ⟨lv_sub hl [0, 1, 2, 3] rfl, hP.sub (ws' := [(xo_8_rrriirrriiiiiiirrirrrrri mo m_la m_sz m_it ms mt m_st m_mv m_tp (nI mz) ml (nI mp) mk mv mb mw m_rd m_ac (nI ma) m_as m_wo m_ik m_ke m_tr (nI mx)), (xI m_st cI 38 fsn_46), (xI m_as cI 38 fan_8)]) [1, 2, 0] rfl, hD.sub (ws' := [(xo_8_rrriirrriiiiiiirrirrrrri mo m_la m_sz m_it ms mt m_st m_mv m_tp (nI mz) ml (nI mp) mk mv mb mw m_rd m_ac (nI ma) m_as m_wo m_ik m_ke m_tr (nI mx)), (xI m_st cI 38 fsn_46), (xI m_as cI 38 fan_8)]) [1, 2, 0] (by decide +kernel) rfl, hS, hF_46_0, (lf_X8_when_5 hM hT h999 hT0 hj_1 hkn1 hw1 h01 f_5_1_0 q_5 hj_5 hF_8_0 hii haf_0 haf_1 hMl e_36 c_37 hF_46_0 hF_46_1), (lf_X8_when_6 hM hT h999 hT0 hj_1 hkn1 hw1 h01 f_5_1_0 q_5 hj_5 hF_8_0 hii haf_0 haf_1 hMl e_36 c_37 hF_46_0 hF_46_1)⟩
      · rintro w_21 H locs ls ⟨hl, hP, hD, hS, hMl, haf_0, haf_1⟩
        refine lv_aload_n hx hb dX8_when_29 rfl (lv_at hl 1 rfl) ?_
        refine va_get (D := (dC, dI)) (ci := 8) (v := .ref m_st) (C := RX8) (T := TX8) (N := 24) hx hb hts i_X8_when_X8 hown hK hP 0 rfl rfl 5 (by decide) (hts _ mx_X8_when_3) (fun _ h9 => h9) rfl dX8_when_30 ?_
        refine lv_bipush (v := 26) hx hb dX8_when_33 (by decide) ?_
        refine lv_iload_n hx hb dX8_when_35 rfl (lv_at hl 2 rfl) ?_
        refine lv_iadd hx hb dX8_when_36 ?_
        refine lv_topi (fun v_47 e_47 => ?_)
        obtain rfl : v_47 = (nI (26 + j_1)) := (e_47).trans (nI_add 26 j_1)
        refine va_iald hx hb hK hP 1 0 rfl rfl (vp_in_nI (by omega) (by omega)) dX8_when_37 ?_
        refine lv_topi (fun v_48 e_48 => ?_)
        have e_48 : v_48 = w_21 (26 + j_1) := e_48.trans (congrArg w_21 (nI_clamp (by omega)))
        refine lv_iload_n hx hb dX8_when_38 rfl (lv_at hl 3 rfl) ?_
        refine lv_icmp_eq (tgt := 59) hx hb dX8_when_39 (by decide) (fun c_49 => ?_) (fun c_49 => ?_)
        · skip
          refine lv_aload_n hx hb dX8_when_59 rfl (lv_at hl 1 rfl) ?_
          refine va_get (D := (dC, dI)) (ci := 8) (v := .ref m_st) (C := RX8) (T := TX8) (N := 24) hx hb hts i_X8_when_X8 hown hK hP 0 rfl rfl 5 (by decide) (hts _ mx_X8_when_3) (fun _ h9 => h9) rfl dX8_when_60 ?_
          refine lv_bipush (v := 26) hx hb dX8_when_63 (by decide) ?_
          refine lv_iload_n hx hb dX8_when_65 rfl (lv_at hl 2 rfl) ?_
          refine lv_iadd hx hb dX8_when_66 ?_
          refine lv_topi (fun v_50 e_50 => ?_)
          obtain rfl : v_50 = (nI (26 + j_1)) := (e_50).trans (nI_add 26 j_1)
          refine va_iald hx hb hK hP 1 0 rfl rfl (vp_in_nI (by omega) (by omega)) dX8_when_67 ?_
          refine lv_topi (fun v_51 e_51 => ?_)
          have e_51 : v_51 = w_21 (26 + j_1) := e_51.trans (congrArg w_21 (nI_clamp (by omega)))
          refine lv_iload_n hx hb dX8_when_68 rfl (lv_at hl 3 rfl) ?_
          refine lv_icmp_ne (tgt := 76) hx hb dX8_when_69 (by decide) (fun c_52 => ?_) (fun c_52 => ?_)
          · skip
            refine lv_iconst (v := 0) hx hb dX8_when_76 (by decide) ?_
            refine lv_istore (lv' := [(4, .int 0), (3, .int (nI 60)), (0, .ref mo), (1, .int (nI j_1)), (2, .int (nI j_5))]) hx hb dX8_when_77 hl (by decide) rfl (fun ls hl => ?_)
            refine lv_aload_n hx hb dX8_when_79 rfl (lv_at hl 2 rfl) ?_
            have hc_53 := cutW (wc := [(xo_8_rrriirrriiiiiiirrirrrrri mo m_la m_sz m_it ms mt m_st m_mv m_tp (nI mz) ml (nI mp) mk mv mb mw m_rd m_ac (nI ma) m_as m_wo m_ik m_ke m_tr (nI mx)), (xI m_st cI 38 w_21), (xI m_as cI 38 fan_8)]) hP hD hS hA [0, 1, 2] (by decide +kernel) rfl
            refine va_callv (va_runV (As := []) (rest := []) ⟨hx, hb, hml, hown, hts⟩ (r_X8_takeBack l dC dI cI cZ cL cJ H.size mo m_la m_sz m_it m_st m_mv m_tp m_rd m_ac m_as m_wo m_ik m_ke m_tr ms mt ml mk mv mb mw mz mp ma mx w_21 fan_8 ) (cwV 0 hts gX8_when_X8_takeBack rfl rfl rfl (by decide +kernel) ⟨Nat.le_of_ble_eq_true rfl, Nat.le_of_ble_eq_true rfl⟩) (pvW 8 0 hK hP rfl rfl hc_53) rfl rfl hl.1 rfl (lv_room (Nat.le_of_ble_eq_true rfl)) dX8_when_80 ⟨Nat.le_of_ble_eq_true rfl, Nat.le_of_ble_eq_true rfl⟩) hS (fun q _ h => hc_53.2.2 q h) hc_53.2.2 (fun u_53 t_53 H1 locs ht hvm h_53 hB hz1 hk1 hS => ?_)
            refine xl_1_3 hB (fun fsn_53 hP1 hD1 hF_53_0 => ?_)
            clear hB
            rw [ht] at hP1
            obtain ⟨hP, hD⟩ := va_join (wr := []) (w1 := [(xo_8_rrriirrriiiiiiirrirrrrri mo m_la m_sz m_it ms mt m_st m_mv m_tp (nI mz) ml (nI mp) mk mv mb mw m_rd m_ac (nI ma) m_as m_wo m_ik m_ke m_tr (nI mx)), (xI m_st cI 38 fsn_53), (xI m_as cI 38 fan_8)]) hP hD [0, 1, 2] [] rfl rfl (by decide +kernel) (by decide +kernel) hk1 hc_53.2.2 hP1 hD1
            generalize H1 = H at hP hS ⊢
            have hP : va_P (dC, dI) vwCl [(xo_8_rrriirrriiiiiiirrirrrrri mo m_la m_sz m_it ms mt m_st m_mv m_tp (nI mz) ml (nI mp) mk mv mb mw m_rd m_ac (nI ma) m_as m_wo m_ik m_ke m_tr (nI mx)), (xI m_st cI 38 fsn_53), (xI m_as cI 38 fan_8)] H := hP
            have hD := dto hP hD
            have hT_53 := okM_eq hA_8 hF_53_0
            refine lv_iload hx hb dX8_when_83 (lv_at hl 0 rfl) ?_
            refine lv_if_eq (tgt := 92) hx hb dX8_when_85 (by decide) (fun _ => ?_) (fun c_ => absurd (by decide) c_)
            refine lv_ldc (own := RX8) (v := (-1000000)) hx hb hown (hts _ mx_X8_when_4) dX8_when_92 ?_
            have hX9 := cut2 (wc := [(xo_8_rrriirrriiiiiiirrirrrrri mo m_la m_sz m_it ms mt m_st m_mv m_tp (nI mz) ml (nI mp) mk mv mb mw m_rd m_ac (nI ma) m_as m_wo m_ik m_ke m_tr (nI mx)), (xI m_st cI 38 fsn_53), (xI m_as cI 38 fan_8)]) hP hD [0, 1, 2] (by decide +kernel) rfl
            exact W.iret (v := (-1000000)) hx hb hr (fun t ht hW => ⟨⟨(-1000000), (), rfl, (lf_X8_when_7 hM hT h999 hT0 hj_1 hkn1 hw1 h01 f_5_1_0 q_5 hj_5 hF_8_0 haf_0 haf_1 hMl e_48 c_49 e_51 c_52 hF_53_0), ⟨fsn_53, fan_8, va_Ht ht hX9.1, hX9.2, hT_53, ((m38_eq hF_53_0).trans ((m38_eq hF_8_0).trans rfl))⟩⟩, hS.F ht⟩) hS.2.2 dX8_when_94
          · skip
            refine lv_iconst (v := 1) hx hb dX8_when_72 (by decide) ?_
            refine lv_goto (tgt := 77) hx hb dX8_when_73 (by decide) ?_
            refine lv_istore (lv' := [(4, .int 1), (3, .int (nI 60)), (0, .ref mo), (1, .int (nI j_1)), (2, .int (nI j_5))]) hx hb dX8_when_77 hl (by decide) rfl (fun ls hl => ?_)
            refine lv_aload_n hx hb dX8_when_79 rfl (lv_at hl 2 rfl) ?_
            have hc_55 := cutW (wc := [(xo_8_rrriirrriiiiiiirrirrrrri mo m_la m_sz m_it ms mt m_st m_mv m_tp (nI mz) ml (nI mp) mk mv mb mw m_rd m_ac (nI ma) m_as m_wo m_ik m_ke m_tr (nI mx)), (xI m_st cI 38 w_21), (xI m_as cI 38 fan_8)]) hP hD hS hA [0, 1, 2] (by decide +kernel) rfl
            refine va_callv (va_runV (As := []) (rest := []) ⟨hx, hb, hml, hown, hts⟩ (r_X8_takeBack l dC dI cI cZ cL cJ H.size mo m_la m_sz m_it m_st m_mv m_tp m_rd m_ac m_as m_wo m_ik m_ke m_tr ms mt ml mk mv mb mw mz mp ma mx w_21 fan_8 ) (cwV 0 hts gX8_when_X8_takeBack rfl rfl rfl (by decide +kernel) ⟨Nat.le_of_ble_eq_true rfl, Nat.le_of_ble_eq_true rfl⟩) (pvW 8 0 hK hP rfl rfl hc_55) rfl rfl hl.1 rfl (lv_room (Nat.le_of_ble_eq_true rfl)) dX8_when_80 ⟨Nat.le_of_ble_eq_true rfl, Nat.le_of_ble_eq_true rfl⟩) hS (fun q _ h => hc_55.2.2 q h) hc_55.2.2 (fun u_55 t_55 H1 locs ht hvm h_55 hB hz1 hk1 hS => ?_)
            refine xl_1_3 hB (fun fsn_55 hP1 hD1 hF_55_0 => ?_)
            clear hB
            rw [ht] at hP1
            obtain ⟨hP, hD⟩ := va_join (wr := []) (w1 := [(xo_8_rrriirrriiiiiiirrirrrrri mo m_la m_sz m_it ms mt m_st m_mv m_tp (nI mz) ml (nI mp) mk mv mb mw m_rd m_ac (nI ma) m_as m_wo m_ik m_ke m_tr (nI mx)), (xI m_st cI 38 fsn_55), (xI m_as cI 38 fan_8)]) hP hD [0, 1, 2] [] rfl rfl (by decide +kernel) (by decide +kernel) hk1 hc_55.2.2 hP1 hD1
            generalize H1 = H at hP hS ⊢
            have hP : va_P (dC, dI) vwCl [(xo_8_rrriirrriiiiiiirrirrrrri mo m_la m_sz m_it ms mt m_st m_mv m_tp (nI mz) ml (nI mp) mk mv mb mw m_rd m_ac (nI ma) m_as m_wo m_ik m_ke m_tr (nI mx)), (xI m_st cI 38 fsn_55), (xI m_as cI 38 fan_8)] H := hP
            have hD := dto hP hD
            have hT_55 := okM_eq hA_8 hF_55_0
            refine lv_iload hx hb dX8_when_83 (lv_at hl 0 rfl) ?_
            refine lv_if_eq (tgt := 92) hx hb dX8_when_85 (by decide) (fun c_ => absurd c_ (by decide)) (fun _ => ?_)
            refine lv_iload_n hx hb dX8_when_88 rfl (lv_at hl 1 rfl) ?_
            refine lv_goto (tgt := 94) hx hb dX8_when_89 (by decide) ?_
            have hX9 := cut2 (wc := [(xo_8_rrriirrriiiiiiirrirrrrri mo m_la m_sz m_it ms mt m_st m_mv m_tp (nI mz) ml (nI mp) mk mv mb mw m_rd m_ac (nI ma) m_as m_wo m_ik m_ke m_tr (nI mx)), (xI m_st cI 38 fsn_55), (xI m_as cI 38 fan_8)]) hP hD [0, 1, 2] (by decide +kernel) rfl
            exact W.iret (v := (nI 60)) hx hb hr (fun t ht hW => ⟨⟨(nI 60), (), rfl, (lf_X8_when_8 hM hT h999 hT0 hj_1 hkn1 hw1 h01 f_5_1_0 q_5 hj_5 hF_8_0 haf_0 haf_1 hMl e_48 c_49 e_51 c_52 hF_55_0), ⟨fsn_55, fan_8, va_Ht ht hX9.1, hX9.2, hT_55, ((m38_eq hF_55_0).trans ((m38_eq hF_8_0).trans rfl))⟩⟩, hS.F ht⟩) hS.2.2 dX8_when_94
        · skip
          refine lv_iload_n hx hb dX8_when_42 rfl (lv_at hl 0 rfl) ?_
          refine lv_bipush (v := 60) hx hb dX8_when_43 (by decide) ?_
          refine lv_icmp_ge (tgt := 59) hx hb dX8_when_45 (by decide) (fun _ => ?_) (fun c_ => absurd ((nI_leI (a := 60) (b := 60) (by omega) (by omega)).mpr (by omega)) c_)
          refine lv_aload_n hx hb dX8_when_59 rfl (lv_at hl 1 rfl) ?_
          refine va_get (D := (dC, dI)) (ci := 8) (v := .ref m_st) (C := RX8) (T := TX8) (N := 24) hx hb hts i_X8_when_X8 hown hK hP 0 rfl rfl 5 (by decide) (hts _ mx_X8_when_3) (fun _ h9 => h9) rfl dX8_when_60 ?_
          refine lv_bipush (v := 26) hx hb dX8_when_63 (by decide) ?_
          refine lv_iload_n hx hb dX8_when_65 rfl (lv_at hl 2 rfl) ?_
          refine lv_iadd hx hb dX8_when_66 ?_
          refine lv_topi (fun v_58 e_58 => ?_)
          obtain rfl : v_58 = (nI (26 + j_1)) := (e_58).trans (nI_add 26 j_1)
          refine va_iald hx hb hK hP 1 0 rfl rfl (vp_in_nI (by omega) (by omega)) dX8_when_67 ?_
          refine lv_topi (fun v_59 e_59 => ?_)
          have e_59 : v_59 = w_21 (26 + j_1) := e_59.trans (congrArg w_21 (nI_clamp (by omega)))
          refine lv_iload_n hx hb dX8_when_68 rfl (lv_at hl 3 rfl) ?_
          refine lv_icmp_ne (tgt := 76) hx hb dX8_when_69 (by decide) (fun c_60 => ?_) (fun c_60 => ?_)
          · skip
            refine lv_iconst (v := 0) hx hb dX8_when_76 (by decide) ?_
            refine lv_istore (lv' := [(4, .int 0), (3, .int (nI 60)), (0, .ref mo), (1, .int (nI j_1)), (2, .int (nI j_5))]) hx hb dX8_when_77 hl (by decide) rfl (fun ls hl => ?_)
            refine lv_aload_n hx hb dX8_when_79 rfl (lv_at hl 2 rfl) ?_
            have hc_61 := cutW (wc := [(xo_8_rrriirrriiiiiiirrirrrrri mo m_la m_sz m_it ms mt m_st m_mv m_tp (nI mz) ml (nI mp) mk mv mb mw m_rd m_ac (nI ma) m_as m_wo m_ik m_ke m_tr (nI mx)), (xI m_st cI 38 w_21), (xI m_as cI 38 fan_8)]) hP hD hS hA [0, 1, 2] (by decide +kernel) rfl
            refine va_callv (va_runV (As := []) (rest := []) ⟨hx, hb, hml, hown, hts⟩ (r_X8_takeBack l dC dI cI cZ cL cJ H.size mo m_la m_sz m_it m_st m_mv m_tp m_rd m_ac m_as m_wo m_ik m_ke m_tr ms mt ml mk mv mb mw mz mp ma mx w_21 fan_8 ) (cwV 0 hts gX8_when_X8_takeBack rfl rfl rfl (by decide +kernel) ⟨Nat.le_of_ble_eq_true rfl, Nat.le_of_ble_eq_true rfl⟩) (pvW 8 0 hK hP rfl rfl hc_61) rfl rfl hl.1 rfl (lv_room (Nat.le_of_ble_eq_true rfl)) dX8_when_80 ⟨Nat.le_of_ble_eq_true rfl, Nat.le_of_ble_eq_true rfl⟩) hS (fun q _ h => hc_61.2.2 q h) hc_61.2.2 (fun u_61 t_61 H1 locs ht hvm h_61 hB hz1 hk1 hS => ?_)
            refine xl_1_3 hB (fun fsn_61 hP1 hD1 hF_61_0 => ?_)
            clear hB
            rw [ht] at hP1
            obtain ⟨hP, hD⟩ := va_join (wr := []) (w1 := [(xo_8_rrriirrriiiiiiirrirrrrri mo m_la m_sz m_it ms mt m_st m_mv m_tp (nI mz) ml (nI mp) mk mv mb mw m_rd m_ac (nI ma) m_as m_wo m_ik m_ke m_tr (nI mx)), (xI m_st cI 38 fsn_61), (xI m_as cI 38 fan_8)]) hP hD [0, 1, 2] [] rfl rfl (by decide +kernel) (by decide +kernel) hk1 hc_61.2.2 hP1 hD1
            generalize H1 = H at hP hS ⊢
            have hP : va_P (dC, dI) vwCl [(xo_8_rrriirrriiiiiiirrirrrrri mo m_la m_sz m_it ms mt m_st m_mv m_tp (nI mz) ml (nI mp) mk mv mb mw m_rd m_ac (nI ma) m_as m_wo m_ik m_ke m_tr (nI mx)), (xI m_st cI 38 fsn_61), (xI m_as cI 38 fan_8)] H := hP
            have hD := dto hP hD
            have hT_61 := okM_eq hA_8 hF_61_0
            refine lv_iload hx hb dX8_when_83 (lv_at hl 0 rfl) ?_
            refine lv_if_eq (tgt := 92) hx hb dX8_when_85 (by decide) (fun _ => ?_) (fun c_ => absurd (by decide) c_)
            refine lv_ldc (own := RX8) (v := (-1000000)) hx hb hown (hts _ mx_X8_when_4) dX8_when_92 ?_
            have hX9 := cut2 (wc := [(xo_8_rrriirrriiiiiiirrirrrrri mo m_la m_sz m_it ms mt m_st m_mv m_tp (nI mz) ml (nI mp) mk mv mb mw m_rd m_ac (nI ma) m_as m_wo m_ik m_ke m_tr (nI mx)), (xI m_st cI 38 fsn_61), (xI m_as cI 38 fan_8)]) hP hD [0, 1, 2] (by decide +kernel) rfl
            exact W.iret (v := (-1000000)) hx hb hr (fun t ht hW => ⟨⟨(-1000000), (), rfl, (lf_X8_when_9 hM hT h999 hT0 hj_1 hkn1 hw1 h01 f_5_1_0 q_5 hj_5 hF_8_0 haf_0 haf_1 hMl e_48 c_49 e_59 c_60 hF_61_0), ⟨fsn_61, fan_8, va_Ht ht hX9.1, hX9.2, hT_61, ((m38_eq hF_61_0).trans ((m38_eq hF_8_0).trans rfl))⟩⟩, hS.F ht⟩) hS.2.2 dX8_when_94
          · skip
            refine lv_iconst (v := 1) hx hb dX8_when_72 (by decide) ?_
            refine lv_goto (tgt := 77) hx hb dX8_when_73 (by decide) ?_
            refine lv_istore (lv' := [(4, .int 1), (3, .int (nI 60)), (0, .ref mo), (1, .int (nI j_1)), (2, .int (nI j_5))]) hx hb dX8_when_77 hl (by decide) rfl (fun ls hl => ?_)
            refine lv_aload_n hx hb dX8_when_79 rfl (lv_at hl 2 rfl) ?_
            have hc_63 := cutW (wc := [(xo_8_rrriirrriiiiiiirrirrrrri mo m_la m_sz m_it ms mt m_st m_mv m_tp (nI mz) ml (nI mp) mk mv mb mw m_rd m_ac (nI ma) m_as m_wo m_ik m_ke m_tr (nI mx)), (xI m_st cI 38 w_21), (xI m_as cI 38 fan_8)]) hP hD hS hA [0, 1, 2] (by decide +kernel) rfl
            refine va_callv (va_runV (As := []) (rest := []) ⟨hx, hb, hml, hown, hts⟩ (r_X8_takeBack l dC dI cI cZ cL cJ H.size mo m_la m_sz m_it m_st m_mv m_tp m_rd m_ac m_as m_wo m_ik m_ke m_tr ms mt ml mk mv mb mw mz mp ma mx w_21 fan_8 ) (cwV 0 hts gX8_when_X8_takeBack rfl rfl rfl (by decide +kernel) ⟨Nat.le_of_ble_eq_true rfl, Nat.le_of_ble_eq_true rfl⟩) (pvW 8 0 hK hP rfl rfl hc_63) rfl rfl hl.1 rfl (lv_room (Nat.le_of_ble_eq_true rfl)) dX8_when_80 ⟨Nat.le_of_ble_eq_true rfl, Nat.le_of_ble_eq_true rfl⟩) hS (fun q _ h => hc_63.2.2 q h) hc_63.2.2 (fun u_63 t_63 H1 locs ht hvm h_63 hB hz1 hk1 hS => ?_)
            refine xl_1_3 hB (fun fsn_63 hP1 hD1 hF_63_0 => ?_)
            clear hB
            rw [ht] at hP1
            obtain ⟨hP, hD⟩ := va_join (wr := []) (w1 := [(xo_8_rrriirrriiiiiiirrirrrrri mo m_la m_sz m_it ms mt m_st m_mv m_tp (nI mz) ml (nI mp) mk mv mb mw m_rd m_ac (nI ma) m_as m_wo m_ik m_ke m_tr (nI mx)), (xI m_st cI 38 fsn_63), (xI m_as cI 38 fan_8)]) hP hD [0, 1, 2] [] rfl rfl (by decide +kernel) (by decide +kernel) hk1 hc_63.2.2 hP1 hD1
            generalize H1 = H at hP hS ⊢
            have hP : va_P (dC, dI) vwCl [(xo_8_rrriirrriiiiiiirrirrrrri mo m_la m_sz m_it ms mt m_st m_mv m_tp (nI mz) ml (nI mp) mk mv mb mw m_rd m_ac (nI ma) m_as m_wo m_ik m_ke m_tr (nI mx)), (xI m_st cI 38 fsn_63), (xI m_as cI 38 fan_8)] H := hP
            have hD := dto hP hD
            have hT_63 := okM_eq hA_8 hF_63_0
            refine lv_iload hx hb dX8_when_83 (lv_at hl 0 rfl) ?_
            refine lv_if_eq (tgt := 92) hx hb dX8_when_85 (by decide) (fun c_ => absurd c_ (by decide)) (fun _ => ?_)
            refine lv_iload_n hx hb dX8_when_88 rfl (lv_at hl 1 rfl) ?_
            refine lv_goto (tgt := 94) hx hb dX8_when_89 (by decide) ?_
            have hX9 := cut2 (wc := [(xo_8_rrriirrriiiiiiirrirrrrri mo m_la m_sz m_it ms mt m_st m_mv m_tp (nI mz) ml (nI mp) mk mv mb mw m_rd m_ac (nI ma) m_as m_wo m_ik m_ke m_tr (nI mx)), (xI m_st cI 38 fsn_63), (xI m_as cI 38 fan_8)]) hP hD [0, 1, 2] (by decide +kernel) rfl
            exact W.iret (v := (nI 60)) hx hb hr (fun t ht hW => ⟨⟨(nI 60), (), rfl, (lf_X8_when_10 hM hT h999 hT0 hj_1 hkn1 hw1 h01 f_5_1_0 q_5 hj_5 hF_8_0 haf_0 haf_1 hMl e_48 c_49 e_59 c_60 hF_63_0), ⟨fsn_63, fan_8, va_Ht ht hX9.1, hX9.2, hT_63, ((m38_eq hF_63_0).trans ((m38_eq hF_8_0).trans rfl))⟩⟩, hS.F ht⟩) hS.2.2 dX8_when_94
theorem lf_X8_sound_1 {mt : Int32} {ma : Nat} {fs : Nat → Int32} {w9 : Nat} {k9 : Nat} {h9 : Nat} {a0 : Int32} {a1 : Int32} (hM : okM fs w9 k9 h9) (hT : ¬ mt = 0 → 1 ≤ k9) (h999 : h9 ≤ 999) (hT0 : mt = 0 → fs 0 = 0 ∧ ma = 0) (f_1_0_0 : ¬ sB (nI k9) a0) : (-1000001) = (a_sound (m38 fs) a0 a1) := by
  have g0 := @guS_M fs w9 k9 h9 hM
  have g1 := @th_M fs w9 k9 h9 hM
  have g2 := hM.1
  have g3 := hM.2.1
  have g4 := hM.2.2.1
  have g5 := hM.2.2.2.1
  have g6 := hM.2.2.2.2.1
  simp only [a_sound, mm0, mm1, mm2, mm3, mm4, mm5, mm6, mm7] at *
  grind [nI_clamp, m38_at, sB_ok]
theorem lf_X8_sound_2 {mt : Int32} {ma : Nat} {fs : Nat → Int32} {w9 : Nat} {k9 : Nat} {h9 : Nat} {j_1 : Nat} {v_7 : Int32} (hM : okM fs w9 k9 h9) (hT : ¬ mt = 0 → 1 ≤ k9) (h999 : h9 ≤ 999) (hT0 : mt = 0 → fs 0 = 0 ∧ ma = 0) (hj_1 : j_1 < k9) (hkn1 : 1 ≤ k9) (hw1 : 1 ≤ w9) (h01 : ¬ fs 0 = 0) (e_7 : v_7 = fs (26 + j_1)) (c_8 : ¬ (v_7 = 0)) : (-1000000) = (a_sound (m38 fs) (nI j_1) (0 : Int32)) := by
  have g0 := @guS_M fs w9 k9 h9 hM
  have g1 := @th_M fs w9 k9 h9 hM
  have g2 := hM.1
  have g3 := hM.2.1
  have g4 := hM.2.2.1
  have g5 := hM.2.2.2.1
  have g6 := hM.2.2.2.2.1
  simp only [a_sound, mm0, mm1, mm2, mm3, mm4, mm5, mm6, mm7] at *
  grind [nI_clamp, m38_at, sB_ok]
theorem lf_X8_sound_3 {mt : Int32} {ma : Nat} {fs : Nat → Int32} {w9 : Nat} {k9 : Nat} {h9 : Nat} {j_1 : Nat} {v_7 : Int32} {v_10 : Int32} (hM : okM fs w9 k9 h9) (hT : ¬ mt = 0 → 1 ≤ k9) (h999 : h9 ≤ 999) (hT0 : mt = 0 → fs 0 = 0 ∧ ma = 0) (hj_1 : j_1 < k9) (hkn1 : 1 ≤ k9) (hw1 : 1 ≤ w9) (h01 : ¬ fs 0 = 0) (e_7 : v_7 = fs (26 + j_1)) (c_8 : v_7 = 0) (e_10 : v_10 = fs (20 + j_1)) : v_10 = (a_sound (m38 fs) (nI j_1) (0 : Int32)) := by
  have g0 := @guS_M fs w9 k9 h9 hM
  have g1 := @th_M fs w9 k9 h9 hM
  have g2 := hM.1
  have g3 := hM.2.1
  have g4 := hM.2.2.1
  have g5 := hM.2.2.2.1
  have g6 := hM.2.2.2.2.1
  simp only [a_sound, mm0, mm1, mm2, mm3, mm4, mm5, mm6, mm7] at *
  grind [nI_clamp, m38_at, sB_ok]
theorem lf_X8_sound_4 {mt : Int32} {ma : Nat} {fs : Nat → Int32} {w9 : Nat} {k9 : Nat} {h9 : Nat} {j_1 : Nat} {v_13 : Int32} (hM : okM fs w9 k9 h9) (hT : ¬ mt = 0 → 1 ≤ k9) (h999 : h9 ≤ 999) (hT0 : mt = 0 → fs 0 = 0 ∧ ma = 0) (hj_1 : j_1 < k9) (hkn1 : 1 ≤ k9) (hw1 : 1 ≤ w9) (h01 : ¬ fs 0 = 0) (k_5 : ¬ (1 : Int32) = 0) (e_13 : v_13 = fs (26 + j_1)) : v_13 = (a_sound (m38 fs) (nI j_1) (1 : Int32)) := by
  have g0 := @guS_M fs w9 k9 h9 hM
  have g1 := @th_M fs w9 k9 h9 hM
  have g2 := hM.1
  have g3 := hM.2.1
  have g4 := hM.2.2.1
  have g5 := hM.2.2.2.1
  have g6 := hM.2.2.2.2.1
  simp only [a_sound, mm0, mm1, mm2, mm3, mm4, mm5, mm6, mm7] at *
  grind [nI_clamp, m38_at, sB_ok]
theorem lf_X8_sound_5 {mt : Int32} {ma : Nat} {fs : Nat → Int32} {w9 : Nat} {k9 : Nat} {h9 : Nat} {j_1 : Nat} {v_16 : Int32} (hM : okM fs w9 k9 h9) (hT : ¬ mt = 0 → 1 ≤ k9) (h999 : h9 ≤ 999) (hT0 : mt = 0 → fs 0 = 0 ∧ ma = 0) (hj_1 : j_1 < k9) (hkn1 : 1 ≤ k9) (hw1 : 1 ≤ w9) (h01 : ¬ fs 0 = 0) (k_5 : ¬ (2 : Int32) = 0) (k_11 : ¬ (2 : Int32) = 1) (e_16 : v_16 = fs (32 + j_1)) : v_16 = (a_sound (m38 fs) (nI j_1) (2 : Int32)) := by
  have g0 := @guS_M fs w9 k9 h9 hM
  have g1 := @th_M fs w9 k9 h9 hM
  have g2 := hM.1
  have g3 := hM.2.1
  have g4 := hM.2.2.1
  have g5 := hM.2.2.2.1
  have g6 := hM.2.2.2.2.1
  simp only [a_sound, mm0, mm1, mm2, mm3, mm4, mm5, mm6, mm7] at *
  grind [nI_clamp, m38_at, sB_ok]
theorem lf_X8_sound_6 {mt : Int32} {ma : Nat} {fs : Nat → Int32} {w9 : Nat} {k9 : Nat} {h9 : Nat} {j_1 : Nat} {v_19 : Int32} {r_21 : Int32} {v_22 : Int32} {r_23 : Int32} (hM : okM fs w9 k9 h9) (hT : ¬ mt = 0 → 1 ≤ k9) (h999 : h9 ≤ 999) (hT0 : mt = 0 → fs 0 = 0 ∧ ma = 0) (hj_1 : j_1 < k9) (hkn1 : 1 ≤ k9) (hw1 : 1 ≤ w9) (h01 : ¬ fs 0 = 0) (k_5 : ¬ (3 : Int32) = 0) (k_11 : ¬ (3 : Int32) = 1) (k_14 : ¬ (3 : Int32) = 2) (e_19 : v_19 = fs (14 + j_1)) (h_21 : r_21 = (fs (8 + h9 % w9))) (e_22 : v_22 = (r_21 - 2)) (h_23 : r_23 = (dfM v_19 v_22)) : r_23 = (a_sound (m38 fs) (nI j_1) (3 : Int32)) := by
  have g0 := @guS_M fs w9 k9 h9 hM
  have g1 := @th_M fs w9 k9 h9 hM
  have g2 := hM.1
  have g3 := hM.2.1
  have g4 := hM.2.2.1
  have g5 := hM.2.2.2.1
  have g6 := hM.2.2.2.2.1
  simp only [a_sound, mm0, mm1, mm2, mm3, mm4, mm5, mm6, mm7] at *
  grind [nI_clamp, m38_at, sB_ok]
theorem lf_X8_sound_7 {mt : Int32} {ma : Nat} {fs : Nat → Int32} {w9 : Nat} {k9 : Nat} {h9 : Nat} {a1 : Int32} {j_1 : Nat} (hM : okM fs w9 k9 h9) (hT : ¬ mt = 0 → 1 ≤ k9) (h999 : h9 ≤ 999) (hT0 : mt = 0 → fs 0 = 0 ∧ ma = 0) (hj_1 : j_1 < k9) (hkn1 : 1 ≤ k9) (hw1 : 1 ≤ w9) (h01 : ¬ fs 0 = 0) (k_5 : ¬ a1 = 0) (k_11 : ¬ a1 = 1) (k_14 : ¬ a1 = 2) (k_17 : ¬ a1 = 3) : (-1000001) = (a_sound (m38 fs) (nI j_1) a1) := by
  have g0 := @guS_M fs w9 k9 h9 hM
  have g1 := @th_M fs w9 k9 h9 hM
  have g2 := hM.1
  have g3 := hM.2.1
  have g4 := hM.2.2.1
  have g5 := hM.2.2.2.1
  have g6 := hM.2.2.2.2.1
  simp only [a_sound, mm0, mm1, mm2, mm3, mm4, mm5, mm6, mm7] at *
  grind [nI_clamp, m38_at, sB_ok]
set_option maxHeartbeats 4000000 in
set_option maxRecDepth 100000 in
theorem r_X8_sound (l : Launch) (dC : Nat → ClassId) (dI : Nat → Nat → Nat) (cI cZ cL cJ : ClassId) (mo : Nat) (m_la : Nat) (m_sz : Nat) (m_it : Nat) (m_st : Nat) (m_mv : Nat) (m_tp : Nat) (m_rd : Nat) (m_ac : Nat) (m_as : Nat) (m_wo : Nat) (m_ik : Nat) (m_ke : Nat) (m_tr : Nat) (ms : Int32) (mt : Int32) (ml : Int32) (mk : Int32) (mv : Int32) (mb : Int32) (mw : Int32) (mz : Nat) (mp : Nat) (ma : Nat) (mx : Nat) (fs : Nat → Int32) (w9 : Nat) (k9 : Nat) (h9 : Nat) (a0 : Int32) (a1 : Int32) (hM : okM fs w9 k9 h9) (hT : ¬ mt = 0 → 1 ≤ k9) (h999 : h9 ≤ 999) (hT0 : mt = 0 → fs 0 = 0 ∧ ma = 0) : Met l yX8_sound wsX8_sound ({ frames := 2, cells := 0, slots := 0, locals := 46 }) (va_Pc [.ref mo, .int a0, .int a1] (fun U => va_P (dC, dI) vwCl [(xo_8_rrriirrriiiiiiirrirrrrri mo m_la m_sz m_it ms mt m_st m_mv m_tp (nI mz) ml (nI mp) mk mv mb mw m_rd m_ac (nI ma) m_as m_wo m_ik m_ke m_tr (nI mx)), (xI m_st cI 38 fs)] U.heap ∧ va_K (dC, dI) vwCl [(cI, .int), (cZ, .boolean), (cL, .object RX3), (cJ, .array .int)] U)) (vp_Si (fun r => r = (a_sound (m38 fs) a0 a1))) 0 0 (fun _ => False) := by
  refine Met.ofW (cc := cX8_sound) (maxL := 3) (ret := (some .int)) (by decide) rfl ?_
  intro p e s m args below meth c s₁ B hml hv
  obtain ⟨rfl, hP, hK⟩ := hv
  have hx := B.exec
  have hb := B.bytes
  have hr := B.returns
  have hts := atoms_spec (ws := wsX8_sound) B.pre
  have hown : s.vm.findClass RX8 = some m.cls := findClass_of_methodNamed B.named
  have hlocks := B.notSynchronized
  have hP : va_P (dC, dI) vwCl [(xo_8_rrriirrriiiiiiirrirrrrri mo m_la m_sz m_it ms mt m_st m_mv m_tp (nI mz) ml (nI mp) mk mv mb mw m_rd m_ac (nI ma) m_as m_wo m_ik m_ke m_tr (nI mx)), (xI m_st cI 38 fs)] s.heap := hP
  have hl := lv_entry ([.ref mo, .int a0, .int a1]) (n := 3) (Nat.le_of_ble_eq_true rfl)
  rw [lg_entry_eq]
  generalize (lg_sl ([.ref mo, .int a0, .int a1]) ++ List.replicate (3 - (lg_sl ([.ref mo, .int a0, .int a1])).length) Slot.unset).toArray = ls at hl ⊢
  have hl : lv_has ls 3 [(0, .ref mo), (1, .int a0), (2, .int a1)] := hl
  have hk6 := hM.2.2.2.2.1
  have hw6 := hM.2.2.2.1
  refine lv_aload_n hx hb dX8_sound_0 rfl (lv_at hl 0 rfl) ?_
  refine lv_iload_n hx hb dX8_sound_1 rfl (lv_at hl 1 rfl) ?_
  have hPc_1 := hP
  refine vp_callSi (W.runV (As := [.int a0]) (rest := []) ⟨hx, hb, hml, hown, hts⟩ (r_X8_isSound l dC dI cI cZ cL cJ mo m_la m_sz m_it m_st m_mv m_tp m_rd m_ac m_as m_wo m_ik m_ke m_tr ms mt ml mk mv mb mw mz mp ma mx fs w9 k9 h9 a0 (hM)) (cwV 1 hts gX8_sound_X8_isSound rfl rfl rfl (by decide +kernel) ⟨Nat.le_of_ble_eq_true rfl, Nat.le_of_ble_eq_true rfl⟩) (pvP 8 0 hK hP rfl rfl hPc_1) rfl rfl hl.1 rfl (lv_room (Nat.le_of_ble_eq_true rfl)) dX8_sound_2 ⟨Nat.le_of_ble_eq_true rfl, Nat.le_of_ble_eq_true rfl⟩) (fun r_1 h_1 => ?_)
  rcases h_1 with ⟨h_1, f_1_0_0⟩ | ⟨h_1, f_1_1_0⟩
  · subst h_1
    refine lv_if_ne (tgt := 11) hx hb dX8_sound_5 (by decide) (fun c_ => absurd (by decide) c_) (fun _ => ?_)
    refine lv_ldc (own := RX8) (v := (-1000001)) hx hb hown (hts _ mx_X8_sound_1) dX8_sound_8 ?_
    exact W.iret (v := (-1000001)) hx hb hr (fun t ht hW => ⟨(-1000001), rfl, (lf_X8_sound_1 hM hT h999 hT0 f_1_0_0), ht⟩) (fun _ h => by cases h) dX8_sound_10
  · subst h_1
    obtain ⟨j_1, hj_1, rfl⟩ := vp_in_of f_1_1_0 (by omega)
    have hkn1 : 1 ≤ k9 := by omega
    have hw1 := hM.2.2.2.2.2.1.mp hkn1
    have h01 : ¬ fs 0 = 0 := cell_nz hM hkn1
    refine lv_if_ne (tgt := 11) hx hb dX8_sound_5 (by decide) (fun _ => ?_) (fun c_ => absurd c_ (by decide))
    refine lv_iload_n hx hb dX8_sound_11 rfl (lv_at hl 2 rfl) ?_
    by_cases k_5 : a1 = 0
    · subst k_5
      refine lv_tableIn (off := 32) (tgt := 44) hx hb dX8_sound_12 (by decide) (by decide) (by decide) (by decide) ?_
      refine lv_aload_n hx hb dX8_sound_44 rfl (lv_at hl 0 rfl) ?_
      refine va_get (D := (dC, dI)) (ci := 8) (v := .ref m_st) (C := RX8) (T := TX8) (N := 24) hx hb hts i_X8_sound_X8 hown hK hP 0 rfl rfl 5 (by decide) (hts _ mx_X8_sound_2) (fun _ h9 => h9) rfl dX8_sound_45 ?_
      refine lv_bipush (v := 26) hx hb dX8_sound_48 (by decide) ?_
      refine lv_iload_n hx hb dX8_sound_50 rfl (lv_at hl 1 rfl) ?_
      refine lv_iadd hx hb dX8_sound_51 ?_
      refine lv_topi (fun v_6 e_6 => ?_)
      obtain rfl : v_6 = (nI (26 + j_1)) := (e_6).trans (nI_add 26 j_1)
      refine va_iald hx hb hK hP 1 0 rfl rfl (vp_in_nI (by omega) (by omega)) dX8_sound_52 ?_
      refine lv_topi (fun v_7 e_7 => ?_)
      have e_7 : v_7 = fs (26 + j_1) := e_7.trans (congrArg fs (nI_clamp (by omega)))
      refine lv_if_ne (tgt := 68) hx hb dX8_sound_53 (by decide) (fun c_8 => ?_) (fun c_8 => ?_)
      · skip
        refine lv_ldc (own := RX8) (v := (-1000000)) hx hb hown (hts _ mx_X8_sound_3) dX8_sound_68 ?_
        exact W.iret (v := (-1000000)) hx hb hr (fun t ht hW => ⟨(-1000000), rfl, (lf_X8_sound_2 hM hT h999 hT0 hj_1 hkn1 hw1 h01 e_7 c_8), ht⟩) (fun _ h => by cases h) dX8_sound_70
      · skip
        refine lv_aload_n hx hb dX8_sound_56 rfl (lv_at hl 0 rfl) ?_
        refine va_get (D := (dC, dI)) (ci := 8) (v := .ref m_st) (C := RX8) (T := TX8) (N := 24) hx hb hts i_X8_sound_X8 hown hK hP 0 rfl rfl 5 (by decide) (hts _ mx_X8_sound_2) (fun _ h9 => h9) rfl dX8_sound_57 ?_
        refine lv_bipush (v := 20) hx hb dX8_sound_60 (by decide) ?_
        refine lv_iload_n hx hb dX8_sound_62 rfl (lv_at hl 1 rfl) ?_
        refine lv_iadd hx hb dX8_sound_63 ?_
        refine lv_topi (fun v_9 e_9 => ?_)
        obtain rfl : v_9 = (nI (20 + j_1)) := (e_9).trans (nI_add 20 j_1)
        refine va_iald hx hb hK hP 1 0 rfl rfl (vp_in_nI (by omega) (by omega)) dX8_sound_64 ?_
        refine lv_topi (fun v_10 e_10 => ?_)
        have e_10 : v_10 = fs (20 + j_1) := e_10.trans (congrArg fs (nI_clamp (by omega)))
        refine lv_goto (tgt := 70) hx hb dX8_sound_65 (by decide) ?_
        exact W.iret (v := v_10) hx hb hr (fun t ht hW => ⟨v_10, rfl, (lf_X8_sound_3 hM hT h999 hT0 hj_1 hkn1 hw1 h01 e_7 c_8 e_10), ht⟩) (fun _ h => by cases h) dX8_sound_70
    by_cases k_11 : a1 = 1
    · subst k_11
      refine lv_tableIn (off := 59) (tgt := 71) hx hb dX8_sound_12 (by decide) (by decide) (by decide) (by decide) ?_
      refine lv_aload_n hx hb dX8_sound_71 rfl (lv_at hl 0 rfl) ?_
      refine va_get (D := (dC, dI)) (ci := 8) (v := .ref m_st) (C := RX8) (T := TX8) (N := 24) hx hb hts i_X8_sound_X8 hown hK hP 0 rfl rfl 5 (by decide) (hts _ mx_X8_sound_2) (fun _ h9 => h9) rfl dX8_sound_72 ?_
      refine lv_bipush (v := 26) hx hb dX8_sound_75 (by decide) ?_
      refine lv_iload_n hx hb dX8_sound_77 rfl (lv_at hl 1 rfl) ?_
      refine lv_iadd hx hb dX8_sound_78 ?_
      refine lv_topi (fun v_12 e_12 => ?_)
      obtain rfl : v_12 = (nI (26 + j_1)) := (e_12).trans (nI_add 26 j_1)
      refine va_iald hx hb hK hP 1 0 rfl rfl (vp_in_nI (by omega) (by omega)) dX8_sound_79 ?_
      refine lv_topi (fun v_13 e_13 => ?_)
      have e_13 : v_13 = fs (26 + j_1) := e_13.trans (congrArg fs (nI_clamp (by omega)))
      exact W.iret (v := v_13) hx hb hr (fun t ht hW => ⟨v_13, rfl, (lf_X8_sound_4 hM hT h999 hT0 hj_1 hkn1 hw1 h01 k_5 e_13), ht⟩) (fun _ h => by cases h) dX8_sound_80
    by_cases k_14 : a1 = 2
    · subst k_14
      refine lv_tableIn (off := 69) (tgt := 81) hx hb dX8_sound_12 (by decide) (by decide) (by decide) (by decide) ?_
      refine lv_aload_n hx hb dX8_sound_81 rfl (lv_at hl 0 rfl) ?_
      refine va_get (D := (dC, dI)) (ci := 8) (v := .ref m_st) (C := RX8) (T := TX8) (N := 24) hx hb hts i_X8_sound_X8 hown hK hP 0 rfl rfl 5 (by decide) (hts _ mx_X8_sound_2) (fun _ h9 => h9) rfl dX8_sound_82 ?_
      refine lv_bipush (v := 32) hx hb dX8_sound_85 (by decide) ?_
      refine lv_iload_n hx hb dX8_sound_87 rfl (lv_at hl 1 rfl) ?_
      refine lv_iadd hx hb dX8_sound_88 ?_
      refine lv_topi (fun v_15 e_15 => ?_)
      obtain rfl : v_15 = (nI (32 + j_1)) := (e_15).trans (nI_add 32 j_1)
      refine va_iald hx hb hK hP 1 0 rfl rfl (vp_in_nI (by omega) (by omega)) dX8_sound_89 ?_
      refine lv_topi (fun v_16 e_16 => ?_)
      have e_16 : v_16 = fs (32 + j_1) := e_16.trans (congrArg fs (nI_clamp (by omega)))
      exact W.iret (v := v_16) hx hb hr (fun t ht hW => ⟨v_16, rfl, (lf_X8_sound_5 hM hT h999 hT0 hj_1 hkn1 hw1 h01 k_5 k_11 e_16), ht⟩) (fun _ h => by cases h) dX8_sound_90
    by_cases k_17 : a1 = 3
    · subst k_17
      refine lv_tableIn (off := 79) (tgt := 91) hx hb dX8_sound_12 (by decide) (by decide) (by decide) (by decide) ?_
      refine lv_aload_n hx hb dX8_sound_91 rfl (lv_at hl 0 rfl) ?_
      refine va_get (D := (dC, dI)) (ci := 8) (v := .ref m_st) (C := RX8) (T := TX8) (N := 24) hx hb hts i_X8_sound_X8 hown hK hP 0 rfl rfl 5 (by decide) (hts _ mx_X8_sound_2) (fun _ h9 => h9) rfl dX8_sound_92 ?_
      refine lv_bipush (v := 14) hx hb dX8_sound_95 (by decide) ?_
      refine lv_iload_n hx hb dX8_sound_97 rfl (lv_at hl 1 rfl) ?_
      refine lv_iadd hx hb dX8_sound_98 ?_
      refine lv_topi (fun v_18 e_18 => ?_)
      obtain rfl : v_18 = (nI (14 + j_1)) := (e_18).trans (nI_add 14 j_1)
      refine va_iald hx hb hK hP 1 0 rfl rfl (vp_in_nI (by omega) (by omega)) dX8_sound_99 ?_
      refine lv_topi (fun v_19 e_19 => ?_)
      have e_19 : v_19 = fs (14 + j_1) := e_19.trans (congrArg fs (nI_clamp (by omega)))
      refine lv_aload_n hx hb dX8_sound_100 rfl (lv_at hl 0 rfl) ?_
      refine lv_aload_n hx hb dX8_sound_101 rfl (lv_at hl 0 rfl) ?_
      refine va_get (D := (dC, dI)) (ci := 8) (v := .ref m_st) (C := RX8) (T := TX8) (N := 24) hx hb hts i_X8_sound_X8 hown hK hP 0 rfl rfl 5 (by decide) (hts _ mx_X8_sound_2) (fun _ h9 => h9) rfl dX8_sound_102 ?_
      refine lv_iconst (v := 5) hx hb dX8_sound_105 (by decide) ?_
      refine va_iald hx hb hK hP 1 0 rfl rfl (by unfold vp_in; decide) dX8_sound_106 ?_
      refine lv_topi (fun v_20 e_20 => ?_)
      obtain rfl : v_20 = (nI h9) := (e_20).trans hM.2.2.1
      have hPc_21 := hP
      refine vp_callSi (W.runV (As := [.int (nI h9)]) (rest := [.int v_19]) ⟨hx, hb, hml, hown, hts⟩ (r_X8_gustOf l dC dI cI cZ cL cJ mo m_la m_sz m_it m_st m_mv m_tp m_rd m_ac m_as m_wo m_ik m_ke m_tr ms mt ml mk mv mb mw mz mp ma mx fs w9 k9 h9 h9 (hM) (by omega) (by omega)) (cwV 1 hts gX8_sound_X8_gustOf rfl rfl rfl (by decide +kernel) ⟨Nat.le_of_ble_eq_true rfl, Nat.le_of_ble_eq_true rfl⟩) (pvP 8 0 hK hP rfl rfl hPc_21) rfl rfl hl.1 rfl (lv_room (Nat.le_of_ble_eq_true rfl)) dX8_sound_107 ⟨Nat.le_of_ble_eq_true rfl, Nat.le_of_ble_eq_true rfl⟩) (fun r_21 h_21 => ?_)
      refine lv_iconst (v := 2) hx hb dX8_sound_110 (by decide) ?_
      refine lv_isub hx hb dX8_sound_111 ?_
      refine lv_topi (fun v_22 e_22 => ?_)
      have hPc_23 := hP.sub (ws' := []) [] rfl
      refine vp_callSi (W.runS (As := [.int v_19, .int v_22]) (rest := []) ⟨hx, hb, hml, hown, hts⟩ (r_X8_drifts l dC dI cI cZ cL cJ v_19 v_22 ) (va_cwS 2 hts gX8_sound_X8_drifts rfl rfl rfl (by decide +kernel) ⟨Nat.le_of_ble_eq_true rfl, Nat.le_of_ble_eq_true rfl⟩) (psP hK hPc_23) rfl rfl hl.1 rfl (lv_room (Nat.le_of_ble_eq_true rfl)) dX8_sound_112 ⟨Nat.le_of_ble_eq_true rfl, Nat.le_of_ble_eq_true rfl⟩) (fun r_23 h_23 => ?_)
      exact W.iret (v := r_23) hx hb hr (fun t ht hW => ⟨r_23, rfl, (lf_X8_sound_6 hM hT h999 hT0 hj_1 hkn1 hw1 h01 k_5 k_11 k_14 e_19 h_21 e_22 h_23), ht⟩) (fun _ h => by cases h) dX8_sound_115
    have kT_5 := lv_neT k_5 (show (0 : Int32).toInt = 0 from rfl)
    have kT_11 := lv_neT k_11 (show (1 : Int32).toInt = 1 from rfl)
    have kT_14 := lv_neT k_14 (show (2 : Int32).toInt = 2 from rfl)
    have kT_17 := lv_neT k_17 (show (3 : Int32).toInt = 3 from rfl)
    refine lv_tableOut (tgt := 116) hx hb dX8_sound_12 (by omega) (by decide) ?_
    refine lv_ldc (own := RX8) (v := (-1000001)) hx hb hown (hts _ mx_X8_sound_1) dX8_sound_116 ?_
    exact W.iret (v := (-1000001)) hx hb hr (fun t ht hW => ⟨(-1000001), rfl, (lf_X8_sound_7 hM hT h999 hT0 hj_1 hkn1 hw1 h01 k_5 k_11 k_14 k_17), ht⟩) (fun _ h => by cases h) dX8_sound_118
theorem lf_X8_stand_1 {mt : Int32} {ma : Nat} {fs : Nat → Int32} {w9 : Nat} {k9 : Nat} {h9 : Nat} {v_3 : Int32} (hM : okM fs w9 k9 h9) (hT : ¬ mt = 0 → 1 ≤ k9) (h999 : h9 ≤ 999) (hT0 : mt = 0 → fs 0 = 0 ∧ ma = 0) (c_1 : ¬ (mt = 0)) (hkn1 : 1 ≤ k9) (hw1 : 1 ≤ w9) (h01 : ¬ fs 0 = 0) (e_3 : v_3 = fs 0) : v_3 = (a_stand (m38 fs) (0 : Int32)) := by
  have g0 := @guS_M fs w9 k9 h9 hM
  have g1 := @th_M fs w9 k9 h9 hM
  have g2 := hM.1
  have g3 := hM.2.1
  have g4 := hM.2.2.1
  have g5 := hM.2.2.2.1
  have g6 := hM.2.2.2.2.1
  simp only [a_stand, mm0, mm1, mm2, mm3, mm4, mm5, mm6, mm7] at *
  grind [nI_clamp, m38_at, sB_ok]
theorem lf_X8_stand_2 {mt : Int32} {ma : Nat} {fs : Nat → Int32} {w9 : Nat} {k9 : Nat} {h9 : Nat} {v_5 : Int32} (hM : okM fs w9 k9 h9) (hT : ¬ mt = 0 → 1 ≤ k9) (h999 : h9 ≤ 999) (hT0 : mt = 0 → fs 0 = 0 ∧ ma = 0) (c_1 : ¬ (mt = 0)) (hkn1 : 1 ≤ k9) (hw1 : 1 ≤ w9) (h01 : ¬ fs 0 = 0) (k_2 : ¬ (1 : Int32) = 0) (e_5 : v_5 = fs 1) : v_5 = (a_stand (m38 fs) (1 : Int32)) := by
  have g0 := @guS_M fs w9 k9 h9 hM
  have g1 := @th_M fs w9 k9 h9 hM
  have g2 := hM.1
  have g3 := hM.2.1
  have g4 := hM.2.2.1
  have g5 := hM.2.2.2.1
  have g6 := hM.2.2.2.2.1
  simp only [a_stand, mm0, mm1, mm2, mm3, mm4, mm5, mm6, mm7] at *
  grind [nI_clamp, m38_at, sB_ok]
theorem lf_X8_stand_3 {mt : Int32} {ma : Nat} {fs : Nat → Int32} {w9 : Nat} {k9 : Nat} {h9 : Nat} {v_7 : Int32} (hM : okM fs w9 k9 h9) (hT : ¬ mt = 0 → 1 ≤ k9) (h999 : h9 ≤ 999) (hT0 : mt = 0 → fs 0 = 0 ∧ ma = 0) (c_1 : ¬ (mt = 0)) (hkn1 : 1 ≤ k9) (hw1 : 1 ≤ w9) (h01 : ¬ fs 0 = 0) (k_2 : ¬ (2 : Int32) = 0) (k_4 : ¬ (2 : Int32) = 1) (e_7 : v_7 = fs 2) : v_7 = (a_stand (m38 fs) (2 : Int32)) := by
  have g0 := @guS_M fs w9 k9 h9 hM
  have g1 := @th_M fs w9 k9 h9 hM
  have g2 := hM.1
  have g3 := hM.2.1
  have g4 := hM.2.2.1
  have g5 := hM.2.2.2.1
  have g6 := hM.2.2.2.2.1
  simp only [a_stand, mm0, mm1, mm2, mm3, mm4, mm5, mm6, mm7] at *
  grind [nI_clamp, m38_at, sB_ok]
theorem lf_X8_stand_4 {mt : Int32} {ma : Nat} {fs : Nat → Int32} {w9 : Nat} {k9 : Nat} {h9 : Nat} {v_9 : Int32} (hM : okM fs w9 k9 h9) (hT : ¬ mt = 0 → 1 ≤ k9) (h999 : h9 ≤ 999) (hT0 : mt = 0 → fs 0 = 0 ∧ ma = 0) (c_1 : ¬ (mt = 0)) (hkn1 : 1 ≤ k9) (hw1 : 1 ≤ w9) (h01 : ¬ fs 0 = 0) (k_2 : ¬ (3 : Int32) = 0) (k_4 : ¬ (3 : Int32) = 1) (k_6 : ¬ (3 : Int32) = 2) (e_9 : v_9 = fs 6) : v_9 = (a_stand (m38 fs) (3 : Int32)) := by
  have g0 := @guS_M fs w9 k9 h9 hM
  have g1 := @th_M fs w9 k9 h9 hM
  have g2 := hM.1
  have g3 := hM.2.1
  have g4 := hM.2.2.1
  have g5 := hM.2.2.2.1
  have g6 := hM.2.2.2.2.1
  simp only [a_stand, mm0, mm1, mm2, mm3, mm4, mm5, mm6, mm7] at *
  grind [nI_clamp, m38_at, sB_ok]
theorem lf_X8_stand_5 {mt : Int32} {ma : Nat} {fs : Nat → Int32} {w9 : Nat} {k9 : Nat} {h9 : Nat} {j_11 : Nat} (hM : okM fs w9 k9 h9) (hT : ¬ mt = 0 → 1 ≤ k9) (h999 : h9 ≤ 999) (hT0 : mt = 0 → fs 0 = 0 ∧ ma = 0) (c_1 : ¬ (mt = 0)) (hkn1 : 1 ≤ k9) (hw1 : 1 ≤ w9) (h01 : ¬ fs 0 = 0) (k_2 : ¬ (4 : Int32) = 0) (k_4 : ¬ (4 : Int32) = 1) (k_6 : ¬ (4 : Int32) = 2) (k_8 : ¬ (4 : Int32) = 3) (hz_11_0 : j_11 ≤ 63) (hz_11_1 : nI j_11 = thR (fun s => fs (26 + s)) 0 k9) : (nI j_11) = (a_stand (m38 fs) (4 : Int32)) := by
  have g0 := @guS_M fs w9 k9 h9 hM
  have g1 := @th_M fs w9 k9 h9 hM
  have g2 := hM.1
  have g3 := hM.2.1
  have g4 := hM.2.2.1
  have g5 := hM.2.2.2.1
  have g6 := hM.2.2.2.2.1
  simp only [a_stand, mm0, mm1, mm2, mm3, mm4, mm5, mm6, mm7] at *
  grind [nI_clamp, m38_at, sB_ok]
theorem lf_X8_stand_6 {mt : Int32} {ma : Nat} {fs : Nat → Int32} {w9 : Nat} {k9 : Nat} {h9 : Nat} {j_13 : Nat} (hM : okM fs w9 k9 h9) (hT : ¬ mt = 0 → 1 ≤ k9) (h999 : h9 ≤ 999) (hT0 : mt = 0 → fs 0 = 0 ∧ ma = 0) (c_1 : ¬ (mt = 0)) (hkn1 : 1 ≤ k9) (hw1 : 1 ≤ w9) (h01 : ¬ fs 0 = 0) (k_2 : ¬ (5 : Int32) = 0) (k_4 : ¬ (5 : Int32) = 1) (k_6 : ¬ (5 : Int32) = 2) (k_8 : ¬ (5 : Int32) = 3) (k_10 : ¬ (5 : Int32) = 4) (hz_13_0 : j_13 ≤ 63) (hz_13_1 : nI j_13 = thR (fun s => fs (26 + s)) 1 k9) : (nI j_13) = (a_stand (m38 fs) (5 : Int32)) := by
  have g0 := @guS_M fs w9 k9 h9 hM
  have g1 := @th_M fs w9 k9 h9 hM
  have g2 := hM.1
  have g3 := hM.2.1
  have g4 := hM.2.2.1
  have g5 := hM.2.2.2.1
  have g6 := hM.2.2.2.2.1
  simp only [a_stand, mm0, mm1, mm2, mm3, mm4, mm5, mm6, mm7] at *
  grind [nI_clamp, m38_at, sB_ok]
theorem lf_X8_stand_7 {mt : Int32} {ma : Nat} {fs : Nat → Int32} {w9 : Nat} {k9 : Nat} {h9 : Nat} {j_15 : Nat} (hM : okM fs w9 k9 h9) (hT : ¬ mt = 0 → 1 ≤ k9) (h999 : h9 ≤ 999) (hT0 : mt = 0 → fs 0 = 0 ∧ ma = 0) (c_1 : ¬ (mt = 0)) (hkn1 : 1 ≤ k9) (hw1 : 1 ≤ w9) (h01 : ¬ fs 0 = 0) (k_2 : ¬ (6 : Int32) = 0) (k_4 : ¬ (6 : Int32) = 1) (k_6 : ¬ (6 : Int32) = 2) (k_8 : ¬ (6 : Int32) = 3) (k_10 : ¬ (6 : Int32) = 4) (k_12 : ¬ (6 : Int32) = 5) (hz_15_0 : j_15 ≤ 63) (hz_15_1 : nI j_15 = thR (fun s => fs (26 + s)) 2 k9) : (nI j_15) = (a_stand (m38 fs) (6 : Int32)) := by
  have g0 := @guS_M fs w9 k9 h9 hM
  have g1 := @th_M fs w9 k9 h9 hM
  have g2 := hM.1
  have g3 := hM.2.1
  have g4 := hM.2.2.1
  have g5 := hM.2.2.2.1
  have g6 := hM.2.2.2.2.1
  simp only [a_stand, mm0, mm1, mm2, mm3, mm4, mm5, mm6, mm7] at *
  grind [nI_clamp, m38_at, sB_ok]
theorem lf_X8_stand_8 {mt : Int32} {ma : Nat} {fs : Nat → Int32} {w9 : Nat} {k9 : Nat} {h9 : Nat} {a0 : Int32} (hM : okM fs w9 k9 h9) (hT : ¬ mt = 0 → 1 ≤ k9) (h999 : h9 ≤ 999) (hT0 : mt = 0 → fs 0 = 0 ∧ ma = 0) (c_1 : ¬ (mt = 0)) (hkn1 : 1 ≤ k9) (hw1 : 1 ≤ w9) (h01 : ¬ fs 0 = 0) (k_2 : ¬ a0 = 0) (k_4 : ¬ a0 = 1) (k_6 : ¬ a0 = 2) (k_8 : ¬ a0 = 3) (k_10 : ¬ a0 = 4) (k_12 : ¬ a0 = 5) (k_14 : ¬ a0 = 6) : (-1000001) = (a_stand (m38 fs) a0) := by
  have g0 := @guS_M fs w9 k9 h9 hM
  have g1 := @th_M fs w9 k9 h9 hM
  have g2 := hM.1
  have g3 := hM.2.1
  have g4 := hM.2.2.1
  have g5 := hM.2.2.2.1
  have g6 := hM.2.2.2.2.1
  simp only [a_stand, mm0, mm1, mm2, mm3, mm4, mm5, mm6, mm7] at *
  grind [nI_clamp, m38_at, sB_ok]
theorem lf_X8_stand_9 {mt : Int32} {ma : Nat} {fs : Nat → Int32} {w9 : Nat} {k9 : Nat} {h9 : Nat} {a0 : Int32} (hM : okM fs w9 k9 h9) (hT : ¬ mt = 0 → 1 ≤ k9) (h999 : h9 ≤ 999) (hT0 : mt = 0 → fs 0 = 0 ∧ ma = 0) (c_1 : mt = 0) (h00 : fs 0 = 0) : (-1000002) = (a_stand (m38 fs) a0) := by
  have g0 := @guS_M fs w9 k9 h9 hM
  have g1 := @th_M fs w9 k9 h9 hM
  have g2 := hM.1
  have g3 := hM.2.1
  have g4 := hM.2.2.1
  have g5 := hM.2.2.2.1
  have g6 := hM.2.2.2.2.1
  simp only [a_stand, mm0, mm1, mm2, mm3, mm4, mm5, mm6, mm7] at *
  grind [nI_clamp, m38_at, sB_ok]
set_option maxHeartbeats 4000000 in
set_option maxRecDepth 100000 in
theorem r_X8_stand (l : Launch) (dC : Nat → ClassId) (dI : Nat → Nat → Nat) (cI cZ cL cJ : ClassId) (mo : Nat) (m_la : Nat) (m_sz : Nat) (m_it : Nat) (m_st : Nat) (m_mv : Nat) (m_tp : Nat) (m_rd : Nat) (m_ac : Nat) (m_as : Nat) (m_wo : Nat) (m_ik : Nat) (m_ke : Nat) (m_tr : Nat) (ms : Int32) (mt : Int32) (ml : Int32) (mk : Int32) (mv : Int32) (mb : Int32) (mw : Int32) (mz : Nat) (mp : Nat) (ma : Nat) (mx : Nat) (fs : Nat → Int32) (w9 : Nat) (k9 : Nat) (h9 : Nat) (a0 : Int32) (hM : okM fs w9 k9 h9) (hT : ¬ mt = 0 → 1 ≤ k9) (h999 : h9 ≤ 999) (hT0 : mt = 0 → fs 0 = 0 ∧ ma = 0) : Met l yX8_stand wsX8_stand ({ frames := 1, cells := 0, slots := 0, locals := 23 }) (va_Pc [.ref mo, .int a0] (fun U => va_P (dC, dI) vwCl [(xo_8_rrriirrriiiiiiirrirrrrri mo m_la m_sz m_it ms mt m_st m_mv m_tp (nI mz) ml (nI mp) mk mv mb mw m_rd m_ac (nI ma) m_as m_wo m_ik m_ke m_tr (nI mx)), (xI m_st cI 38 fs)] U.heap ∧ va_K (dC, dI) vwCl [(cI, .int), (cZ, .boolean), (cL, .object RX3), (cJ, .array .int)] U)) (vp_Si (fun r => r = (a_stand (m38 fs) a0))) 0 0 (fun _ => False) := by
  refine Met.ofW (cc := cX8_stand) (maxL := 2) (ret := (some .int)) (by decide) rfl ?_
  intro p e s m args below meth c s₁ B hml hv
  obtain ⟨rfl, hP, hK⟩ := hv
  have hx := B.exec
  have hb := B.bytes
  have hr := B.returns
  have hts := atoms_spec (ws := wsX8_stand) B.pre
  have hown : s.vm.findClass RX8 = some m.cls := findClass_of_methodNamed B.named
  have hlocks := B.notSynchronized
  have hP : va_P (dC, dI) vwCl [(xo_8_rrriirrriiiiiiirrirrrrri mo m_la m_sz m_it ms mt m_st m_mv m_tp (nI mz) ml (nI mp) mk mv mb mw m_rd m_ac (nI ma) m_as m_wo m_ik m_ke m_tr (nI mx)), (xI m_st cI 38 fs)] s.heap := hP
  have hl := lv_entry ([.ref mo, .int a0]) (n := 2) (Nat.le_of_ble_eq_true rfl)
  rw [lg_entry_eq]
  generalize (lg_sl ([.ref mo, .int a0]) ++ List.replicate (2 - (lg_sl ([.ref mo, .int a0])).length) Slot.unset).toArray = ls at hl ⊢
  have hl : lv_has ls 2 [(0, .ref mo), (1, .int a0)] := hl
  have hk6 := hM.2.2.2.2.1
  have hw6 := hM.2.2.2.1
  refine lv_aload_n hx hb dX8_stand_0 rfl (lv_at hl 0 rfl) ?_
  refine va_get (D := (dC, dI)) (ci := 8) (v := .int mt) (C := RX8) (T := TX8) (N := 24) hx hb hts i_X8_stand_X8 hown hK hP 0 rfl rfl 4 (by decide) (hts _ mx_X8_stand_1) (fun _ h9 => h9) rfl dX8_stand_1 ?_
  refine lv_if_ne (tgt := 10) hx hb dX8_stand_4 (by decide) (fun c_1 => ?_) (fun c_1 => ?_)
  · skip
    have hkn1 := hT c_1
    have hw1 := hM.2.2.2.2.2.1.mp hkn1
    have h01 : ¬ fs 0 = 0 := cell_nz hM hkn1
    refine lv_iload_n hx hb dX8_stand_10 rfl (lv_at hl 1 rfl) ?_
    by_cases k_2 : a0 = 0
    · subst k_2
      refine lv_tableIn (off := 41) (tgt := 52) hx hb dX8_stand_11 (by decide) (by decide) (by decide) (by decide) ?_
      refine lv_aload_n hx hb dX8_stand_52 rfl (lv_at hl 0 rfl) ?_
      refine va_get (D := (dC, dI)) (ci := 8) (v := .ref m_st) (C := RX8) (T := TX8) (N := 24) hx hb hts i_X8_stand_X8 hown hK hP 0 rfl rfl 5 (by decide) (hts _ mx_X8_stand_3) (fun _ h9 => h9) rfl dX8_stand_53 ?_
      refine lv_iconst (v := 0) hx hb dX8_stand_56 (by decide) ?_
      refine va_iald hx hb hK hP 1 0 rfl rfl (by unfold vp_in; decide) dX8_stand_57 ?_
      refine lv_topi (fun v_3 e_3 => ?_)
      have e_3 : v_3 = fs 0 := e_3
      exact W.iret (v := v_3) hx hb hr (fun t ht hW => ⟨v_3, rfl, (lf_X8_stand_1 hM hT h999 hT0 c_1 hkn1 hw1 h01 e_3), ht⟩) (fun _ h => by cases h) dX8_stand_58
    by_cases k_4 : a0 = 1
    · subst k_4
      refine lv_tableIn (off := 48) (tgt := 59) hx hb dX8_stand_11 (by decide) (by decide) (by decide) (by decide) ?_
      refine lv_aload_n hx hb dX8_stand_59 rfl (lv_at hl 0 rfl) ?_
      refine va_get (D := (dC, dI)) (ci := 8) (v := .ref m_st) (C := RX8) (T := TX8) (N := 24) hx hb hts i_X8_stand_X8 hown hK hP 0 rfl rfl 5 (by decide) (hts _ mx_X8_stand_3) (fun _ h9 => h9) rfl dX8_stand_60 ?_
      refine lv_iconst (v := 1) hx hb dX8_stand_63 (by decide) ?_
      refine va_iald hx hb hK hP 1 0 rfl rfl (by unfold vp_in; decide) dX8_stand_64 ?_
      refine lv_topi (fun v_5 e_5 => ?_)
      have e_5 : v_5 = fs 1 := e_5
      exact W.iret (v := v_5) hx hb hr (fun t ht hW => ⟨v_5, rfl, (lf_X8_stand_2 hM hT h999 hT0 c_1 hkn1 hw1 h01 k_2 e_5), ht⟩) (fun _ h => by cases h) dX8_stand_65
    by_cases k_6 : a0 = 2
    · subst k_6
      refine lv_tableIn (off := 55) (tgt := 66) hx hb dX8_stand_11 (by decide) (by decide) (by decide) (by decide) ?_
      refine lv_aload_n hx hb dX8_stand_66 rfl (lv_at hl 0 rfl) ?_
      refine va_get (D := (dC, dI)) (ci := 8) (v := .ref m_st) (C := RX8) (T := TX8) (N := 24) hx hb hts i_X8_stand_X8 hown hK hP 0 rfl rfl 5 (by decide) (hts _ mx_X8_stand_3) (fun _ h9 => h9) rfl dX8_stand_67 ?_
      refine lv_iconst (v := 2) hx hb dX8_stand_70 (by decide) ?_
      refine va_iald hx hb hK hP 1 0 rfl rfl (by unfold vp_in; decide) dX8_stand_71 ?_
      refine lv_topi (fun v_7 e_7 => ?_)
      have e_7 : v_7 = fs 2 := e_7
      exact W.iret (v := v_7) hx hb hr (fun t ht hW => ⟨v_7, rfl, (lf_X8_stand_3 hM hT h999 hT0 c_1 hkn1 hw1 h01 k_2 k_4 e_7), ht⟩) (fun _ h => by cases h) dX8_stand_72
    by_cases k_8 : a0 = 3
    · subst k_8
      refine lv_tableIn (off := 62) (tgt := 73) hx hb dX8_stand_11 (by decide) (by decide) (by decide) (by decide) ?_
      refine lv_aload_n hx hb dX8_stand_73 rfl (lv_at hl 0 rfl) ?_
      refine va_get (D := (dC, dI)) (ci := 8) (v := .ref m_st) (C := RX8) (T := TX8) (N := 24) hx hb hts i_X8_stand_X8 hown hK hP 0 rfl rfl 5 (by decide) (hts _ mx_X8_stand_3) (fun _ h9 => h9) rfl dX8_stand_74 ?_
      refine lv_bipush (v := 6) hx hb dX8_stand_77 (by decide) ?_
      refine va_iald hx hb hK hP 1 0 rfl rfl (by unfold vp_in; decide) dX8_stand_79 ?_
      refine lv_topi (fun v_9 e_9 => ?_)
      have e_9 : v_9 = fs 6 := e_9
      exact W.iret (v := v_9) hx hb hr (fun t ht hW => ⟨v_9, rfl, (lf_X8_stand_4 hM hT h999 hT0 c_1 hkn1 hw1 h01 k_2 k_4 k_6 e_9), ht⟩) (fun _ h => by cases h) dX8_stand_80
    by_cases k_10 : a0 = 4
    · subst k_10
      refine lv_tableIn (off := 70) (tgt := 81) hx hb dX8_stand_11 (by decide) (by decide) (by decide) (by decide) ?_
      refine lv_aload_n hx hb dX8_stand_81 rfl (lv_at hl 0 rfl) ?_
      refine lv_iconst (v := 0) hx hb dX8_stand_82 (by decide) ?_
      have hPc_11 := hP
      refine vp_callSi (W.runV (As := [.int 0]) (rest := []) ⟨hx, hb, hml, hown, hts⟩ (r_X8_those l dC dI cI cZ cL cJ mo m_la m_sz m_it m_st m_mv m_tp m_rd m_ac m_as m_wo m_ik m_ke m_tr ms mt ml mk mv mb mw mz mp ma mx fs w9 k9 h9 0 (hM)) (cwV 1 hts gX8_stand_X8_those rfl rfl rfl (by decide +kernel) ⟨Nat.le_of_ble_eq_true rfl, Nat.le_of_ble_eq_true rfl⟩) (pvP 8 0 hK hP rfl rfl hPc_11) rfl rfl hl.1 rfl (lv_room (Nat.le_of_ble_eq_true rfl)) dX8_stand_83 ⟨Nat.le_of_ble_eq_true rfl, Nat.le_of_ble_eq_true rfl⟩) (fun r_11 h_11 => ?_)
      obtain ⟨j_11, rfl, hz_11_0, hz_11_1⟩ := h_11
      exact W.iret (v := (nI j_11)) hx hb hr (fun t ht hW => ⟨(nI j_11), rfl, (lf_X8_stand_5 hM hT h999 hT0 c_1 hkn1 hw1 h01 k_2 k_4 k_6 k_8 hz_11_0 hz_11_1), ht⟩) (fun _ h => by cases h) dX8_stand_86
    by_cases k_12 : a0 = 5
    · subst k_12
      refine lv_tableIn (off := 76) (tgt := 87) hx hb dX8_stand_11 (by decide) (by decide) (by decide) (by decide) ?_
      refine lv_aload_n hx hb dX8_stand_87 rfl (lv_at hl 0 rfl) ?_
      refine lv_iconst (v := 1) hx hb dX8_stand_88 (by decide) ?_
      have hPc_13 := hP
      refine vp_callSi (W.runV (As := [.int 1]) (rest := []) ⟨hx, hb, hml, hown, hts⟩ (r_X8_those l dC dI cI cZ cL cJ mo m_la m_sz m_it m_st m_mv m_tp m_rd m_ac m_as m_wo m_ik m_ke m_tr ms mt ml mk mv mb mw mz mp ma mx fs w9 k9 h9 1 (hM)) (cwV 1 hts gX8_stand_X8_those rfl rfl rfl (by decide +kernel) ⟨Nat.le_of_ble_eq_true rfl, Nat.le_of_ble_eq_true rfl⟩) (pvP 8 0 hK hP rfl rfl hPc_13) rfl rfl hl.1 rfl (lv_room (Nat.le_of_ble_eq_true rfl)) dX8_stand_89 ⟨Nat.le_of_ble_eq_true rfl, Nat.le_of_ble_eq_true rfl⟩) (fun r_13 h_13 => ?_)
      obtain ⟨j_13, rfl, hz_13_0, hz_13_1⟩ := h_13
      exact W.iret (v := (nI j_13)) hx hb hr (fun t ht hW => ⟨(nI j_13), rfl, (lf_X8_stand_6 hM hT h999 hT0 c_1 hkn1 hw1 h01 k_2 k_4 k_6 k_8 k_10 hz_13_0 hz_13_1), ht⟩) (fun _ h => by cases h) dX8_stand_92
    by_cases k_14 : a0 = 6
    · subst k_14
      refine lv_tableIn (off := 82) (tgt := 93) hx hb dX8_stand_11 (by decide) (by decide) (by decide) (by decide) ?_
      refine lv_aload_n hx hb dX8_stand_93 rfl (lv_at hl 0 rfl) ?_
      refine lv_iconst (v := 2) hx hb dX8_stand_94 (by decide) ?_
      have hPc_15 := hP
      refine vp_callSi (W.runV (As := [.int 2]) (rest := []) ⟨hx, hb, hml, hown, hts⟩ (r_X8_those l dC dI cI cZ cL cJ mo m_la m_sz m_it m_st m_mv m_tp m_rd m_ac m_as m_wo m_ik m_ke m_tr ms mt ml mk mv mb mw mz mp ma mx fs w9 k9 h9 2 (hM)) (cwV 1 hts gX8_stand_X8_those rfl rfl rfl (by decide +kernel) ⟨Nat.le_of_ble_eq_true rfl, Nat.le_of_ble_eq_true rfl⟩) (pvP 8 0 hK hP rfl rfl hPc_15) rfl rfl hl.1 rfl (lv_room (Nat.le_of_ble_eq_true rfl)) dX8_stand_95 ⟨Nat.le_of_ble_eq_true rfl, Nat.le_of_ble_eq_true rfl⟩) (fun r_15 h_15 => ?_)
      obtain ⟨j_15, rfl, hz_15_0, hz_15_1⟩ := h_15
      exact W.iret (v := (nI j_15)) hx hb hr (fun t ht hW => ⟨(nI j_15), rfl, (lf_X8_stand_7 hM hT h999 hT0 c_1 hkn1 hw1 h01 k_2 k_4 k_6 k_8 k_10 k_12 hz_15_0 hz_15_1), ht⟩) (fun _ h => by cases h) dX8_stand_98
    have kT_2 := lv_neT k_2 (show (0 : Int32).toInt = 0 from rfl)
    have kT_4 := lv_neT k_4 (show (1 : Int32).toInt = 1 from rfl)
    have kT_6 := lv_neT k_6 (show (2 : Int32).toInt = 2 from rfl)
    have kT_8 := lv_neT k_8 (show (3 : Int32).toInt = 3 from rfl)
    have kT_10 := lv_neT k_10 (show (4 : Int32).toInt = 4 from rfl)
    have kT_12 := lv_neT k_12 (show (5 : Int32).toInt = 5 from rfl)
    have kT_14 := lv_neT k_14 (show (6 : Int32).toInt = 6 from rfl)
    refine lv_tableOut (tgt := 99) hx hb dX8_stand_11 (by omega) (by decide) ?_
    refine lv_ldc (own := RX8) (v := (-1000001)) hx hb hown (hts _ mx_X8_stand_4) dX8_stand_99 ?_
    exact W.iret (v := (-1000001)) hx hb hr (fun t ht hW => ⟨(-1000001), rfl, (lf_X8_stand_8 hM hT h999 hT0 c_1 hkn1 hw1 h01 k_2 k_4 k_6 k_8 k_10 k_12 k_14), ht⟩) (fun _ h => by cases h) dX8_stand_101
  · skip
    have h00 : fs 0 = 0 := (hT0 c_1).1
    refine lv_ldc (own := RX8) (v := (-1000002)) hx hb hown (hts _ mx_X8_stand_2) dX8_stand_7 ?_
    exact W.iret (v := (-1000002)) hx hb hr (fun t ht hW => ⟨(-1000002), rfl, (lf_X8_stand_9 hM hT h999 hT0 c_1 h00), ht⟩) (fun _ h => by cases h) dX8_stand_9
theorem lf_X8_gust_1 {mt : Int32} {ma : Nat} {fs : Nat → Int32} {w9 : Nat} {k9 : Nat} {h9 : Nat} {a0 : Int32} (hM : okM fs w9 k9 h9) (hT : ¬ mt = 0 → 1 ≤ k9) (h999 : h9 ≤ 999) (hT0 : mt = 0 → fs 0 = 0 ∧ ma = 0) (c_1 : ¬ (mt = 0)) (hkn1 : 1 ≤ k9) (hw1 : 1 ≤ w9) (h01 : ¬ fs 0 = 0) (f_2_0_0 : ((a0).toInt64 < 0 ∨ 60 < (a0).toInt64)) (q_2 : (a0 < 0 ∨ 60 < a0)) : (-1000001) = (a_gust (m38 fs) a0) := by
  have g0 := @guS_M fs w9 k9 h9 hM
  have g1 := @th_M fs w9 k9 h9 hM
  have g2 := hM.1
  have g3 := hM.2.1
  have g4 := hM.2.2.1
  have g5 := hM.2.2.2.1
  have g6 := hM.2.2.2.2.1
  simp only [a_gust, mm0, mm1, mm2, mm3, mm4, mm5, mm6, mm7] at *
  grind [nI_clamp, m38_at, sB_ok]
theorem lf_X8_gust_2 {mt : Int32} {ma : Nat} {fs : Nat → Int32} {w9 : Nat} {k9 : Nat} {h9 : Nat} {j_2 : Nat} {r_7 : Int32} (hM : okM fs w9 k9 h9) (hT : ¬ mt = 0 → 1 ≤ k9) (h999 : h9 ≤ 999) (hT0 : mt = 0 → fs 0 = 0 ∧ ma = 0) (c_1 : ¬ (mt = 0)) (hkn1 : 1 ≤ k9) (hw1 : 1 ≤ w9) (h01 : ¬ fs 0 = 0) (f_2_1_0 : (¬ (((nI j_2)).toInt64 < 0 ∨ 60 < ((nI j_2)).toInt64))) (q_2 : ¬ ((nI j_2) < 0 ∨ 60 < (nI j_2))) (hj_2 : j_2 ≤ 60) (h_7 : r_7 = (fs (8 + (h9 + j_2) % w9))) : r_7 = (a_gust (m38 fs) (nI j_2)) := by
  have g0 := @guS_M fs w9 k9 h9 hM
  have g1 := @th_M fs w9 k9 h9 hM
  have g2 := hM.1
  have g3 := hM.2.1
  have g4 := hM.2.2.1
  have g5 := hM.2.2.2.1
  have g6 := hM.2.2.2.2.1
  simp only [a_gust, mm0, mm1, mm2, mm3, mm4, mm5, mm6, mm7] at *
  grind [nI_clamp, m38_at, sB_ok]
theorem lf_X8_gust_3 {mt : Int32} {ma : Nat} {fs : Nat → Int32} {w9 : Nat} {k9 : Nat} {h9 : Nat} {a0 : Int32} (hM : okM fs w9 k9 h9) (hT : ¬ mt = 0 → 1 ≤ k9) (h999 : h9 ≤ 999) (hT0 : mt = 0 → fs 0 = 0 ∧ ma = 0) (c_1 : mt = 0) (h00 : fs 0 = 0) : (-1000002) = (a_gust (m38 fs) a0) := by
  have g0 := @guS_M fs w9 k9 h9 hM
  have g1 := @th_M fs w9 k9 h9 hM
  have g2 := hM.1
  have g3 := hM.2.1
  have g4 := hM.2.2.1
  have g5 := hM.2.2.2.1
  have g6 := hM.2.2.2.2.1
  simp only [a_gust, mm0, mm1, mm2, mm3, mm4, mm5, mm6, mm7] at *
  grind [nI_clamp, m38_at, sB_ok]
set_option maxHeartbeats 4000000 in
set_option maxRecDepth 100000 in
theorem r_X8_gust (l : Launch) (dC : Nat → ClassId) (dI : Nat → Nat → Nat) (cI cZ cL cJ : ClassId) (mo : Nat) (m_la : Nat) (m_sz : Nat) (m_it : Nat) (m_st : Nat) (m_mv : Nat) (m_tp : Nat) (m_rd : Nat) (m_ac : Nat) (m_as : Nat) (m_wo : Nat) (m_ik : Nat) (m_ke : Nat) (m_tr : Nat) (ms : Int32) (mt : Int32) (ml : Int32) (mk : Int32) (mv : Int32) (mb : Int32) (mw : Int32) (mz : Nat) (mp : Nat) (ma : Nat) (mx : Nat) (fs : Nat → Int32) (w9 : Nat) (k9 : Nat) (h9 : Nat) (a0 : Int32) (hM : okM fs w9 k9 h9) (hT : ¬ mt = 0 → 1 ≤ k9) (h999 : h9 ≤ 999) (hT0 : mt = 0 → fs 0 = 0 ∧ ma = 0) : Met l yX8_gust wsX8_gust ({ frames := 1, cells := 0, slots := 0, locals := 25 }) (va_Pc [.ref mo, .int a0] (fun U => va_P (dC, dI) vwCl [(xo_8_rrriirrriiiiiiirrirrrrri mo m_la m_sz m_it ms mt m_st m_mv m_tp (nI mz) ml (nI mp) mk mv mb mw m_rd m_ac (nI ma) m_as m_wo m_ik m_ke m_tr (nI mx)), (xI m_st cI 38 fs)] U.heap ∧ va_K (dC, dI) vwCl [(cI, .int), (cZ, .boolean), (cL, .object RX3), (cJ, .array .int)] U)) (vp_Si (fun r => r = (a_gust (m38 fs) a0))) 0 0 (fun _ => False) := by
  refine Met.ofW (cc := cX8_gust) (maxL := 2) (ret := (some .int)) (by decide) rfl ?_
  intro p e s m args below meth c s₁ B hml hv
  obtain ⟨rfl, hP, hK⟩ := hv
  have hx := B.exec
  have hb := B.bytes
  have hr := B.returns
  have hts := atoms_spec (ws := wsX8_gust) B.pre
  have hown : s.vm.findClass RX8 = some m.cls := findClass_of_methodNamed B.named
  have hlocks := B.notSynchronized
  have hP : va_P (dC, dI) vwCl [(xo_8_rrriirrriiiiiiirrirrrrri mo m_la m_sz m_it ms mt m_st m_mv m_tp (nI mz) ml (nI mp) mk mv mb mw m_rd m_ac (nI ma) m_as m_wo m_ik m_ke m_tr (nI mx)), (xI m_st cI 38 fs)] s.heap := hP
  have hl := lv_entry ([.ref mo, .int a0]) (n := 2) (Nat.le_of_ble_eq_true rfl)
  rw [lg_entry_eq]
  generalize (lg_sl ([.ref mo, .int a0]) ++ List.replicate (2 - (lg_sl ([.ref mo, .int a0])).length) Slot.unset).toArray = ls at hl ⊢
  have hl : lv_has ls 2 [(0, .ref mo), (1, .int a0)] := hl
  have hk6 := hM.2.2.2.2.1
  have hw6 := hM.2.2.2.1
  refine lv_aload_n hx hb dX8_gust_0 rfl (lv_at hl 0 rfl) ?_
  refine va_get (D := (dC, dI)) (ci := 8) (v := .int mt) (C := RX8) (T := TX8) (N := 24) hx hb hts i_X8_gust_X8 hown hK hP 0 rfl rfl 4 (by decide) (hts _ mx_X8_gust_1) (fun _ h9 => h9) rfl dX8_gust_1 ?_
  refine lv_if_ne (tgt := 12) hx hb dX8_gust_4 (by decide) (fun c_1 => ?_) (fun c_1 => ?_)
  · skip
    have hkn1 := hT c_1
    have hw1 := hM.2.2.2.2.2.1.mp hkn1
    have h01 : ¬ fs 0 = 0 := cell_nz hM hkn1
    refine lv_iload_n hx hb dX8_gust_12 rfl (lv_at hl 1 rfl) ?_
    refine lv_i2l hx hb dX8_gust_13 rfl ?_
    refine lv_lconst (v := 0) hx hb dX8_gust_14 (by decide) ?_
    refine lv_ldc2 (own := RX8) (v := 60) hx hb hown (hts _ mx_X8_gust_3) dX8_gust_15 ?_
    have hPc_2 := hP.sub (ws' := []) [] rfl
    refine vp_callSi (W.runS (As := [.long (a0).toInt64, .long 0, .long 60]) (rest := []) ⟨hx, hb, hml, hown, hts⟩ (r_X8_in l dC dI cI cZ cL cJ ((a0).toInt64) 0 60 ) (va_cwS 3 hts gX8_gust_X8_in rfl rfl rfl (by decide +kernel) ⟨Nat.le_of_ble_eq_true rfl, Nat.le_of_ble_eq_true rfl⟩) (psP hK hPc_2) rfl rfl hl.1 rfl (lv_room (Nat.le_of_ble_eq_true rfl)) dX8_gust_18 ⟨Nat.le_of_ble_eq_true rfl, Nat.le_of_ble_eq_true rfl⟩) (fun r_2 h_2 => ?_)
    rcases h_2 with ⟨h_2, f_2_0_0⟩ | ⟨h_2, f_2_1_0⟩
    · subst h_2
      have q_2 : (a0 < 0 ∨ 60 < a0) := (in32 (x := a0) (l := 0) (u := 60) (by decide) (by decide)).mp f_2_0_0
      refine lv_if_eq (tgt := 39) hx hb dX8_gust_21 (by decide) (fun _ => ?_) (fun c_ => absurd (by decide) c_)
      refine lv_ldc (own := RX8) (v := (-1000001)) hx hb hown (hts _ mx_X8_gust_5) dX8_gust_39 ?_
      exact W.iret (v := (-1000001)) hx hb hr (fun t ht hW => ⟨(-1000001), rfl, (lf_X8_gust_1 hM hT h999 hT0 c_1 hkn1 hw1 h01 f_2_0_0 q_2), ht⟩) (fun _ h => by cases h) dX8_gust_41
    · subst h_2
      have q_2 : ¬ (a0 < 0 ∨ 60 < a0) := fun q_ => f_2_1_0 ((in32 (x := a0) (l := 0) (u := 60) (by decide) (by decide)).mpr q_)
      obtain ⟨j_2, hj_2, hl_2, rfl⟩ := in64 (lo := 0) (n := 60) rfl rfl (by decide) f_2_1_0
      refine lv_if_eq (tgt := 39) hx hb dX8_gust_21 (by decide) (fun c_ => absurd c_ (by decide)) (fun _ => ?_)
      refine lv_aload_n hx hb dX8_gust_24 rfl (lv_at hl 0 rfl) ?_
      refine lv_aload_n hx hb dX8_gust_25 rfl (lv_at hl 0 rfl) ?_
      refine va_get (D := (dC, dI)) (ci := 8) (v := .ref m_st) (C := RX8) (T := TX8) (N := 24) hx hb hts i_X8_gust_X8 hown hK hP 0 rfl rfl 5 (by decide) (hts _ mx_X8_gust_4) (fun _ h9 => h9) rfl dX8_gust_26 ?_
      refine lv_iconst (v := 5) hx hb dX8_gust_29 (by decide) ?_
      refine va_iald hx hb hK hP 1 0 rfl rfl (by unfold vp_in; decide) dX8_gust_30 ?_
      refine lv_topi (fun v_5 e_5 => ?_)
      obtain rfl : v_5 = (nI h9) := (e_5).trans hM.2.2.1
      refine lv_iload_n hx hb dX8_gust_31 rfl (lv_at hl 1 rfl) ?_
      refine lv_iadd hx hb dX8_gust_32 ?_
      refine lv_topi (fun v_6 e_6 => ?_)
      obtain rfl : v_6 = (nI (h9 + j_2)) := (e_6).trans (nI_add h9 j_2)
      have hPc_7 := hP
      refine vp_callSi (W.runV (As := [.int (nI (h9 + j_2))]) (rest := []) ⟨hx, hb, hml, hown, hts⟩ (r_X8_gustOf l dC dI cI cZ cL cJ mo m_la m_sz m_it m_st m_mv m_tp m_rd m_ac m_as m_wo m_ik m_ke m_tr ms mt ml mk mv mb mw mz mp ma mx fs w9 k9 h9 (h9 + j_2) (hM) (by omega) (by omega)) (cwV 1 hts gX8_gust_X8_gustOf rfl rfl rfl (by decide +kernel) ⟨Nat.le_of_ble_eq_true rfl, Nat.le_of_ble_eq_true rfl⟩) (pvP 8 0 hK hP rfl rfl hPc_7) rfl rfl hl.1 rfl (lv_room (Nat.le_of_ble_eq_true rfl)) dX8_gust_33 ⟨Nat.le_of_ble_eq_true rfl, Nat.le_of_ble_eq_true rfl⟩) (fun r_7 h_7 => ?_)
      refine lv_goto (tgt := 41) hx hb dX8_gust_36 (by decide) ?_
      exact W.iret (v := r_7) hx hb hr (fun t ht hW => ⟨r_7, rfl, (lf_X8_gust_2 hM hT h999 hT0 c_1 hkn1 hw1 h01 f_2_1_0 q_2 hj_2 h_7), ht⟩) (fun _ h => by cases h) dX8_gust_41
  · skip
    have h00 : fs 0 = 0 := (hT0 c_1).1
    refine lv_ldc (own := RX8) (v := (-1000002)) hx hb hown (hts _ mx_X8_gust_2) dX8_gust_7 ?_
    refine lv_goto (tgt := 41) hx hb dX8_gust_9 (by decide) ?_
    exact W.iret (v := (-1000002)) hx hb hr (fun t ht hW => ⟨(-1000002), rfl, (lf_X8_gust_3 hM hT h999 hT0 c_1 h00), ht⟩) (fun _ h => by cases h) dX8_gust_41
theorem lf_X8_kind_1 {mt : Int32} {ma : Nat} {fs : Nat → Int32} {w9 : Nat} {k9 : Nat} {h9 : Nat} {a0 : Int32} (hM : okM fs w9 k9 h9) (hT : ¬ mt = 0 → 1 ≤ k9) (h999 : h9 ≤ 999) (hT0 : mt = 0 → fs 0 = 0 ∧ ma = 0) (f_1_0_0 : ¬ sB (nI k9) a0) : (-1000001) = (a_kind (m38 fs) a0) := by
  have g0 := @guS_M fs w9 k9 h9 hM
  have g1 := @th_M fs w9 k9 h9 hM
  have g2 := hM.1
  have g3 := hM.2.1
  have g4 := hM.2.2.1
  have g5 := hM.2.2.2.1
  have g6 := hM.2.2.2.2.1
  simp only [a_kind, mm0, mm1, mm2, mm3, mm4, mm5, mm6, mm7] at *
  grind [nI_clamp, m38_at, sB_ok]
theorem lf_X8_kind_2 {mt : Int32} {ma : Nat} {fs : Nat → Int32} {w9 : Nat} {k9 : Nat} {h9 : Nat} {j_1 : Nat} {v_6 : Int32} (hM : okM fs w9 k9 h9) (hT : ¬ mt = 0 → 1 ≤ k9) (h999 : h9 ≤ 999) (hT0 : mt = 0 → fs 0 = 0 ∧ ma = 0) (hj_1 : j_1 < k9) (hkn1 : 1 ≤ k9) (hw1 : 1 ≤ w9) (h01 : ¬ fs 0 = 0) (e_6 : v_6 = fs (14 + j_1)) : v_6 = (a_kind (m38 fs) (nI j_1)) := by
  have g0 := @guS_M fs w9 k9 h9 hM
  have g1 := @th_M fs w9 k9 h9 hM
  have g2 := hM.1
  have g3 := hM.2.1
  have g4 := hM.2.2.1
  have g5 := hM.2.2.2.1
  have g6 := hM.2.2.2.2.1
  simp only [a_kind, mm0, mm1, mm2, mm3, mm4, mm5, mm6, mm7] at *
  grind [nI_clamp, m38_at, sB_ok]
set_option maxHeartbeats 4000000 in
set_option maxRecDepth 100000 in
theorem r_X8_kind (l : Launch) (dC : Nat → ClassId) (dI : Nat → Nat → Nat) (cI cZ cL cJ : ClassId) (mo : Nat) (m_la : Nat) (m_sz : Nat) (m_it : Nat) (m_st : Nat) (m_mv : Nat) (m_tp : Nat) (m_rd : Nat) (m_ac : Nat) (m_as : Nat) (m_wo : Nat) (m_ik : Nat) (m_ke : Nat) (m_tr : Nat) (ms : Int32) (mt : Int32) (ml : Int32) (mk : Int32) (mv : Int32) (mb : Int32) (mw : Int32) (mz : Nat) (mp : Nat) (ma : Nat) (mx : Nat) (fs : Nat → Int32) (w9 : Nat) (k9 : Nat) (h9 : Nat) (a0 : Int32) (hM : okM fs w9 k9 h9) (hT : ¬ mt = 0 → 1 ≤ k9) (h999 : h9 ≤ 999) (hT0 : mt = 0 → fs 0 = 0 ∧ ma = 0) : Met l yX8_kind wsX8_kind ({ frames := 2, cells := 0, slots := 0, locals := 46 }) (va_Pc [.ref mo, .int a0] (fun U => va_P (dC, dI) vwCl [(xo_8_rrriirrriiiiiiirrirrrrri mo m_la m_sz m_it ms mt m_st m_mv m_tp (nI mz) ml (nI mp) mk mv mb mw m_rd m_ac (nI ma) m_as m_wo m_ik m_ke m_tr (nI mx)), (xI m_st cI 38 fs)] U.heap ∧ va_K (dC, dI) vwCl [(cI, .int), (cZ, .boolean), (cL, .object RX3), (cJ, .array .int)] U)) (vp_Si (fun r => r = (a_kind (m38 fs) a0))) 0 0 (fun _ => False) := by
  refine Met.ofW (cc := cX8_kind) (maxL := 2) (ret := (some .int)) (by decide) rfl ?_
  intro p e s m args below meth c s₁ B hml hv
  obtain ⟨rfl, hP, hK⟩ := hv
  have hx := B.exec
  have hb := B.bytes
  have hr := B.returns
  have hts := atoms_spec (ws := wsX8_kind) B.pre
  have hown : s.vm.findClass RX8 = some m.cls := findClass_of_methodNamed B.named
  have hlocks := B.notSynchronized
  have hP : va_P (dC, dI) vwCl [(xo_8_rrriirrriiiiiiirrirrrrri mo m_la m_sz m_it ms mt m_st m_mv m_tp (nI mz) ml (nI mp) mk mv mb mw m_rd m_ac (nI ma) m_as m_wo m_ik m_ke m_tr (nI mx)), (xI m_st cI 38 fs)] s.heap := hP
  have hl := lv_entry ([.ref mo, .int a0]) (n := 2) (Nat.le_of_ble_eq_true rfl)
  rw [lg_entry_eq]
  generalize (lg_sl ([.ref mo, .int a0]) ++ List.replicate (2 - (lg_sl ([.ref mo, .int a0])).length) Slot.unset).toArray = ls at hl ⊢
  have hl : lv_has ls 2 [(0, .ref mo), (1, .int a0)] := hl
  have hk6 := hM.2.2.2.2.1
  have hw6 := hM.2.2.2.1
  refine lv_aload_n hx hb dX8_kind_0 rfl (lv_at hl 0 rfl) ?_
  refine lv_iload_n hx hb dX8_kind_1 rfl (lv_at hl 1 rfl) ?_
  have hPc_1 := hP
  refine vp_callSi (W.runV (As := [.int a0]) (rest := []) ⟨hx, hb, hml, hown, hts⟩ (r_X8_isSound l dC dI cI cZ cL cJ mo m_la m_sz m_it m_st m_mv m_tp m_rd m_ac m_as m_wo m_ik m_ke m_tr ms mt ml mk mv mb mw mz mp ma mx fs w9 k9 h9 a0 (hM)) (cwV 1 hts gX8_kind_X8_isSound rfl rfl rfl (by decide +kernel) ⟨Nat.le_of_ble_eq_true rfl, Nat.le_of_ble_eq_true rfl⟩) (pvP 8 0 hK hP rfl rfl hPc_1) rfl rfl hl.1 rfl (lv_room (Nat.le_of_ble_eq_true rfl)) dX8_kind_2 ⟨Nat.le_of_ble_eq_true rfl, Nat.le_of_ble_eq_true rfl⟩) (fun r_1 h_1 => ?_)
  rcases h_1 with ⟨h_1, f_1_0_0⟩ | ⟨h_1, f_1_1_0⟩
  · subst h_1
    refine lv_if_eq (tgt := 20) hx hb dX8_kind_5 (by decide) (fun _ => ?_) (fun c_ => absurd (by decide) c_)
    refine lv_ldc (own := RX8) (v := (-1000001)) hx hb hown (hts _ mx_X8_kind_2) dX8_kind_20 ?_
    exact W.iret (v := (-1000001)) hx hb hr (fun t ht hW => ⟨(-1000001), rfl, (lf_X8_kind_1 hM hT h999 hT0 f_1_0_0), ht⟩) (fun _ h => by cases h) dX8_kind_22
  · subst h_1
    obtain ⟨j_1, hj_1, rfl⟩ := vp_in_of f_1_1_0 (by omega)
    have hkn1 : 1 ≤ k9 := by omega
    have hw1 := hM.2.2.2.2.2.1.mp hkn1
    have h01 : ¬ fs 0 = 0 := cell_nz hM hkn1
    refine lv_if_eq (tgt := 20) hx hb dX8_kind_5 (by decide) (fun c_ => absurd c_ (by decide)) (fun _ => ?_)
    refine lv_aload_n hx hb dX8_kind_8 rfl (lv_at hl 0 rfl) ?_
    refine va_get (D := (dC, dI)) (ci := 8) (v := .ref m_st) (C := RX8) (T := TX8) (N := 24) hx hb hts i_X8_kind_X8 hown hK hP 0 rfl rfl 5 (by decide) (hts _ mx_X8_kind_1) (fun _ h9 => h9) rfl dX8_kind_9 ?_
    refine lv_bipush (v := 14) hx hb dX8_kind_12 (by decide) ?_
    refine lv_iload_n hx hb dX8_kind_14 rfl (lv_at hl 1 rfl) ?_
    refine lv_iadd hx hb dX8_kind_15 ?_
    refine lv_topi (fun v_5 e_5 => ?_)
    obtain rfl : v_5 = (nI (14 + j_1)) := (e_5).trans (nI_add 14 j_1)
    refine va_iald hx hb hK hP 1 0 rfl rfl (vp_in_nI (by omega) (by omega)) dX8_kind_16 ?_
    refine lv_topi (fun v_6 e_6 => ?_)
    have e_6 : v_6 = fs (14 + j_1) := e_6.trans (congrArg fs (nI_clamp (by omega)))
    refine lv_goto (tgt := 22) hx hb dX8_kind_17 (by decide) ?_
    exact W.iret (v := v_6) hx hb hr (fun t ht hW => ⟨v_6, rfl, (lf_X8_kind_2 hM hT h999 hT0 hj_1 hkn1 hw1 h01 e_6), ht⟩) (fun _ h => by cases h) dX8_kind_22
theorem lf_X8_goTurning_1 {fs : Nat → Int32} {w9 : Nat} {k9 : Nat} {h9 : Nat} {j : Nat} {n : Int32} {v_1 : Int32} {w_13 : Int32} {w_14 : Nat → Int32} {ii : Nat} {v_29 : Int32} {v_30 : Int32} {v_31 : Int32} {v_33 : Int32} {g_34 : Nat → Int32} {fsn_35 : Nat → Int32} (hM : okM fs w9 k9 h9) (hw1 : 1 ≤ w9) (hh9 : h9 < 1000000000) (hj : j ≤ 1000) (e_1 : v_1 = ((nI j) - 1)) (hii : ii < j) (haf_0 : (gtI n j ii (fs, 0) = (w_14, w_13))) (hMl : okM w_14 w9 k9 (h9 + ii)) (e_29 : v_29 = ((n : Int32) >>> (((cdn j ii) : Int32) &&& 31))) (e_30 : v_30 = (v_29 &&& 1)) (e_31 : v_31 = w_14 6) (c_32 : ¬ (v_30 = v_31)) (e_33 : v_33 = (w_13 + 1)) (hu_34 : g_34 = upd w_14 6 v_30) (hF_35_0 : okM fsn_35 w9 k9 ((h9 + ii) + 1)) (hF_35_1 : fsn_35 = mH g_34) : gtI n j (ii + 1) (fs, 0) = (fsn_35, v_33) := by
  exact gt_st haf_0 e_29 e_30 e_31 (tn_n c_32) e_33 hu_34 hF_35_1
theorem lf_X8_goTurning_2 {fs : Nat → Int32} {w9 : Nat} {k9 : Nat} {h9 : Nat} {j : Nat} {n : Int32} {v_1 : Int32} {w_13 : Int32} {w_14 : Nat → Int32} {ii : Nat} {v_29 : Int32} {v_30 : Int32} {v_31 : Int32} {v_36 : Int32} {g_37 : Nat → Int32} {fsn_38 : Nat → Int32} (hM : okM fs w9 k9 h9) (hw1 : 1 ≤ w9) (hh9 : h9 < 1000000000) (hj : j ≤ 1000) (e_1 : v_1 = ((nI j) - 1)) (hii : ii < j) (haf_0 : (gtI n j ii (fs, 0) = (w_14, w_13))) (hMl : okM w_14 w9 k9 (h9 + ii)) (e_29 : v_29 = ((n : Int32) >>> (((cdn j ii) : Int32) &&& 31))) (e_30 : v_30 = (v_29 &&& 1)) (e_31 : v_31 = w_14 6) (c_32 : v_30 = v_31) (e_36 : v_36 = (w_13 + 0)) (hu_37 : g_37 = upd w_14 6 v_30) (hF_38_0 : okM fsn_38 w9 k9 ((h9 + ii) + 1)) (hF_38_1 : fsn_38 = mH g_37) : gtI n j (ii + 1) (fs, 0) = (fsn_38, v_36) := by
  exact gt_st haf_0 e_29 e_30 e_31 (tn_y c_32) e_36 hu_37 hF_38_1
theorem lf_X8_goTurning_3 {fs : Nat → Int32} {w9 : Nat} {k9 : Nat} {h9 : Nat} {j : Nat} {n : Int32} {v_1 : Int32} {w_13 : Int32} {w_14 : Nat → Int32} (hM : okM fs w9 k9 h9) (hw1 : 1 ≤ w9) (hh9 : h9 < 1000000000) (hj : j ≤ 1000) (e_1 : v_1 = ((nI j) - 1)) (haf_0 : (gtI n j j (fs, 0) = (w_14, w_13))) (hMl : okM w_14 w9 k9 (h9 + j)) : w_14 = (gtI n j j (fs, 0)).1 := by
  first
  | exact (congrArg Prod.fst haf_0).symm
  | exact (congrArg Prod.snd haf_0).symm
theorem lf_X8_goTurning_4 {fs : Nat → Int32} {w9 : Nat} {k9 : Nat} {h9 : Nat} {j : Nat} {n : Int32} {v_1 : Int32} {w_13 : Int32} {w_14 : Nat → Int32} (hM : okM fs w9 k9 h9) (hw1 : 1 ≤ w9) (hh9 : h9 < 1000000000) (hj : j ≤ 1000) (e_1 : v_1 = ((nI j) - 1)) (haf_0 : (gtI n j j (fs, 0) = (w_14, w_13))) (hMl : okM w_14 w9 k9 (h9 + j)) : w_13 = ((gtI n j j (fs, 0)).2) := by
  first
  | exact (congrArg Prod.fst haf_0).symm
  | exact (congrArg Prod.snd haf_0).symm
set_option maxHeartbeats 4000000 in
set_option maxRecDepth 100000 in
theorem r_X8_goTurning (l : Launch) (dC : Nat → ClassId) (dI : Nat → Nat → Nat) (cI cZ cL cJ : ClassId) (sz : Nat) (mo : Nat) (m_la : Nat) (m_sz : Nat) (m_it : Nat) (m_st : Nat) (m_mv : Nat) (m_tp : Nat) (m_rd : Nat) (m_ac : Nat) (m_as : Nat) (m_wo : Nat) (m_ik : Nat) (m_ke : Nat) (m_tr : Nat) (ms : Int32) (mt : Int32) (ml : Int32) (mk : Int32) (mv : Int32) (mb : Int32) (mw : Int32) (mz : Nat) (mp : Nat) (ma : Nat) (mx : Nat) (fs : Nat → Int32) (w9 : Nat) (k9 : Nat) (h9 : Nat) (j : Nat) (n : Int32) (hM : okM fs w9 k9 h9) (hw1 : 1 ≤ w9) (hh9 : h9 < 1000000000) (hj : j ≤ 1000) : Met l yX8_goTurning wsX8_goTurning ({ frames := 4, cells := 0, slots := 0, locals := 95 }) (va_Pc [.ref mo, .int n, .int (nI j)] (fun U => U.heap.size = sz ∧ va_P (dC, dI) vwCl [(xo_8_rrriirrriiiiiiirrirrrrri mo m_la m_sz m_it ms mt m_st m_mv m_tp (nI mz) ml (nI mp) mk mv mb mw m_rd m_ac (nI ma) m_as m_wo m_ik m_ke m_tr (nI mx)), (xI m_st cI 38 fs)] U.heap ∧ va_K (dC, dI) vwCl [(cI, .int), (cZ, .boolean), (cL, .object RX3), (cJ, .array .int)] U ∧ va_D (fun _ => True) [(xo_8_rrriirrriiiiiiirrirrrrri mo m_la m_sz m_it ms mt m_st m_mv m_tp (nI mz) ml (nI mp) mk mv mb mw m_rd m_ac (nI ma) m_as m_wo m_ik m_ke m_tr (nI mx)), (xI m_st cI 38 fs)])) (va_Qi (fun r (_ : Unit) => r = ((gtI n j j (fs, 0)).2)) (fun (_ : Unit) t => ∃ (fsn : Nat → Int32), va_P (dC, dI) vwCl [(xo_8_rrriirrriiiiiiirrirrrrri mo m_la m_sz m_it ms mt m_st m_mv m_tp (nI mz) ml (nI mp) mk mv mb mw m_rd m_ac (nI ma) m_as m_wo m_ik m_ke m_tr (nI mx)), (xI m_st cI 38 fsn)] t.heap ∧ va_D (va_A [(xo_8_rrriirrriiiiiiirrirrrrri mo m_la m_sz m_it ms mt m_st m_mv m_tp (nI mz) ml (nI mp) mk mv mb mw m_rd m_ac (nI ma) m_as m_wo m_ik m_ke m_tr (nI mx)), (xI m_st cI 38 fs)] sz) [(xo_8_rrriirrriiiiiiirrirrrrri mo m_la m_sz m_it ms mt m_st m_mv m_tp (nI mz) ml (nI mp) mk mv mb mw m_rd m_ac (nI ma) m_as m_wo m_ik m_ke m_tr (nI mx)), (xI m_st cI 38 fsn)] ∧ okM fsn w9 k9 (h9 + j) ∧ fsn = (gtI n j j (fs, 0)).1) (va_A [(xo_8_rrriirrriiiiiiirrirrrrri mo m_la m_sz m_it ms mt m_st m_mv m_tp (nI mz) ml (nI mp) mk mv mb mw m_rd m_ac (nI ma) m_as m_wo m_ik m_ke m_tr (nI mx)), (xI m_st cI 38 fs)] sz)) 0 0 (va_A [(xo_8_rrriirrriiiiiiirrirrrrri mo m_la m_sz m_it ms mt m_st m_mv m_tp (nI mz) ml (nI mp) mk mv mb mw m_rd m_ac (nI ma) m_as m_wo m_ik m_ke m_tr (nI mx)), (xI m_st cI 38 fs)] sz) := by
  refine Met.ofW (cc := cX8_goTurning) (maxL := 6) (ret := (some .int)) (by decide) rfl ?_
  intro p e s m args below meth c s₁ B hml hv
  obtain ⟨rfl, hsz, hP, hK, hD0⟩ := hv
  have hx := B.exec
  have hb := B.bytes
  have hr := B.returns
  have hts := atoms_spec (ws := wsX8_goTurning) B.pre
  have hown : s.vm.findClass RX8 = some m.cls := findClass_of_methodNamed B.named
  have hlocks := B.notSynchronized
  subst hsz
  have hD := hD0.self (sz := s.heap.size)
  generalize hAe : va_A [(xo_8_rrriirrriiiiiiirrirrrrri mo m_la m_sz m_it ms mt m_st m_mv m_tp (nI mz) ml (nI mp) mk mv mb mw m_rd m_ac (nI ma) m_as m_wo m_ik m_ke m_tr (nI mx)), (xI m_st cI 38 fs)] s.heap.size = A at hD ⊢
  have hA : ∀ q : Nat, s.heap.size ≤ q → A q := fun q h => by rw [← hAe]; exact Or.inr h
  have hS : va_S A s.heap s.heap [] := va_S.rf
  have hP : va_P (dC, dI) vwCl [(xo_8_rrriirrriiiiiiirrirrrrri mo m_la m_sz m_it ms mt m_st m_mv m_tp (nI mz) ml (nI mp) mk mv mb mw m_rd m_ac (nI ma) m_as m_wo m_ik m_ke m_tr (nI mx)), (xI m_st cI 38 fs)] s.heap := hP
  have hl := lv_entry ([.ref mo, .int n, .int (nI j)]) (n := 6) (Nat.le_of_ble_eq_true rfl)
  rw [lg_entry_eq]
  generalize (lg_sl ([.ref mo, .int n, .int (nI j)]) ++ List.replicate (6 - (lg_sl ([.ref mo, .int n, .int (nI j)])).length) Slot.unset).toArray = ls at hl ⊢
  have hl : lv_has ls 6 [(0, .ref mo), (1, .int n), (2, .int (nI j))] := hl
  have hk6 := hM.2.2.2.2.1
  have hw6 := hM.2.2.2.1
  refine lv_iconst (v := 0) hx hb dX8_goTurning_0 (by decide) ?_
  refine lv_istore_n (lv' := [(3, .int 0), (0, .ref mo), (1, .int n), (2, .int (nI j))]) hx hb dX8_goTurning_1 rfl hl (by decide) rfl (fun ls hl => ?_)
  refine lv_iload_n hx hb dX8_goTurning_2 rfl (lv_at hl 3 rfl) ?_
  refine lv_iconst (v := 1) hx hb dX8_goTurning_3 (by decide) ?_
  refine lv_isub hx hb dX8_goTurning_4 ?_
  refine lv_topi (fun v_1 e_1 => ?_)
  obtain rfl : v_1 = cdn j 0 := e_1.trans (cdn_0 j)
  refine lv_istore (lv' := [(4, .int (cdn j 0)), (3, .int 0), (0, .ref mo), (1, .int n), (2, .int (nI j))]) hx hb dX8_goTurning_5 hl (by decide) rfl (fun ls hl => ?_)
  refine lp_go (σ := (Int32) × (Nat → Int32)) (fun ii (st : (Int32) × (Nat → Int32)) H locs ls => match st with | (w_13, w_14) => lv_has ls 6 [(4, .int (cdn j ii)), (3, .int w_13), (0, .ref mo), (1, .int n), (2, .int (nI j))] ∧ va_P (dC, dI) vwCl [(xo_8_rrriirrriiiiiiirrirrrrri mo m_la m_sz m_it ms mt m_st m_mv m_tp (nI mz) ml (nI mp) mk mv mb mw m_rd m_ac (nI ma) m_as m_wo m_ik m_ke m_tr (nI mx)), (xI m_st cI 38 w_14)] H ∧ va_D A [(xo_8_rrriirrriiiiiiirrirrrrri mo m_la m_sz m_it ms mt m_st m_mv m_tp (nI mz) ml (nI mp) mk mv mb mw m_rd m_ac (nI ma) m_as m_wo m_ik m_ke m_tr (nI mx)), (xI m_st cI 38 w_14)] ∧ va_S A s.heap H locs ∧ okM w_14 w9 k9 (h9 + ii) ∧ (gtI n j ii (fs, 0) = (w_14, w_13))) j ?_ ?_ 0 (by omega) (0, fs) ⟨lv_sub hl [0, 1, 2, 3, 4] rfl, hP.sub (ws' := [(xo_8_rrriirrriiiiiiirrirrrrri mo m_la m_sz m_it ms mt m_st m_mv m_tp (nI mz) ml (nI mp) mk mv mb mw m_rd m_ac (nI ma) m_as m_wo m_ik m_ke m_tr (nI mx)), (xI m_st cI 38 fs)]) [0, 1] rfl, hD.sub (ws' := [(xo_8_rrriirrriiiiiiirrirrrrri mo m_la m_sz m_it ms mt m_st m_mv m_tp (nI mz) ml (nI mp) mk mv mb mw m_rd m_ac (nI ma) m_as m_wo m_ik m_ke m_tr (nI mx)), (xI m_st cI 38 fs)]) [0, 1] (by decide +kernel) rfl, hS, hM, rfl⟩
  · rintro ii ⟨w_13, w_14⟩ H locs ls hii ⟨hl, hP, hD, hS, hMl, haf_0⟩ ih
    refine lv_iload hx hb dX8_goTurning_7 (lv_at hl 0 rfl) ?_
    refine lv_if_lt (tgt := 60) hx hb dX8_goTurning_9 (by decide) (fun c_ => absurd c_ (cdn_lt (by omega) hii)) (fun _ => ?_)
    refine lv_iload_n hx hb dX8_goTurning_12 rfl (lv_at hl 3 rfl) ?_
    refine lv_iload hx hb dX8_goTurning_13 (lv_at hl 0 rfl) ?_
    refine lv_ishr hx hb dX8_goTurning_15 ?_
    refine lv_topi (fun v_29 e_29 => ?_)
    refine lv_iconst (v := 1) hx hb dX8_goTurning_16 (by decide) ?_
    refine lv_iand hx hb dX8_goTurning_17 ?_
    refine lv_topi (fun v_30 e_30 => ?_)
    refine lv_istore (lv' := [(5, .int v_30), (4, .int (cdn j ii)), (3, .int w_13), (0, .ref mo), (1, .int n), (2, .int (nI j))]) hx hb dX8_goTurning_18 hl (by decide) rfl (fun ls hl => ?_)
    refine lv_iload_n hx hb dX8_goTurning_20 rfl (lv_at hl 2 rfl) ?_
    refine lv_iload hx hb dX8_goTurning_21 (lv_at hl 0 rfl) ?_
    refine lv_aload_n hx hb dX8_goTurning_23 rfl (lv_at hl 3 rfl) ?_
    refine va_get (D := (dC, dI)) (ci := 8) (v := .ref m_st) (C := RX8) (T := TX8) (N := 24) hx hb hts i_X8_goTurning_X8 hown hK hP 0 rfl rfl 5 (by decide) (hts _ mx_X8_goTurning_1) (fun _ h9 => h9) rfl dX8_goTurning_24 ?_
    refine lv_bipush (v := 6) hx hb dX8_goTurning_27 (by decide) ?_
    refine va_iald hx hb hK hP 1 0 rfl rfl (by unfold vp_in; decide) dX8_goTurning_29 ?_
    refine lv_topi (fun v_31 e_31 => ?_)
    have e_31 : v_31 = w_14 6 := e_31
    refine lv_icmp_ne (tgt := 37) hx hb dX8_goTurning_30 (by decide) (fun c_32 => ?_) (fun c_32 => ?_)
    · skip
      refine lv_iconst (v := 1) hx hb dX8_goTurning_37 (by decide) ?_
      refine lv_iadd hx hb dX8_goTurning_38 ?_
      refine lv_topi (fun v_33 e_33 => ?_)
      refine lv_istore_n (lv' := [(3, .int v_33), (5, .int v_30), (4, .int (cdn j ii)), (0, .ref mo), (1, .int n), (2, .int (nI j))]) hx hb dX8_goTurning_39 rfl hl (by decide) rfl (fun ls hl => ?_)
      refine lv_aload_n hx hb dX8_goTurning_40 rfl (lv_at hl 3 rfl) ?_
      refine va_get (D := (dC, dI)) (ci := 8) (v := .ref m_st) (C := RX8) (T := TX8) (N := 24) hx hb hts i_X8_goTurning_X8 hown hK hP 0 rfl rfl 5 (by decide) (hts _ mx_X8_goTurning_1) (fun _ h9 => h9) rfl dX8_goTurning_41 ?_
      refine lv_bipush (v := 6) hx hb dX8_goTurning_44 (by decide) ?_
      refine lv_iload hx hb dX8_goTurning_46 (lv_at hl 1 rfl) ?_
      refine va_iast hx hb hK hP hD hS 1 0 rfl rfl (by unfold vp_in; decide) dX8_goTurning_48 (fun H locs hP hD hS => ?_)
      generalize hg_34 : upd w_14 (6 : Int32).toNatClampNeg v_30 = g_34 at hP hD
      have hu_34 : g_34 = upd w_14 6 v_30 := hg_34.symm
      have hM_34 : okM g_34 w9 k9 (h9 + ii) := okM_off (i := 6) hMl hg_34 (by omega) (by omega) (by omega) (by omega) (by omega)
      have hP : va_P (dC, dI) vwCl [(xo_8_rrriirrriiiiiiirrirrrrri mo m_la m_sz m_it ms mt m_st m_mv m_tp (nI mz) ml (nI mp) mk mv mb mw m_rd m_ac (nI ma) m_as m_wo m_ik m_ke m_tr (nI mx)), (xI m_st cI 38 g_34)] H := hP
      have hD := dto hP hD
      refine lv_aload_n hx hb dX8_goTurning_49 rfl (lv_at hl 3 rfl) ?_
      have hc_35 := cutW (wc := [(xo_8_rrriirrriiiiiiirrirrrrri mo m_la m_sz m_it ms mt m_st m_mv m_tp (nI mz) ml (nI mp) mk mv mb mw m_rd m_ac (nI ma) m_as m_wo m_ik m_ke m_tr (nI mx)), (xI m_st cI 38 g_34)]) hP hD hS hA [0, 1] (by decide +kernel) rfl
      refine va_calli (va_runV (As := []) (rest := []) ⟨hx, hb, hml, hown, hts⟩ (r_X8_oneHour l dC dI cI cZ cL cJ H.size mo m_la m_sz m_it m_st m_mv m_tp m_rd m_ac m_as m_wo m_ik m_ke m_tr ms mt ml mk mv mb mw mz mp ma mx g_34 w9 k9 (h9 + ii) (hM_34) (by omega) (by omega)) (cwV 0 hts gX8_goTurning_X8_oneHour rfl rfl rfl (by decide +kernel) ⟨Nat.le_of_ble_eq_true rfl, Nat.le_of_ble_eq_true rfl⟩) (pvW 8 0 hK hP rfl rfl hc_35) rfl rfl hl.1 rfl (lv_room (Nat.le_of_ble_eq_true rfl)) dX8_goTurning_50 ⟨Nat.le_of_ble_eq_true rfl, Nat.le_of_ble_eq_true rfl⟩) hS (fun q _ h => hc_35.2.2 q h) hc_35.2.2 (fun r_35 u_35 t_35 H1 locs ht hvm h_35 hB hz1 hk1 hS => ?_)
      refine xl_1_4 hB (fun fsn_35 hP1 hD1 hF_35_0 hF_35_1 => ?_)
      clear hB
      rw [ht] at hP1
      obtain ⟨hP, hD⟩ := va_join (wr := []) (w1 := [(xo_8_rrriirrriiiiiiirrirrrrri mo m_la m_sz m_it ms mt m_st m_mv m_tp (nI mz) ml (nI mp) mk mv mb mw m_rd m_ac (nI ma) m_as m_wo m_ik m_ke m_tr (nI mx)), (xI m_st cI 38 fsn_35)]) hP hD [0, 1] [] rfl rfl (by decide +kernel) (by decide +kernel) hk1 hc_35.2.2 hP1 hD1
      generalize H1 = H at hP hS ⊢
      have hP : va_P (dC, dI) vwCl [(xo_8_rrriirrriiiiiiirrirrrrri mo m_la m_sz m_it ms mt m_st m_mv m_tp (nI mz) ml (nI mp) mk mv mb mw m_rd m_ac (nI ma) m_as m_wo m_ik m_ke m_tr (nI mx)), (xI m_st cI 38 fsn_35)] H := hP
      have hD := dto hP hD
      refine lv_pop hx hb dX8_goTurning_53 rfl ?_
      refine lv_iinc (v := (cdn j (ii + 1))) (lv' := [(4, .int (cdn j (ii + 1))), (3, .int v_33), (5, .int v_30), (0, .ref mo), (1, .int n), (2, .int (nI j))]) hx hb dX8_goTurning_54 hl (k := 2) rfl (cdn_s (by omega) hii) (by decide) rfl (fun ls hl => ?_)
      refine lv_goto (tgt := 7) hx hb dX8_goTurning_57 (by decide) ?_
      exact ih (v_33, fsn_35) _ _ _ ⟨lv_sub hl [0, 1, 3, 4, 5] rfl, hP.sub (ws' := [(xo_8_rrriirrriiiiiiirrirrrrri mo m_la m_sz m_it ms mt m_st m_mv m_tp (nI mz) ml (nI mp) mk mv mb mw m_rd m_ac (nI ma) m_as m_wo m_ik m_ke m_tr (nI mx)), (xI m_st cI 38 fsn_35)]) [0, 1] rfl, hD.sub (ws' := [(xo_8_rrriirrriiiiiiirrirrrrri mo m_la m_sz m_it ms mt m_st m_mv m_tp (nI mz) ml (nI mp) mk mv mb mw m_rd m_ac (nI ma) m_as m_wo m_ik m_ke m_tr (nI mx)), (xI m_st cI 38 fsn_35)]) [0, 1] (by decide +kernel) rfl, hS, hF_35_0, (lf_X8_goTurning_1 hM hw1 hh9 hj e_1 hii haf_0 hMl e_29 e_30 e_31 c_32 e_33 hu_34 hF_35_0 hF_35_1)⟩
    · skip
      refine lv_iconst (v := 0) hx hb dX8_goTurning_33 (by decide) ?_
      refine lv_goto (tgt := 38) hx hb dX8_goTurning_34 (by decide) ?_
      refine lv_iadd hx hb dX8_goTurning_38 ?_
      refine lv_topi (fun v_36 e_36 => ?_)
      refine lv_istore_n (lv' := [(3, .int v_36), (5, .int v_30), (4, .int (cdn j ii)), (0, .ref mo), (1, .int n), (2, .int (nI j))]) hx hb dX8_goTurning_39 rfl hl (by decide) rfl (fun ls hl => ?_)
      refine lv_aload_n hx hb dX8_goTurning_40 rfl (lv_at hl 3 rfl) ?_
      refine va_get (D := (dC, dI)) (ci := 8) (v := .ref m_st) (C := RX8) (T := TX8) (N := 24) hx hb hts i_X8_goTurning_X8 hown hK hP 0 rfl rfl 5 (by decide) (hts _ mx_X8_goTurning_1) (fun _ h9 => h9) rfl dX8_goTurning_41 ?_
      refine lv_bipush (v := 6) hx hb dX8_goTurning_44 (by decide) ?_
      refine lv_iload hx hb dX8_goTurning_46 (lv_at hl 1 rfl) ?_
      refine va_iast hx hb hK hP hD hS 1 0 rfl rfl (by unfold vp_in; decide) dX8_goTurning_48 (fun H locs hP hD hS => ?_)
      generalize hg_37 : upd w_14 (6 : Int32).toNatClampNeg v_30 = g_37 at hP hD
      have hu_37 : g_37 = upd w_14 6 v_30 := hg_37.symm
      have hM_37 : okM g_37 w9 k9 (h9 + ii) := okM_off (i := 6) hMl hg_37 (by omega) (by omega) (by omega) (by omega) (by omega)
      have hP : va_P (dC, dI) vwCl [(xo_8_rrriirrriiiiiiirrirrrrri mo m_la m_sz m_it ms mt m_st m_mv m_tp (nI mz) ml (nI mp) mk mv mb mw m_rd m_ac (nI ma) m_as m_wo m_ik m_ke m_tr (nI mx)), (xI m_st cI 38 g_37)] H := hP
      have hD := dto hP hD
      refine lv_aload_n hx hb dX8_goTurning_49 rfl (lv_at hl 3 rfl) ?_
      have hc_38 := cutW (wc := [(xo_8_rrriirrriiiiiiirrirrrrri mo m_la m_sz m_it ms mt m_st m_mv m_tp (nI mz) ml (nI mp) mk mv mb mw m_rd m_ac (nI ma) m_as m_wo m_ik m_ke m_tr (nI mx)), (xI m_st cI 38 g_37)]) hP hD hS hA [0, 1] (by decide +kernel) rfl
      refine va_calli (va_runV (As := []) (rest := []) ⟨hx, hb, hml, hown, hts⟩ (r_X8_oneHour l dC dI cI cZ cL cJ H.size mo m_la m_sz m_it m_st m_mv m_tp m_rd m_ac m_as m_wo m_ik m_ke m_tr ms mt ml mk mv mb mw mz mp ma mx g_37 w9 k9 (h9 + ii) (hM_37) (by omega) (by omega)) (cwV 0 hts gX8_goTurning_X8_oneHour rfl rfl rfl (by decide +kernel) ⟨Nat.le_of_ble_eq_true rfl, Nat.le_of_ble_eq_true rfl⟩) (pvW 8 0 hK hP rfl rfl hc_38) rfl rfl hl.1 rfl (lv_room (Nat.le_of_ble_eq_true rfl)) dX8_goTurning_50 ⟨Nat.le_of_ble_eq_true rfl, Nat.le_of_ble_eq_true rfl⟩) hS (fun q _ h => hc_38.2.2 q h) hc_38.2.2 (fun r_38 u_38 t_38 H1 locs ht hvm h_38 hB hz1 hk1 hS => ?_)
      refine xl_1_4 hB (fun fsn_38 hP1 hD1 hF_38_0 hF_38_1 => ?_)
      clear hB
      rw [ht] at hP1
      obtain ⟨hP, hD⟩ := va_join (wr := []) (w1 := [(xo_8_rrriirrriiiiiiirrirrrrri mo m_la m_sz m_it ms mt m_st m_mv m_tp (nI mz) ml (nI mp) mk mv mb mw m_rd m_ac (nI ma) m_as m_wo m_ik m_ke m_tr (nI mx)), (xI m_st cI 38 fsn_38)]) hP hD [0, 1] [] rfl rfl (by decide +kernel) (by decide +kernel) hk1 hc_38.2.2 hP1 hD1
      generalize H1 = H at hP hS ⊢
      have hP : va_P (dC, dI) vwCl [(xo_8_rrriirrriiiiiiirrirrrrri mo m_la m_sz m_it ms mt m_st m_mv m_tp (nI mz) ml (nI mp) mk mv mb mw m_rd m_ac (nI ma) m_as m_wo m_ik m_ke m_tr (nI mx)), (xI m_st cI 38 fsn_38)] H := hP
      have hD := dto hP hD
      refine lv_pop hx hb dX8_goTurning_53 rfl ?_
      refine lv_iinc (v := (cdn j (ii + 1))) (lv' := [(4, .int (cdn j (ii + 1))), (3, .int v_36), (5, .int v_30), (0, .ref mo), (1, .int n), (2, .int (nI j))]) hx hb dX8_goTurning_54 hl (k := 2) rfl (cdn_s (by omega) hii) (by decide) rfl (fun ls hl => ?_)
      refine lv_goto (tgt := 7) hx hb dX8_goTurning_57 (by decide) ?_
      exact ih (v_36, fsn_38) _ _ _ ⟨lv_sub hl [0, 1, 3, 4, 5] rfl, hP.sub (ws' := [(xo_8_rrriirrriiiiiiirrirrrrri mo m_la m_sz m_it ms mt m_st m_mv m_tp (nI mz) ml (nI mp) mk mv mb mw m_rd m_ac (nI ma) m_as m_wo m_ik m_ke m_tr (nI mx)), (xI m_st cI 38 fsn_38)]) [0, 1] rfl, hD.sub (ws' := [(xo_8_rrriirrriiiiiiirrirrrrri mo m_la m_sz m_it ms mt m_st m_mv m_tp (nI mz) ml (nI mp) mk mv mb mw m_rd m_ac (nI ma) m_as m_wo m_ik m_ke m_tr (nI mx)), (xI m_st cI 38 fsn_38)]) [0, 1] (by decide +kernel) rfl, hS, hF_38_0, (lf_X8_goTurning_2 hM hw1 hh9 hj e_1 hii haf_0 hMl e_29 e_30 e_31 c_32 e_36 hu_37 hF_38_0 hF_38_1)⟩
  · rintro ⟨w_13, w_14⟩ H locs ls ⟨hl, hP, hD, hS, hMl, haf_0⟩
    refine lv_iload hx hb dX8_goTurning_7 (lv_at hl 0 rfl) ?_
    refine lv_if_lt (tgt := 60) hx hb dX8_goTurning_9 (by decide) (fun _ => ?_) (fun c_ => absurd (cdn_end (by omega)) c_)
    refine lv_iload_n hx hb dX8_goTurning_60 rfl (lv_at hl 1 rfl) ?_
    have hX9 := cut2 (wc := [(xo_8_rrriirrriiiiiiirrirrrrri mo m_la m_sz m_it ms mt m_st m_mv m_tp (nI mz) ml (nI mp) mk mv mb mw m_rd m_ac (nI ma) m_as m_wo m_ik m_ke m_tr (nI mx)), (xI m_st cI 38 w_14)]) hP hD [0, 1] (by decide +kernel) rfl
    exact W.iret (v := w_13) hx hb hr (fun t ht hW => ⟨⟨w_13, (), rfl, (lf_X8_goTurning_4 hM hw1 hh9 hj e_1 haf_0 hMl), ⟨w_14, va_Ht ht hX9.1, hX9.2, hMl, (lf_X8_goTurning_3 hM hw1 hh9 hj e_1 haf_0 hMl)⟩⟩, hS.F ht⟩) hS.2.2 dX8_goTurning_61
theorem lf_X8_caps_1 {mt : Int32} {ma : Nat} {fs : Nat → Int32} {w9 : Nat} {k9 : Nat} {h9 : Nat} {a0 : Int32} {a1 : Int32} (hM : okM fs w9 k9 h9) (hT : ¬ mt = 0 → 1 ≤ k9) (h999 : h9 ≤ 999) (hT0 : mt = 0 → fs 0 = 0 ∧ ma = 0) (c_1 : ¬ (mt = 0)) (hkn1 : 1 ≤ k9) (hw1 : 1 ≤ w9) (h01 : ¬ fs 0 = 0) (f_2_0_0 : ((a0).toInt64 < 1 ∨ 8 < (a0).toInt64)) (q_2 : (a0 < 1 ∨ 8 < a0)) : (-1000001) = (a_caps (m38 fs) a0 a1) := by
  first
  | exact caps_0 h00
  | exact caps_n h01 (Or.inl q_2)
theorem lf_X8_caps_2 {mt : Int32} {ma : Nat} {fs : Nat → Int32} {w9 : Nat} {k9 : Nat} {h9 : Nat} {a1 : Int32} {j_2 : Nat} {sh : Nat} {fan_6 : Nat → Int32} {w_15 : Int32} {w_16 : Int32} {w_17 : Int32} {w_18 : Nat → Int32} {ii : Nat} {fsn_33 : Nat → Int32} {r_33 : Int32} {v_34 : Int32} {fsn_35 : Nat → Int32} (hM : okM fs w9 k9 h9) (hT : ¬ mt = 0 → 1 ≤ k9) (h999 : h9 ≤ 999) (hT0 : mt = 0 → fs 0 = 0 ∧ ma = 0) (c_1 : ¬ (mt = 0)) (hkn1 : 1 ≤ k9) (hw1 : 1 ≤ w9) (h01 : ¬ fs 0 = 0) (f_2_1_0 : (¬ (((nI j_2)).toInt64 < 1 ∨ 8 < ((nI j_2)).toInt64))) (q_2 : ¬ ((nI j_2) < 1 ∨ 8 < (nI j_2))) (hj_2 : j_2 ≤ 8) (c_5 : (-2) ≤ a1) (hsh : (1 : Int32) <<< (nI j_2 &&& 31) = nI sh) (hsb : sh ≤ 256) (hF_6_0 : (∀ j : Nat, j < 38 → fan_6 j = fs j)) (hii : ii < sh) (haf_0 : (cpF (-1) (m38 fs) j_2 ii = (w_16, w_15, w_17))) (haf_1 : (m38 w_18 = m38 fs)) (hMl : okM w_18 w9 k9 h9) (hF_33_0 : okM fsn_33 w9 k9 (h9 + j_2)) (hF_33_1 : fsn_33 = (gtI (nI ii) j_2 j_2 (w_18, 0)).1) (h_33 : r_33 = ((gtI (nI ii) j_2 j_2 (w_18, 0)).2)) (e_34 : v_34 = fsn_33 7) (hF_35_0 : (∀ j : Nat, j < 38 → fsn_35 j = fan_6 j)) (c_36 : w_16 < v_34) : cpF (-1) (m38 fs) j_2 (ii + 1) = (v_34, r_33, (nI ii)) := by
  exact cp_y (cp_go haf_0 (cp_v hMl hw1 haf_1 hF_33_1 h_33).1 (cp_v hMl hw1 haf_1 hF_33_1 h_33).2 e_34) (Or.inl c_36)
theorem lf_X8_caps_3 {mt : Int32} {ma : Nat} {fs : Nat → Int32} {w9 : Nat} {k9 : Nat} {h9 : Nat} {a1 : Int32} {j_2 : Nat} {sh : Nat} {fan_6 : Nat → Int32} {w_15 : Int32} {w_16 : Int32} {w_17 : Int32} {w_18 : Nat → Int32} {ii : Nat} {fsn_33 : Nat → Int32} {r_33 : Int32} {v_34 : Int32} {fsn_35 : Nat → Int32} (hM : okM fs w9 k9 h9) (hT : ¬ mt = 0 → 1 ≤ k9) (h999 : h9 ≤ 999) (hT0 : mt = 0 → fs 0 = 0 ∧ ma = 0) (c_1 : ¬ (mt = 0)) (hkn1 : 1 ≤ k9) (hw1 : 1 ≤ w9) (h01 : ¬ fs 0 = 0) (f_2_1_0 : (¬ (((nI j_2)).toInt64 < 1 ∨ 8 < ((nI j_2)).toInt64))) (q_2 : ¬ ((nI j_2) < 1 ∨ 8 < (nI j_2))) (hj_2 : j_2 ≤ 8) (c_5 : (-2) ≤ a1) (hsh : (1 : Int32) <<< (nI j_2 &&& 31) = nI sh) (hsb : sh ≤ 256) (hF_6_0 : (∀ j : Nat, j < 38 → fan_6 j = fs j)) (hii : ii < sh) (haf_0 : (cpF (-1) (m38 fs) j_2 ii = (w_16, w_15, w_17))) (haf_1 : (m38 w_18 = m38 fs)) (hMl : okM w_18 w9 k9 h9) (hF_33_0 : okM fsn_33 w9 k9 (h9 + j_2)) (hF_33_1 : fsn_33 = (gtI (nI ii) j_2 j_2 (w_18, 0)).1) (h_33 : r_33 = ((gtI (nI ii) j_2 j_2 (w_18, 0)).2)) (e_34 : v_34 = fsn_33 7) (hF_35_0 : (∀ j : Nat, j < 38 → fsn_35 j = fan_6 j)) (c_36 : ¬ (w_16 < v_34)) (c_37 : ¬ (v_34 = w_16)) : cpF (-1) (m38 fs) j_2 (ii + 1) = (w_16, w_15, w_17) := by
  first
  | exact cp_y (cp_go haf_0 (cp_v hMl hw1 haf_1 hF_33_1 h_33).1 (cp_v hMl hw1 haf_1 hF_33_1 h_33).2 e_34) (Or.inl c_36)
  | exact cpq_n (cp_go haf_0 (cp_v hMl hw1 haf_1 hF_33_1 h_33).1 (cp_v hMl hw1 haf_1 hF_33_1 h_33).2 e_34) (fun q => q.elim c_36 (fun y => c_37 y.1))
theorem lf_X8_caps_4 {mt : Int32} {ma : Nat} {fs : Nat → Int32} {w9 : Nat} {k9 : Nat} {h9 : Nat} {a1 : Int32} {j_2 : Nat} {sh : Nat} {fan_6 : Nat → Int32} {w_15 : Int32} {w_16 : Int32} {w_17 : Int32} {w_18 : Nat → Int32} {ii : Nat} {fsn_33 : Nat → Int32} {r_33 : Int32} {v_34 : Int32} {fsn_35 : Nat → Int32} (hM : okM fs w9 k9 h9) (hT : ¬ mt = 0 → 1 ≤ k9) (h999 : h9 ≤ 999) (hT0 : mt = 0 → fs 0 = 0 ∧ ma = 0) (c_1 : ¬ (mt = 0)) (hkn1 : 1 ≤ k9) (hw1 : 1 ≤ w9) (h01 : ¬ fs 0 = 0) (f_2_1_0 : (¬ (((nI j_2)).toInt64 < 1 ∨ 8 < ((nI j_2)).toInt64))) (q_2 : ¬ ((nI j_2) < 1 ∨ 8 < (nI j_2))) (hj_2 : j_2 ≤ 8) (c_5 : (-2) ≤ a1) (hsh : (1 : Int32) <<< (nI j_2 &&& 31) = nI sh) (hsb : sh ≤ 256) (hF_6_0 : (∀ j : Nat, j < 38 → fan_6 j = fs j)) (hii : ii < sh) (haf_0 : (cpF (-1) (m38 fs) j_2 ii = (w_16, w_15, w_17))) (haf_1 : (m38 w_18 = m38 fs)) (hMl : okM w_18 w9 k9 h9) (hF_33_0 : okM fsn_33 w9 k9 (h9 + j_2)) (hF_33_1 : fsn_33 = (gtI (nI ii) j_2 j_2 (w_18, 0)).1) (h_33 : r_33 = ((gtI (nI ii) j_2 j_2 (w_18, 0)).2)) (e_34 : v_34 = fsn_33 7) (hF_35_0 : (∀ j : Nat, j < 38 → fsn_35 j = fan_6 j)) (c_36 : ¬ (w_16 < v_34)) (c_37 : v_34 = w_16) (c_38 : w_15 ≤ r_33) : cpF (-1) (m38 fs) j_2 (ii + 1) = (w_16, w_15, w_17) := by
  first
  | exact cp_y (cp_go haf_0 (cp_v hMl hw1 haf_1 hF_33_1 h_33).1 (cp_v hMl hw1 haf_1 hF_33_1 h_33).2 e_34) (Or.inl c_36)
  | exact cpq_n (cp_go haf_0 (cp_v hMl hw1 haf_1 hF_33_1 h_33).1 (cp_v hMl hw1 haf_1 hF_33_1 h_33).2 e_34) (fun q => q.elim c_36 (fun y => c_37 y.1))
  | exact cpq_n (cp_go haf_0 (cp_v hMl hw1 haf_1 hF_33_1 h_33).1 (cp_v hMl hw1 haf_1 hF_33_1 h_33).2 e_34) (fun q => q.elim c_36 (fun y => i_nlt.mpr c_38 y.2))
  | exact cp_y (cp_go haf_0 (cp_v hMl hw1 haf_1 hF_33_1 h_33).1 (cp_v hMl hw1 haf_1 hF_33_1 h_33).2 e_34) (Or.inr ⟨c_37, i_nle.mp c_38⟩)
theorem lf_X8_caps_5 {mt : Int32} {ma : Nat} {fs : Nat → Int32} {w9 : Nat} {k9 : Nat} {h9 : Nat} {a1 : Int32} {j_2 : Nat} {sh : Nat} {fan_6 : Nat → Int32} {w_15 : Int32} {w_16 : Int32} {w_17 : Int32} {w_18 : Nat → Int32} {ii : Nat} {fsn_33 : Nat → Int32} {r_33 : Int32} {v_34 : Int32} {fsn_35 : Nat → Int32} (hM : okM fs w9 k9 h9) (hT : ¬ mt = 0 → 1 ≤ k9) (h999 : h9 ≤ 999) (hT0 : mt = 0 → fs 0 = 0 ∧ ma = 0) (c_1 : ¬ (mt = 0)) (hkn1 : 1 ≤ k9) (hw1 : 1 ≤ w9) (h01 : ¬ fs 0 = 0) (f_2_1_0 : (¬ (((nI j_2)).toInt64 < 1 ∨ 8 < ((nI j_2)).toInt64))) (q_2 : ¬ ((nI j_2) < 1 ∨ 8 < (nI j_2))) (hj_2 : j_2 ≤ 8) (c_5 : (-2) ≤ a1) (hsh : (1 : Int32) <<< (nI j_2 &&& 31) = nI sh) (hsb : sh ≤ 256) (hF_6_0 : (∀ j : Nat, j < 38 → fan_6 j = fs j)) (hii : ii < sh) (haf_0 : (cpF (-1) (m38 fs) j_2 ii = (w_16, w_15, w_17))) (haf_1 : (m38 w_18 = m38 fs)) (hMl : okM w_18 w9 k9 h9) (hF_33_0 : okM fsn_33 w9 k9 (h9 + j_2)) (hF_33_1 : fsn_33 = (gtI (nI ii) j_2 j_2 (w_18, 0)).1) (h_33 : r_33 = ((gtI (nI ii) j_2 j_2 (w_18, 0)).2)) (e_34 : v_34 = fsn_33 7) (hF_35_0 : (∀ j : Nat, j < 38 → fsn_35 j = fan_6 j)) (c_36 : ¬ (w_16 < v_34)) (c_37 : v_34 = w_16) (c_38 : ¬ (w_15 ≤ r_33)) : cpF (-1) (m38 fs) j_2 (ii + 1) = (v_34, r_33, (nI ii)) := by
  first
  | exact cp_y (cp_go haf_0 (cp_v hMl hw1 haf_1 hF_33_1 h_33).1 (cp_v hMl hw1 haf_1 hF_33_1 h_33).2 e_34) (Or.inl c_36)
  | exact cpq_n (cp_go haf_0 (cp_v hMl hw1 haf_1 hF_33_1 h_33).1 (cp_v hMl hw1 haf_1 hF_33_1 h_33).2 e_34) (fun q => q.elim c_36 (fun y => c_37 y.1))
  | exact cpq_n (cp_go haf_0 (cp_v hMl hw1 haf_1 hF_33_1 h_33).1 (cp_v hMl hw1 haf_1 hF_33_1 h_33).2 e_34) (fun q => q.elim c_36 (fun y => i_nlt.mpr c_38 y.2))
  | exact cp_y (cp_go haf_0 (cp_v hMl hw1 haf_1 hF_33_1 h_33).1 (cp_v hMl hw1 haf_1 hF_33_1 h_33).2 e_34) (Or.inr ⟨c_37, i_nle.mp c_38⟩)
theorem lf_X8_caps_6 {mt : Int32} {ma : Nat} {fs : Nat → Int32} {w9 : Nat} {k9 : Nat} {h9 : Nat} {a1 : Int32} {j_2 : Nat} {sh : Nat} {fan_6 : Nat → Int32} {w_15 : Int32} {w_16 : Int32} {w_17 : Int32} {w_18 : Nat → Int32} (hM : okM fs w9 k9 h9) (hT : ¬ mt = 0 → 1 ≤ k9) (h999 : h9 ≤ 999) (hT0 : mt = 0 → fs 0 = 0 ∧ ma = 0) (c_1 : ¬ (mt = 0)) (hkn1 : 1 ≤ k9) (hw1 : 1 ≤ w9) (h01 : ¬ fs 0 = 0) (f_2_1_0 : (¬ (((nI j_2)).toInt64 < 1 ∨ 8 < ((nI j_2)).toInt64))) (q_2 : ¬ ((nI j_2) < 1 ∨ 8 < (nI j_2))) (hj_2 : j_2 ≤ 8) (c_5 : (-2) ≤ a1) (hsh : (1 : Int32) <<< (nI j_2 &&& 31) = nI sh) (hsb : sh ≤ 256) (hF_6_0 : (∀ j : Nat, j < 38 → fan_6 j = fs j)) (haf_0 : (cpF (-1) (m38 fs) j_2 sh = (w_16, w_15, w_17))) (haf_1 : (m38 w_18 = m38 fs)) (hMl : okM w_18 w9 k9 h9) (c_41 : ¬ (a1 = (-1))) (c_42 : ¬ (a1 = (-2))) (c_43 : (nI j_2) ≤ a1) : (-1000000) = (a_caps (m38 fs) (nI j_2) a1) := by
  first
  | exact caps_0 h00
  | exact caps_n h01 (Or.inl q_2)
  | exact caps_n h01 (Or.inr (i_nle.mp c_5))
  | exact (caps_e (capsM_e (k := a1) h01 q_2 hj_2 c_5 hsh hsb haf_0)).1 (i_nlt.mpr c_43)
  | exact (caps_e (capsM_e (k := a1) h01 q_2 hj_2 c_5 hsh hsb haf_0)).2.2.1 (by rw [c_42]; exact (m_lt hj_2).1) c_41 c_42
  | exact (caps_e (capsM_e (k := a1) h01 q_2 hj_2 c_5 hsh hsb haf_0)).2.1 (by rw [c_41]; exact (m_lt hj_2).2) c_41
theorem lf_X8_caps_7 {mt : Int32} {ma : Nat} {fs : Nat → Int32} {w9 : Nat} {k9 : Nat} {h9 : Nat} {a1 : Int32} {j_2 : Nat} {sh : Nat} {fan_6 : Nat → Int32} {w_15 : Int32} {w_16 : Int32} {w_17 : Int32} {w_18 : Nat → Int32} {v_44 : Int32} {v_45 : Int32} {v_46 : Int32} {v_47 : Int32} (hM : okM fs w9 k9 h9) (hT : ¬ mt = 0 → 1 ≤ k9) (h999 : h9 ≤ 999) (hT0 : mt = 0 → fs 0 = 0 ∧ ma = 0) (c_1 : ¬ (mt = 0)) (hkn1 : 1 ≤ k9) (hw1 : 1 ≤ w9) (h01 : ¬ fs 0 = 0) (f_2_1_0 : (¬ (((nI j_2)).toInt64 < 1 ∨ 8 < ((nI j_2)).toInt64))) (q_2 : ¬ ((nI j_2) < 1 ∨ 8 < (nI j_2))) (hj_2 : j_2 ≤ 8) (c_5 : (-2) ≤ a1) (hsh : (1 : Int32) <<< (nI j_2 &&& 31) = nI sh) (hsb : sh ≤ 256) (hF_6_0 : (∀ j : Nat, j < 38 → fan_6 j = fs j)) (haf_0 : (cpF (-1) (m38 fs) j_2 sh = (w_16, w_15, w_17))) (haf_1 : (m38 w_18 = m38 fs)) (hMl : okM w_18 w9 k9 h9) (c_41 : ¬ (a1 = (-1))) (c_42 : ¬ (a1 = (-2))) (c_43 : ¬ ((nI j_2) ≤ a1)) (e_44 : v_44 = ((nI j_2) - 1)) (e_45 : v_45 = (v_44 - a1)) (e_46 : v_46 = ((w_17 : Int32) >>> ((v_45 : Int32) &&& 31))) (e_47 : v_47 = (v_46 &&& 1)) : v_47 = (a_caps (m38 fs) (nI j_2) a1) := by
  first
  | exact caps_0 h00
  | exact caps_n h01 (Or.inl q_2)
  | exact caps_n h01 (Or.inr (i_nle.mp c_5))
  | exact (caps_e (capsM_e (k := a1) h01 q_2 hj_2 c_5 hsh hsb haf_0)).1 (i_nlt.mpr c_43)
  | exact (show v_47 = bcX w_17 (nI j_2) a1 by rw [e_47, e_46, e_45, e_44]; rfl).trans ((caps_e (capsM_e (k := a1) h01 q_2 hj_2 c_5 hsh hsb haf_0)).2.2.2 (i_nle.mp c_43) c_41 c_42)
  | exact (caps_e (capsM_e (k := a1) h01 q_2 hj_2 c_5 hsh hsb haf_0)).2.2.1 (by rw [c_42]; exact (m_lt hj_2).1) c_41 c_42
  | exact (caps_e (capsM_e (k := a1) h01 q_2 hj_2 c_5 hsh hsb haf_0)).2.1 (by rw [c_41]; exact (m_lt hj_2).2) c_41
theorem lf_X8_caps_8 {mt : Int32} {ma : Nat} {fs : Nat → Int32} {w9 : Nat} {k9 : Nat} {h9 : Nat} {a1 : Int32} {j_2 : Nat} {sh : Nat} {fan_6 : Nat → Int32} {w_15 : Int32} {w_16 : Int32} {w_17 : Int32} {w_18 : Nat → Int32} (hM : okM fs w9 k9 h9) (hT : ¬ mt = 0 → 1 ≤ k9) (h999 : h9 ≤ 999) (hT0 : mt = 0 → fs 0 = 0 ∧ ma = 0) (c_1 : ¬ (mt = 0)) (hkn1 : 1 ≤ k9) (hw1 : 1 ≤ w9) (h01 : ¬ fs 0 = 0) (f_2_1_0 : (¬ (((nI j_2)).toInt64 < 1 ∨ 8 < ((nI j_2)).toInt64))) (q_2 : ¬ ((nI j_2) < 1 ∨ 8 < (nI j_2))) (hj_2 : j_2 ≤ 8) (c_5 : (-2) ≤ a1) (hsh : (1 : Int32) <<< (nI j_2 &&& 31) = nI sh) (hsb : sh ≤ 256) (hF_6_0 : (∀ j : Nat, j < 38 → fan_6 j = fs j)) (haf_0 : (cpF (-1) (m38 fs) j_2 sh = (w_16, w_15, w_17))) (haf_1 : (m38 w_18 = m38 fs)) (hMl : okM w_18 w9 k9 h9) (c_41 : ¬ (a1 = (-1))) (c_42 : a1 = (-2)) : w_15 = (a_caps (m38 fs) (nI j_2) a1) := by
  first
  | exact caps_0 h00
  | exact caps_n h01 (Or.inl q_2)
  | exact caps_n h01 (Or.inr (i_nle.mp c_5))
  | exact (caps_e (capsM_e (k := a1) h01 q_2 hj_2 c_5 hsh hsb haf_0)).2.2.1 (by rw [c_42]; exact (m_lt hj_2).1) c_41 c_42
  | exact (caps_e (capsM_e (k := a1) h01 q_2 hj_2 c_5 hsh hsb haf_0)).2.1 (by rw [c_41]; exact (m_lt hj_2).2) c_41
theorem lf_X8_caps_9 {mt : Int32} {ma : Nat} {fs : Nat → Int32} {w9 : Nat} {k9 : Nat} {h9 : Nat} {a1 : Int32} {j_2 : Nat} {sh : Nat} {fan_6 : Nat → Int32} {w_15 : Int32} {w_16 : Int32} {w_17 : Int32} {w_18 : Nat → Int32} (hM : okM fs w9 k9 h9) (hT : ¬ mt = 0 → 1 ≤ k9) (h999 : h9 ≤ 999) (hT0 : mt = 0 → fs 0 = 0 ∧ ma = 0) (c_1 : ¬ (mt = 0)) (hkn1 : 1 ≤ k9) (hw1 : 1 ≤ w9) (h01 : ¬ fs 0 = 0) (f_2_1_0 : (¬ (((nI j_2)).toInt64 < 1 ∨ 8 < ((nI j_2)).toInt64))) (q_2 : ¬ ((nI j_2) < 1 ∨ 8 < (nI j_2))) (hj_2 : j_2 ≤ 8) (c_5 : (-2) ≤ a1) (hsh : (1 : Int32) <<< (nI j_2 &&& 31) = nI sh) (hsb : sh ≤ 256) (hF_6_0 : (∀ j : Nat, j < 38 → fan_6 j = fs j)) (haf_0 : (cpF (-1) (m38 fs) j_2 sh = (w_16, w_15, w_17))) (haf_1 : (m38 w_18 = m38 fs)) (hMl : okM w_18 w9 k9 h9) (c_41 : a1 = (-1)) : w_16 = (a_caps (m38 fs) (nI j_2) a1) := by
  first
  | exact caps_0 h00
  | exact caps_n h01 (Or.inl q_2)
  | exact caps_n h01 (Or.inr (i_nle.mp c_5))
  | exact (caps_e (capsM_e (k := a1) h01 q_2 hj_2 c_5 hsh hsb haf_0)).2.1 (by rw [c_41]; exact (m_lt hj_2).2) c_41
theorem lf_X8_caps_10 {mt : Int32} {ma : Nat} {fs : Nat → Int32} {w9 : Nat} {k9 : Nat} {h9 : Nat} {a1 : Int32} {j_2 : Nat} (hM : okM fs w9 k9 h9) (hT : ¬ mt = 0 → 1 ≤ k9) (h999 : h9 ≤ 999) (hT0 : mt = 0 → fs 0 = 0 ∧ ma = 0) (c_1 : ¬ (mt = 0)) (hkn1 : 1 ≤ k9) (hw1 : 1 ≤ w9) (h01 : ¬ fs 0 = 0) (f_2_1_0 : (¬ (((nI j_2)).toInt64 < 1 ∨ 8 < ((nI j_2)).toInt64))) (q_2 : ¬ ((nI j_2) < 1 ∨ 8 < (nI j_2))) (hj_2 : j_2 ≤ 8) (c_5 : ¬ ((-2) ≤ a1)) : (-1000001) = (a_caps (m38 fs) (nI j_2) a1) := by
  first
  | exact caps_0 h00
  | exact caps_n h01 (Or.inl q_2)
  | exact caps_n h01 (Or.inr (i_nle.mp c_5))
theorem lf_X8_caps_11 {mt : Int32} {ma : Nat} {fs : Nat → Int32} {w9 : Nat} {k9 : Nat} {h9 : Nat} {a0 : Int32} {a1 : Int32} (hM : okM fs w9 k9 h9) (hT : ¬ mt = 0 → 1 ≤ k9) (h999 : h9 ≤ 999) (hT0 : mt = 0 → fs 0 = 0 ∧ ma = 0) (c_1 : mt = 0) (h00 : fs 0 = 0) : (-1000002) = (a_caps (m38 fs) a0 a1) := by
  first
  | exact caps_0 h00
  | exact caps_n h01 (Or.inl q_2)
set_option maxHeartbeats 4000000 in
set_option maxRecDepth 100000 in
theorem r_X8_caps (l : Launch) (dC : Nat → ClassId) (dI : Nat → Nat → Nat) (cI cZ cL cJ : ClassId) (sz : Nat) (mo : Nat) (m_la : Nat) (m_sz : Nat) (m_it : Nat) (m_st : Nat) (m_mv : Nat) (m_tp : Nat) (m_rd : Nat) (m_ac : Nat) (m_as : Nat) (m_wo : Nat) (m_ik : Nat) (m_ke : Nat) (m_tr : Nat) (ms : Int32) (mt : Int32) (ml : Int32) (mk : Int32) (mv : Int32) (mb : Int32) (mw : Int32) (mz : Nat) (mp : Nat) (ma : Nat) (mx : Nat) (fs : Nat → Int32) (w9 : Nat) (k9 : Nat) (h9 : Nat) (fa : Nat → Int32) (a0 : Int32) (a1 : Int32) (hM : okM fs w9 k9 h9) (hT : ¬ mt = 0 → 1 ≤ k9) (h999 : h9 ≤ 999) (hT0 : mt = 0 → fs 0 = 0 ∧ ma = 0) : Met l yX8_caps wsX8_caps ({ frames := 5, cells := 0, slots := 0, locals := 120 }) (va_Pc [.ref mo, .int a0, .int a1] (fun U => U.heap.size = sz ∧ va_P (dC, dI) vwCl [(xo_8_rrriirrriiiiiiirrirrrrri mo m_la m_sz m_it ms mt m_st m_mv m_tp (nI mz) ml (nI mp) mk mv mb mw m_rd m_ac (nI ma) m_as m_wo m_ik m_ke m_tr (nI mx)), (xI m_st cI 38 fs), (xI m_as cI 38 fa)] U.heap ∧ va_K (dC, dI) vwCl [(cI, .int), (cZ, .boolean), (cL, .object RX3), (cJ, .array .int)] U ∧ va_D (fun _ => True) [(xo_8_rrriirrriiiiiiirrirrrrri mo m_la m_sz m_it ms mt m_st m_mv m_tp (nI mz) ml (nI mp) mk mv mb mw m_rd m_ac (nI ma) m_as m_wo m_ik m_ke m_tr (nI mx)), (xI m_st cI 38 fs), (xI m_as cI 38 fa)])) (va_Qi (fun r (_ : Unit) => r = (a_caps (m38 fs) a0 a1)) (fun (_ : Unit) t => ∃ (fsn : Nat → Int32) (fan : Nat → Int32), va_P (dC, dI) vwCl [(xo_8_rrriirrriiiiiiirrirrrrri mo m_la m_sz m_it ms mt m_st m_mv m_tp (nI mz) ml (nI mp) mk mv mb mw m_rd m_ac (nI ma) m_as m_wo m_ik m_ke m_tr (nI mx)), (xI m_st cI 38 fsn), (xI m_as cI 38 fan)] t.heap ∧ va_D (va_A [(xo_8_rrriirrriiiiiiirrirrrrri mo m_la m_sz m_it ms mt m_st m_mv m_tp (nI mz) ml (nI mp) mk mv mb mw m_rd m_ac (nI ma) m_as m_wo m_ik m_ke m_tr (nI mx)), (xI m_st cI 38 fs), (xI m_as cI 38 fa)] sz) [(xo_8_rrriirrriiiiiiirrirrrrri mo m_la m_sz m_it ms mt m_st m_mv m_tp (nI mz) ml (nI mp) mk mv mb mw m_rd m_ac (nI ma) m_as m_wo m_ik m_ke m_tr (nI mx)), (xI m_st cI 38 fsn), (xI m_as cI 38 fan)] ∧ okM fsn w9 k9 h9 ∧ m38 fsn = m38 fs) (va_A [(xo_8_rrriirrriiiiiiirrirrrrri mo m_la m_sz m_it ms mt m_st m_mv m_tp (nI mz) ml (nI mp) mk mv mb mw m_rd m_ac (nI ma) m_as m_wo m_ik m_ke m_tr (nI mx)), (xI m_st cI 38 fs), (xI m_as cI 38 fa)] sz)) 0 0 (va_A [(xo_8_rrriirrriiiiiiirrirrrrri mo m_la m_sz m_it ms mt m_st m_mv m_tp (nI mz) ml (nI mp) mk mv mb mw m_rd m_ac (nI ma) m_as m_wo m_ik m_ke m_tr (nI mx)), (xI m_st cI 38 fs), (xI m_as cI 38 fa)] sz) := by
  refine Met.ofW (cc := cX8_caps) (maxL := 9) (ret := (some .int)) (by decide) rfl ?_
  intro p e s m args below meth c s₁ B hml hv
  obtain ⟨rfl, hsz, hP, hK, hD0⟩ := hv
  have hx := B.exec
  have hb := B.bytes
  have hr := B.returns
  have hts := atoms_spec (ws := wsX8_caps) B.pre
  have hown : s.vm.findClass RX8 = some m.cls := findClass_of_methodNamed B.named
  have hlocks := B.notSynchronized
  subst hsz
  have hD := hD0.self (sz := s.heap.size)
  generalize hAe : va_A [(xo_8_rrriirrriiiiiiirrirrrrri mo m_la m_sz m_it ms mt m_st m_mv m_tp (nI mz) ml (nI mp) mk mv mb mw m_rd m_ac (nI ma) m_as m_wo m_ik m_ke m_tr (nI mx)), (xI m_st cI 38 fs), (xI m_as cI 38 fa)] s.heap.size = A at hD ⊢
  have hA : ∀ q : Nat, s.heap.size ≤ q → A q := fun q h => by rw [← hAe]; exact Or.inr h
  have hS : va_S A s.heap s.heap [] := va_S.rf
  have hP : va_P (dC, dI) vwCl [(xo_8_rrriirrriiiiiiirrirrrrri mo m_la m_sz m_it ms mt m_st m_mv m_tp (nI mz) ml (nI mp) mk mv mb mw m_rd m_ac (nI ma) m_as m_wo m_ik m_ke m_tr (nI mx)), (xI m_st cI 38 fs), (xI m_as cI 38 fa)] s.heap := hP
  have hl := lv_entry ([.ref mo, .int a0, .int a1]) (n := 9) (Nat.le_of_ble_eq_true rfl)
  rw [lg_entry_eq]
  generalize (lg_sl ([.ref mo, .int a0, .int a1]) ++ List.replicate (9 - (lg_sl ([.ref mo, .int a0, .int a1])).length) Slot.unset).toArray = ls at hl ⊢
  have hl : lv_has ls 9 [(0, .ref mo), (1, .int a0), (2, .int a1)] := hl
  have hk6 := hM.2.2.2.2.1
  have hw6 := hM.2.2.2.1
  refine lv_aload_n hx hb dX8_caps_0 rfl (lv_at hl 0 rfl) ?_
  refine va_get (D := (dC, dI)) (ci := 8) (v := .int mt) (C := RX8) (T := TX8) (N := 24) hx hb hts i_X8_caps_X8 hown hK hP 0 rfl rfl 4 (by decide) (hts _ mx_X8_caps_1) (fun _ h9 => h9) rfl dX8_caps_1 ?_
  refine lv_if_ne (tgt := 10) hx hb dX8_caps_4 (by decide) (fun c_1 => ?_) (fun c_1 => ?_)
  · skip
    have hkn1 := hT c_1
    have hw1 := hM.2.2.2.2.2.1.mp hkn1
    have h01 : ¬ fs 0 = 0 := cell_nz hM hkn1
    refine lv_iload_n hx hb dX8_caps_10 rfl (lv_at hl 1 rfl) ?_
    refine lv_i2l hx hb dX8_caps_11 rfl ?_
    refine lv_lconst (v := 1) hx hb dX8_caps_12 (by decide) ?_
    refine lv_ldc2 (own := RX8) (v := 8) hx hb hown (hts _ mx_X8_caps_3) dX8_caps_13 ?_
    have hPc_2 := hP.sub (ws' := []) [] rfl
    refine vp_callSi (W.runS (As := [.long (a0).toInt64, .long 1, .long 8]) (rest := []) ⟨hx, hb, hml, hown, hts⟩ (r_X8_in l dC dI cI cZ cL cJ ((a0).toInt64) 1 8 ) (va_cwS 3 hts gX8_caps_X8_in rfl rfl rfl (by decide +kernel) ⟨Nat.le_of_ble_eq_true rfl, Nat.le_of_ble_eq_true rfl⟩) (psP hK hPc_2) rfl rfl hl.1 rfl (lv_room (Nat.le_of_ble_eq_true rfl)) dX8_caps_16 ⟨Nat.le_of_ble_eq_true rfl, Nat.le_of_ble_eq_true rfl⟩) (fun r_2 h_2 => ?_)
    rcases h_2 with ⟨h_2, f_2_0_0⟩ | ⟨h_2, f_2_1_0⟩
    · subst h_2
      have q_2 : (a0 < 1 ∨ 8 < a0) := (in32 (x := a0) (l := 1) (u := 8) (by decide) (by decide)).mp f_2_0_0
      refine lv_if_eq (tgt := 28) hx hb dX8_caps_19 (by decide) (fun _ => ?_) (fun c_ => absurd (by decide) c_)
      refine lv_ldc (own := RX8) (v := (-1000001)) hx hb hown (hts _ mx_X8_caps_4) dX8_caps_28 ?_
      have hX9 := cut2 (wc := [(xo_8_rrriirrriiiiiiirrirrrrri mo m_la m_sz m_it ms mt m_st m_mv m_tp (nI mz) ml (nI mp) mk mv mb mw m_rd m_ac (nI ma) m_as m_wo m_ik m_ke m_tr (nI mx)), (xI m_st cI 38 fs), (xI m_as cI 38 fa)]) hP hD [0, 1, 2] (by decide +kernel) rfl
      exact W.iret (v := (-1000001)) hx hb hr (fun t ht hW => ⟨⟨(-1000001), (), rfl, (lf_X8_caps_1 hM hT h999 hT0 c_1 hkn1 hw1 h01 f_2_0_0 q_2), ⟨fs, fa, va_Ht ht hX9.1, hX9.2, hM, rfl⟩⟩, hS.F ht⟩) hS.2.2 dX8_caps_30
    · subst h_2
      have q_2 : ¬ (a0 < 1 ∨ 8 < a0) := fun q_ => f_2_1_0 ((in32 (x := a0) (l := 1) (u := 8) (by decide) (by decide)).mpr q_)
      obtain ⟨j_2, hj_2, hl_2, rfl⟩ := in64 (lo := 1) (n := 8) rfl rfl (by decide) f_2_1_0
      refine lv_if_eq (tgt := 28) hx hb dX8_caps_19 (by decide) (fun c_ => absurd c_ (by decide)) (fun _ => ?_)
      refine lv_iload_n hx hb dX8_caps_22 rfl (lv_at hl 2 rfl) ?_
      refine lv_bipush (v := (-2)) hx hb dX8_caps_23 (by decide) ?_
      refine lv_icmp_ge (tgt := 31) hx hb dX8_caps_25 (by decide) (fun c_5 => ?_) (fun c_5 => ?_)
      · skip
        obtain ⟨sh, hsh, hsb, hs4, hs5, hs6⟩ := shl8 j_2 (by omega)
        refine lv_aload_n hx hb dX8_caps_31 rfl (lv_at hl 0 rfl) ?_
        have hc_6 := cutW (wc := [(xo_8_rrriirrriiiiiiirrirrrrri mo m_la m_sz m_it ms mt m_st m_mv m_tp (nI mz) ml (nI mp) mk mv mb mw m_rd m_ac (nI ma) m_as m_wo m_ik m_ke m_tr (nI mx)), (xI m_st cI 38 fs), (xI m_as cI 38 fa)]) hP hD hS hA [0, 1, 2] (by decide +kernel) rfl
        refine va_callv (va_runV (As := []) (rest := []) ⟨hx, hb, hml, hown, hts⟩ (r_X8_putAside l dC dI cI cZ cL cJ s.heap.size mo m_la m_sz m_it m_st m_mv m_tp m_rd m_ac m_as m_wo m_ik m_ke m_tr ms mt ml mk mv mb mw mz mp ma mx fs fa ) (cwV 0 hts gX8_caps_X8_putAside rfl rfl rfl (by decide +kernel) ⟨Nat.le_of_ble_eq_true rfl, Nat.le_of_ble_eq_true rfl⟩) (pvW 8 0 hK hP rfl rfl hc_6) rfl rfl hl.1 rfl (lv_room (Nat.le_of_ble_eq_true rfl)) dX8_caps_32 ⟨Nat.le_of_ble_eq_true rfl, Nat.le_of_ble_eq_true rfl⟩) hS (fun q _ h => hc_6.2.2 q h) hc_6.2.2 (fun u_6 t_6 H1 locs ht hvm h_6 hB hz1 hk1 hS => ?_)
        refine xl_1_3 hB (fun fan_6 hP1 hD1 hF_6_0 => ?_)
        clear hB
        rw [ht] at hP1
        obtain ⟨hP, hD⟩ := va_join (wr := []) (w1 := [(xo_8_rrriirrriiiiiiirrirrrrri mo m_la m_sz m_it ms mt m_st m_mv m_tp (nI mz) ml (nI mp) mk mv mb mw m_rd m_ac (nI ma) m_as m_wo m_ik m_ke m_tr (nI mx)), (xI m_st cI 38 fs), (xI m_as cI 38 fan_6)]) hP hD [0, 1, 2] [] rfl rfl (by decide +kernel) (by decide +kernel) hk1 hc_6.2.2 hP1 hD1
        generalize H1 = H at hP hS ⊢
        have hP : va_P (dC, dI) vwCl [(xo_8_rrriirrriiiiiiirrirrrrri mo m_la m_sz m_it ms mt m_st m_mv m_tp (nI mz) ml (nI mp) mk mv mb mw m_rd m_ac (nI ma) m_as m_wo m_ik m_ke m_tr (nI mx)), (xI m_st cI 38 fs), (xI m_as cI 38 fan_6)] H := hP
        have hD := dto hP hD
        have hA_6 := okM_eq hM hF_6_0
        refine lv_iconst (v := 0) hx hb dX8_caps_35 (by decide) ?_
        refine lv_istore_n (lv' := [(3, .int 0), (0, .ref mo), (1, .int (nI j_2)), (2, .int a1)]) hx hb dX8_caps_36 rfl hl (by decide) rfl (fun ls hl => ?_)
        refine lv_iconst (v := (-1)) hx hb dX8_caps_37 (by decide) ?_
        refine lv_istore (lv' := [(4, .int (-1)), (3, .int 0), (0, .ref mo), (1, .int (nI j_2)), (2, .int a1)]) hx hb dX8_caps_38 hl (by decide) rfl (fun ls hl => ?_)
        refine lv_iconst (v := 0) hx hb dX8_caps_40 (by decide) ?_
        refine lv_istore (lv' := [(5, .int 0), (4, .int (-1)), (3, .int 0), (0, .ref mo), (1, .int (nI j_2)), (2, .int a1)]) hx hb dX8_caps_41 hl (by decide) rfl (fun ls hl => ?_)
        refine lv_iconst (v := 0) hx hb dX8_caps_43 (by decide) ?_
        refine lv_istore (lv' := [(6, .int 0), (5, .int 0), (4, .int (-1)), (3, .int 0), (0, .ref mo), (1, .int (nI j_2)), (2, .int a1)]) hx hb dX8_caps_44 hl (by decide) rfl (fun ls hl => ?_)
        refine lp_go (σ := (Int32) × (Int32) × (Int32) × (Nat → Int32)) (fun ii (st : (Int32) × (Int32) × (Int32) × (Nat → Int32)) H locs ls => match st with | (w_15, w_16, w_17, w_18) => lv_has ls 9 [(6, .int (nI ii)), (5, .int w_15), (4, .int w_16), (3, .int w_17), (0, .ref mo), (1, .int (nI j_2)), (2, .int a1)] ∧ va_P (dC, dI) vwCl [(xo_8_rrriirrriiiiiiirrirrrrri mo m_la m_sz m_it ms mt m_st m_mv m_tp (nI mz) ml (nI mp) mk mv mb mw m_rd m_ac (nI ma) m_as m_wo m_ik m_ke m_tr (nI mx)), (xI m_st cI 38 w_18), (xI m_as cI 38 fan_6)] H ∧ va_D A [(xo_8_rrriirrriiiiiiirrirrrrri mo m_la m_sz m_it ms mt m_st m_mv m_tp (nI mz) ml (nI mp) mk mv mb mw m_rd m_ac (nI ma) m_as m_wo m_ik m_ke m_tr (nI mx)), (xI m_st cI 38 w_18), (xI m_as cI 38 fan_6)] ∧ va_S A s.heap H locs ∧ okM w_18 w9 k9 h9 ∧ (cpF (-1) (m38 fs) j_2 ii = (w_16, w_15, w_17)) ∧ (m38 w_18 = m38 fs)) sh ?_ ?_ 0 (by omega) (0, (-1), 0, fs) ⟨lv_sub hl [0, 1, 2, 3, 4, 5, 6] rfl, hP.sub (ws' := [(xo_8_rrriirrriiiiiiirrirrrrri mo m_la m_sz m_it ms mt m_st m_mv m_tp (nI mz) ml (nI mp) mk mv mb mw m_rd m_ac (nI ma) m_as m_wo m_ik m_ke m_tr (nI mx)), (xI m_st cI 38 fs), (xI m_as cI 38 fan_6)]) [0, 1, 2] rfl, hD.sub (ws' := [(xo_8_rrriirrriiiiiiirrirrrrri mo m_la m_sz m_it ms mt m_st m_mv m_tp (nI mz) ml (nI mp) mk mv mb mw m_rd m_ac (nI ma) m_as m_wo m_ik m_ke m_tr (nI mx)), (xI m_st cI 38 fs), (xI m_as cI 38 fan_6)]) [0, 1, 2] (by decide +kernel) rfl, hS, hM, rfl, rfl⟩
        · rintro ii ⟨w_15, w_16, w_17, w_18⟩ H locs ls hii ⟨hl, hP, hD, hS, hMl, haf_0, haf_1⟩ ih
          refine lv_iload hx hb dX8_caps_46 (lv_at hl 0 rfl) ?_
          refine lv_iconst (v := 1) hx hb dX8_caps_48 (by decide) ?_
          refine lv_iload_n hx hb dX8_caps_49 rfl (lv_at hl 5 rfl) ?_
          refine lv_ishl hx hb dX8_caps_50 ?_
          refine lv_topi (fun v_31 e_31 => ?_)
          obtain rfl : v_31 = (nI sh) := (e_31).trans hsh
          refine lv_icmp_ge (tgt := 114) hx hb dX8_caps_51 (by decide) (fun c_ => absurd c_ (fun q_ => absurd ((nI_leI (a := sh) (b := ii) (by omega) (by omega)).mp q_) (by omega))) (fun _ => ?_)
          refine lv_aload_n hx hb dX8_caps_54 rfl (lv_at hl 4 rfl) ?_
          refine lv_iload hx hb dX8_caps_55 (lv_at hl 0 rfl) ?_
          refine lv_iload_n hx hb dX8_caps_57 rfl (lv_at hl 5 rfl) ?_
          have hc_33 := cutW (wc := [(xo_8_rrriirrriiiiiiirrirrrrri mo m_la m_sz m_it ms mt m_st m_mv m_tp (nI mz) ml (nI mp) mk mv mb mw m_rd m_ac (nI ma) m_as m_wo m_ik m_ke m_tr (nI mx)), (xI m_st cI 38 w_18)]) hP hD hS hA [0, 1] (by decide +kernel) rfl
          refine va_calli (va_runV (As := [.int (nI ii), .int (nI j_2)]) (rest := []) ⟨hx, hb, hml, hown, hts⟩ (r_X8_goTurning l dC dI cI cZ cL cJ H.size mo m_la m_sz m_it m_st m_mv m_tp m_rd m_ac m_as m_wo m_ik m_ke m_tr ms mt ml mk mv mb mw mz mp ma mx w_18 w9 k9 h9 j_2 (nI ii) (hMl) (by omega) (by omega) (by omega)) (cwV 2 hts gX8_caps_X8_goTurning rfl rfl rfl (by decide +kernel) ⟨Nat.le_of_ble_eq_true rfl, Nat.le_of_ble_eq_true rfl⟩) (pvW 8 0 hK hP rfl rfl hc_33) rfl rfl hl.1 rfl (lv_room (Nat.le_of_ble_eq_true rfl)) dX8_caps_58 ⟨Nat.le_of_ble_eq_true rfl, Nat.le_of_ble_eq_true rfl⟩) hS (fun q _ h => hc_33.2.2 q h) hc_33.2.2 (fun r_33 u_33 t_33 H1 locs ht hvm h_33 hB hz1 hk1 hS => ?_)
          refine xl_1_4 hB (fun fsn_33 hP1 hD1 hF_33_0 hF_33_1 => ?_)
          clear hB
          rw [ht] at hP1
          obtain ⟨hP, hD⟩ := va_join (wr := [(xI m_as cI 38 fan_6)]) (w1 := [(xo_8_rrriirrriiiiiiirrirrrrri mo m_la m_sz m_it ms mt m_st m_mv m_tp (nI mz) ml (nI mp) mk mv mb mw m_rd m_ac (nI ma) m_as m_wo m_ik m_ke m_tr (nI mx)), (xI m_st cI 38 fsn_33)]) hP hD [0, 1] [2] rfl rfl (by decide +kernel) (by decide +kernel) hk1 hc_33.2.2 hP1 hD1
          generalize H1 = H at hP hS ⊢
          have hP : va_P (dC, dI) vwCl [(xI m_as cI 38 fan_6), (xo_8_rrriirrriiiiiiirrirrrrri mo m_la m_sz m_it ms mt m_st m_mv m_tp (nI mz) ml (nI mp) mk mv mb mw m_rd m_ac (nI ma) m_as m_wo m_ik m_ke m_tr (nI mx)), (xI m_st cI 38 fsn_33)] H := hP
          have hD := dto hP hD
          refine lv_istore (lv' := [(7, .int r_33), (6, .int (nI ii)), (5, .int w_15), (4, .int w_16), (3, .int w_17), (0, .ref mo), (1, .int (nI j_2)), (2, .int a1)]) hx hb dX8_caps_61 hl (by decide) rfl (fun ls hl => ?_)
          refine lv_aload_n hx hb dX8_caps_63 rfl (lv_at hl 5 rfl) ?_
          refine va_get (D := (dC, dI)) (ci := 8) (v := .ref m_st) (C := RX8) (T := TX8) (N := 24) hx hb hts i_X8_caps_X8 hown hK hP 1 rfl rfl 5 (by decide) (hts _ mx_X8_caps_5) (fun _ h9 => h9) rfl dX8_caps_64 ?_
          refine lv_bipush (v := 7) hx hb dX8_caps_67 (by decide) ?_
          refine va_iald hx hb hK hP 2 0 rfl rfl (by unfold vp_in; decide) dX8_caps_69 ?_
          refine lv_topi (fun v_34 e_34 => ?_)
          have e_34 : v_34 = fsn_33 7 := e_34
          refine lv_istore (lv' := [(8, .int v_34), (7, .int r_33), (6, .int (nI ii)), (5, .int w_15), (4, .int w_16), (3, .int w_17), (0, .ref mo), (1, .int (nI j_2)), (2, .int a1)]) hx hb dX8_caps_70 hl (by decide) rfl (fun ls hl => ?_)
          refine lv_aload_n hx hb dX8_caps_72 rfl (lv_at hl 6 rfl) ?_
          have hc_35 := cutW (wc := [(xo_8_rrriirrriiiiiiirrirrrrri mo m_la m_sz m_it ms mt m_st m_mv m_tp (nI mz) ml (nI mp) mk mv mb mw m_rd m_ac (nI ma) m_as m_wo m_ik m_ke m_tr (nI mx)), (xI m_st cI 38 fsn_33), (xI m_as cI 38 fan_6)]) hP hD hS hA [1, 2, 0] (by decide +kernel) rfl
          refine va_callv (va_runV (As := []) (rest := []) ⟨hx, hb, hml, hown, hts⟩ (r_X8_takeBack l dC dI cI cZ cL cJ H.size mo m_la m_sz m_it m_st m_mv m_tp m_rd m_ac m_as m_wo m_ik m_ke m_tr ms mt ml mk mv mb mw mz mp ma mx fsn_33 fan_6 ) (cwV 0 hts gX8_caps_X8_takeBack rfl rfl rfl (by decide +kernel) ⟨Nat.le_of_ble_eq_true rfl, Nat.le_of_ble_eq_true rfl⟩) (pvW 8 1 hK hP rfl rfl hc_35) rfl rfl hl.1 rfl (lv_room (Nat.le_of_ble_eq_true rfl)) dX8_caps_73 ⟨Nat.le_of_ble_eq_true rfl, Nat.le_of_ble_eq_true rfl⟩) hS (fun q _ h => hc_35.2.2 q h) hc_35.2.2 (fun u_35 t_35 H1 locs ht hvm h_35 hB hz1 hk1 hS => ?_)
          refine xl_1_3 hB (fun fsn_35 hP1 hD1 hF_35_0 => ?_)
          clear hB
          rw [ht] at hP1
          obtain ⟨hP, hD⟩ := va_join (wr := []) (w1 := [(xo_8_rrriirrriiiiiiirrirrrrri mo m_la m_sz m_it ms mt m_st m_mv m_tp (nI mz) ml (nI mp) mk mv mb mw m_rd m_ac (nI ma) m_as m_wo m_ik m_ke m_tr (nI mx)), (xI m_st cI 38 fsn_35), (xI m_as cI 38 fan_6)]) hP hD [1, 2, 0] [] rfl rfl (by decide +kernel) (by decide +kernel) hk1 hc_35.2.2 hP1 hD1
          generalize H1 = H at hP hS ⊢
          have hP : va_P (dC, dI) vwCl [(xo_8_rrriirrriiiiiiirrirrrrri mo m_la m_sz m_it ms mt m_st m_mv m_tp (nI mz) ml (nI mp) mk mv mb mw m_rd m_ac (nI ma) m_as m_wo m_ik m_ke m_tr (nI mx)), (xI m_st cI 38 fsn_35), (xI m_as cI 38 fan_6)] H := hP
          have hD := dto hP hD
          have hT_35 := okM_eq hA_6 hF_35_0
          refine lv_iload hx hb dX8_caps_76 (lv_at hl 0 rfl) ?_
          refine lv_iload hx hb dX8_caps_78 (lv_at hl 4 rfl) ?_
          refine lv_icmp_gt (tgt := 97) hx hb dX8_caps_80 (by decide) (fun c_36 => ?_) (fun c_36 => ?_)
          · skip
            refine lv_iload hx hb dX8_caps_97 (lv_at hl 2 rfl) ?_
            refine lv_istore_n (lv' := [(3, .int (nI ii)), (8, .int v_34), (7, .int r_33), (6, .int (nI ii)), (5, .int w_15), (4, .int w_16), (0, .ref mo), (1, .int (nI j_2)), (2, .int a1)]) hx hb dX8_caps_99 rfl hl (by decide) rfl (fun ls hl => ?_)
            refine lv_iload hx hb dX8_caps_100 (lv_at hl 1 rfl) ?_
            refine lv_istore (lv' := [(4, .int v_34), (3, .int (nI ii)), (8, .int v_34), (7, .int r_33), (6, .int (nI ii)), (5, .int w_15), (0, .ref mo), (1, .int (nI j_2)), (2, .int a1)]) hx hb dX8_caps_102 hl (by decide) rfl (fun ls hl => ?_)
            refine lv_iload hx hb dX8_caps_104 (lv_at hl 3 rfl) ?_
            refine lv_istore (lv' := [(5, .int r_33), (4, .int v_34), (3, .int (nI ii)), (8, .int v_34), (7, .int r_33), (6, .int (nI ii)), (0, .ref mo), (1, .int (nI j_2)), (2, .int a1)]) hx hb dX8_caps_106 hl (by decide) rfl (fun ls hl => ?_)
            refine lv_iinc (v := (nI (ii + 1))) (lv' := [(6, .int (nI (ii + 1))), (5, .int r_33), (4, .int v_34), (3, .int (nI ii)), (8, .int v_34), (7, .int r_33), (0, .ref mo), (1, .int (nI j_2)), (2, .int a1)]) hx hb dX8_caps_108 hl (k := 5) rfl (nI_add ii 1) (by decide) rfl (fun ls hl => ?_)
            refine lv_goto (tgt := 46) hx hb dX8_caps_111 (by decide) ?_
            exact ih (r_33, v_34, (nI ii), fsn_35) _ _ _ ⟨lv_sub hl [0, 1, 2, 3, 6, 7, 8] rfl, hP.sub (ws' := [(xo_8_rrriirrriiiiiiirrirrrrri mo m_la m_sz m_it ms mt m_st m_mv m_tp (nI mz) ml (nI mp) mk mv mb mw m_rd m_ac (nI ma) m_as m_wo m_ik m_ke m_tr (nI mx)), (xI m_st cI 38 fsn_35), (xI m_as cI 38 fan_6)]) [0, 1, 2] rfl, hD.sub (ws' := [(xo_8_rrriirrriiiiiiirrirrrrri mo m_la m_sz m_it ms mt m_st m_mv m_tp (nI mz) ml (nI mp) mk mv mb mw m_rd m_ac (nI ma) m_as m_wo m_ik m_ke m_tr (nI mx)), (xI m_st cI 38 fsn_35), (xI m_as cI 38 fan_6)]) [0, 1, 2] (by decide +kernel) rfl, hS, hT_35, (lf_X8_caps_2 hM hT h999 hT0 c_1 hkn1 hw1 h01 f_2_1_0 q_2 hj_2 c_5 hsh hsb hF_6_0 hii haf_0 haf_1 hMl hF_33_0 hF_33_1 h_33 e_34 hF_35_0 c_36), ((m38_eq hF_35_0).trans ((m38_eq hF_6_0).trans rfl))⟩
          · skip
            refine lv_iload hx hb dX8_caps_83 (lv_at hl 0 rfl) ?_
            refine lv_iload hx hb dX8_caps_85 (lv_at hl 4 rfl) ?_
            refine lv_icmp_ne (tgt := 108) hx hb dX8_caps_87 (by decide) (fun c_37 => ?_) (fun c_37 => ?_)
            · skip
              refine lv_iinc (v := (nI (ii + 1))) (lv' := [(6, .int (nI (ii + 1))), (8, .int v_34), (7, .int r_33), (5, .int w_15), (4, .int w_16), (3, .int w_17), (0, .ref mo), (1, .int (nI j_2)), (2, .int a1)]) hx hb dX8_caps_108 hl (k := 2) rfl (nI_add ii 1) (by decide) rfl (fun ls hl => ?_)
              refine lv_goto (tgt := 46) hx hb dX8_caps_111 (by decide) ?_
              exact ih (w_15, w_16, w_17, fsn_35) _ _ _ ⟨lv_sub hl [0, 3, 4, 5, 6, 7, 8] rfl, hP.sub (ws' := [(xo_8_rrriirrriiiiiiirrirrrrri mo m_la m_sz m_it ms mt m_st m_mv m_tp (nI mz) ml (nI mp) mk mv mb mw m_rd m_ac (nI ma) m_as m_wo m_ik m_ke m_tr (nI mx)), (xI m_st cI 38 fsn_35), (xI m_as cI 38 fan_6)]) [0, 1, 2] rfl, hD.sub (ws' := [(xo_8_rrriirrriiiiiiirrirrrrri mo m_la m_sz m_it ms mt m_st m_mv m_tp (nI mz) ml (nI mp) mk mv mb mw m_rd m_ac (nI ma) m_as m_wo m_ik m_ke m_tr (nI mx)), (xI m_st cI 38 fsn_35), (xI m_as cI 38 fan_6)]) [0, 1, 2] (by decide +kernel) rfl, hS, hT_35, (lf_X8_caps_3 hM hT h999 hT0 c_1 hkn1 hw1 h01 f_2_1_0 q_2 hj_2 c_5 hsh hsb hF_6_0 hii haf_0 haf_1 hMl hF_33_0 hF_33_1 h_33 e_34 hF_35_0 c_36 c_37), ((m38_eq hF_35_0).trans ((m38_eq hF_6_0).trans rfl))⟩
            · skip
              refine lv_iload hx hb dX8_caps_90 (lv_at hl 1 rfl) ?_
              refine lv_iload hx hb dX8_caps_92 (lv_at hl 3 rfl) ?_
              refine lv_icmp_ge (tgt := 108) hx hb dX8_caps_94 (by decide) (fun c_38 => ?_) (fun c_38 => ?_)
              · skip
                refine lv_iinc (v := (nI (ii + 1))) (lv' := [(6, .int (nI (ii + 1))), (8, .int v_34), (7, .int r_33), (5, .int w_15), (4, .int w_16), (3, .int w_17), (0, .ref mo), (1, .int (nI j_2)), (2, .int a1)]) hx hb dX8_caps_108 hl (k := 2) rfl (nI_add ii 1) (by decide) rfl (fun ls hl => ?_)
                refine lv_goto (tgt := 46) hx hb dX8_caps_111 (by decide) ?_
                exact ih (w_15, w_16, w_17, fsn_35) _ _ _ ⟨lv_sub hl [0, 3, 4, 5, 6, 7, 8] rfl, hP.sub (ws' := [(xo_8_rrriirrriiiiiiirrirrrrri mo m_la m_sz m_it ms mt m_st m_mv m_tp (nI mz) ml (nI mp) mk mv mb mw m_rd m_ac (nI ma) m_as m_wo m_ik m_ke m_tr (nI mx)), (xI m_st cI 38 fsn_35), (xI m_as cI 38 fan_6)]) [0, 1, 2] rfl, hD.sub (ws' := [(xo_8_rrriirrriiiiiiirrirrrrri mo m_la m_sz m_it ms mt m_st m_mv m_tp (nI mz) ml (nI mp) mk mv mb mw m_rd m_ac (nI ma) m_as m_wo m_ik m_ke m_tr (nI mx)), (xI m_st cI 38 fsn_35), (xI m_as cI 38 fan_6)]) [0, 1, 2] (by decide +kernel) rfl, hS, hT_35, (lf_X8_caps_4 hM hT h999 hT0 c_1 hkn1 hw1 h01 f_2_1_0 q_2 hj_2 c_5 hsh hsb hF_6_0 hii haf_0 haf_1 hMl hF_33_0 hF_33_1 h_33 e_34 hF_35_0 c_36 c_37 c_38), ((m38_eq hF_35_0).trans ((m38_eq hF_6_0).trans rfl))⟩
              · skip
                refine lv_iload hx hb dX8_caps_97 (lv_at hl 2 rfl) ?_
                refine lv_istore_n (lv' := [(3, .int (nI ii)), (8, .int v_34), (7, .int r_33), (6, .int (nI ii)), (5, .int w_15), (4, .int w_16), (0, .ref mo), (1, .int (nI j_2)), (2, .int a1)]) hx hb dX8_caps_99 rfl hl (by decide) rfl (fun ls hl => ?_)
                refine lv_iload hx hb dX8_caps_100 (lv_at hl 1 rfl) ?_
                refine lv_istore (lv' := [(4, .int v_34), (3, .int (nI ii)), (8, .int v_34), (7, .int r_33), (6, .int (nI ii)), (5, .int w_15), (0, .ref mo), (1, .int (nI j_2)), (2, .int a1)]) hx hb dX8_caps_102 hl (by decide) rfl (fun ls hl => ?_)
                refine lv_iload hx hb dX8_caps_104 (lv_at hl 3 rfl) ?_
                refine lv_istore (lv' := [(5, .int r_33), (4, .int v_34), (3, .int (nI ii)), (8, .int v_34), (7, .int r_33), (6, .int (nI ii)), (0, .ref mo), (1, .int (nI j_2)), (2, .int a1)]) hx hb dX8_caps_106 hl (by decide) rfl (fun ls hl => ?_)
                refine lv_iinc (v := (nI (ii + 1))) (lv' := [(6, .int (nI (ii + 1))), (5, .int r_33), (4, .int v_34), (3, .int (nI ii)), (8, .int v_34), (7, .int r_33), (0, .ref mo), (1, .int (nI j_2)), (2, .int a1)]) hx hb dX8_caps_108 hl (k := 5) rfl (nI_add ii 1) (by decide) rfl (fun ls hl => ?_)
                refine lv_goto (tgt := 46) hx hb dX8_caps_111 (by decide) ?_
                exact ih (r_33, v_34, (nI ii), fsn_35) _ _ _ ⟨lv_sub hl [0, 1, 2, 3, 6, 7, 8] rfl, hP.sub (ws' := [(xo_8_rrriirrriiiiiiirrirrrrri mo m_la m_sz m_it ms mt m_st m_mv m_tp (nI mz) ml (nI mp) mk mv mb mw m_rd m_ac (nI ma) m_as m_wo m_ik m_ke m_tr (nI mx)), (xI m_st cI 38 fsn_35), (xI m_as cI 38 fan_6)]) [0, 1, 2] rfl, hD.sub (ws' := [(xo_8_rrriirrriiiiiiirrirrrrri mo m_la m_sz m_it ms mt m_st m_mv m_tp (nI mz) ml (nI mp) mk mv mb mw m_rd m_ac (nI ma) m_as m_wo m_ik m_ke m_tr (nI mx)), (xI m_st cI 38 fsn_35), (xI m_as cI 38 fan_6)]) [0, 1, 2] (by decide +kernel) rfl, hS, hT_35, (lf_X8_caps_5 hM hT h999 hT0 c_1 hkn1 hw1 h01 f_2_1_0 q_2 hj_2 c_5 hsh hsb hF_6_0 hii haf_0 haf_1 hMl hF_33_0 hF_33_1 h_33 e_34 hF_35_0 c_36 c_37 c_38), ((m38_eq hF_35_0).trans ((m38_eq hF_6_0).trans rfl))⟩
        · rintro ⟨w_15, w_16, w_17, w_18⟩ H locs ls ⟨hl, hP, hD, hS, hMl, haf_0, haf_1⟩
          refine lv_iload hx hb dX8_caps_46 (lv_at hl 0 rfl) ?_
          refine lv_iconst (v := 1) hx hb dX8_caps_48 (by decide) ?_
          refine lv_iload_n hx hb dX8_caps_49 rfl (lv_at hl 5 rfl) ?_
          refine lv_ishl hx hb dX8_caps_50 ?_
          refine lv_topi (fun v_39 e_39 => ?_)
          obtain rfl : v_39 = (nI sh) := (e_39).trans hsh
          refine lv_icmp_ge (tgt := 114) hx hb dX8_caps_51 (by decide) (fun _ => ?_) (fun c_ => absurd ((nI_leI (a := sh) (b := sh) (by omega) (by omega)).mpr (by omega)) c_)
          refine lv_iload_n hx hb dX8_caps_114 rfl (lv_at hl 6 rfl) ?_
          refine lv_iconst (v := (-1)) hx hb dX8_caps_115 (by decide) ?_
          refine lv_icmp_ne (tgt := 124) hx hb dX8_caps_116 (by decide) (fun c_41 => ?_) (fun c_41 => ?_)
          · skip
            refine lv_iload_n hx hb dX8_caps_124 rfl (lv_at hl 6 rfl) ?_
            refine lv_bipush (v := (-2)) hx hb dX8_caps_125 (by decide) ?_
            refine lv_icmp_ne (tgt := 135) hx hb dX8_caps_127 (by decide) (fun c_42 => ?_) (fun c_42 => ?_)
            · skip
              refine lv_iload_n hx hb dX8_caps_135 rfl (lv_at hl 6 rfl) ?_
              refine lv_iload_n hx hb dX8_caps_136 rfl (lv_at hl 5 rfl) ?_
              refine lv_icmp_ge (tgt := 152) hx hb dX8_caps_137 (by decide) (fun c_43 => ?_) (fun c_43 => ?_)
              · skip
                refine lv_ldc (own := RX8) (v := (-1000000)) hx hb hown (hts _ mx_X8_caps_6) dX8_caps_152 ?_
                have hX9 := cut2 (wc := [(xo_8_rrriirrriiiiiiirrirrrrri mo m_la m_sz m_it ms mt m_st m_mv m_tp (nI mz) ml (nI mp) mk mv mb mw m_rd m_ac (nI ma) m_as m_wo m_ik m_ke m_tr (nI mx)), (xI m_st cI 38 w_18), (xI m_as cI 38 fan_6)]) hP hD [0, 1, 2] (by decide +kernel) rfl
                exact W.iret (v := (-1000000)) hx hb hr (fun t ht hW => ⟨⟨(-1000000), (), rfl, (lf_X8_caps_6 hM hT h999 hT0 c_1 hkn1 hw1 h01 f_2_1_0 q_2 hj_2 c_5 hsh hsb hF_6_0 haf_0 haf_1 hMl c_41 c_42 c_43), ⟨w_18, fan_6, va_Ht ht hX9.1, hX9.2, hMl, haf_1⟩⟩, hS.F ht⟩) hS.2.2 dX8_caps_154
              · skip
                refine lv_iload_n hx hb dX8_caps_140 rfl (lv_at hl 3 rfl) ?_
                refine lv_iload_n hx hb dX8_caps_141 rfl (lv_at hl 5 rfl) ?_
                refine lv_iconst (v := 1) hx hb dX8_caps_142 (by decide) ?_
                refine lv_isub hx hb dX8_caps_143 ?_
                refine lv_topi (fun v_44 e_44 => ?_)
                refine lv_iload_n hx hb dX8_caps_144 rfl (lv_at hl 6 rfl) ?_
                refine lv_isub hx hb dX8_caps_145 ?_
                refine lv_topi (fun v_45 e_45 => ?_)
                refine lv_ishr hx hb dX8_caps_146 ?_
                refine lv_topi (fun v_46 e_46 => ?_)
                refine lv_iconst (v := 1) hx hb dX8_caps_147 (by decide) ?_
                refine lv_iand hx hb dX8_caps_148 ?_
                refine lv_topi (fun v_47 e_47 => ?_)
                refine lv_goto (tgt := 154) hx hb dX8_caps_149 (by decide) ?_
                have hX9 := cut2 (wc := [(xo_8_rrriirrriiiiiiirrirrrrri mo m_la m_sz m_it ms mt m_st m_mv m_tp (nI mz) ml (nI mp) mk mv mb mw m_rd m_ac (nI ma) m_as m_wo m_ik m_ke m_tr (nI mx)), (xI m_st cI 38 w_18), (xI m_as cI 38 fan_6)]) hP hD [0, 1, 2] (by decide +kernel) rfl
                exact W.iret (v := v_47) hx hb hr (fun t ht hW => ⟨⟨v_47, (), rfl, (lf_X8_caps_7 hM hT h999 hT0 c_1 hkn1 hw1 h01 f_2_1_0 q_2 hj_2 c_5 hsh hsb hF_6_0 haf_0 haf_1 hMl c_41 c_42 c_43 e_44 e_45 e_46 e_47), ⟨w_18, fan_6, va_Ht ht hX9.1, hX9.2, hMl, haf_1⟩⟩, hS.F ht⟩) hS.2.2 dX8_caps_154
            · skip
              refine lv_iload hx hb dX8_caps_130 (lv_at hl 1 rfl) ?_
              refine lv_goto (tgt := 154) hx hb dX8_caps_132 (by decide) ?_
              have hX9 := cut2 (wc := [(xo_8_rrriirrriiiiiiirrirrrrri mo m_la m_sz m_it ms mt m_st m_mv m_tp (nI mz) ml (nI mp) mk mv mb mw m_rd m_ac (nI ma) m_as m_wo m_ik m_ke m_tr (nI mx)), (xI m_st cI 38 w_18), (xI m_as cI 38 fan_6)]) hP hD [0, 1, 2] (by decide +kernel) rfl
              exact W.iret (v := w_15) hx hb hr (fun t ht hW => ⟨⟨w_15, (), rfl, (lf_X8_caps_8 hM hT h999 hT0 c_1 hkn1 hw1 h01 f_2_1_0 q_2 hj_2 c_5 hsh hsb hF_6_0 haf_0 haf_1 hMl c_41 c_42), ⟨w_18, fan_6, va_Ht ht hX9.1, hX9.2, hMl, haf_1⟩⟩, hS.F ht⟩) hS.2.2 dX8_caps_154
          · skip
            refine lv_iload hx hb dX8_caps_119 (lv_at hl 2 rfl) ?_
            refine lv_goto (tgt := 154) hx hb dX8_caps_121 (by decide) ?_
            have hX9 := cut2 (wc := [(xo_8_rrriirrriiiiiiirrirrrrri mo m_la m_sz m_it ms mt m_st m_mv m_tp (nI mz) ml (nI mp) mk mv mb mw m_rd m_ac (nI ma) m_as m_wo m_ik m_ke m_tr (nI mx)), (xI m_st cI 38 w_18), (xI m_as cI 38 fan_6)]) hP hD [0, 1, 2] (by decide +kernel) rfl
            exact W.iret (v := w_16) hx hb hr (fun t ht hW => ⟨⟨w_16, (), rfl, (lf_X8_caps_9 hM hT h999 hT0 c_1 hkn1 hw1 h01 f_2_1_0 q_2 hj_2 c_5 hsh hsb hF_6_0 haf_0 haf_1 hMl c_41), ⟨w_18, fan_6, va_Ht ht hX9.1, hX9.2, hMl, haf_1⟩⟩, hS.F ht⟩) hS.2.2 dX8_caps_154
      · skip
        refine lv_ldc (own := RX8) (v := (-1000001)) hx hb hown (hts _ mx_X8_caps_4) dX8_caps_28 ?_
        have hX9 := cut2 (wc := [(xo_8_rrriirrriiiiiiirrirrrrri mo m_la m_sz m_it ms mt m_st m_mv m_tp (nI mz) ml (nI mp) mk mv mb mw m_rd m_ac (nI ma) m_as m_wo m_ik m_ke m_tr (nI mx)), (xI m_st cI 38 fs), (xI m_as cI 38 fa)]) hP hD [0, 1, 2] (by decide +kernel) rfl
        exact W.iret (v := (-1000001)) hx hb hr (fun t ht hW => ⟨⟨(-1000001), (), rfl, (lf_X8_caps_10 hM hT h999 hT0 c_1 hkn1 hw1 h01 f_2_1_0 q_2 hj_2 c_5), ⟨fs, fa, va_Ht ht hX9.1, hX9.2, hM, rfl⟩⟩, hS.F ht⟩) hS.2.2 dX8_caps_30
  · skip
    have h00 : fs 0 = 0 := (hT0 c_1).1
    refine lv_ldc (own := RX8) (v := (-1000002)) hx hb hown (hts _ mx_X8_caps_2) dX8_caps_7 ?_
    have hX9 := cut2 (wc := [(xo_8_rrriirrriiiiiiirrirrrrri mo m_la m_sz m_it ms mt m_st m_mv m_tp (nI mz) ml (nI mp) mk mv mb mw m_rd m_ac (nI ma) m_as m_wo m_ik m_ke m_tr (nI mx)), (xI m_st cI 38 fs), (xI m_as cI 38 fa)]) hP hD [0, 1, 2] (by decide +kernel) rfl
    exact W.iret (v := (-1000002)) hx hb hr (fun t ht hW => ⟨⟨(-1000002), (), rfl, (lf_X8_caps_11 hM hT h999 hT0 c_1 h00), ⟨fs, fa, va_Ht ht hX9.1, hX9.2, hM, rfl⟩⟩, hS.F ht⟩) hS.2.2 dX8_caps_9
theorem lf_X8_had_1 {mt : Int32} {ma : Nat} {fs : Nat → Int32} {w9 : Nat} {k9 : Nat} {h9 : Nat} {a0 : Int32} {a1 : Int32} {v_3 : Int32} {v_4 : Int32} (hM : okM fs w9 k9 h9) (hT : ¬ mt = 0 → 1 ≤ k9) (h999 : h9 ≤ 999) (hT0 : mt = 0 → fs 0 = 0 ∧ ma = 0) (c_1 : ¬ (mt = 0)) (hkn1 : 1 ≤ k9) (hw1 : 1 ≤ w9) (h01 : ¬ fs 0 = 0) (e_3 : v_3 = ((1 : Int32) <<< (((nI k9) : Int32) &&& 31))) (e_4 : v_4 = (v_3 - 1)) (f_5_0_0 : ((a0).toInt64 < 0 ∨ (v_4).toInt64 < (a0).toInt64)) (q_5 : (a0 < 0 ∨ v_4 < a0)) : (-1000001) = (a_had (m38 fs) a0 a1) := by
  first
  | exact had_0 h00
  | exact had_n h01 (Or.inr q_8)
  | exact hadM_n hM h01 e_3 e_4 q_5
theorem lf_X8_had_2 {mt : Int32} {ma : Nat} {fs : Nat → Int32} {w9 : Nat} {k9 : Nat} {h9 : Nat} {a0 : Int32} {a1 : Int32} {v_3 : Int32} {v_4 : Int32} (hM : okM fs w9 k9 h9) (hT : ¬ mt = 0 → 1 ≤ k9) (h999 : h9 ≤ 999) (hT0 : mt = 0 → fs 0 = 0 ∧ ma = 0) (c_1 : ¬ (mt = 0)) (hkn1 : 1 ≤ k9) (hw1 : 1 ≤ w9) (h01 : ¬ fs 0 = 0) (e_3 : v_3 = ((1 : Int32) <<< (((nI k9) : Int32) &&& 31))) (e_4 : v_4 = (v_3 - 1)) (f_5_1_0 : (¬ ((a0).toInt64 < 0 ∨ (v_4).toInt64 < (a0).toInt64))) (q_5 : ¬ (a0 < 0 ∨ v_4 < a0)) (f_8_0_0 : ((a1).toInt64 < 1 ∨ 8 < (a1).toInt64)) (q_8 : (a1 < 1 ∨ 8 < a1)) : (-1000001) = (a_had (m38 fs) a0 a1) := by
  first
  | exact had_0 h00
  | exact had_n h01 (Or.inr q_8)
  | exact hadM_n hM h01 e_3 e_4 q_5
theorem lf_X8_had_3 {mt : Int32} {ma : Nat} {fs : Nat → Int32} {w9 : Nat} {k9 : Nat} {h9 : Nat} {a0 : Int32} {v_3 : Int32} {v_4 : Int32} {j_8 : Nat} {sh : Nat} {fan_11 : Nat → Int32} {w_24 : Int32} {w_25 : Nat → Int32} {ii : Nat} {fsn_43 : Nat → Int32} {r_43 : Int32} {j_44 : Nat} {v_45 : Int32} {v_46 : Int32} {fsn_48 : Nat → Int32} (hM : okM fs w9 k9 h9) (hT : ¬ mt = 0 → 1 ≤ k9) (h999 : h9 ≤ 999) (hT0 : mt = 0 → fs 0 = 0 ∧ ma = 0) (c_1 : ¬ (mt = 0)) (hkn1 : 1 ≤ k9) (hw1 : 1 ≤ w9) (h01 : ¬ fs 0 = 0) (e_3 : v_3 = ((1 : Int32) <<< (((nI k9) : Int32) &&& 31))) (e_4 : v_4 = (v_3 - 1)) (f_5_1_0 : (¬ ((a0).toInt64 < 0 ∨ (v_4).toInt64 < (a0).toInt64))) (q_5 : ¬ (a0 < 0 ∨ v_4 < a0)) (f_8_1_0 : (¬ (((nI j_8)).toInt64 < 1 ∨ 8 < ((nI j_8)).toInt64))) (q_8 : ¬ ((nI j_8) < 1 ∨ 8 < (nI j_8))) (hj_8 : j_8 ≤ 8) (hsh : (1 : Int32) <<< (nI j_8 &&& 31) = nI sh) (hsb : sh ≤ 256) (hF_11_0 : (∀ j : Nat, j < 38 → fan_11 j = fs j)) (hii : ii < sh) (haf_0 : (hdF a0 (m38 fs) j_8 ii = w_24)) (haf_1 : (m38 w_25 = m38 fs)) (hMl : okM w_25 w9 k9 h9) (hF_43_0 : okM fsn_43 w9 k9 (h9 + j_8)) (hF_43_1 : fsn_43 = (gtI (nI ii) j_8 j_8 (w_25, 0)).1) (h_43 : r_43 = ((gtI (nI ii) j_8 j_8 (w_25, 0)).2)) (hz_44_0 : j_44 ≤ 63) (hz_44_1 : nI j_44 = thR (fun s => fsn_43 (26 + s)) 1 k9) (e_45 : v_45 = ((nI j_44) ^^^ (-1))) (e_46 : v_46 = (a0 &&& v_45)) (c_47 : ¬ (v_46 = 0)) (hF_48_0 : (∀ j : Nat, j < 38 → fsn_48 j = fan_11 j)) : hdF a0 (m38 fs) j_8 (ii + 1) = w_24 := by
  exact hd_1 (hd_go haf_0 hF_43_0 (cp_v hMl hw1 haf_1 hF_43_1 h_43).1 (cp_v hMl hw1 haf_1 hF_43_1 h_43).2 hz_44_1 e_45 e_46) c_47
theorem lf_X8_had_4 {mt : Int32} {ma : Nat} {fs : Nat → Int32} {w9 : Nat} {k9 : Nat} {h9 : Nat} {a0 : Int32} {v_3 : Int32} {v_4 : Int32} {j_8 : Nat} {sh : Nat} {fan_11 : Nat → Int32} {w_24 : Int32} {w_25 : Nat → Int32} {ii : Nat} {fsn_43 : Nat → Int32} {r_43 : Int32} {j_44 : Nat} {v_45 : Int32} {v_46 : Int32} {fsn_50 : Nat → Int32} (hM : okM fs w9 k9 h9) (hT : ¬ mt = 0 → 1 ≤ k9) (h999 : h9 ≤ 999) (hT0 : mt = 0 → fs 0 = 0 ∧ ma = 0) (c_1 : ¬ (mt = 0)) (hkn1 : 1 ≤ k9) (hw1 : 1 ≤ w9) (h01 : ¬ fs 0 = 0) (e_3 : v_3 = ((1 : Int32) <<< (((nI k9) : Int32) &&& 31))) (e_4 : v_4 = (v_3 - 1)) (f_5_1_0 : (¬ ((a0).toInt64 < 0 ∨ (v_4).toInt64 < (a0).toInt64))) (q_5 : ¬ (a0 < 0 ∨ v_4 < a0)) (f_8_1_0 : (¬ (((nI j_8)).toInt64 < 1 ∨ 8 < ((nI j_8)).toInt64))) (q_8 : ¬ ((nI j_8) < 1 ∨ 8 < (nI j_8))) (hj_8 : j_8 ≤ 8) (hsh : (1 : Int32) <<< (nI j_8 &&& 31) = nI sh) (hsb : sh ≤ 256) (hF_11_0 : (∀ j : Nat, j < 38 → fan_11 j = fs j)) (hii : ii < sh) (haf_0 : (hdF a0 (m38 fs) j_8 ii = w_24)) (haf_1 : (m38 w_25 = m38 fs)) (hMl : okM w_25 w9 k9 h9) (hF_43_0 : okM fsn_43 w9 k9 (h9 + j_8)) (hF_43_1 : fsn_43 = (gtI (nI ii) j_8 j_8 (w_25, 0)).1) (h_43 : r_43 = ((gtI (nI ii) j_8 j_8 (w_25, 0)).2)) (hz_44_0 : j_44 ≤ 63) (hz_44_1 : nI j_44 = thR (fun s => fsn_43 (26 + s)) 1 k9) (e_45 : v_45 = ((nI j_44) ^^^ (-1))) (e_46 : v_46 = (a0 &&& v_45)) (c_47 : v_46 = 0) (hF_50_0 : (∀ j : Nat, j < 38 → fsn_50 j = fan_11 j)) (c_52 : w_24 < 0) : hdF a0 (m38 fs) j_8 (ii + 1) = r_43 := by
  first
  | exact hd_1 (hd_go haf_0 hF_43_0 (cp_v hMl hw1 haf_1 hF_43_1 h_43).1 (cp_v hMl hw1 haf_1 hF_43_1 h_43).2 hz_44_1 e_45 e_46) c_47
  | exact hd_2 (hd_go haf_0 hF_43_0 (cp_v hMl hw1 haf_1 hF_43_1 h_43).1 (cp_v hMl hw1 haf_1 hF_43_1 h_43).2 hz_44_1 e_45 e_46) c_47 c_52
theorem lf_X8_had_5 {mt : Int32} {ma : Nat} {fs : Nat → Int32} {w9 : Nat} {k9 : Nat} {h9 : Nat} {a0 : Int32} {v_3 : Int32} {v_4 : Int32} {j_8 : Nat} {sh : Nat} {fan_11 : Nat → Int32} {w_24 : Int32} {w_25 : Nat → Int32} {ii : Nat} {fsn_43 : Nat → Int32} {r_43 : Int32} {j_44 : Nat} {v_45 : Int32} {v_46 : Int32} {fsn_50 : Nat → Int32} (hM : okM fs w9 k9 h9) (hT : ¬ mt = 0 → 1 ≤ k9) (h999 : h9 ≤ 999) (hT0 : mt = 0 → fs 0 = 0 ∧ ma = 0) (c_1 : ¬ (mt = 0)) (hkn1 : 1 ≤ k9) (hw1 : 1 ≤ w9) (h01 : ¬ fs 0 = 0) (e_3 : v_3 = ((1 : Int32) <<< (((nI k9) : Int32) &&& 31))) (e_4 : v_4 = (v_3 - 1)) (f_5_1_0 : (¬ ((a0).toInt64 < 0 ∨ (v_4).toInt64 < (a0).toInt64))) (q_5 : ¬ (a0 < 0 ∨ v_4 < a0)) (f_8_1_0 : (¬ (((nI j_8)).toInt64 < 1 ∨ 8 < ((nI j_8)).toInt64))) (q_8 : ¬ ((nI j_8) < 1 ∨ 8 < (nI j_8))) (hj_8 : j_8 ≤ 8) (hsh : (1 : Int32) <<< (nI j_8 &&& 31) = nI sh) (hsb : sh ≤ 256) (hF_11_0 : (∀ j : Nat, j < 38 → fan_11 j = fs j)) (hii : ii < sh) (haf_0 : (hdF a0 (m38 fs) j_8 ii = w_24)) (haf_1 : (m38 w_25 = m38 fs)) (hMl : okM w_25 w9 k9 h9) (hF_43_0 : okM fsn_43 w9 k9 (h9 + j_8)) (hF_43_1 : fsn_43 = (gtI (nI ii) j_8 j_8 (w_25, 0)).1) (h_43 : r_43 = ((gtI (nI ii) j_8 j_8 (w_25, 0)).2)) (hz_44_0 : j_44 ≤ 63) (hz_44_1 : nI j_44 = thR (fun s => fsn_43 (26 + s)) 1 k9) (e_45 : v_45 = ((nI j_44) ^^^ (-1))) (e_46 : v_46 = (a0 &&& v_45)) (c_47 : v_46 = 0) (hF_50_0 : (∀ j : Nat, j < 38 → fsn_50 j = fan_11 j)) (c_52 : ¬ (w_24 < 0)) (c_53 : w_24 ≤ r_43) : hdF a0 (m38 fs) j_8 (ii + 1) = w_24 := by
  first
  | exact hd_1 (hd_go haf_0 hF_43_0 (cp_v hMl hw1 haf_1 hF_43_1 h_43).1 (cp_v hMl hw1 haf_1 hF_43_1 h_43).2 hz_44_1 e_45 e_46) c_47
  | exact hd_2 (hd_go haf_0 hF_43_0 (cp_v hMl hw1 haf_1 hF_43_1 h_43).1 (cp_v hMl hw1 haf_1 hF_43_1 h_43).2 hz_44_1 e_45 e_46) c_47 c_52
  | exact hd_3 (hd_go haf_0 hF_43_0 (cp_v hMl hw1 haf_1 hF_43_1 h_43).1 (cp_v hMl hw1 haf_1 hF_43_1 h_43).2 hz_44_1 e_45 e_46) c_52 c_53
  | exact hd_4 (hd_go haf_0 hF_43_0 (cp_v hMl hw1 haf_1 hF_43_1 h_43).1 (cp_v hMl hw1 haf_1 hF_43_1 h_43).2 hz_44_1 e_45 e_46) c_47 c_53
theorem lf_X8_had_6 {mt : Int32} {ma : Nat} {fs : Nat → Int32} {w9 : Nat} {k9 : Nat} {h9 : Nat} {a0 : Int32} {v_3 : Int32} {v_4 : Int32} {j_8 : Nat} {sh : Nat} {fan_11 : Nat → Int32} {w_24 : Int32} {w_25 : Nat → Int32} {ii : Nat} {fsn_43 : Nat → Int32} {r_43 : Int32} {j_44 : Nat} {v_45 : Int32} {v_46 : Int32} {fsn_50 : Nat → Int32} (hM : okM fs w9 k9 h9) (hT : ¬ mt = 0 → 1 ≤ k9) (h999 : h9 ≤ 999) (hT0 : mt = 0 → fs 0 = 0 ∧ ma = 0) (c_1 : ¬ (mt = 0)) (hkn1 : 1 ≤ k9) (hw1 : 1 ≤ w9) (h01 : ¬ fs 0 = 0) (e_3 : v_3 = ((1 : Int32) <<< (((nI k9) : Int32) &&& 31))) (e_4 : v_4 = (v_3 - 1)) (f_5_1_0 : (¬ ((a0).toInt64 < 0 ∨ (v_4).toInt64 < (a0).toInt64))) (q_5 : ¬ (a0 < 0 ∨ v_4 < a0)) (f_8_1_0 : (¬ (((nI j_8)).toInt64 < 1 ∨ 8 < ((nI j_8)).toInt64))) (q_8 : ¬ ((nI j_8) < 1 ∨ 8 < (nI j_8))) (hj_8 : j_8 ≤ 8) (hsh : (1 : Int32) <<< (nI j_8 &&& 31) = nI sh) (hsb : sh ≤ 256) (hF_11_0 : (∀ j : Nat, j < 38 → fan_11 j = fs j)) (hii : ii < sh) (haf_0 : (hdF a0 (m38 fs) j_8 ii = w_24)) (haf_1 : (m38 w_25 = m38 fs)) (hMl : okM w_25 w9 k9 h9) (hF_43_0 : okM fsn_43 w9 k9 (h9 + j_8)) (hF_43_1 : fsn_43 = (gtI (nI ii) j_8 j_8 (w_25, 0)).1) (h_43 : r_43 = ((gtI (nI ii) j_8 j_8 (w_25, 0)).2)) (hz_44_0 : j_44 ≤ 63) (hz_44_1 : nI j_44 = thR (fun s => fsn_43 (26 + s)) 1 k9) (e_45 : v_45 = ((nI j_44) ^^^ (-1))) (e_46 : v_46 = (a0 &&& v_45)) (c_47 : v_46 = 0) (hF_50_0 : (∀ j : Nat, j < 38 → fsn_50 j = fan_11 j)) (c_52 : ¬ (w_24 < 0)) (c_53 : ¬ (w_24 ≤ r_43)) : hdF a0 (m38 fs) j_8 (ii + 1) = r_43 := by
  first
  | exact hd_1 (hd_go haf_0 hF_43_0 (cp_v hMl hw1 haf_1 hF_43_1 h_43).1 (cp_v hMl hw1 haf_1 hF_43_1 h_43).2 hz_44_1 e_45 e_46) c_47
  | exact hd_2 (hd_go haf_0 hF_43_0 (cp_v hMl hw1 haf_1 hF_43_1 h_43).1 (cp_v hMl hw1 haf_1 hF_43_1 h_43).2 hz_44_1 e_45 e_46) c_47 c_52
  | exact hd_3 (hd_go haf_0 hF_43_0 (cp_v hMl hw1 haf_1 hF_43_1 h_43).1 (cp_v hMl hw1 haf_1 hF_43_1 h_43).2 hz_44_1 e_45 e_46) c_52 c_53
  | exact hd_4 (hd_go haf_0 hF_43_0 (cp_v hMl hw1 haf_1 hF_43_1 h_43).1 (cp_v hMl hw1 haf_1 hF_43_1 h_43).2 hz_44_1 e_45 e_46) c_47 c_53
theorem lf_X8_had_7 {mt : Int32} {ma : Nat} {fs : Nat → Int32} {w9 : Nat} {k9 : Nat} {h9 : Nat} {a0 : Int32} {v_3 : Int32} {v_4 : Int32} {j_8 : Nat} {sh : Nat} {fan_11 : Nat → Int32} {w_24 : Int32} {w_25 : Nat → Int32} (hM : okM fs w9 k9 h9) (hT : ¬ mt = 0 → 1 ≤ k9) (h999 : h9 ≤ 999) (hT0 : mt = 0 → fs 0 = 0 ∧ ma = 0) (c_1 : ¬ (mt = 0)) (hkn1 : 1 ≤ k9) (hw1 : 1 ≤ w9) (h01 : ¬ fs 0 = 0) (e_3 : v_3 = ((1 : Int32) <<< (((nI k9) : Int32) &&& 31))) (e_4 : v_4 = (v_3 - 1)) (f_5_1_0 : (¬ ((a0).toInt64 < 0 ∨ (v_4).toInt64 < (a0).toInt64))) (q_5 : ¬ (a0 < 0 ∨ v_4 < a0)) (f_8_1_0 : (¬ (((nI j_8)).toInt64 < 1 ∨ 8 < ((nI j_8)).toInt64))) (q_8 : ¬ ((nI j_8) < 1 ∨ 8 < (nI j_8))) (hj_8 : j_8 ≤ 8) (hsh : (1 : Int32) <<< (nI j_8 &&& 31) = nI sh) (hsb : sh ≤ 256) (hF_11_0 : (∀ j : Nat, j < 38 → fan_11 j = fs j)) (haf_0 : (hdF a0 (m38 fs) j_8 sh = w_24)) (haf_1 : (m38 w_25 = m38 fs)) (hMl : okM w_25 w9 k9 h9) : w_24 = (a_had (m38 fs) a0 (nI j_8)) := by
  first
  | exact had_0 h00
  | exact had_n h01 (Or.inr q_8)
  | exact hadM_n hM h01 e_3 e_4 q_5
  | exact hadM_e hM h01 e_3 e_4 q_5 q_8 hj_8 hsh hsb haf_0
theorem lf_X8_had_8 {mt : Int32} {ma : Nat} {fs : Nat → Int32} {w9 : Nat} {k9 : Nat} {h9 : Nat} {a0 : Int32} {a1 : Int32} (hM : okM fs w9 k9 h9) (hT : ¬ mt = 0 → 1 ≤ k9) (h999 : h9 ≤ 999) (hT0 : mt = 0 → fs 0 = 0 ∧ ma = 0) (c_1 : mt = 0) (h00 : fs 0 = 0) : (-1000002) = (a_had (m38 fs) a0 a1) := by
  first
  | exact had_0 h00
  | exact had_n h01 (Or.inr q_8)
set_option maxHeartbeats 4000000 in
set_option maxRecDepth 100000 in
theorem r_X8_had (l : Launch) (dC : Nat → ClassId) (dI : Nat → Nat → Nat) (cI cZ cL cJ : ClassId) (sz : Nat) (mo : Nat) (m_la : Nat) (m_sz : Nat) (m_it : Nat) (m_st : Nat) (m_mv : Nat) (m_tp : Nat) (m_rd : Nat) (m_ac : Nat) (m_as : Nat) (m_wo : Nat) (m_ik : Nat) (m_ke : Nat) (m_tr : Nat) (ms : Int32) (mt : Int32) (ml : Int32) (mk : Int32) (mv : Int32) (mb : Int32) (mw : Int32) (mz : Nat) (mp : Nat) (ma : Nat) (mx : Nat) (fs : Nat → Int32) (w9 : Nat) (k9 : Nat) (h9 : Nat) (fa : Nat → Int32) (a0 : Int32) (a1 : Int32) (hM : okM fs w9 k9 h9) (hT : ¬ mt = 0 → 1 ≤ k9) (h999 : h9 ≤ 999) (hT0 : mt = 0 → fs 0 = 0 ∧ ma = 0) : Met l yX8_had wsX8_had ({ frames := 5, cells := 0, slots := 0, locals := 120 }) (va_Pc [.ref mo, .int a0, .int a1] (fun U => U.heap.size = sz ∧ va_P (dC, dI) vwCl [(xo_8_rrriirrriiiiiiirrirrrrri mo m_la m_sz m_it ms mt m_st m_mv m_tp (nI mz) ml (nI mp) mk mv mb mw m_rd m_ac (nI ma) m_as m_wo m_ik m_ke m_tr (nI mx)), (xI m_st cI 38 fs), (xI m_as cI 38 fa)] U.heap ∧ va_K (dC, dI) vwCl [(cI, .int), (cZ, .boolean), (cL, .object RX3), (cJ, .array .int)] U ∧ va_D (fun _ => True) [(xo_8_rrriirrriiiiiiirrirrrrri mo m_la m_sz m_it ms mt m_st m_mv m_tp (nI mz) ml (nI mp) mk mv mb mw m_rd m_ac (nI ma) m_as m_wo m_ik m_ke m_tr (nI mx)), (xI m_st cI 38 fs), (xI m_as cI 38 fa)])) (va_Qi (fun r (_ : Unit) => r = (a_had (m38 fs) a0 a1)) (fun (_ : Unit) t => ∃ (fsn : Nat → Int32) (fan : Nat → Int32), va_P (dC, dI) vwCl [(xo_8_rrriirrriiiiiiirrirrrrri mo m_la m_sz m_it ms mt m_st m_mv m_tp (nI mz) ml (nI mp) mk mv mb mw m_rd m_ac (nI ma) m_as m_wo m_ik m_ke m_tr (nI mx)), (xI m_st cI 38 fsn), (xI m_as cI 38 fan)] t.heap ∧ va_D (va_A [(xo_8_rrriirrriiiiiiirrirrrrri mo m_la m_sz m_it ms mt m_st m_mv m_tp (nI mz) ml (nI mp) mk mv mb mw m_rd m_ac (nI ma) m_as m_wo m_ik m_ke m_tr (nI mx)), (xI m_st cI 38 fs), (xI m_as cI 38 fa)] sz) [(xo_8_rrriirrriiiiiiirrirrrrri mo m_la m_sz m_it ms mt m_st m_mv m_tp (nI mz) ml (nI mp) mk mv mb mw m_rd m_ac (nI ma) m_as m_wo m_ik m_ke m_tr (nI mx)), (xI m_st cI 38 fsn), (xI m_as cI 38 fan)] ∧ okM fsn w9 k9 h9 ∧ m38 fsn = m38 fs) (va_A [(xo_8_rrriirrriiiiiiirrirrrrri mo m_la m_sz m_it ms mt m_st m_mv m_tp (nI mz) ml (nI mp) mk mv mb mw m_rd m_ac (nI ma) m_as m_wo m_ik m_ke m_tr (nI mx)), (xI m_st cI 38 fs), (xI m_as cI 38 fa)] sz)) 0 0 (va_A [(xo_8_rrriirrriiiiiiirrirrrrri mo m_la m_sz m_it ms mt m_st m_mv m_tp (nI mz) ml (nI mp) mk mv mb mw m_rd m_ac (nI ma) m_as m_wo m_ik m_ke m_tr (nI mx)), (xI m_st cI 38 fs), (xI m_as cI 38 fa)] sz) := by
  refine Met.ofW (cc := cX8_had) (maxL := 7) (ret := (some .int)) (by decide) rfl ?_
  intro p e s m args below meth c s₁ B hml hv
  obtain ⟨rfl, hsz, hP, hK, hD0⟩ := hv
  have hx := B.exec
  have hb := B.bytes
  have hr := B.returns
  have hts := atoms_spec (ws := wsX8_had) B.pre
  have hown : s.vm.findClass RX8 = some m.cls := findClass_of_methodNamed B.named
  have hlocks := B.notSynchronized
  subst hsz
  have hD := hD0.self (sz := s.heap.size)
  generalize hAe : va_A [(xo_8_rrriirrriiiiiiirrirrrrri mo m_la m_sz m_it ms mt m_st m_mv m_tp (nI mz) ml (nI mp) mk mv mb mw m_rd m_ac (nI ma) m_as m_wo m_ik m_ke m_tr (nI mx)), (xI m_st cI 38 fs), (xI m_as cI 38 fa)] s.heap.size = A at hD ⊢
  have hA : ∀ q : Nat, s.heap.size ≤ q → A q := fun q h => by rw [← hAe]; exact Or.inr h
  have hS : va_S A s.heap s.heap [] := va_S.rf
  have hP : va_P (dC, dI) vwCl [(xo_8_rrriirrriiiiiiirrirrrrri mo m_la m_sz m_it ms mt m_st m_mv m_tp (nI mz) ml (nI mp) mk mv mb mw m_rd m_ac (nI ma) m_as m_wo m_ik m_ke m_tr (nI mx)), (xI m_st cI 38 fs), (xI m_as cI 38 fa)] s.heap := hP
  have hl := lv_entry ([.ref mo, .int a0, .int a1]) (n := 7) (Nat.le_of_ble_eq_true rfl)
  rw [lg_entry_eq]
  generalize (lg_sl ([.ref mo, .int a0, .int a1]) ++ List.replicate (7 - (lg_sl ([.ref mo, .int a0, .int a1])).length) Slot.unset).toArray = ls at hl ⊢
  have hl : lv_has ls 7 [(0, .ref mo), (1, .int a0), (2, .int a1)] := hl
  have hk6 := hM.2.2.2.2.1
  have hw6 := hM.2.2.2.1
  refine lv_aload_n hx hb dX8_had_0 rfl (lv_at hl 0 rfl) ?_
  refine va_get (D := (dC, dI)) (ci := 8) (v := .int mt) (C := RX8) (T := TX8) (N := 24) hx hb hts i_X8_had_X8 hown hK hP 0 rfl rfl 4 (by decide) (hts _ mx_X8_had_1) (fun _ h9 => h9) rfl dX8_had_1 ?_
  refine lv_if_ne (tgt := 10) hx hb dX8_had_4 (by decide) (fun c_1 => ?_) (fun c_1 => ?_)
  · skip
    have hkn1 := hT c_1
    have hw1 := hM.2.2.2.2.2.1.mp hkn1
    have h01 : ¬ fs 0 = 0 := cell_nz hM hkn1
    refine lv_iload_n hx hb dX8_had_10 rfl (lv_at hl 1 rfl) ?_
    refine lv_i2l hx hb dX8_had_11 rfl ?_
    refine lv_lconst (v := 0) hx hb dX8_had_12 (by decide) ?_
    refine lv_iconst (v := 1) hx hb dX8_had_13 (by decide) ?_
    refine lv_aload_n hx hb dX8_had_14 rfl (lv_at hl 0 rfl) ?_
    refine va_get (D := (dC, dI)) (ci := 8) (v := .ref m_st) (C := RX8) (T := TX8) (N := 24) hx hb hts i_X8_had_X8 hown hK hP 0 rfl rfl 5 (by decide) (hts _ mx_X8_had_3) (fun _ h9 => h9) rfl dX8_had_15 ?_
    refine lv_iconst (v := 4) hx hb dX8_had_18 (by decide) ?_
    refine va_iald hx hb hK hP 1 0 rfl rfl (by unfold vp_in; decide) dX8_had_19 ?_
    refine lv_topi (fun v_2 e_2 => ?_)
    obtain rfl : v_2 = (nI k9) := (e_2).trans hM.2.1
    refine lv_ishl hx hb dX8_had_20 ?_
    refine lv_topi (fun v_3 e_3 => ?_)
    refine lv_iconst (v := 1) hx hb dX8_had_21 (by decide) ?_
    refine lv_isub hx hb dX8_had_22 ?_
    refine lv_topi (fun v_4 e_4 => ?_)
    refine lv_i2l hx hb dX8_had_23 rfl ?_
    have hPc_5 := hP.sub (ws' := []) [] rfl
    refine vp_callSi (W.runS (As := [.long (a0).toInt64, .long 0, .long (v_4).toInt64]) (rest := []) ⟨hx, hb, hml, hown, hts⟩ (r_X8_in l dC dI cI cZ cL cJ ((a0).toInt64) 0 ((v_4).toInt64) ) (va_cwS 3 hts gX8_had_X8_in rfl rfl rfl (by decide +kernel) ⟨Nat.le_of_ble_eq_true rfl, Nat.le_of_ble_eq_true rfl⟩) (psP hK hPc_5) rfl rfl hl.1 rfl (lv_room (Nat.le_of_ble_eq_true rfl)) dX8_had_24 ⟨Nat.le_of_ble_eq_true rfl, Nat.le_of_ble_eq_true rfl⟩) (fun r_5 h_5 => ?_)
    rcases h_5 with ⟨h_5, f_5_0_0⟩ | ⟨h_5, f_5_1_0⟩
    · subst h_5
      have q_5 : (a0 < 0 ∨ v_4 < a0) := (in32 (x := a0) (l := 0) (u := v_4) (by decide) rfl).mp f_5_0_0
      refine lv_if_eq (tgt := 42) hx hb dX8_had_27 (by decide) (fun _ => ?_) (fun c_ => absurd (by decide) c_)
      refine lv_ldc (own := RX8) (v := (-1000001)) hx hb hown (hts _ mx_X8_had_5) dX8_had_42 ?_
      have hX9 := cut2 (wc := [(xo_8_rrriirrriiiiiiirrirrrrri mo m_la m_sz m_it ms mt m_st m_mv m_tp (nI mz) ml (nI mp) mk mv mb mw m_rd m_ac (nI ma) m_as m_wo m_ik m_ke m_tr (nI mx)), (xI m_st cI 38 fs), (xI m_as cI 38 fa)]) hP hD [0, 1, 2] (by decide +kernel) rfl
      exact W.iret (v := (-1000001)) hx hb hr (fun t ht hW => ⟨⟨(-1000001), (), rfl, (lf_X8_had_1 hM hT h999 hT0 c_1 hkn1 hw1 h01 e_3 e_4 f_5_0_0 q_5), ⟨fs, fa, va_Ht ht hX9.1, hX9.2, hM, rfl⟩⟩, hS.F ht⟩) hS.2.2 dX8_had_44
    · subst h_5
      have q_5 : ¬ (a0 < 0 ∨ v_4 < a0) := fun q_ => f_5_1_0 ((in32 (x := a0) (l := 0) (u := v_4) (by decide) rfl).mpr q_)
      refine lv_if_eq (tgt := 42) hx hb dX8_had_27 (by decide) (fun c_ => absurd c_ (by decide)) (fun _ => ?_)
      refine lv_iload_n hx hb dX8_had_30 rfl (lv_at hl 2 rfl) ?_
      refine lv_i2l hx hb dX8_had_31 rfl ?_
      refine lv_lconst (v := 1) hx hb dX8_had_32 (by decide) ?_
      refine lv_ldc2 (own := RX8) (v := 8) hx hb hown (hts _ mx_X8_had_4) dX8_had_33 ?_
      have hPc_8 := hP.sub (ws' := []) [] rfl
      refine vp_callSi (W.runS (As := [.long (a1).toInt64, .long 1, .long 8]) (rest := []) ⟨hx, hb, hml, hown, hts⟩ (r_X8_in l dC dI cI cZ cL cJ ((a1).toInt64) 1 8 ) (va_cwS 3 hts gX8_had_X8_in rfl rfl rfl (by decide +kernel) ⟨Nat.le_of_ble_eq_true rfl, Nat.le_of_ble_eq_true rfl⟩) (psP hK hPc_8) rfl rfl hl.1 rfl (lv_room (Nat.le_of_ble_eq_true rfl)) dX8_had_36 ⟨Nat.le_of_ble_eq_true rfl, Nat.le_of_ble_eq_true rfl⟩) (fun r_8 h_8 => ?_)
      rcases h_8 with ⟨h_8, f_8_0_0⟩ | ⟨h_8, f_8_1_0⟩
      · subst h_8
        have q_8 : (a1 < 1 ∨ 8 < a1) := (in32 (x := a1) (l := 1) (u := 8) (by decide) (by decide)).mp f_8_0_0
        refine lv_if_ne (tgt := 45) hx hb dX8_had_39 (by decide) (fun c_ => absurd (by decide) c_) (fun _ => ?_)
        refine lv_ldc (own := RX8) (v := (-1000001)) hx hb hown (hts _ mx_X8_had_5) dX8_had_42 ?_
        have hX9 := cut2 (wc := [(xo_8_rrriirrriiiiiiirrirrrrri mo m_la m_sz m_it ms mt m_st m_mv m_tp (nI mz) ml (nI mp) mk mv mb mw m_rd m_ac (nI ma) m_as m_wo m_ik m_ke m_tr (nI mx)), (xI m_st cI 38 fs), (xI m_as cI 38 fa)]) hP hD [0, 1, 2] (by decide +kernel) rfl
        exact W.iret (v := (-1000001)) hx hb hr (fun t ht hW => ⟨⟨(-1000001), (), rfl, (lf_X8_had_2 hM hT h999 hT0 c_1 hkn1 hw1 h01 e_3 e_4 f_5_1_0 q_5 f_8_0_0 q_8), ⟨fs, fa, va_Ht ht hX9.1, hX9.2, hM, rfl⟩⟩, hS.F ht⟩) hS.2.2 dX8_had_44
      · subst h_8
        have q_8 : ¬ (a1 < 1 ∨ 8 < a1) := fun q_ => f_8_1_0 ((in32 (x := a1) (l := 1) (u := 8) (by decide) (by decide)).mpr q_)
        obtain ⟨j_8, hj_8, hl_8, rfl⟩ := in64 (lo := 1) (n := 8) rfl rfl (by decide) f_8_1_0
        refine lv_if_ne (tgt := 45) hx hb dX8_had_39 (by decide) (fun _ => ?_) (fun c_ => absurd c_ (by decide))
        obtain ⟨sh, hsh, hsb, hs4, hs5, hs6⟩ := shl8 j_8 (by omega)
        refine lv_aload_n hx hb dX8_had_45 rfl (lv_at hl 0 rfl) ?_
        have hc_11 := cutW (wc := [(xo_8_rrriirrriiiiiiirrirrrrri mo m_la m_sz m_it ms mt m_st m_mv m_tp (nI mz) ml (nI mp) mk mv mb mw m_rd m_ac (nI ma) m_as m_wo m_ik m_ke m_tr (nI mx)), (xI m_st cI 38 fs), (xI m_as cI 38 fa)]) hP hD hS hA [0, 1, 2] (by decide +kernel) rfl
        refine va_callv (va_runV (As := []) (rest := []) ⟨hx, hb, hml, hown, hts⟩ (r_X8_putAside l dC dI cI cZ cL cJ s.heap.size mo m_la m_sz m_it m_st m_mv m_tp m_rd m_ac m_as m_wo m_ik m_ke m_tr ms mt ml mk mv mb mw mz mp ma mx fs fa ) (cwV 0 hts gX8_had_X8_putAside rfl rfl rfl (by decide +kernel) ⟨Nat.le_of_ble_eq_true rfl, Nat.le_of_ble_eq_true rfl⟩) (pvW 8 0 hK hP rfl rfl hc_11) rfl rfl hl.1 rfl (lv_room (Nat.le_of_ble_eq_true rfl)) dX8_had_46 ⟨Nat.le_of_ble_eq_true rfl, Nat.le_of_ble_eq_true rfl⟩) hS (fun q _ h => hc_11.2.2 q h) hc_11.2.2 (fun u_11 t_11 H1 locs ht hvm h_11 hB hz1 hk1 hS => ?_)
        refine xl_1_3 hB (fun fan_11 hP1 hD1 hF_11_0 => ?_)
        clear hB
        rw [ht] at hP1
        obtain ⟨hP, hD⟩ := va_join (wr := []) (w1 := [(xo_8_rrriirrriiiiiiirrirrrrri mo m_la m_sz m_it ms mt m_st m_mv m_tp (nI mz) ml (nI mp) mk mv mb mw m_rd m_ac (nI ma) m_as m_wo m_ik m_ke m_tr (nI mx)), (xI m_st cI 38 fs), (xI m_as cI 38 fan_11)]) hP hD [0, 1, 2] [] rfl rfl (by decide +kernel) (by decide +kernel) hk1 hc_11.2.2 hP1 hD1
        generalize H1 = H at hP hS ⊢
        have hP : va_P (dC, dI) vwCl [(xo_8_rrriirrriiiiiiirrirrrrri mo m_la m_sz m_it ms mt m_st m_mv m_tp (nI mz) ml (nI mp) mk mv mb mw m_rd m_ac (nI ma) m_as m_wo m_ik m_ke m_tr (nI mx)), (xI m_st cI 38 fs), (xI m_as cI 38 fan_11)] H := hP
        have hD := dto hP hD
        have hA_11 := okM_eq hM hF_11_0
        refine lv_ldc (own := RX8) (v := (-1000000)) hx hb hown (hts _ mx_X8_had_6) dX8_had_49 ?_
        refine lv_istore_n (lv' := [(3, .int (-1000000)), (0, .ref mo), (1, .int a0), (2, .int (nI j_8))]) hx hb dX8_had_51 rfl hl (by decide) rfl (fun ls hl => ?_)
        refine lv_iconst (v := 0) hx hb dX8_had_52 (by decide) ?_
        refine lv_istore (lv' := [(4, .int 0), (3, .int (-1000000)), (0, .ref mo), (1, .int a0), (2, .int (nI j_8))]) hx hb dX8_had_53 hl (by decide) rfl (fun ls hl => ?_)
        refine lp_go (σ := (Int32) × (Nat → Int32)) (fun ii (st : (Int32) × (Nat → Int32)) H locs ls => match st with | (w_24, w_25) => lv_has ls 7 [(4, .int (nI ii)), (3, .int w_24), (0, .ref mo), (1, .int a0), (2, .int (nI j_8))] ∧ va_P (dC, dI) vwCl [(xo_8_rrriirrriiiiiiirrirrrrri mo m_la m_sz m_it ms mt m_st m_mv m_tp (nI mz) ml (nI mp) mk mv mb mw m_rd m_ac (nI ma) m_as m_wo m_ik m_ke m_tr (nI mx)), (xI m_st cI 38 w_25), (xI m_as cI 38 fan_11)] H ∧ va_D A [(xo_8_rrriirrriiiiiiirrirrrrri mo m_la m_sz m_it ms mt m_st m_mv m_tp (nI mz) ml (nI mp) mk mv mb mw m_rd m_ac (nI ma) m_as m_wo m_ik m_ke m_tr (nI mx)), (xI m_st cI 38 w_25), (xI m_as cI 38 fan_11)] ∧ va_S A s.heap H locs ∧ okM w_25 w9 k9 h9 ∧ (hdF a0 (m38 fs) j_8 ii = w_24) ∧ (m38 w_25 = m38 fs)) sh ?_ ?_ 0 (by omega) ((-1000000), fs) ⟨lv_sub hl [0, 1, 2, 3, 4] rfl, hP.sub (ws' := [(xo_8_rrriirrriiiiiiirrirrrrri mo m_la m_sz m_it ms mt m_st m_mv m_tp (nI mz) ml (nI mp) mk mv mb mw m_rd m_ac (nI ma) m_as m_wo m_ik m_ke m_tr (nI mx)), (xI m_st cI 38 fs), (xI m_as cI 38 fan_11)]) [0, 1, 2] rfl, hD.sub (ws' := [(xo_8_rrriirrriiiiiiirrirrrrri mo m_la m_sz m_it ms mt m_st m_mv m_tp (nI mz) ml (nI mp) mk mv mb mw m_rd m_ac (nI ma) m_as m_wo m_ik m_ke m_tr (nI mx)), (xI m_st cI 38 fs), (xI m_as cI 38 fan_11)]) [0, 1, 2] (by decide +kernel) rfl, hS, hM, rfl, rfl⟩
        · rintro ii ⟨w_24, w_25⟩ H locs ls hii ⟨hl, hP, hD, hS, hMl, haf_0, haf_1⟩ ih
          refine lv_iload hx hb dX8_had_55 (lv_at hl 0 rfl) ?_
          refine lv_iconst (v := 1) hx hb dX8_had_57 (by decide) ?_
          refine lv_iload_n hx hb dX8_had_58 rfl (lv_at hl 4 rfl) ?_
          refine lv_ishl hx hb dX8_had_59 ?_
          refine lv_topi (fun v_41 e_41 => ?_)
          obtain rfl : v_41 = (nI sh) := (e_41).trans hsh
          refine lv_icmp_ge (tgt := 123) hx hb dX8_had_60 (by decide) (fun c_ => absurd c_ (fun q_ => absurd ((nI_leI (a := sh) (b := ii) (by omega) (by omega)).mp q_) (by omega))) (fun _ => ?_)
          refine lv_aload_n hx hb dX8_had_63 rfl (lv_at hl 2 rfl) ?_
          refine lv_iload hx hb dX8_had_64 (lv_at hl 0 rfl) ?_
          refine lv_iload_n hx hb dX8_had_66 rfl (lv_at hl 4 rfl) ?_
          have hc_43 := cutW (wc := [(xo_8_rrriirrriiiiiiirrirrrrri mo m_la m_sz m_it ms mt m_st m_mv m_tp (nI mz) ml (nI mp) mk mv mb mw m_rd m_ac (nI ma) m_as m_wo m_ik m_ke m_tr (nI mx)), (xI m_st cI 38 w_25)]) hP hD hS hA [0, 1] (by decide +kernel) rfl
          refine va_calli (va_runV (As := [.int (nI ii), .int (nI j_8)]) (rest := []) ⟨hx, hb, hml, hown, hts⟩ (r_X8_goTurning l dC dI cI cZ cL cJ H.size mo m_la m_sz m_it m_st m_mv m_tp m_rd m_ac m_as m_wo m_ik m_ke m_tr ms mt ml mk mv mb mw mz mp ma mx w_25 w9 k9 h9 j_8 (nI ii) (hMl) (by omega) (by omega) (by omega)) (cwV 2 hts gX8_had_X8_goTurning rfl rfl rfl (by decide +kernel) ⟨Nat.le_of_ble_eq_true rfl, Nat.le_of_ble_eq_true rfl⟩) (pvW 8 0 hK hP rfl rfl hc_43) rfl rfl hl.1 rfl (lv_room (Nat.le_of_ble_eq_true rfl)) dX8_had_67 ⟨Nat.le_of_ble_eq_true rfl, Nat.le_of_ble_eq_true rfl⟩) hS (fun q _ h => hc_43.2.2 q h) hc_43.2.2 (fun r_43 u_43 t_43 H1 locs ht hvm h_43 hB hz1 hk1 hS => ?_)
          refine xl_1_4 hB (fun fsn_43 hP1 hD1 hF_43_0 hF_43_1 => ?_)
          clear hB
          rw [ht] at hP1
          obtain ⟨hP, hD⟩ := va_join (wr := [(xI m_as cI 38 fan_11)]) (w1 := [(xo_8_rrriirrriiiiiiirrirrrrri mo m_la m_sz m_it ms mt m_st m_mv m_tp (nI mz) ml (nI mp) mk mv mb mw m_rd m_ac (nI ma) m_as m_wo m_ik m_ke m_tr (nI mx)), (xI m_st cI 38 fsn_43)]) hP hD [0, 1] [2] rfl rfl (by decide +kernel) (by decide +kernel) hk1 hc_43.2.2 hP1 hD1
          generalize H1 = H at hP hS ⊢
          have hP : va_P (dC, dI) vwCl [(xI m_as cI 38 fan_11), (xo_8_rrriirrriiiiiiirrirrrrri mo m_la m_sz m_it ms mt m_st m_mv m_tp (nI mz) ml (nI mp) mk mv mb mw m_rd m_ac (nI ma) m_as m_wo m_ik m_ke m_tr (nI mx)), (xI m_st cI 38 fsn_43)] H := hP
          have hD := dto hP hD
          refine lv_istore (lv' := [(5, .int r_43), (4, .int (nI ii)), (3, .int w_24), (0, .ref mo), (1, .int a0), (2, .int (nI j_8))]) hx hb dX8_had_70 hl (by decide) rfl (fun ls hl => ?_)
          refine lv_iload_n hx hb dX8_had_72 rfl (lv_at hl 4 rfl) ?_
          refine lv_aload_n hx hb dX8_had_73 rfl (lv_at hl 3 rfl) ?_
          refine lv_iconst (v := 1) hx hb dX8_had_74 (by decide) ?_
          have hPc_44 := hP.sub (ws' := [(xo_8_rrriirrriiiiiiirrirrrrri mo m_la m_sz m_it ms mt m_st m_mv m_tp (nI mz) ml (nI mp) mk mv mb mw m_rd m_ac (nI ma) m_as m_wo m_ik m_ke m_tr (nI mx)), (xI m_st cI 38 fsn_43)]) [1, 2] rfl
          refine vp_callSi (W.runV (As := [.int 1]) (rest := [.int a0]) ⟨hx, hb, hml, hown, hts⟩ (r_X8_those l dC dI cI cZ cL cJ mo m_la m_sz m_it m_st m_mv m_tp m_rd m_ac m_as m_wo m_ik m_ke m_tr ms mt ml mk mv mb mw mz mp ma mx fsn_43 w9 k9 (h9 + j_8) 1 (hF_43_0)) (cwV 1 hts gX8_had_X8_those rfl rfl rfl (by decide +kernel) ⟨Nat.le_of_ble_eq_true rfl, Nat.le_of_ble_eq_true rfl⟩) (pvP 8 1 hK hP rfl rfl hPc_44) rfl rfl hl.1 rfl (lv_room (Nat.le_of_ble_eq_true rfl)) dX8_had_75 ⟨Nat.le_of_ble_eq_true rfl, Nat.le_of_ble_eq_true rfl⟩) (fun r_44 h_44 => ?_)
          obtain ⟨j_44, rfl, hz_44_0, hz_44_1⟩ := h_44
          refine lv_iconst (v := (-1)) hx hb dX8_had_78 (by decide) ?_
          refine lv_ixor hx hb dX8_had_79 ?_
          refine lv_topi (fun v_45 e_45 => ?_)
          refine lv_iand hx hb dX8_had_80 ?_
          refine lv_topi (fun v_46 e_46 => ?_)
          refine lv_if_ne (tgt := 88) hx hb dX8_had_81 (by decide) (fun c_47 => ?_) (fun c_47 => ?_)
          · skip
            refine lv_iconst (v := 0) hx hb dX8_had_88 (by decide) ?_
            refine lv_istore (lv' := [(6, .int 0), (5, .int r_43), (4, .int (nI ii)), (3, .int w_24), (0, .ref mo), (1, .int a0), (2, .int (nI j_8))]) hx hb dX8_had_89 hl (by decide) rfl (fun ls hl => ?_)
            refine lv_aload_n hx hb dX8_had_91 rfl (lv_at hl 4 rfl) ?_
            have hc_48 := cutW (wc := [(xo_8_rrriirrriiiiiiirrirrrrri mo m_la m_sz m_it ms mt m_st m_mv m_tp (nI mz) ml (nI mp) mk mv mb mw m_rd m_ac (nI ma) m_as m_wo m_ik m_ke m_tr (nI mx)), (xI m_st cI 38 fsn_43), (xI m_as cI 38 fan_11)]) hP hD hS hA [1, 2, 0] (by decide +kernel) rfl
            refine va_callv (va_runV (As := []) (rest := []) ⟨hx, hb, hml, hown, hts⟩ (r_X8_takeBack l dC dI cI cZ cL cJ H.size mo m_la m_sz m_it m_st m_mv m_tp m_rd m_ac m_as m_wo m_ik m_ke m_tr ms mt ml mk mv mb mw mz mp ma mx fsn_43 fan_11 ) (cwV 0 hts gX8_had_X8_takeBack rfl rfl rfl (by decide +kernel) ⟨Nat.le_of_ble_eq_true rfl, Nat.le_of_ble_eq_true rfl⟩) (pvW 8 1 hK hP rfl rfl hc_48) rfl rfl hl.1 rfl (lv_room (Nat.le_of_ble_eq_true rfl)) dX8_had_92 ⟨Nat.le_of_ble_eq_true rfl, Nat.le_of_ble_eq_true rfl⟩) hS (fun q _ h => hc_48.2.2 q h) hc_48.2.2 (fun u_48 t_48 H1 locs ht hvm h_48 hB hz1 hk1 hS => ?_)
            refine xl_1_3 hB (fun fsn_48 hP1 hD1 hF_48_0 => ?_)
            clear hB
            rw [ht] at hP1
            obtain ⟨hP, hD⟩ := va_join (wr := []) (w1 := [(xo_8_rrriirrriiiiiiirrirrrrri mo m_la m_sz m_it ms mt m_st m_mv m_tp (nI mz) ml (nI mp) mk mv mb mw m_rd m_ac (nI ma) m_as m_wo m_ik m_ke m_tr (nI mx)), (xI m_st cI 38 fsn_48), (xI m_as cI 38 fan_11)]) hP hD [1, 2, 0] [] rfl rfl (by decide +kernel) (by decide +kernel) hk1 hc_48.2.2 hP1 hD1
            generalize H1 = H at hP hS ⊢
            have hP : va_P (dC, dI) vwCl [(xo_8_rrriirrriiiiiiirrirrrrri mo m_la m_sz m_it ms mt m_st m_mv m_tp (nI mz) ml (nI mp) mk mv mb mw m_rd m_ac (nI ma) m_as m_wo m_ik m_ke m_tr (nI mx)), (xI m_st cI 38 fsn_48), (xI m_as cI 38 fan_11)] H := hP
            have hD := dto hP hD
            have hT_48 := okM_eq hA_11 hF_48_0
            refine lv_iload hx hb dX8_had_95 (lv_at hl 0 rfl) ?_
            refine lv_if_eq (tgt := 115) hx hb dX8_had_97 (by decide) (fun _ => ?_) (fun c_ => absurd (by decide) c_)
            refine lv_iload_n hx hb dX8_had_115 rfl (lv_at hl 3 rfl) ?_
            refine lv_istore_n (lv' := [(3, .int w_24), (6, .int 0), (5, .int r_43), (4, .int (nI ii)), (0, .ref mo), (1, .int a0), (2, .int (nI j_8))]) hx hb dX8_had_116 rfl hl (by decide) rfl (fun ls hl => ?_)
            refine lv_iinc (v := (nI (ii + 1))) (lv' := [(4, .int (nI (ii + 1))), (3, .int w_24), (6, .int 0), (5, .int r_43), (0, .ref mo), (1, .int a0), (2, .int (nI j_8))]) hx hb dX8_had_117 hl (k := 3) rfl (nI_add ii 1) (by decide) rfl (fun ls hl => ?_)
            refine lv_goto (tgt := 55) hx hb dX8_had_120 (by decide) ?_
            exact ih (w_24, fsn_48) _ _ _ ⟨lv_sub hl [0, 1, 4, 5, 6] rfl, hP.sub (ws' := [(xo_8_rrriirrriiiiiiirrirrrrri mo m_la m_sz m_it ms mt m_st m_mv m_tp (nI mz) ml (nI mp) mk mv mb mw m_rd m_ac (nI ma) m_as m_wo m_ik m_ke m_tr (nI mx)), (xI m_st cI 38 fsn_48), (xI m_as cI 38 fan_11)]) [0, 1, 2] rfl, hD.sub (ws' := [(xo_8_rrriirrriiiiiiirrirrrrri mo m_la m_sz m_it ms mt m_st m_mv m_tp (nI mz) ml (nI mp) mk mv mb mw m_rd m_ac (nI ma) m_as m_wo m_ik m_ke m_tr (nI mx)), (xI m_st cI 38 fsn_48), (xI m_as cI 38 fan_11)]) [0, 1, 2] (by decide +kernel) rfl, hS, hT_48, (lf_X8_had_3 hM hT h999 hT0 c_1 hkn1 hw1 h01 e_3 e_4 f_5_1_0 q_5 f_8_1_0 q_8 hj_8 hsh hsb hF_11_0 hii haf_0 haf_1 hMl hF_43_0 hF_43_1 h_43 hz_44_0 hz_44_1 e_45 e_46 c_47 hF_48_0), ((m38_eq hF_48_0).trans ((m38_eq hF_11_0).trans rfl))⟩
          · skip
            refine lv_iconst (v := 1) hx hb dX8_had_84 (by decide) ?_
            refine lv_goto (tgt := 89) hx hb dX8_had_85 (by decide) ?_
            refine lv_istore (lv' := [(6, .int 1), (5, .int r_43), (4, .int (nI ii)), (3, .int w_24), (0, .ref mo), (1, .int a0), (2, .int (nI j_8))]) hx hb dX8_had_89 hl (by decide) rfl (fun ls hl => ?_)
            refine lv_aload_n hx hb dX8_had_91 rfl (lv_at hl 4 rfl) ?_
            have hc_50 := cutW (wc := [(xo_8_rrriirrriiiiiiirrirrrrri mo m_la m_sz m_it ms mt m_st m_mv m_tp (nI mz) ml (nI mp) mk mv mb mw m_rd m_ac (nI ma) m_as m_wo m_ik m_ke m_tr (nI mx)), (xI m_st cI 38 fsn_43), (xI m_as cI 38 fan_11)]) hP hD hS hA [1, 2, 0] (by decide +kernel) rfl
            refine va_callv (va_runV (As := []) (rest := []) ⟨hx, hb, hml, hown, hts⟩ (r_X8_takeBack l dC dI cI cZ cL cJ H.size mo m_la m_sz m_it m_st m_mv m_tp m_rd m_ac m_as m_wo m_ik m_ke m_tr ms mt ml mk mv mb mw mz mp ma mx fsn_43 fan_11 ) (cwV 0 hts gX8_had_X8_takeBack rfl rfl rfl (by decide +kernel) ⟨Nat.le_of_ble_eq_true rfl, Nat.le_of_ble_eq_true rfl⟩) (pvW 8 1 hK hP rfl rfl hc_50) rfl rfl hl.1 rfl (lv_room (Nat.le_of_ble_eq_true rfl)) dX8_had_92 ⟨Nat.le_of_ble_eq_true rfl, Nat.le_of_ble_eq_true rfl⟩) hS (fun q _ h => hc_50.2.2 q h) hc_50.2.2 (fun u_50 t_50 H1 locs ht hvm h_50 hB hz1 hk1 hS => ?_)
            refine xl_1_3 hB (fun fsn_50 hP1 hD1 hF_50_0 => ?_)
            clear hB
            rw [ht] at hP1
            obtain ⟨hP, hD⟩ := va_join (wr := []) (w1 := [(xo_8_rrriirrriiiiiiirrirrrrri mo m_la m_sz m_it ms mt m_st m_mv m_tp (nI mz) ml (nI mp) mk mv mb mw m_rd m_ac (nI ma) m_as m_wo m_ik m_ke m_tr (nI mx)), (xI m_st cI 38 fsn_50), (xI m_as cI 38 fan_11)]) hP hD [1, 2, 0] [] rfl rfl (by decide +kernel) (by decide +kernel) hk1 hc_50.2.2 hP1 hD1
            generalize H1 = H at hP hS ⊢
            have hP : va_P (dC, dI) vwCl [(xo_8_rrriirrriiiiiiirrirrrrri mo m_la m_sz m_it ms mt m_st m_mv m_tp (nI mz) ml (nI mp) mk mv mb mw m_rd m_ac (nI ma) m_as m_wo m_ik m_ke m_tr (nI mx)), (xI m_st cI 38 fsn_50), (xI m_as cI 38 fan_11)] H := hP
            have hD := dto hP hD
            have hT_50 := okM_eq hA_11 hF_50_0
            refine lv_iload hx hb dX8_had_95 (lv_at hl 0 rfl) ?_
            refine lv_if_eq (tgt := 115) hx hb dX8_had_97 (by decide) (fun c_ => absurd c_ (by decide)) (fun _ => ?_)
            refine lv_iload_n hx hb dX8_had_100 rfl (lv_at hl 3 rfl) ?_
            refine lv_if_lt (tgt := 110) hx hb dX8_had_101 (by decide) (fun c_52 => ?_) (fun c_52 => ?_)
            · skip
              refine lv_iload hx hb dX8_had_110 (lv_at hl 1 rfl) ?_
              refine lv_goto (tgt := 116) hx hb dX8_had_112 (by decide) ?_
              refine lv_istore_n (lv' := [(3, .int r_43), (6, .int 1), (5, .int r_43), (4, .int (nI ii)), (0, .ref mo), (1, .int a0), (2, .int (nI j_8))]) hx hb dX8_had_116 rfl hl (by decide) rfl (fun ls hl => ?_)
              refine lv_iinc (v := (nI (ii + 1))) (lv' := [(4, .int (nI (ii + 1))), (3, .int r_43), (6, .int 1), (5, .int r_43), (0, .ref mo), (1, .int a0), (2, .int (nI j_8))]) hx hb dX8_had_117 hl (k := 3) rfl (nI_add ii 1) (by decide) rfl (fun ls hl => ?_)
              refine lv_goto (tgt := 55) hx hb dX8_had_120 (by decide) ?_
              exact ih (r_43, fsn_50) _ _ _ ⟨lv_sub hl [0, 1, 4, 5, 6] rfl, hP.sub (ws' := [(xo_8_rrriirrriiiiiiirrirrrrri mo m_la m_sz m_it ms mt m_st m_mv m_tp (nI mz) ml (nI mp) mk mv mb mw m_rd m_ac (nI ma) m_as m_wo m_ik m_ke m_tr (nI mx)), (xI m_st cI 38 fsn_50), (xI m_as cI 38 fan_11)]) [0, 1, 2] rfl, hD.sub (ws' := [(xo_8_rrriirrriiiiiiirrirrrrri mo m_la m_sz m_it ms mt m_st m_mv m_tp (nI mz) ml (nI mp) mk mv mb mw m_rd m_ac (nI ma) m_as m_wo m_ik m_ke m_tr (nI mx)), (xI m_st cI 38 fsn_50), (xI m_as cI 38 fan_11)]) [0, 1, 2] (by decide +kernel) rfl, hS, hT_50, (lf_X8_had_4 hM hT h999 hT0 c_1 hkn1 hw1 h01 e_3 e_4 f_5_1_0 q_5 f_8_1_0 q_8 hj_8 hsh hsb hF_11_0 hii haf_0 haf_1 hMl hF_43_0 hF_43_1 h_43 hz_44_0 hz_44_1 e_45 e_46 c_47 hF_50_0 c_52), ((m38_eq hF_50_0).trans ((m38_eq hF_11_0).trans rfl))⟩
            · skip
              refine lv_iload hx hb dX8_had_104 (lv_at hl 1 rfl) ?_
              refine lv_iload_n hx hb dX8_had_106 rfl (lv_at hl 3 rfl) ?_
              refine lv_icmp_ge (tgt := 115) hx hb dX8_had_107 (by decide) (fun c_53 => ?_) (fun c_53 => ?_)
              · skip
                refine lv_iload_n hx hb dX8_had_115 rfl (lv_at hl 3 rfl) ?_
                refine lv_istore_n (lv' := [(3, .int w_24), (6, .int 1), (5, .int r_43), (4, .int (nI ii)), (0, .ref mo), (1, .int a0), (2, .int (nI j_8))]) hx hb dX8_had_116 rfl hl (by decide) rfl (fun ls hl => ?_)
                refine lv_iinc (v := (nI (ii + 1))) (lv' := [(4, .int (nI (ii + 1))), (3, .int w_24), (6, .int 1), (5, .int r_43), (0, .ref mo), (1, .int a0), (2, .int (nI j_8))]) hx hb dX8_had_117 hl (k := 3) rfl (nI_add ii 1) (by decide) rfl (fun ls hl => ?_)
                refine lv_goto (tgt := 55) hx hb dX8_had_120 (by decide) ?_
                exact ih (w_24, fsn_50) _ _ _ ⟨lv_sub hl [0, 1, 4, 5, 6] rfl, hP.sub (ws' := [(xo_8_rrriirrriiiiiiirrirrrrri mo m_la m_sz m_it ms mt m_st m_mv m_tp (nI mz) ml (nI mp) mk mv mb mw m_rd m_ac (nI ma) m_as m_wo m_ik m_ke m_tr (nI mx)), (xI m_st cI 38 fsn_50), (xI m_as cI 38 fan_11)]) [0, 1, 2] rfl, hD.sub (ws' := [(xo_8_rrriirrriiiiiiirrirrrrri mo m_la m_sz m_it ms mt m_st m_mv m_tp (nI mz) ml (nI mp) mk mv mb mw m_rd m_ac (nI ma) m_as m_wo m_ik m_ke m_tr (nI mx)), (xI m_st cI 38 fsn_50), (xI m_as cI 38 fan_11)]) [0, 1, 2] (by decide +kernel) rfl, hS, hT_50, (lf_X8_had_5 hM hT h999 hT0 c_1 hkn1 hw1 h01 e_3 e_4 f_5_1_0 q_5 f_8_1_0 q_8 hj_8 hsh hsb hF_11_0 hii haf_0 haf_1 hMl hF_43_0 hF_43_1 h_43 hz_44_0 hz_44_1 e_45 e_46 c_47 hF_50_0 c_52 c_53), ((m38_eq hF_50_0).trans ((m38_eq hF_11_0).trans rfl))⟩
              · skip
                refine lv_iload hx hb dX8_had_110 (lv_at hl 1 rfl) ?_
                refine lv_goto (tgt := 116) hx hb dX8_had_112 (by decide) ?_
                refine lv_istore_n (lv' := [(3, .int r_43), (6, .int 1), (5, .int r_43), (4, .int (nI ii)), (0, .ref mo), (1, .int a0), (2, .int (nI j_8))]) hx hb dX8_had_116 rfl hl (by decide) rfl (fun ls hl => ?_)
                refine lv_iinc (v := (nI (ii + 1))) (lv' := [(4, .int (nI (ii + 1))), (3, .int r_43), (6, .int 1), (5, .int r_43), (0, .ref mo), (1, .int a0), (2, .int (nI j_8))]) hx hb dX8_had_117 hl (k := 3) rfl (nI_add ii 1) (by decide) rfl (fun ls hl => ?_)
                refine lv_goto (tgt := 55) hx hb dX8_had_120 (by decide) ?_
                exact ih (r_43, fsn_50) _ _ _ ⟨lv_sub hl [0, 1, 4, 5, 6] rfl, hP.sub (ws' := [(xo_8_rrriirrriiiiiiirrirrrrri mo m_la m_sz m_it ms mt m_st m_mv m_tp (nI mz) ml (nI mp) mk mv mb mw m_rd m_ac (nI ma) m_as m_wo m_ik m_ke m_tr (nI mx)), (xI m_st cI 38 fsn_50), (xI m_as cI 38 fan_11)]) [0, 1, 2] rfl, hD.sub (ws' := [(xo_8_rrriirrriiiiiiirrirrrrri mo m_la m_sz m_it ms mt m_st m_mv m_tp (nI mz) ml (nI mp) mk mv mb mw m_rd m_ac (nI ma) m_as m_wo m_ik m_ke m_tr (nI mx)), (xI m_st cI 38 fsn_50), (xI m_as cI 38 fan_11)]) [0, 1, 2] (by decide +kernel) rfl, hS, hT_50, (lf_X8_had_6 hM hT h999 hT0 c_1 hkn1 hw1 h01 e_3 e_4 f_5_1_0 q_5 f_8_1_0 q_8 hj_8 hsh hsb hF_11_0 hii haf_0 haf_1 hMl hF_43_0 hF_43_1 h_43 hz_44_0 hz_44_1 e_45 e_46 c_47 hF_50_0 c_52 c_53), ((m38_eq hF_50_0).trans ((m38_eq hF_11_0).trans rfl))⟩
        · rintro ⟨w_24, w_25⟩ H locs ls ⟨hl, hP, hD, hS, hMl, haf_0, haf_1⟩
          refine lv_iload hx hb dX8_had_55 (lv_at hl 0 rfl) ?_
          refine lv_iconst (v := 1) hx hb dX8_had_57 (by decide) ?_
          refine lv_iload_n hx hb dX8_had_58 rfl (lv_at hl 4 rfl) ?_
          refine lv_ishl hx hb dX8_had_59 ?_
          refine lv_topi (fun v_54 e_54 => ?_)
          obtain rfl : v_54 = (nI sh) := (e_54).trans hsh
          refine lv_icmp_ge (tgt := 123) hx hb dX8_had_60 (by decide) (fun _ => ?_) (fun c_ => absurd ((nI_leI (a := sh) (b := sh) (by omega) (by omega)).mpr (by omega)) c_)
          refine lv_iload_n hx hb dX8_had_123 rfl (lv_at hl 1 rfl) ?_
          have hX9 := cut2 (wc := [(xo_8_rrriirrriiiiiiirrirrrrri mo m_la m_sz m_it ms mt m_st m_mv m_tp (nI mz) ml (nI mp) mk mv mb mw m_rd m_ac (nI ma) m_as m_wo m_ik m_ke m_tr (nI mx)), (xI m_st cI 38 w_25), (xI m_as cI 38 fan_11)]) hP hD [0, 1, 2] (by decide +kernel) rfl
          exact W.iret (v := w_24) hx hb hr (fun t ht hW => ⟨⟨w_24, (), rfl, (lf_X8_had_7 hM hT h999 hT0 c_1 hkn1 hw1 h01 e_3 e_4 f_5_1_0 q_5 f_8_1_0 q_8 hj_8 hsh hsb hF_11_0 haf_0 haf_1 hMl), ⟨w_25, fan_11, va_Ht ht hX9.1, hX9.2, hMl, haf_1⟩⟩, hS.F ht⟩) hS.2.2 dX8_had_124
  · skip
    have h00 : fs 0 = 0 := (hT0 c_1).1
    refine lv_ldc (own := RX8) (v := (-1000002)) hx hb hown (hts _ mx_X8_had_2) dX8_had_7 ?_
    have hX9 := cut2 (wc := [(xo_8_rrriirrriiiiiiirrirrrrri mo m_la m_sz m_it ms mt m_st m_mv m_tp (nI mz) ml (nI mp) mk mv mb mw m_rd m_ac (nI ma) m_as m_wo m_ik m_ke m_tr (nI mx)), (xI m_st cI 38 fs), (xI m_as cI 38 fa)]) hP hD [0, 1, 2] (by decide +kernel) rfl
    exact W.iret (v := (-1000002)) hx hb hr (fun t ht hW => ⟨⟨(-1000002), (), rfl, (lf_X8_had_8 hM hT h999 hT0 c_1 h00), ⟨fs, fa, va_Ht ht hX9.1, hX9.2, hM, rfl⟩⟩, hS.F ht⟩) hS.2.2 dX8_had_9
theorem lf_X8_site_1 {mt : Int32} {ma : Nat} {fs : Nat → Int32} {w9 : Nat} {k9 : Nat} {h9 : Nat} {a0 : Int32} {a1 : Int32} (hM : okM fs w9 k9 h9) (hT : ¬ mt = 0 → 1 ≤ k9) (h999 : h9 ≤ 999) (hT0 : mt = 0 → fs 0 = 0 ∧ ma = 0) (c_1 : ¬ (mt = 0)) (hkn1 : 1 ≤ k9) (hw1 : 1 ≤ w9) (h01 : ¬ fs 0 = 0) (f_2_0_0 : ((a0).toInt64 < 1 ∨ 30 < (a0).toInt64)) (q_2 : (a0 < 1 ∨ 30 < a0)) : (-1000001) = (a_site (m38 fs) a0 a1) := by
  first
  | exact site_0 h00
  | exact site_n h01 (Or.inl q_2)
theorem lf_X8_site_2 {mt : Int32} {ma : Nat} {fs : Nat → Int32} {w9 : Nat} {k9 : Nat} {h9 : Nat} {a1 : Int32} {j_2 : Nat} (hM : okM fs w9 k9 h9) (hT : ¬ mt = 0 → 1 ≤ k9) (h999 : h9 ≤ 999) (hT0 : mt = 0 → fs 0 = 0 ∧ ma = 0) (c_1 : ¬ (mt = 0)) (hkn1 : 1 ≤ k9) (hw1 : 1 ≤ w9) (h01 : ¬ fs 0 = 0) (f_2_1_0 : (¬ (((nI j_2)).toInt64 < 1 ∨ 30 < ((nI j_2)).toInt64))) (q_2 : ¬ ((nI j_2) < 1 ∨ 30 < (nI j_2))) (hj_2 : j_2 ≤ 30) (f_5_0_0 : (a1 < 0 ∨ 1 < a1)) : (-1000001) = (a_site (m38 fs) (nI j_2) a1) := by
  first
  | exact site_0 h00
  | exact site_n h01 (Or.inl q_2)
  | exact site_n h01 (Or.inr f_5_0_0)
theorem lf_X8_site_3 {mt : Int32} {ma : Nat} {fs : Nat → Int32} {w9 : Nat} {k9 : Nat} {h9 : Nat} {a1 : Int32} {j_2 : Nat} {fan_8 : Nat → Int32} {cq : Nat} {w_16 : Int32} {w_17 : Int32} {w_18 : Nat → Int32} {ii : Nat} {g_31 : Nat → Int32} {fsn_32 : Nat → Int32} {r_32 : Int32} (hM : okM fs w9 k9 h9) (hT : ¬ mt = 0 → 1 ≤ k9) (h999 : h9 ≤ 999) (hT0 : mt = 0 → fs 0 = 0 ∧ ma = 0) (c_1 : ¬ (mt = 0)) (hkn1 : 1 ≤ k9) (hw1 : 1 ≤ w9) (h01 : ¬ fs 0 = 0) (f_2_1_0 : (¬ (((nI j_2)).toInt64 < 1 ∨ 30 < ((nI j_2)).toInt64))) (q_2 : ¬ ((nI j_2) < 1 ∨ 30 < (nI j_2))) (hj_2 : j_2 ≤ 30) (f_5_1_0 : (¬ (a1 < 0 ∨ 1 < a1))) (hF_8_0 : (∀ j : Nat, j < 38 → fan_8 j = fs j)) (hcq1 : cq ≤ 15) (hcqe : fan_8 0 = nI cq) (hii : ii < cq) (haf_0 : ((w_17, w_16) = stF (m38 fs) j_2 ii)) (haf_1 : (m38 w_18 = m38 fs)) (hMl : okM w_18 w9 k9 h9) (hu_31 : g_31 = upd w_18 1 (nI ii)) (hF_32_0 : (∀ j_2 : Nat, j_2 < 38 → fsn_32 j_2 = fan_8 j_2)) (h_32 : r_32 = (mGo j_2 g_31 7)) (c_33 : r_32 ≤ w_16) (c_34 : r_32 ≤ w_16) : (w_17, w_16) = stF (m38 fs) j_2 (ii + 1) := by
  first
  | exact absurd c_33 c_34
  | exact haf_0.trans (si_no (congrArg Prod.snd haf_0) (siM_m hMl hw1 haf_1 hu_31 h_32) c_33).symm
  | exact (si_yes (congrArg Prod.snd haf_0) (siM_m hMl hw1 haf_1 hu_31 h_32) c_33).symm
theorem lf_X8_site_4 {mt : Int32} {ma : Nat} {fs : Nat → Int32} {w9 : Nat} {k9 : Nat} {h9 : Nat} {a1 : Int32} {j_2 : Nat} {fan_8 : Nat → Int32} {cq : Nat} {w_16 : Int32} {w_17 : Int32} {w_18 : Nat → Int32} {ii : Nat} {g_31 : Nat → Int32} {fsn_32 : Nat → Int32} {r_32 : Int32} (hM : okM fs w9 k9 h9) (hT : ¬ mt = 0 → 1 ≤ k9) (h999 : h9 ≤ 999) (hT0 : mt = 0 → fs 0 = 0 ∧ ma = 0) (c_1 : ¬ (mt = 0)) (hkn1 : 1 ≤ k9) (hw1 : 1 ≤ w9) (h01 : ¬ fs 0 = 0) (f_2_1_0 : (¬ (((nI j_2)).toInt64 < 1 ∨ 30 < ((nI j_2)).toInt64))) (q_2 : ¬ ((nI j_2) < 1 ∨ 30 < (nI j_2))) (hj_2 : j_2 ≤ 30) (f_5_1_0 : (¬ (a1 < 0 ∨ 1 < a1))) (hF_8_0 : (∀ j : Nat, j < 38 → fan_8 j = fs j)) (hcq1 : cq ≤ 15) (hcqe : fan_8 0 = nI cq) (hii : ii < cq) (haf_0 : ((w_17, w_16) = stF (m38 fs) j_2 ii)) (haf_1 : (m38 w_18 = m38 fs)) (hMl : okM w_18 w9 k9 h9) (hu_31 : g_31 = upd w_18 1 (nI ii)) (hF_32_0 : (∀ j_2 : Nat, j_2 < 38 → fsn_32 j_2 = fan_8 j_2)) (h_32 : r_32 = (mGo j_2 g_31 7)) (c_33 : r_32 ≤ w_16) (c_34 : ¬ (r_32 ≤ w_16)) : (w_17, r_32) = stF (m38 fs) j_2 (ii + 1) := by
  exact absurd c_33 c_34
theorem lf_X8_site_5 {mt : Int32} {ma : Nat} {fs : Nat → Int32} {w9 : Nat} {k9 : Nat} {h9 : Nat} {a1 : Int32} {j_2 : Nat} {fan_8 : Nat → Int32} {cq : Nat} {w_16 : Int32} {w_17 : Int32} {w_18 : Nat → Int32} {ii : Nat} {g_31 : Nat → Int32} {fsn_32 : Nat → Int32} {r_32 : Int32} (hM : okM fs w9 k9 h9) (hT : ¬ mt = 0 → 1 ≤ k9) (h999 : h9 ≤ 999) (hT0 : mt = 0 → fs 0 = 0 ∧ ma = 0) (c_1 : ¬ (mt = 0)) (hkn1 : 1 ≤ k9) (hw1 : 1 ≤ w9) (h01 : ¬ fs 0 = 0) (f_2_1_0 : (¬ (((nI j_2)).toInt64 < 1 ∨ 30 < ((nI j_2)).toInt64))) (q_2 : ¬ ((nI j_2) < 1 ∨ 30 < (nI j_2))) (hj_2 : j_2 ≤ 30) (f_5_1_0 : (¬ (a1 < 0 ∨ 1 < a1))) (hF_8_0 : (∀ j : Nat, j < 38 → fan_8 j = fs j)) (hcq1 : cq ≤ 15) (hcqe : fan_8 0 = nI cq) (hii : ii < cq) (haf_0 : ((w_17, w_16) = stF (m38 fs) j_2 ii)) (haf_1 : (m38 w_18 = m38 fs)) (hMl : okM w_18 w9 k9 h9) (hu_31 : g_31 = upd w_18 1 (nI ii)) (hF_32_0 : (∀ j_2 : Nat, j_2 < 38 → fsn_32 j_2 = fan_8 j_2)) (h_32 : r_32 = (mGo j_2 g_31 7)) (c_33 : ¬ (r_32 ≤ w_16)) (c_35 : r_32 ≤ w_16) : ((nI ii), w_16) = stF (m38 fs) j_2 (ii + 1) := by
  exact absurd c_35 c_33
theorem lf_X8_site_6 {mt : Int32} {ma : Nat} {fs : Nat → Int32} {w9 : Nat} {k9 : Nat} {h9 : Nat} {a1 : Int32} {j_2 : Nat} {fan_8 : Nat → Int32} {cq : Nat} {w_16 : Int32} {w_17 : Int32} {w_18 : Nat → Int32} {ii : Nat} {g_31 : Nat → Int32} {fsn_32 : Nat → Int32} {r_32 : Int32} (hM : okM fs w9 k9 h9) (hT : ¬ mt = 0 → 1 ≤ k9) (h999 : h9 ≤ 999) (hT0 : mt = 0 → fs 0 = 0 ∧ ma = 0) (c_1 : ¬ (mt = 0)) (hkn1 : 1 ≤ k9) (hw1 : 1 ≤ w9) (h01 : ¬ fs 0 = 0) (f_2_1_0 : (¬ (((nI j_2)).toInt64 < 1 ∨ 30 < ((nI j_2)).toInt64))) (q_2 : ¬ ((nI j_2) < 1 ∨ 30 < (nI j_2))) (hj_2 : j_2 ≤ 30) (f_5_1_0 : (¬ (a1 < 0 ∨ 1 < a1))) (hF_8_0 : (∀ j : Nat, j < 38 → fan_8 j = fs j)) (hcq1 : cq ≤ 15) (hcqe : fan_8 0 = nI cq) (hii : ii < cq) (haf_0 : ((w_17, w_16) = stF (m38 fs) j_2 ii)) (haf_1 : (m38 w_18 = m38 fs)) (hMl : okM w_18 w9 k9 h9) (hu_31 : g_31 = upd w_18 1 (nI ii)) (hF_32_0 : (∀ j_2 : Nat, j_2 < 38 → fsn_32 j_2 = fan_8 j_2)) (h_32 : r_32 = (mGo j_2 g_31 7)) (c_33 : ¬ (r_32 ≤ w_16)) (c_35 : ¬ (r_32 ≤ w_16)) : ((nI ii), r_32) = stF (m38 fs) j_2 (ii + 1) := by
  first
  | exact absurd c_35 c_33
  | exact haf_0.trans (si_no (congrArg Prod.snd haf_0) (siM_m hMl hw1 haf_1 hu_31 h_32) c_33).symm
  | exact (si_yes (congrArg Prod.snd haf_0) (siM_m hMl hw1 haf_1 hu_31 h_32) c_33).symm
theorem lf_X8_site_7 {mt : Int32} {ma : Nat} {fs : Nat → Int32} {w9 : Nat} {k9 : Nat} {h9 : Nat} {a1 : Int32} {j_2 : Nat} {fan_8 : Nat → Int32} {cq : Nat} {w_16 : Int32} {w_17 : Int32} {w_18 : Nat → Int32} (hM : okM fs w9 k9 h9) (hT : ¬ mt = 0 → 1 ≤ k9) (h999 : h9 ≤ 999) (hT0 : mt = 0 → fs 0 = 0 ∧ ma = 0) (c_1 : ¬ (mt = 0)) (hkn1 : 1 ≤ k9) (hw1 : 1 ≤ w9) (h01 : ¬ fs 0 = 0) (f_2_1_0 : (¬ (((nI j_2)).toInt64 < 1 ∨ 30 < ((nI j_2)).toInt64))) (q_2 : ¬ ((nI j_2) < 1 ∨ 30 < (nI j_2))) (hj_2 : j_2 ≤ 30) (f_5_1_0 : (¬ (a1 < 0 ∨ 1 < a1))) (hF_8_0 : (∀ j : Nat, j < 38 → fan_8 j = fs j)) (hcq1 : cq ≤ 15) (hcqe : fan_8 0 = nI cq) (haf_0 : ((w_17, w_16) = stF (m38 fs) j_2 cq)) (haf_1 : (m38 w_18 = m38 fs)) (hMl : okM w_18 w9 k9 h9) (c_38 : ¬ (a1 = 0)) : w_16 = (a_site (m38 fs) (nI j_2) a1) := by
  first
  | exact site_0 h00
  | exact site_n h01 (Or.inl q_2)
  | exact (siM_e h01 hF_8_0 hcq1 hcqe q_2 hj_2 f_5_1_0 haf_0).1 c_38
  | exact (siM_e h01 hF_8_0 hcq1 hcqe q_2 hj_2 f_5_1_0 haf_0).2 c_38
theorem lf_X8_site_8 {mt : Int32} {ma : Nat} {fs : Nat → Int32} {w9 : Nat} {k9 : Nat} {h9 : Nat} {a1 : Int32} {j_2 : Nat} {fan_8 : Nat → Int32} {cq : Nat} {w_16 : Int32} {w_17 : Int32} {w_18 : Nat → Int32} (hM : okM fs w9 k9 h9) (hT : ¬ mt = 0 → 1 ≤ k9) (h999 : h9 ≤ 999) (hT0 : mt = 0 → fs 0 = 0 ∧ ma = 0) (c_1 : ¬ (mt = 0)) (hkn1 : 1 ≤ k9) (hw1 : 1 ≤ w9) (h01 : ¬ fs 0 = 0) (f_2_1_0 : (¬ (((nI j_2)).toInt64 < 1 ∨ 30 < ((nI j_2)).toInt64))) (q_2 : ¬ ((nI j_2) < 1 ∨ 30 < (nI j_2))) (hj_2 : j_2 ≤ 30) (f_5_1_0 : (¬ (a1 < 0 ∨ 1 < a1))) (hF_8_0 : (∀ j : Nat, j < 38 → fan_8 j = fs j)) (hcq1 : cq ≤ 15) (hcqe : fan_8 0 = nI cq) (haf_0 : ((w_17, w_16) = stF (m38 fs) j_2 cq)) (haf_1 : (m38 w_18 = m38 fs)) (hMl : okM w_18 w9 k9 h9) (c_38 : a1 = 0) : w_17 = (a_site (m38 fs) (nI j_2) a1) := by
  first
  | exact site_0 h00
  | exact site_n h01 (Or.inl q_2)
  | exact (siM_e h01 hF_8_0 hcq1 hcqe q_2 hj_2 f_5_1_0 haf_0).1 c_38
  | exact (siM_e h01 hF_8_0 hcq1 hcqe q_2 hj_2 f_5_1_0 haf_0).2 c_38
theorem lf_X8_site_9 {mt : Int32} {ma : Nat} {fs : Nat → Int32} {w9 : Nat} {k9 : Nat} {h9 : Nat} {a0 : Int32} {a1 : Int32} (hM : okM fs w9 k9 h9) (hT : ¬ mt = 0 → 1 ≤ k9) (h999 : h9 ≤ 999) (hT0 : mt = 0 → fs 0 = 0 ∧ ma = 0) (c_1 : mt = 0) (h00 : fs 0 = 0) : (-1000002) = (a_site (m38 fs) a0 a1) := by
  first
  | exact site_0 h00
  | exact site_n h01 (Or.inl q_2)
set_option maxHeartbeats 4000000 in
set_option maxRecDepth 100000 in
theorem r_X8_site (l : Launch) (dC : Nat → ClassId) (dI : Nat → Nat → Nat) (cI cZ cL cJ : ClassId) (sz : Nat) (mo : Nat) (m_la : Nat) (m_sz : Nat) (m_it : Nat) (m_st : Nat) (m_mv : Nat) (m_tp : Nat) (m_rd : Nat) (m_ac : Nat) (m_as : Nat) (m_wo : Nat) (m_ik : Nat) (m_ke : Nat) (m_tr : Nat) (ms : Int32) (mt : Int32) (ml : Int32) (mk : Int32) (mv : Int32) (mb : Int32) (mw : Int32) (mz : Nat) (mp : Nat) (ma : Nat) (mx : Nat) (fs : Nat → Int32) (w9 : Nat) (k9 : Nat) (h9 : Nat) (fa : Nat → Int32) (a0 : Int32) (a1 : Int32) (hM : okM fs w9 k9 h9) (hT : ¬ mt = 0 → 1 ≤ k9) (h999 : h9 ≤ 999) (hT0 : mt = 0 → fs 0 = 0 ∧ ma = 0) : Met l yX8_site wsX8_site ({ frames := 6, cells := 0, slots := 0, locals := 139 }) (va_Pc [.ref mo, .int a0, .int a1] (fun U => U.heap.size = sz ∧ va_P (dC, dI) vwCl [(xo_8_rrriirrriiiiiiirrirrrrri mo m_la m_sz m_it ms mt m_st m_mv m_tp (nI mz) ml (nI mp) mk mv mb mw m_rd m_ac (nI ma) m_as m_wo m_ik m_ke m_tr (nI mx)), (xI m_st cI 38 fs), (xI m_as cI 38 fa)] U.heap ∧ va_K (dC, dI) vwCl [(cI, .int), (cZ, .boolean), (cL, .object RX3), (cJ, .array .int)] U ∧ va_D (fun _ => True) [(xo_8_rrriirrriiiiiiirrirrrrri mo m_la m_sz m_it ms mt m_st m_mv m_tp (nI mz) ml (nI mp) mk mv mb mw m_rd m_ac (nI ma) m_as m_wo m_ik m_ke m_tr (nI mx)), (xI m_st cI 38 fs), (xI m_as cI 38 fa)])) (va_Qi (fun r (_ : Unit) => r = (a_site (m38 fs) a0 a1)) (fun (_ : Unit) t => ∃ (fsn : Nat → Int32) (fan : Nat → Int32), va_P (dC, dI) vwCl [(xo_8_rrriirrriiiiiiirrirrrrri mo m_la m_sz m_it ms mt m_st m_mv m_tp (nI mz) ml (nI mp) mk mv mb mw m_rd m_ac (nI ma) m_as m_wo m_ik m_ke m_tr (nI mx)), (xI m_st cI 38 fsn), (xI m_as cI 38 fan)] t.heap ∧ va_D (va_A [(xo_8_rrriirrriiiiiiirrirrrrri mo m_la m_sz m_it ms mt m_st m_mv m_tp (nI mz) ml (nI mp) mk mv mb mw m_rd m_ac (nI ma) m_as m_wo m_ik m_ke m_tr (nI mx)), (xI m_st cI 38 fs), (xI m_as cI 38 fa)] sz) [(xo_8_rrriirrriiiiiiirrirrrrri mo m_la m_sz m_it ms mt m_st m_mv m_tp (nI mz) ml (nI mp) mk mv mb mw m_rd m_ac (nI ma) m_as m_wo m_ik m_ke m_tr (nI mx)), (xI m_st cI 38 fsn), (xI m_as cI 38 fan)] ∧ okM fsn w9 k9 h9 ∧ m38 fsn = m38 fs) (va_A [(xo_8_rrriirrriiiiiiirrirrrrri mo m_la m_sz m_it ms mt m_st m_mv m_tp (nI mz) ml (nI mp) mk mv mb mw m_rd m_ac (nI ma) m_as m_wo m_ik m_ke m_tr (nI mx)), (xI m_st cI 38 fs), (xI m_as cI 38 fa)] sz)) 0 0 (va_A [(xo_8_rrriirrriiiiiiirrirrrrri mo m_la m_sz m_it ms mt m_st m_mv m_tp (nI mz) ml (nI mp) mk mv mb mw m_rd m_ac (nI ma) m_as m_wo m_ik m_ke m_tr (nI mx)), (xI m_st cI 38 fs), (xI m_as cI 38 fa)] sz) := by
  refine Met.ofW (cc := cX8_site) (maxL := 7) (ret := (some .int)) (by decide) rfl ?_
  intro p e s m args below meth c s₁ B hml hv
  obtain ⟨rfl, hsz, hP, hK, hD0⟩ := hv
  have hx := B.exec
  have hb := B.bytes
  have hr := B.returns
  have hts := atoms_spec (ws := wsX8_site) B.pre
  have hown : s.vm.findClass RX8 = some m.cls := findClass_of_methodNamed B.named
  have hlocks := B.notSynchronized
  subst hsz
  have hD := hD0.self (sz := s.heap.size)
  generalize hAe : va_A [(xo_8_rrriirrriiiiiiirrirrrrri mo m_la m_sz m_it ms mt m_st m_mv m_tp (nI mz) ml (nI mp) mk mv mb mw m_rd m_ac (nI ma) m_as m_wo m_ik m_ke m_tr (nI mx)), (xI m_st cI 38 fs), (xI m_as cI 38 fa)] s.heap.size = A at hD ⊢
  have hA : ∀ q : Nat, s.heap.size ≤ q → A q := fun q h => by rw [← hAe]; exact Or.inr h
  have hS : va_S A s.heap s.heap [] := va_S.rf
  have hP : va_P (dC, dI) vwCl [(xo_8_rrriirrriiiiiiirrirrrrri mo m_la m_sz m_it ms mt m_st m_mv m_tp (nI mz) ml (nI mp) mk mv mb mw m_rd m_ac (nI ma) m_as m_wo m_ik m_ke m_tr (nI mx)), (xI m_st cI 38 fs), (xI m_as cI 38 fa)] s.heap := hP
  have hl := lv_entry ([.ref mo, .int a0, .int a1]) (n := 7) (Nat.le_of_ble_eq_true rfl)
  rw [lg_entry_eq]
  generalize (lg_sl ([.ref mo, .int a0, .int a1]) ++ List.replicate (7 - (lg_sl ([.ref mo, .int a0, .int a1])).length) Slot.unset).toArray = ls at hl ⊢
  have hl : lv_has ls 7 [(0, .ref mo), (1, .int a0), (2, .int a1)] := hl
  have hk6 := hM.2.2.2.2.1
  have hw6 := hM.2.2.2.1
  refine lv_aload_n hx hb dX8_site_0 rfl (lv_at hl 0 rfl) ?_
  refine va_get (D := (dC, dI)) (ci := 8) (v := .int mt) (C := RX8) (T := TX8) (N := 24) hx hb hts i_X8_site_X8 hown hK hP 0 rfl rfl 4 (by decide) (hts _ mx_X8_site_1) (fun _ h9 => h9) rfl dX8_site_1 ?_
  refine lv_if_ne (tgt := 10) hx hb dX8_site_4 (by decide) (fun c_1 => ?_) (fun c_1 => ?_)
  · skip
    have hkn1 := hT c_1
    have hw1 := hM.2.2.2.2.2.1.mp hkn1
    have h01 : ¬ fs 0 = 0 := cell_nz hM hkn1
    refine lv_iload_n hx hb dX8_site_10 rfl (lv_at hl 1 rfl) ?_
    refine lv_i2l hx hb dX8_site_11 rfl ?_
    refine lv_lconst (v := 1) hx hb dX8_site_12 (by decide) ?_
    refine lv_ldc2 (own := RX8) (v := 30) hx hb hown (hts _ mx_X8_site_3) dX8_site_13 ?_
    have hPc_2 := hP.sub (ws' := []) [] rfl
    refine vp_callSi (W.runS (As := [.long (a0).toInt64, .long 1, .long 30]) (rest := []) ⟨hx, hb, hml, hown, hts⟩ (r_X8_in l dC dI cI cZ cL cJ ((a0).toInt64) 1 30 ) (va_cwS 3 hts gX8_site_X8_in rfl rfl rfl (by decide +kernel) ⟨Nat.le_of_ble_eq_true rfl, Nat.le_of_ble_eq_true rfl⟩) (psP hK hPc_2) rfl rfl hl.1 rfl (lv_room (Nat.le_of_ble_eq_true rfl)) dX8_site_16 ⟨Nat.le_of_ble_eq_true rfl, Nat.le_of_ble_eq_true rfl⟩) (fun r_2 h_2 => ?_)
    rcases h_2 with ⟨h_2, f_2_0_0⟩ | ⟨h_2, f_2_1_0⟩
    · subst h_2
      have q_2 : (a0 < 1 ∨ 30 < a0) := (in32 (x := a0) (l := 1) (u := 30) (by decide) (by decide)).mp f_2_0_0
      refine lv_if_eq (tgt := 29) hx hb dX8_site_19 (by decide) (fun _ => ?_) (fun c_ => absurd (by decide) c_)
      refine lv_ldc (own := RX8) (v := (-1000001)) hx hb hown (hts _ mx_X8_site_4) dX8_site_29 ?_
      have hX9 := cut2 (wc := [(xo_8_rrriirrriiiiiiirrirrrrri mo m_la m_sz m_it ms mt m_st m_mv m_tp (nI mz) ml (nI mp) mk mv mb mw m_rd m_ac (nI ma) m_as m_wo m_ik m_ke m_tr (nI mx)), (xI m_st cI 38 fs), (xI m_as cI 38 fa)]) hP hD [0, 1, 2] (by decide +kernel) rfl
      exact W.iret (v := (-1000001)) hx hb hr (fun t ht hW => ⟨⟨(-1000001), (), rfl, (lf_X8_site_1 hM hT h999 hT0 c_1 hkn1 hw1 h01 f_2_0_0 q_2), ⟨fs, fa, va_Ht ht hX9.1, hX9.2, hM, rfl⟩⟩, hS.F ht⟩) hS.2.2 dX8_site_31
    · subst h_2
      have q_2 : ¬ (a0 < 1 ∨ 30 < a0) := fun q_ => f_2_1_0 ((in32 (x := a0) (l := 1) (u := 30) (by decide) (by decide)).mpr q_)
      obtain ⟨j_2, hj_2, hl_2, rfl⟩ := in64 (lo := 1) (n := 30) rfl rfl (by decide) f_2_1_0
      refine lv_if_eq (tgt := 29) hx hb dX8_site_19 (by decide) (fun c_ => absurd c_ (by decide)) (fun _ => ?_)
      refine lv_iload_n hx hb dX8_site_22 rfl (lv_at hl 2 rfl) ?_
      have hPc_5 := hP.sub (ws' := []) [] rfl
      refine vp_callSi (W.runS (As := [.int a1]) (rest := []) ⟨hx, hb, hml, hown, hts⟩ (r_X8_isWhat l dC dI cI cZ cL cJ a1 ) (va_cwS 1 hts gX8_site_X8_isWhat rfl rfl rfl (by decide +kernel) ⟨Nat.le_of_ble_eq_true rfl, Nat.le_of_ble_eq_true rfl⟩) (psP hK hPc_5) rfl rfl hl.1 rfl (lv_room (Nat.le_of_ble_eq_true rfl)) dX8_site_23 ⟨Nat.le_of_ble_eq_true rfl, Nat.le_of_ble_eq_true rfl⟩) (fun r_5 h_5 => ?_)
      rcases h_5 with ⟨h_5, f_5_0_0⟩ | ⟨h_5, f_5_1_0⟩
      · subst h_5
        refine lv_if_ne (tgt := 32) hx hb dX8_site_26 (by decide) (fun c_ => absurd (by decide) c_) (fun _ => ?_)
        refine lv_ldc (own := RX8) (v := (-1000001)) hx hb hown (hts _ mx_X8_site_4) dX8_site_29 ?_
        have hX9 := cut2 (wc := [(xo_8_rrriirrriiiiiiirrirrrrri mo m_la m_sz m_it ms mt m_st m_mv m_tp (nI mz) ml (nI mp) mk mv mb mw m_rd m_ac (nI ma) m_as m_wo m_ik m_ke m_tr (nI mx)), (xI m_st cI 38 fs), (xI m_as cI 38 fa)]) hP hD [0, 1, 2] (by decide +kernel) rfl
        exact W.iret (v := (-1000001)) hx hb hr (fun t ht hW => ⟨⟨(-1000001), (), rfl, (lf_X8_site_2 hM hT h999 hT0 c_1 hkn1 hw1 h01 f_2_1_0 q_2 hj_2 f_5_0_0), ⟨fs, fa, va_Ht ht hX9.1, hX9.2, hM, rfl⟩⟩, hS.F ht⟩) hS.2.2 dX8_site_31
      · subst h_5
        refine lv_if_ne (tgt := 32) hx hb dX8_site_26 (by decide) (fun _ => ?_) (fun c_ => absurd c_ (by decide))
        refine lv_aload_n hx hb dX8_site_32 rfl (lv_at hl 0 rfl) ?_
        have hc_8 := cutW (wc := [(xo_8_rrriirrriiiiiiirrirrrrri mo m_la m_sz m_it ms mt m_st m_mv m_tp (nI mz) ml (nI mp) mk mv mb mw m_rd m_ac (nI ma) m_as m_wo m_ik m_ke m_tr (nI mx)), (xI m_st cI 38 fs), (xI m_as cI 38 fa)]) hP hD hS hA [0, 1, 2] (by decide +kernel) rfl
        refine va_callv (va_runV (As := []) (rest := []) ⟨hx, hb, hml, hown, hts⟩ (r_X8_putAside l dC dI cI cZ cL cJ s.heap.size mo m_la m_sz m_it m_st m_mv m_tp m_rd m_ac m_as m_wo m_ik m_ke m_tr ms mt ml mk mv mb mw mz mp ma mx fs fa ) (cwV 0 hts gX8_site_X8_putAside rfl rfl rfl (by decide +kernel) ⟨Nat.le_of_ble_eq_true rfl, Nat.le_of_ble_eq_true rfl⟩) (pvW 8 0 hK hP rfl rfl hc_8) rfl rfl hl.1 rfl (lv_room (Nat.le_of_ble_eq_true rfl)) dX8_site_33 ⟨Nat.le_of_ble_eq_true rfl, Nat.le_of_ble_eq_true rfl⟩) hS (fun q _ h => hc_8.2.2 q h) hc_8.2.2 (fun u_8 t_8 H1 locs ht hvm h_8 hB hz1 hk1 hS => ?_)
        refine xl_1_3 hB (fun fan_8 hP1 hD1 hF_8_0 => ?_)
        clear hB
        rw [ht] at hP1
        obtain ⟨hP, hD⟩ := va_join (wr := []) (w1 := [(xo_8_rrriirrriiiiiiirrirrrrri mo m_la m_sz m_it ms mt m_st m_mv m_tp (nI mz) ml (nI mp) mk mv mb mw m_rd m_ac (nI ma) m_as m_wo m_ik m_ke m_tr (nI mx)), (xI m_st cI 38 fs), (xI m_as cI 38 fan_8)]) hP hD [0, 1, 2] [] rfl rfl (by decide +kernel) (by decide +kernel) hk1 hc_8.2.2 hP1 hD1
        generalize H1 = H at hP hS ⊢
        have hP : va_P (dC, dI) vwCl [(xo_8_rrriirrriiiiiiirrirrrrri mo m_la m_sz m_it ms mt m_st m_mv m_tp (nI mz) ml (nI mp) mk mv mb mw m_rd m_ac (nI ma) m_as m_wo m_ik m_ke m_tr (nI mx)), (xI m_st cI 38 fs), (xI m_as cI 38 fan_8)] H := hP
        have hD := dto hP hD
        have hA_8 := okM_eq hM hF_8_0
        refine lv_iconst (v := (-1)) hx hb dX8_site_36 (by decide) ?_
        refine lv_istore_n (lv' := [(3, .int (-1)), (0, .ref mo), (1, .int (nI j_2)), (2, .int a1)]) hx hb dX8_site_37 rfl hl (by decide) rfl (fun ls hl => ?_)
        refine lv_iconst (v := (-1)) hx hb dX8_site_38 (by decide) ?_
        refine lv_istore (lv' := [(4, .int (-1)), (3, .int (-1)), (0, .ref mo), (1, .int (nI j_2)), (2, .int a1)]) hx hb dX8_site_39 hl (by decide) rfl (fun ls hl => ?_)
        obtain ⟨cq, hcq1, hcq2, hcqe⟩ := hA_8.2.2.2.2.2.2.1
        refine lv_iconst (v := 0) hx hb dX8_site_41 (by decide) ?_
        refine lv_istore (lv' := [(5, .int 0), (4, .int (-1)), (3, .int (-1)), (0, .ref mo), (1, .int (nI j_2)), (2, .int a1)]) hx hb dX8_site_42 hl (by decide) rfl (fun ls hl => ?_)
        refine lp_go (σ := (Int32) × (Int32) × (Nat → Int32)) (fun ii (st : (Int32) × (Int32) × (Nat → Int32)) H locs ls => match st with | (w_16, w_17, w_18) => lv_has ls 7 [(5, .int (nI ii)), (4, .int w_16), (3, .int w_17), (0, .ref mo), (1, .int (nI j_2)), (2, .int a1)] ∧ va_P (dC, dI) vwCl [(xo_8_rrriirrriiiiiiirrirrrrri mo m_la m_sz m_it ms mt m_st m_mv m_tp (nI mz) ml (nI mp) mk mv mb mw m_rd m_ac (nI ma) m_as m_wo m_ik m_ke m_tr (nI mx)), (xI m_st cI 38 w_18), (xI m_as cI 38 fan_8)] H ∧ va_D A [(xo_8_rrriirrriiiiiiirrirrrrri mo m_la m_sz m_it ms mt m_st m_mv m_tp (nI mz) ml (nI mp) mk mv mb mw m_rd m_ac (nI ma) m_as m_wo m_ik m_ke m_tr (nI mx)), (xI m_st cI 38 w_18), (xI m_as cI 38 fan_8)] ∧ va_S A s.heap H locs ∧ okM w_18 w9 k9 h9 ∧ ((w_17, w_16) = stF (m38 fs) j_2 ii) ∧ (m38 w_18 = m38 fs)) cq ?_ ?_ 0 (by omega) ((-1), (-1), fs) ⟨lv_sub hl [0, 1, 2, 3, 4, 5] rfl, hP.sub (ws' := [(xo_8_rrriirrriiiiiiirrirrrrri mo m_la m_sz m_it ms mt m_st m_mv m_tp (nI mz) ml (nI mp) mk mv mb mw m_rd m_ac (nI ma) m_as m_wo m_ik m_ke m_tr (nI mx)), (xI m_st cI 38 fs), (xI m_as cI 38 fan_8)]) [0, 1, 2] rfl, hD.sub (ws' := [(xo_8_rrriirrriiiiiiirrirrrrri mo m_la m_sz m_it ms mt m_st m_mv m_tp (nI mz) ml (nI mp) mk mv mb mw m_rd m_ac (nI ma) m_as m_wo m_ik m_ke m_tr (nI mx)), (xI m_st cI 38 fs), (xI m_as cI 38 fan_8)]) [0, 1, 2] (by decide +kernel) rfl, hS, hM, rfl, rfl⟩
        · rintro ii ⟨w_16, w_17, w_18⟩ H locs ls hii ⟨hl, hP, hD, hS, hMl, haf_0, haf_1⟩ ih
          refine lv_iload hx hb dX8_site_44 (lv_at hl 0 rfl) ?_
          refine lv_aload_n hx hb dX8_site_46 rfl (lv_at hl 3 rfl) ?_
          refine va_get (D := (dC, dI)) (ci := 8) (v := .ref m_as) (C := RX8) (T := TX8) (N := 24) hx hb hts i_X8_site_X8 hown hK hP 0 rfl rfl 18 (by decide) (hts _ mx_X8_site_5) (fun _ h9 => h9) rfl dX8_site_47 ?_
          refine lv_iconst (v := 0) hx hb dX8_site_50 (by decide) ?_
          refine va_iald hx hb hK hP 2 0 rfl rfl (by unfold vp_in; decide) dX8_site_51 ?_
          refine lv_topi (fun v_29 e_29 => ?_)
          obtain rfl : v_29 = (nI cq) := (e_29).trans hcqe
          refine lv_icmp_ge (tgt := 106) hx hb dX8_site_52 (by decide) (fun c_ => absurd c_ (fun q_ => absurd ((nI_leI (a := cq) (b := ii) (by omega) (by omega)).mp q_) (by omega))) (fun _ => ?_)
          refine lv_aload_n hx hb dX8_site_55 rfl (lv_at hl 3 rfl) ?_
          refine va_get (D := (dC, dI)) (ci := 8) (v := .ref m_st) (C := RX8) (T := TX8) (N := 24) hx hb hts i_X8_site_X8 hown hK hP 0 rfl rfl 5 (by decide) (hts _ mx_X8_site_6) (fun _ h9 => h9) rfl dX8_site_56 ?_
          refine lv_iconst (v := 1) hx hb dX8_site_59 (by decide) ?_
          refine lv_iload hx hb dX8_site_60 (lv_at hl 0 rfl) ?_
          refine va_iast hx hb hK hP hD hS 1 0 rfl rfl (by unfold vp_in; decide) dX8_site_62 (fun H locs hP hD hS => ?_)
          generalize hg_31 : upd w_18 (1 : Int32).toNatClampNeg (nI ii) = g_31 at hP hD
          have hu_31 : g_31 = upd w_18 1 (nI ii) := hg_31.symm
          have hM_31 : okM g_31 w9 k9 h9 := okM_off (i := 1) hMl hg_31 (by omega) (by omega) (by omega) (by omega) (by omega)
          have hP : va_P (dC, dI) vwCl [(xo_8_rrriirrriiiiiiirrirrrrri mo m_la m_sz m_it ms mt m_st m_mv m_tp (nI mz) ml (nI mp) mk mv mb mw m_rd m_ac (nI ma) m_as m_wo m_ik m_ke m_tr (nI mx)), (xI m_st cI 38 g_31), (xI m_as cI 38 fan_8)] H := hP
          have hD := dto hP hD
          refine lv_aload_n hx hb dX8_site_63 rfl (lv_at hl 3 rfl) ?_
          refine lv_iload_n hx hb dX8_site_64 rfl (lv_at hl 4 rfl) ?_
          have hc_32 := cutW (wc := [(xo_8_rrriirrriiiiiiirrirrrrri mo m_la m_sz m_it ms mt m_st m_mv m_tp (nI mz) ml (nI mp) mk mv mb mw m_rd m_ac (nI ma) m_as m_wo m_ik m_ke m_tr (nI mx)), (xI m_st cI 38 g_31), (xI m_as cI 38 fan_8)]) hP hD hS hA [0, 1, 2] (by decide +kernel) rfl
          refine va_calli (va_runV (As := [.int (nI j_2)]) (rest := []) ⟨hx, hb, hml, hown, hts⟩ (r_X8_mealBehind l dC dI cI cZ cL cJ H.size mo m_la m_sz m_it m_st m_mv m_tp m_rd m_ac m_as m_wo m_ik m_ke m_tr ms mt ml mk mv mb mw mz mp ma mx g_31 w9 k9 h9 fan_8 j_2 (hM_31) (by omega) (by omega) (by omega)) (cwV 1 hts gX8_site_X8_mealBehind rfl rfl rfl (by decide +kernel) ⟨Nat.le_of_ble_eq_true rfl, Nat.le_of_ble_eq_true rfl⟩) (pvW 8 0 hK hP rfl rfl hc_32) rfl rfl hl.1 rfl (lv_room (Nat.le_of_ble_eq_true rfl)) dX8_site_65 ⟨Nat.le_of_ble_eq_true rfl, Nat.le_of_ble_eq_true rfl⟩) hS (fun q _ h => hc_32.2.2 q h) hc_32.2.2 (fun r_32 u_32 t_32 H1 locs ht hvm h_32 hB hz1 hk1 hS => ?_)
          refine xl_1_3 hB (fun fsn_32 hP1 hD1 hF_32_0 => ?_)
          clear hB
          rw [ht] at hP1
          obtain ⟨hP, hD⟩ := va_join (wr := []) (w1 := [(xo_8_rrriirrriiiiiiirrirrrrri mo m_la m_sz m_it ms mt m_st m_mv m_tp (nI mz) ml (nI mp) mk mv mb mw m_rd m_ac (nI ma) m_as m_wo m_ik m_ke m_tr (nI mx)), (xI m_st cI 38 fsn_32), (xI m_as cI 38 fan_8)]) hP hD [0, 1, 2] [] rfl rfl (by decide +kernel) (by decide +kernel) hk1 hc_32.2.2 hP1 hD1
          generalize H1 = H at hP hS ⊢
          have hP : va_P (dC, dI) vwCl [(xo_8_rrriirrriiiiiiirrirrrrri mo m_la m_sz m_it ms mt m_st m_mv m_tp (nI mz) ml (nI mp) mk mv mb mw m_rd m_ac (nI ma) m_as m_wo m_ik m_ke m_tr (nI mx)), (xI m_st cI 38 fsn_32), (xI m_as cI 38 fan_8)] H := hP
          have hD := dto hP hD
          have hT_32 := okM_eq hA_8 hF_32_0
          refine lv_istore (lv' := [(6, .int r_32), (5, .int (nI ii)), (4, .int w_16), (3, .int w_17), (0, .ref mo), (1, .int (nI j_2)), (2, .int a1)]) hx hb dX8_site_68 hl (by decide) rfl (fun ls hl => ?_)
          refine lv_iload hx hb dX8_site_70 (lv_at hl 0 rfl) ?_
          refine lv_iload hx hb dX8_site_72 (lv_at hl 2 rfl) ?_
          refine lv_icmp_le (tgt := 82) hx hb dX8_site_74 (by decide) (fun c_33 => ?_) (fun c_33 => ?_)
          · skip
            refine lv_iload_n hx hb dX8_site_82 rfl (lv_at hl 3 rfl) ?_
            refine lv_istore_n (lv' := [(3, .int w_17), (6, .int r_32), (5, .int (nI ii)), (4, .int w_16), (0, .ref mo), (1, .int (nI j_2)), (2, .int a1)]) hx hb dX8_site_83 rfl hl (by decide) rfl (fun ls hl => ?_)
            refine lv_iload hx hb dX8_site_84 (lv_at hl 1 rfl) ?_
            refine lv_iload hx hb dX8_site_86 (lv_at hl 3 rfl) ?_
            refine lv_icmp_le (tgt := 96) hx hb dX8_site_88 (by decide) (fun c_34 => ?_) (fun c_34 => ?_)
            · skip
              refine lv_iload hx hb dX8_site_96 (lv_at hl 3 rfl) ?_
              refine lv_istore (lv' := [(4, .int w_16), (3, .int w_17), (6, .int r_32), (5, .int (nI ii)), (0, .ref mo), (1, .int (nI j_2)), (2, .int a1)]) hx hb dX8_site_98 hl (by decide) rfl (fun ls hl => ?_)
              refine lv_iinc (v := (nI (ii + 1))) (lv' := [(5, .int (nI (ii + 1))), (4, .int w_16), (3, .int w_17), (6, .int r_32), (0, .ref mo), (1, .int (nI j_2)), (2, .int a1)]) hx hb dX8_site_100 hl (k := 3) rfl (nI_add ii 1) (by decide) rfl (fun ls hl => ?_)
              refine lv_goto (tgt := 44) hx hb dX8_site_103 (by decide) ?_
              exact ih (w_16, w_17, fsn_32) _ _ _ ⟨lv_sub hl [0, 1, 2, 4, 5, 6] rfl, hP.sub (ws' := [(xo_8_rrriirrriiiiiiirrirrrrri mo m_la m_sz m_it ms mt m_st m_mv m_tp (nI mz) ml (nI mp) mk mv mb mw m_rd m_ac (nI ma) m_as m_wo m_ik m_ke m_tr (nI mx)), (xI m_st cI 38 fsn_32), (xI m_as cI 38 fan_8)]) [0, 1, 2] rfl, hD.sub (ws' := [(xo_8_rrriirrriiiiiiirrirrrrri mo m_la m_sz m_it ms mt m_st m_mv m_tp (nI mz) ml (nI mp) mk mv mb mw m_rd m_ac (nI ma) m_as m_wo m_ik m_ke m_tr (nI mx)), (xI m_st cI 38 fsn_32), (xI m_as cI 38 fan_8)]) [0, 1, 2] (by decide +kernel) rfl, hS, hT_32, (lf_X8_site_3 hM hT h999 hT0 c_1 hkn1 hw1 h01 f_2_1_0 q_2 hj_2 f_5_1_0 hF_8_0 hcq1 hcqe hii haf_0 haf_1 hMl hu_31 hF_32_0 h_32 c_33 c_34), ((m38_eq hF_32_0).trans ((m38_eq hF_8_0).trans rfl))⟩
            · skip
              refine lv_iload hx hb dX8_site_91 (lv_at hl 1 rfl) ?_
              refine lv_goto (tgt := 98) hx hb dX8_site_93 (by decide) ?_
              refine lv_istore (lv' := [(4, .int r_32), (3, .int w_17), (6, .int r_32), (5, .int (nI ii)), (0, .ref mo), (1, .int (nI j_2)), (2, .int a1)]) hx hb dX8_site_98 hl (by decide) rfl (fun ls hl => ?_)
              refine lv_iinc (v := (nI (ii + 1))) (lv' := [(5, .int (nI (ii + 1))), (4, .int r_32), (3, .int w_17), (6, .int r_32), (0, .ref mo), (1, .int (nI j_2)), (2, .int a1)]) hx hb dX8_site_100 hl (k := 3) rfl (nI_add ii 1) (by decide) rfl (fun ls hl => ?_)
              refine lv_goto (tgt := 44) hx hb dX8_site_103 (by decide) ?_
              exact ih (r_32, w_17, fsn_32) _ _ _ ⟨lv_sub hl [0, 1, 2, 4, 5, 6] rfl, hP.sub (ws' := [(xo_8_rrriirrriiiiiiirrirrrrri mo m_la m_sz m_it ms mt m_st m_mv m_tp (nI mz) ml (nI mp) mk mv mb mw m_rd m_ac (nI ma) m_as m_wo m_ik m_ke m_tr (nI mx)), (xI m_st cI 38 fsn_32), (xI m_as cI 38 fan_8)]) [0, 1, 2] rfl, hD.sub (ws' := [(xo_8_rrriirrriiiiiiirrirrrrri mo m_la m_sz m_it ms mt m_st m_mv m_tp (nI mz) ml (nI mp) mk mv mb mw m_rd m_ac (nI ma) m_as m_wo m_ik m_ke m_tr (nI mx)), (xI m_st cI 38 fsn_32), (xI m_as cI 38 fan_8)]) [0, 1, 2] (by decide +kernel) rfl, hS, hT_32, (lf_X8_site_4 hM hT h999 hT0 c_1 hkn1 hw1 h01 f_2_1_0 q_2 hj_2 f_5_1_0 hF_8_0 hcq1 hcqe hii haf_0 haf_1 hMl hu_31 hF_32_0 h_32 c_33 c_34), ((m38_eq hF_32_0).trans ((m38_eq hF_8_0).trans rfl))⟩
          · skip
            refine lv_iload hx hb dX8_site_77 (lv_at hl 1 rfl) ?_
            refine lv_goto (tgt := 83) hx hb dX8_site_79 (by decide) ?_
            refine lv_istore_n (lv' := [(3, .int (nI ii)), (6, .int r_32), (5, .int (nI ii)), (4, .int w_16), (0, .ref mo), (1, .int (nI j_2)), (2, .int a1)]) hx hb dX8_site_83 rfl hl (by decide) rfl (fun ls hl => ?_)
            refine lv_iload hx hb dX8_site_84 (lv_at hl 1 rfl) ?_
            refine lv_iload hx hb dX8_site_86 (lv_at hl 3 rfl) ?_
            refine lv_icmp_le (tgt := 96) hx hb dX8_site_88 (by decide) (fun c_35 => ?_) (fun c_35 => ?_)
            · skip
              refine lv_iload hx hb dX8_site_96 (lv_at hl 3 rfl) ?_
              refine lv_istore (lv' := [(4, .int w_16), (3, .int (nI ii)), (6, .int r_32), (5, .int (nI ii)), (0, .ref mo), (1, .int (nI j_2)), (2, .int a1)]) hx hb dX8_site_98 hl (by decide) rfl (fun ls hl => ?_)
              refine lv_iinc (v := (nI (ii + 1))) (lv' := [(5, .int (nI (ii + 1))), (4, .int w_16), (3, .int (nI ii)), (6, .int r_32), (0, .ref mo), (1, .int (nI j_2)), (2, .int a1)]) hx hb dX8_site_100 hl (k := 3) rfl (nI_add ii 1) (by decide) rfl (fun ls hl => ?_)
              refine lv_goto (tgt := 44) hx hb dX8_site_103 (by decide) ?_
              exact ih (w_16, (nI ii), fsn_32) _ _ _ ⟨lv_sub hl [0, 1, 2, 4, 5, 6] rfl, hP.sub (ws' := [(xo_8_rrriirrriiiiiiirrirrrrri mo m_la m_sz m_it ms mt m_st m_mv m_tp (nI mz) ml (nI mp) mk mv mb mw m_rd m_ac (nI ma) m_as m_wo m_ik m_ke m_tr (nI mx)), (xI m_st cI 38 fsn_32), (xI m_as cI 38 fan_8)]) [0, 1, 2] rfl, hD.sub (ws' := [(xo_8_rrriirrriiiiiiirrirrrrri mo m_la m_sz m_it ms mt m_st m_mv m_tp (nI mz) ml (nI mp) mk mv mb mw m_rd m_ac (nI ma) m_as m_wo m_ik m_ke m_tr (nI mx)), (xI m_st cI 38 fsn_32), (xI m_as cI 38 fan_8)]) [0, 1, 2] (by decide +kernel) rfl, hS, hT_32, (lf_X8_site_5 hM hT h999 hT0 c_1 hkn1 hw1 h01 f_2_1_0 q_2 hj_2 f_5_1_0 hF_8_0 hcq1 hcqe hii haf_0 haf_1 hMl hu_31 hF_32_0 h_32 c_33 c_35), ((m38_eq hF_32_0).trans ((m38_eq hF_8_0).trans rfl))⟩
            · skip
              refine lv_iload hx hb dX8_site_91 (lv_at hl 1 rfl) ?_
              refine lv_goto (tgt := 98) hx hb dX8_site_93 (by decide) ?_
              refine lv_istore (lv' := [(4, .int r_32), (3, .int (nI ii)), (6, .int r_32), (5, .int (nI ii)), (0, .ref mo), (1, .int (nI j_2)), (2, .int a1)]) hx hb dX8_site_98 hl (by decide) rfl (fun ls hl => ?_)
              refine lv_iinc (v := (nI (ii + 1))) (lv' := [(5, .int (nI (ii + 1))), (4, .int r_32), (3, .int (nI ii)), (6, .int r_32), (0, .ref mo), (1, .int (nI j_2)), (2, .int a1)]) hx hb dX8_site_100 hl (k := 3) rfl (nI_add ii 1) (by decide) rfl (fun ls hl => ?_)
              refine lv_goto (tgt := 44) hx hb dX8_site_103 (by decide) ?_
              exact ih (r_32, (nI ii), fsn_32) _ _ _ ⟨lv_sub hl [0, 1, 2, 4, 5, 6] rfl, hP.sub (ws' := [(xo_8_rrriirrriiiiiiirrirrrrri mo m_la m_sz m_it ms mt m_st m_mv m_tp (nI mz) ml (nI mp) mk mv mb mw m_rd m_ac (nI ma) m_as m_wo m_ik m_ke m_tr (nI mx)), (xI m_st cI 38 fsn_32), (xI m_as cI 38 fan_8)]) [0, 1, 2] rfl, hD.sub (ws' := [(xo_8_rrriirrriiiiiiirrirrrrri mo m_la m_sz m_it ms mt m_st m_mv m_tp (nI mz) ml (nI mp) mk mv mb mw m_rd m_ac (nI ma) m_as m_wo m_ik m_ke m_tr (nI mx)), (xI m_st cI 38 fsn_32), (xI m_as cI 38 fan_8)]) [0, 1, 2] (by decide +kernel) rfl, hS, hT_32, (lf_X8_site_6 hM hT h999 hT0 c_1 hkn1 hw1 h01 f_2_1_0 q_2 hj_2 f_5_1_0 hF_8_0 hcq1 hcqe hii haf_0 haf_1 hMl hu_31 hF_32_0 h_32 c_33 c_35), ((m38_eq hF_32_0).trans ((m38_eq hF_8_0).trans rfl))⟩
        · rintro ⟨w_16, w_17, w_18⟩ H locs ls ⟨hl, hP, hD, hS, hMl, haf_0, haf_1⟩
          refine lv_iload hx hb dX8_site_44 (lv_at hl 0 rfl) ?_
          refine lv_aload_n hx hb dX8_site_46 rfl (lv_at hl 3 rfl) ?_
          refine va_get (D := (dC, dI)) (ci := 8) (v := .ref m_as) (C := RX8) (T := TX8) (N := 24) hx hb hts i_X8_site_X8 hown hK hP 0 rfl rfl 18 (by decide) (hts _ mx_X8_site_5) (fun _ h9 => h9) rfl dX8_site_47 ?_
          refine lv_iconst (v := 0) hx hb dX8_site_50 (by decide) ?_
          refine va_iald hx hb hK hP 2 0 rfl rfl (by unfold vp_in; decide) dX8_site_51 ?_
          refine lv_topi (fun v_36 e_36 => ?_)
          obtain rfl : v_36 = (nI cq) := (e_36).trans hcqe
          refine lv_icmp_ge (tgt := 106) hx hb dX8_site_52 (by decide) (fun _ => ?_) (fun c_ => absurd ((nI_leI (a := cq) (b := cq) (by omega) (by omega)).mpr (by omega)) c_)
          refine lv_iload_n hx hb dX8_site_106 rfl (lv_at hl 5 rfl) ?_
          refine lv_if_ne (tgt := 114) hx hb dX8_site_107 (by decide) (fun c_38 => ?_) (fun c_38 => ?_)
          · skip
            refine lv_iload hx hb dX8_site_114 (lv_at hl 1 rfl) ?_
            have hX9 := cut2 (wc := [(xo_8_rrriirrriiiiiiirrirrrrri mo m_la m_sz m_it ms mt m_st m_mv m_tp (nI mz) ml (nI mp) mk mv mb mw m_rd m_ac (nI ma) m_as m_wo m_ik m_ke m_tr (nI mx)), (xI m_st cI 38 w_18), (xI m_as cI 38 fan_8)]) hP hD [0, 1, 2] (by decide +kernel) rfl
            exact W.iret (v := w_16) hx hb hr (fun t ht hW => ⟨⟨w_16, (), rfl, (lf_X8_site_7 hM hT h999 hT0 c_1 hkn1 hw1 h01 f_2_1_0 q_2 hj_2 f_5_1_0 hF_8_0 hcq1 hcqe haf_0 haf_1 hMl c_38), ⟨w_18, fan_8, va_Ht ht hX9.1, hX9.2, hMl, haf_1⟩⟩, hS.F ht⟩) hS.2.2 dX8_site_116
          · skip
            refine lv_iload_n hx hb dX8_site_110 rfl (lv_at hl 2 rfl) ?_
            refine lv_goto (tgt := 116) hx hb dX8_site_111 (by decide) ?_
            have hX9 := cut2 (wc := [(xo_8_rrriirrriiiiiiirrirrrrri mo m_la m_sz m_it ms mt m_st m_mv m_tp (nI mz) ml (nI mp) mk mv mb mw m_rd m_ac (nI ma) m_as m_wo m_ik m_ke m_tr (nI mx)), (xI m_st cI 38 w_18), (xI m_as cI 38 fan_8)]) hP hD [0, 1, 2] (by decide +kernel) rfl
            exact W.iret (v := w_17) hx hb hr (fun t ht hW => ⟨⟨w_17, (), rfl, (lf_X8_site_8 hM hT h999 hT0 c_1 hkn1 hw1 h01 f_2_1_0 q_2 hj_2 f_5_1_0 hF_8_0 hcq1 hcqe haf_0 haf_1 hMl c_38), ⟨w_18, fan_8, va_Ht ht hX9.1, hX9.2, hMl, haf_1⟩⟩, hS.F ht⟩) hS.2.2 dX8_site_116
  · skip
    have h00 : fs 0 = 0 := (hT0 c_1).1
    refine lv_ldc (own := RX8) (v := (-1000002)) hx hb hown (hts _ mx_X8_site_2) dX8_site_7 ?_
    have hX9 := cut2 (wc := [(xo_8_rrriirrriiiiiiirrirrrrri mo m_la m_sz m_it ms mt m_st m_mv m_tp (nI mz) ml (nI mp) mk mv mb mw m_rd m_ac (nI ma) m_as m_wo m_ik m_ke m_tr (nI mx)), (xI m_st cI 38 fs), (xI m_as cI 38 fa)]) hP hD [0, 1, 2] (by decide +kernel) rfl
    exact W.iret (v := (-1000002)) hx hb hr (fun t ht hW => ⟨⟨(-1000002), (), rfl, (lf_X8_site_9 hM hT h999 hT0 c_1 h00), ⟨fs, fa, va_Ht ht hX9.1, hX9.2, hM, rfl⟩⟩, hS.F ht⟩) hS.2.2 dX8_site_9
theorem lf_X8_sack_1 {mt : Int32} {ma : Nat} {fs : Nat → Int32} {w9 : Nat} {k9 : Nat} {h9 : Nat} {a0 : Int32} {a1 : Int32} (hM : okM fs w9 k9 h9) (hT : ¬ mt = 0 → 1 ≤ k9) (h999 : h9 ≤ 999) (hT0 : mt = 0 → fs 0 = 0 ∧ ma = 0) (c_1 : ¬ (mt = 0)) (hkn1 : 1 ≤ k9) (hw1 : 1 ≤ w9) (h01 : ¬ fs 0 = 0) (f_2_0_0 : ((a0).toInt64 < 0 ∨ 120 < (a0).toInt64)) (q_2 : (a0 < 0 ∨ 120 < a0)) : (-1000001) = (a_sack (m38 fs) a0 a1) := by
  first
  | exact sack_0 h00
  | exact sack_n h01 (Or.inl q_2)
  | exact sack_n h01 (Or.inr q_5)
theorem lf_X8_sack_2 {mt : Int32} {ma : Nat} {fs : Nat → Int32} {w9 : Nat} {k9 : Nat} {h9 : Nat} {a1 : Int32} {j_2 : Nat} (hM : okM fs w9 k9 h9) (hT : ¬ mt = 0 → 1 ≤ k9) (h999 : h9 ≤ 999) (hT0 : mt = 0 → fs 0 = 0 ∧ ma = 0) (c_1 : ¬ (mt = 0)) (hkn1 : 1 ≤ k9) (hw1 : 1 ≤ w9) (h01 : ¬ fs 0 = 0) (f_2_1_0 : (¬ (((nI j_2)).toInt64 < 0 ∨ 120 < ((nI j_2)).toInt64))) (q_2 : ¬ ((nI j_2) < 0 ∨ 120 < (nI j_2))) (hj_2 : j_2 ≤ 120) (f_5_0_0 : ((a1).toInt64 < 0 ∨ 2 < (a1).toInt64)) (q_5 : (a1 < 0 ∨ 2 < a1)) : (-1000001) = (a_sack (m38 fs) (nI j_2) a1) := by
  first
  | exact sack_0 h00
  | exact sack_n h01 (Or.inl q_2)
  | exact sack_n h01 (Or.inr q_5)
theorem lf_X8_sack_3 {mt : Int32} {ma : Nat} {fs : Nat → Int32} {w9 : Nat} {k9 : Nat} {h9 : Nat} {j_2 : Nat} {j_5 : Nat} {j_8 : Nat} {w_17 : Int32} {w_18 : Int32} {w_19 : Int32} {ii : Nat} {v_33 : Int32} {v_34 : Int32} (hM : okM fs w9 k9 h9) (hT : ¬ mt = 0 → 1 ≤ k9) (h999 : h9 ≤ 999) (hT0 : mt = 0 → fs 0 = 0 ∧ ma = 0) (c_1 : ¬ (mt = 0)) (hkn1 : 1 ≤ k9) (hw1 : 1 ≤ w9) (h01 : ¬ fs 0 = 0) (f_2_1_0 : (¬ (((nI j_2)).toInt64 < 0 ∨ 120 < ((nI j_2)).toInt64))) (q_2 : ¬ ((nI j_2) < 0 ∨ 120 < (nI j_2))) (hj_2 : j_2 ≤ 120) (f_5_1_0 : (¬ (((nI j_5)).toInt64 < 0 ∨ 2 < ((nI j_5)).toInt64))) (q_5 : ¬ ((nI j_5) < 0 ∨ 2 < (nI j_5))) (hj_5 : j_5 ≤ 2) (hz_8_0 : j_8 ≤ 63) (hz_8_1 : nI j_8 = thR (fun s => fs (26 + s)) 0 k9) (hii : ii < (j_8+1)) (haf_0 : (skF (m38 fs) (nI j_2) (nI j_8) ii = (w_19, w_18, w_17))) (e_33 : v_33 = ((nI j_8) ^^^ (-1))) (e_34 : v_34 = ((nI ii) &&& v_33)) (c_35 : ¬ (v_34 = 0)) : skF (m38 fs) (nI j_2) (nI j_8) (ii + 1) = (w_19, w_18, w_17) := by
  exact sk_n haf_0 e_33 e_34 c_35
theorem lf_X8_sack_4 {mt : Int32} {ma : Nat} {fs : Nat → Int32} {w9 : Nat} {k9 : Nat} {h9 : Nat} {j_2 : Nat} {j_5 : Nat} {j_8 : Nat} {w_17 : Int32} {w_18 : Int32} {w_19 : Int32} {ii : Nat} {v_33 : Int32} {v_34 : Int32} {j_36 : Nat} (hM : okM fs w9 k9 h9) (hT : ¬ mt = 0 → 1 ≤ k9) (h999 : h9 ≤ 999) (hT0 : mt = 0 → fs 0 = 0 ∧ ma = 0) (c_1 : ¬ (mt = 0)) (hkn1 : 1 ≤ k9) (hw1 : 1 ≤ w9) (h01 : ¬ fs 0 = 0) (f_2_1_0 : (¬ (((nI j_2)).toInt64 < 0 ∨ 120 < ((nI j_2)).toInt64))) (q_2 : ¬ ((nI j_2) < 0 ∨ 120 < (nI j_2))) (hj_2 : j_2 ≤ 120) (f_5_1_0 : (¬ (((nI j_5)).toInt64 < 0 ∨ 2 < ((nI j_5)).toInt64))) (q_5 : ¬ ((nI j_5) < 0 ∨ 2 < (nI j_5))) (hj_5 : j_5 ≤ 2) (hz_8_0 : j_8 ≤ 63) (hz_8_1 : nI j_8 = thR (fun s => fs (26 + s)) 0 k9) (hii : ii < (j_8+1)) (haf_0 : (skF (m38 fs) (nI j_2) (nI j_8) ii = (w_19, w_18, w_17))) (e_33 : v_33 = ((nI j_8) ^^^ (-1))) (e_34 : v_34 = ((nI ii) &&& v_33)) (c_35 : v_34 = 0) (hz_36_0 : j_36 ≤ 120) (hz_36_1 : (∀ s : Nat, s < k9 → hasB (nI ii) (nI s) → 1 ≤ j_36)) (hz_36_2 : nI j_36 = ldR (fun s => fs (32 + s)) (nI ii) k9) (c_37 : ¬ (j_36 = j_2)) : skF (m38 fs) (nI j_2) (nI j_8) (ii + 1) = (w_19, w_18, w_17) := by
  first
  | exact sk_n haf_0 e_33 e_34 c_35
  | exact sk_w haf_0 ((ld_M hM).trans hz_36_2.symm) (fun q => c_37 (nI_inj q (by omega) (by omega)))
theorem lf_X8_sack_5 {mt : Int32} {ma : Nat} {fs : Nat → Int32} {w9 : Nat} {k9 : Nat} {h9 : Nat} {j_2 : Nat} {j_5 : Nat} {j_8 : Nat} {w_17 : Int32} {w_18 : Int32} {w_19 : Int32} {ii : Nat} {v_33 : Int32} {v_34 : Int32} {j_36 : Nat} {v_38 : Int32} {v_39 : Int32} {v_40 : Int32} (hM : okM fs w9 k9 h9) (hT : ¬ mt = 0 → 1 ≤ k9) (h999 : h9 ≤ 999) (hT0 : mt = 0 → fs 0 = 0 ∧ ma = 0) (c_1 : ¬ (mt = 0)) (hkn1 : 1 ≤ k9) (hw1 : 1 ≤ w9) (h01 : ¬ fs 0 = 0) (f_2_1_0 : (¬ (((nI j_2)).toInt64 < 0 ∨ 120 < ((nI j_2)).toInt64))) (q_2 : ¬ ((nI j_2) < 0 ∨ 120 < (nI j_2))) (hj_2 : j_2 ≤ 120) (f_5_1_0 : (¬ (((nI j_5)).toInt64 < 0 ∨ 2 < ((nI j_5)).toInt64))) (q_5 : ¬ ((nI j_5) < 0 ∨ 2 < (nI j_5))) (hj_5 : j_5 ≤ 2) (hz_8_0 : j_8 ≤ 63) (hz_8_1 : nI j_8 = thR (fun s => fs (26 + s)) 0 k9) (hii : ii < (j_8+1)) (haf_0 : (skF (m38 fs) (nI j_2) (nI j_8) ii = (w_19, w_18, w_17))) (e_33 : v_33 = ((nI j_8) ^^^ (-1))) (e_34 : v_34 = ((nI ii) &&& v_33)) (c_35 : v_34 = 0) (hz_36_0 : j_36 ≤ 120) (hz_36_1 : (∀ s : Nat, s < k9 → hasB (nI ii) (nI s) → 1 ≤ j_36)) (hz_36_2 : nI j_36 = ldR (fun s => fs (32 + s)) (nI ii) k9) (c_37 : j_36 = j_2) (e_38 : v_38 = w_19 + Int32.ofInt 1) (e_39 : v_39 = (w_18 &&& (nI ii))) (e_40 : v_40 = (w_17 ||| (nI ii))) : skF (m38 fs) (nI j_2) (nI j_8) (ii + 1) = (v_38, v_39, v_40) := by
  first
  | exact sk_n haf_0 e_33 e_34 c_35
  | exact sk_w haf_0 ((ld_M hM).trans hz_36_2.symm) (fun q => c_37 (nI_inj q (by omega) (by omega)))
  | exact sk_y haf_0 e_33 e_34 c_35 ((ld_M hM).trans hz_36_2.symm) (congrArg nI c_37) e_38 e_39 e_40
theorem lf_X8_sack_6 {mt : Int32} {ma : Nat} {fs : Nat → Int32} {w9 : Nat} {k9 : Nat} {h9 : Nat} {j_2 : Nat} {j_5 : Nat} {j_8 : Nat} {w_17 : Int32} {w_18 : Int32} {w_19 : Int32} (hM : okM fs w9 k9 h9) (hT : ¬ mt = 0 → 1 ≤ k9) (h999 : h9 ≤ 999) (hT0 : mt = 0 → fs 0 = 0 ∧ ma = 0) (c_1 : ¬ (mt = 0)) (hkn1 : 1 ≤ k9) (hw1 : 1 ≤ w9) (h01 : ¬ fs 0 = 0) (f_2_1_0 : (¬ (((nI j_2)).toInt64 < 0 ∨ 120 < ((nI j_2)).toInt64))) (q_2 : ¬ ((nI j_2) < 0 ∨ 120 < (nI j_2))) (hj_2 : j_2 ≤ 120) (f_5_1_0 : (¬ (((nI j_5)).toInt64 < 0 ∨ 2 < ((nI j_5)).toInt64))) (q_5 : ¬ ((nI j_5) < 0 ∨ 2 < (nI j_5))) (hj_5 : j_5 ≤ 2) (hz_8_0 : j_8 ≤ 63) (hz_8_1 : nI j_8 = thR (fun s => fs (26 + s)) 0 k9) (haf_0 : (skF (m38 fs) (nI j_2) (nI j_8) (j_8+1) = (w_19, w_18, w_17))) (c_42 : ¬ (j_5 = 0)) (c_43 : ¬ (j_5 = 2)) (c_44 : ¬ (w_19 = 0)) : w_18 = (a_sack (m38 fs) (nI j_2) (nI j_5)) := by
  first
  | exact sack_0 h00
  | exact sack_n h01 (Or.inl q_2)
  | exact sack_n h01 (Or.inr q_5)
  | exact (sack_e (skM_e hM h01 q_2 q_5 hz_8_0 hz_8_1 haf_0)).1 (nI_k (k := 0) rfl c_42)
  | exact (sack_e (skM_e hM h01 q_2 q_5 hz_8_0 hz_8_1 haf_0)).2.1 (nI_nk (k := 0) rfl c_42 (by omega) (by decide)) (nI_k (k := 2) rfl c_43)
  | exact (sack_e (skM_e hM h01 q_2 q_5 hz_8_0 hz_8_1 haf_0)).2.2.1 (nI_nk (k := 0) rfl c_42 (by omega) (by decide)) (nI_nk (k := 2) rfl c_43 (by omega) (by decide)) c_44
  | exact (sack_e (skM_e hM h01 q_2 q_5 hz_8_0 hz_8_1 haf_0)).2.2.2 (nI_nk (k := 0) rfl c_42 (by omega) (by decide)) (nI_nk (k := 2) rfl c_43 (by omega) (by decide)) c_44
theorem lf_X8_sack_7 {mt : Int32} {ma : Nat} {fs : Nat → Int32} {w9 : Nat} {k9 : Nat} {h9 : Nat} {j_2 : Nat} {j_5 : Nat} {j_8 : Nat} {w_17 : Int32} {w_18 : Int32} {w_19 : Int32} (hM : okM fs w9 k9 h9) (hT : ¬ mt = 0 → 1 ≤ k9) (h999 : h9 ≤ 999) (hT0 : mt = 0 → fs 0 = 0 ∧ ma = 0) (c_1 : ¬ (mt = 0)) (hkn1 : 1 ≤ k9) (hw1 : 1 ≤ w9) (h01 : ¬ fs 0 = 0) (f_2_1_0 : (¬ (((nI j_2)).toInt64 < 0 ∨ 120 < ((nI j_2)).toInt64))) (q_2 : ¬ ((nI j_2) < 0 ∨ 120 < (nI j_2))) (hj_2 : j_2 ≤ 120) (f_5_1_0 : (¬ (((nI j_5)).toInt64 < 0 ∨ 2 < ((nI j_5)).toInt64))) (q_5 : ¬ ((nI j_5) < 0 ∨ 2 < (nI j_5))) (hj_5 : j_5 ≤ 2) (hz_8_0 : j_8 ≤ 63) (hz_8_1 : nI j_8 = thR (fun s => fs (26 + s)) 0 k9) (haf_0 : (skF (m38 fs) (nI j_2) (nI j_8) (j_8+1) = (w_19, w_18, w_17))) (c_42 : ¬ (j_5 = 0)) (c_43 : ¬ (j_5 = 2)) (c_44 : w_19 = 0) : 0 = (a_sack (m38 fs) (nI j_2) (nI j_5)) := by
  first
  | exact sack_0 h00
  | exact sack_n h01 (Or.inl q_2)
  | exact sack_n h01 (Or.inr q_5)
  | exact (sack_e (skM_e hM h01 q_2 q_5 hz_8_0 hz_8_1 haf_0)).1 (nI_k (k := 0) rfl c_42)
  | exact (sack_e (skM_e hM h01 q_2 q_5 hz_8_0 hz_8_1 haf_0)).2.1 (nI_nk (k := 0) rfl c_42 (by omega) (by decide)) (nI_k (k := 2) rfl c_43)
  | exact (sack_e (skM_e hM h01 q_2 q_5 hz_8_0 hz_8_1 haf_0)).2.2.1 (nI_nk (k := 0) rfl c_42 (by omega) (by decide)) (nI_nk (k := 2) rfl c_43 (by omega) (by decide)) c_44
  | exact (sack_e (skM_e hM h01 q_2 q_5 hz_8_0 hz_8_1 haf_0)).2.2.2 (nI_nk (k := 0) rfl c_42 (by omega) (by decide)) (nI_nk (k := 2) rfl c_43 (by omega) (by decide)) c_44
theorem lf_X8_sack_8 {mt : Int32} {ma : Nat} {fs : Nat → Int32} {w9 : Nat} {k9 : Nat} {h9 : Nat} {j_2 : Nat} {j_5 : Nat} {j_8 : Nat} {w_17 : Int32} {w_18 : Int32} {w_19 : Int32} (hM : okM fs w9 k9 h9) (hT : ¬ mt = 0 → 1 ≤ k9) (h999 : h9 ≤ 999) (hT0 : mt = 0 → fs 0 = 0 ∧ ma = 0) (c_1 : ¬ (mt = 0)) (hkn1 : 1 ≤ k9) (hw1 : 1 ≤ w9) (h01 : ¬ fs 0 = 0) (f_2_1_0 : (¬ (((nI j_2)).toInt64 < 0 ∨ 120 < ((nI j_2)).toInt64))) (q_2 : ¬ ((nI j_2) < 0 ∨ 120 < (nI j_2))) (hj_2 : j_2 ≤ 120) (f_5_1_0 : (¬ (((nI j_5)).toInt64 < 0 ∨ 2 < ((nI j_5)).toInt64))) (q_5 : ¬ ((nI j_5) < 0 ∨ 2 < (nI j_5))) (hj_5 : j_5 ≤ 2) (hz_8_0 : j_8 ≤ 63) (hz_8_1 : nI j_8 = thR (fun s => fs (26 + s)) 0 k9) (haf_0 : (skF (m38 fs) (nI j_2) (nI j_8) (j_8+1) = (w_19, w_18, w_17))) (c_42 : ¬ (j_5 = 0)) (c_43 : j_5 = 2) : w_17 = (a_sack (m38 fs) (nI j_2) (nI j_5)) := by
  first
  | exact sack_0 h00
  | exact sack_n h01 (Or.inl q_2)
  | exact sack_n h01 (Or.inr q_5)
  | exact (sack_e (skM_e hM h01 q_2 q_5 hz_8_0 hz_8_1 haf_0)).1 (nI_k (k := 0) rfl c_42)
  | exact (sack_e (skM_e hM h01 q_2 q_5 hz_8_0 hz_8_1 haf_0)).2.1 (nI_nk (k := 0) rfl c_42 (by omega) (by decide)) (nI_k (k := 2) rfl c_43)
theorem lf_X8_sack_9 {mt : Int32} {ma : Nat} {fs : Nat → Int32} {w9 : Nat} {k9 : Nat} {h9 : Nat} {j_2 : Nat} {j_5 : Nat} {j_8 : Nat} {w_17 : Int32} {w_18 : Int32} {w_19 : Int32} (hM : okM fs w9 k9 h9) (hT : ¬ mt = 0 → 1 ≤ k9) (h999 : h9 ≤ 999) (hT0 : mt = 0 → fs 0 = 0 ∧ ma = 0) (c_1 : ¬ (mt = 0)) (hkn1 : 1 ≤ k9) (hw1 : 1 ≤ w9) (h01 : ¬ fs 0 = 0) (f_2_1_0 : (¬ (((nI j_2)).toInt64 < 0 ∨ 120 < ((nI j_2)).toInt64))) (q_2 : ¬ ((nI j_2) < 0 ∨ 120 < (nI j_2))) (hj_2 : j_2 ≤ 120) (f_5_1_0 : (¬ (((nI j_5)).toInt64 < 0 ∨ 2 < ((nI j_5)).toInt64))) (q_5 : ¬ ((nI j_5) < 0 ∨ 2 < (nI j_5))) (hj_5 : j_5 ≤ 2) (hz_8_0 : j_8 ≤ 63) (hz_8_1 : nI j_8 = thR (fun s => fs (26 + s)) 0 k9) (haf_0 : (skF (m38 fs) (nI j_2) (nI j_8) (j_8+1) = (w_19, w_18, w_17))) (c_42 : j_5 = 0) : w_19 = (a_sack (m38 fs) (nI j_2) (nI j_5)) := by
  first
  | exact sack_0 h00
  | exact sack_n h01 (Or.inl q_2)
  | exact sack_n h01 (Or.inr q_5)
  | exact (sack_e (skM_e hM h01 q_2 q_5 hz_8_0 hz_8_1 haf_0)).1 (nI_k (k := 0) rfl c_42)
theorem lf_X8_sack_10 {mt : Int32} {ma : Nat} {fs : Nat → Int32} {w9 : Nat} {k9 : Nat} {h9 : Nat} {a0 : Int32} {a1 : Int32} (hM : okM fs w9 k9 h9) (hT : ¬ mt = 0 → 1 ≤ k9) (h999 : h9 ≤ 999) (hT0 : mt = 0 → fs 0 = 0 ∧ ma = 0) (c_1 : mt = 0) (h00 : fs 0 = 0) : (-1000002) = (a_sack (m38 fs) a0 a1) := by
  first
  | exact sack_0 h00
  | exact sack_n h01 (Or.inl q_2)
  | exact sack_n h01 (Or.inr q_5)
set_option maxHeartbeats 4000000 in
set_option maxRecDepth 100000 in
theorem r_X8_sack (l : Launch) (dC : Nat → ClassId) (dI : Nat → Nat → Nat) (cI cZ cL cJ : ClassId) (mo : Nat) (m_la : Nat) (m_sz : Nat) (m_it : Nat) (m_st : Nat) (m_mv : Nat) (m_tp : Nat) (m_rd : Nat) (m_ac : Nat) (m_as : Nat) (m_wo : Nat) (m_ik : Nat) (m_ke : Nat) (m_tr : Nat) (ms : Int32) (mt : Int32) (ml : Int32) (mk : Int32) (mv : Int32) (mb : Int32) (mw : Int32) (mz : Nat) (mp : Nat) (ma : Nat) (mx : Nat) (fs : Nat → Int32) (w9 : Nat) (k9 : Nat) (h9 : Nat) (a0 : Int32) (a1 : Int32) (hM : okM fs w9 k9 h9) (hT : ¬ mt = 0 → 1 ≤ k9) (h999 : h9 ≤ 999) (hT0 : mt = 0 → fs 0 = 0 ∧ ma = 0) : Met l yX8_sack wsX8_sack ({ frames := 2, cells := 0, slots := 0, locals := 44 }) (va_Pc [.ref mo, .int a0, .int a1] (fun U => va_P (dC, dI) vwCl [(xo_8_rrriirrriiiiiiirrirrrrri mo m_la m_sz m_it ms mt m_st m_mv m_tp (nI mz) ml (nI mp) mk mv mb mw m_rd m_ac (nI ma) m_as m_wo m_ik m_ke m_tr (nI mx)), (xI m_st cI 38 fs)] U.heap ∧ va_K (dC, dI) vwCl [(cI, .int), (cZ, .boolean), (cL, .object RX3), (cJ, .array .int)] U)) (vp_Si (fun r => r = (a_sack (m38 fs) a0 a1))) 0 0 (fun _ => False) := by
  refine Met.ofW (cc := cX8_sack) (maxL := 8) (ret := (some .int)) (by decide) rfl ?_
  intro p e s m args below meth c s₁ B hml hv
  obtain ⟨rfl, hP, hK⟩ := hv
  have hx := B.exec
  have hb := B.bytes
  have hr := B.returns
  have hts := atoms_spec (ws := wsX8_sack) B.pre
  have hown : s.vm.findClass RX8 = some m.cls := findClass_of_methodNamed B.named
  have hlocks := B.notSynchronized
  have hP : va_P (dC, dI) vwCl [(xo_8_rrriirrriiiiiiirrirrrrri mo m_la m_sz m_it ms mt m_st m_mv m_tp (nI mz) ml (nI mp) mk mv mb mw m_rd m_ac (nI ma) m_as m_wo m_ik m_ke m_tr (nI mx)), (xI m_st cI 38 fs)] s.heap := hP
  have hl := lv_entry ([.ref mo, .int a0, .int a1]) (n := 8) (Nat.le_of_ble_eq_true rfl)
  rw [lg_entry_eq]
  generalize (lg_sl ([.ref mo, .int a0, .int a1]) ++ List.replicate (8 - (lg_sl ([.ref mo, .int a0, .int a1])).length) Slot.unset).toArray = ls at hl ⊢
  have hl : lv_has ls 8 [(0, .ref mo), (1, .int a0), (2, .int a1)] := hl
  have hk6 := hM.2.2.2.2.1
  have hw6 := hM.2.2.2.1
  refine lv_aload_n hx hb dX8_sack_0 rfl (lv_at hl 0 rfl) ?_
  refine va_get (D := (dC, dI)) (ci := 8) (v := .int mt) (C := RX8) (T := TX8) (N := 24) hx hb hts i_X8_sack_X8 hown hK hP 0 rfl rfl 4 (by decide) (hts _ mx_X8_sack_1) (fun _ h9 => h9) rfl dX8_sack_1 ?_
  refine lv_if_ne (tgt := 10) hx hb dX8_sack_4 (by decide) (fun c_1 => ?_) (fun c_1 => ?_)
  · skip
    have hkn1 := hT c_1
    have hw1 := hM.2.2.2.2.2.1.mp hkn1
    have h01 : ¬ fs 0 = 0 := cell_nz hM hkn1
    refine lv_iload_n hx hb dX8_sack_10 rfl (lv_at hl 1 rfl) ?_
    refine lv_i2l hx hb dX8_sack_11 rfl ?_
    refine lv_lconst (v := 0) hx hb dX8_sack_12 (by decide) ?_
    refine lv_ldc2 (own := RX8) (v := 120) hx hb hown (hts _ mx_X8_sack_3) dX8_sack_13 ?_
    have hPc_2 := hP.sub (ws' := []) [] rfl
    refine vp_callSi (W.runS (As := [.long (a0).toInt64, .long 0, .long 120]) (rest := []) ⟨hx, hb, hml, hown, hts⟩ (r_X8_in l dC dI cI cZ cL cJ ((a0).toInt64) 0 120 ) (va_cwS 3 hts gX8_sack_X8_in rfl rfl rfl (by decide +kernel) ⟨Nat.le_of_ble_eq_true rfl, Nat.le_of_ble_eq_true rfl⟩) (psP hK hPc_2) rfl rfl hl.1 rfl (lv_room (Nat.le_of_ble_eq_true rfl)) dX8_sack_16 ⟨Nat.le_of_ble_eq_true rfl, Nat.le_of_ble_eq_true rfl⟩) (fun r_2 h_2 => ?_)
    rcases h_2 with ⟨h_2, f_2_0_0⟩ | ⟨h_2, f_2_1_0⟩
    · subst h_2
      have q_2 : (a0 < 0 ∨ 120 < a0) := (in32 (x := a0) (l := 0) (u := 120) (by decide) (by decide)).mp f_2_0_0
      refine lv_if_eq (tgt := 34) hx hb dX8_sack_19 (by decide) (fun _ => ?_) (fun c_ => absurd (by decide) c_)
      refine lv_ldc (own := RX8) (v := (-1000001)) hx hb hown (hts _ mx_X8_sack_5) dX8_sack_34 ?_
      exact W.iret (v := (-1000001)) hx hb hr (fun t ht hW => ⟨(-1000001), rfl, (lf_X8_sack_1 hM hT h999 hT0 c_1 hkn1 hw1 h01 f_2_0_0 q_2), ht⟩) (fun _ h => by cases h) dX8_sack_36
    · subst h_2
      have q_2 : ¬ (a0 < 0 ∨ 120 < a0) := fun q_ => f_2_1_0 ((in32 (x := a0) (l := 0) (u := 120) (by decide) (by decide)).mpr q_)
      obtain ⟨j_2, hj_2, hl_2, rfl⟩ := in64 (lo := 0) (n := 120) rfl rfl (by decide) f_2_1_0
      refine lv_if_eq (tgt := 34) hx hb dX8_sack_19 (by decide) (fun c_ => absurd c_ (by decide)) (fun _ => ?_)
      refine lv_iload_n hx hb dX8_sack_22 rfl (lv_at hl 2 rfl) ?_
      refine lv_i2l hx hb dX8_sack_23 rfl ?_
      refine lv_lconst (v := 0) hx hb dX8_sack_24 (by decide) ?_
      refine lv_ldc2 (own := RX8) (v := 2) hx hb hown (hts _ mx_X8_sack_4) dX8_sack_25 ?_
      have hPc_5 := hP.sub (ws' := []) [] rfl
      refine vp_callSi (W.runS (As := [.long (a1).toInt64, .long 0, .long 2]) (rest := []) ⟨hx, hb, hml, hown, hts⟩ (r_X8_in l dC dI cI cZ cL cJ ((a1).toInt64) 0 2 ) (va_cwS 3 hts gX8_sack_X8_in rfl rfl rfl (by decide +kernel) ⟨Nat.le_of_ble_eq_true rfl, Nat.le_of_ble_eq_true rfl⟩) (psP hK hPc_5) rfl rfl hl.1 rfl (lv_room (Nat.le_of_ble_eq_true rfl)) dX8_sack_28 ⟨Nat.le_of_ble_eq_true rfl, Nat.le_of_ble_eq_true rfl⟩) (fun r_5 h_5 => ?_)
      rcases h_5 with ⟨h_5, f_5_0_0⟩ | ⟨h_5, f_5_1_0⟩
      · subst h_5
        have q_5 : (a1 < 0 ∨ 2 < a1) := (in32 (x := a1) (l := 0) (u := 2) (by decide) (by decide)).mp f_5_0_0
        refine lv_if_ne (tgt := 37) hx hb dX8_sack_31 (by decide) (fun c_ => absurd (by decide) c_) (fun _ => ?_)
        refine lv_ldc (own := RX8) (v := (-1000001)) hx hb hown (hts _ mx_X8_sack_5) dX8_sack_34 ?_
        exact W.iret (v := (-1000001)) hx hb hr (fun t ht hW => ⟨(-1000001), rfl, (lf_X8_sack_2 hM hT h999 hT0 c_1 hkn1 hw1 h01 f_2_1_0 q_2 hj_2 f_5_0_0 q_5), ht⟩) (fun _ h => by cases h) dX8_sack_36
      · subst h_5
        have q_5 : ¬ (a1 < 0 ∨ 2 < a1) := fun q_ => f_5_1_0 ((in32 (x := a1) (l := 0) (u := 2) (by decide) (by decide)).mpr q_)
        obtain ⟨j_5, hj_5, hl_5, rfl⟩ := in64 (lo := 0) (n := 2) rfl rfl (by decide) f_5_1_0
        refine lv_if_ne (tgt := 37) hx hb dX8_sack_31 (by decide) (fun _ => ?_) (fun c_ => absurd c_ (by decide))
        refine lv_aload_n hx hb dX8_sack_37 rfl (lv_at hl 0 rfl) ?_
        refine lv_iconst (v := 0) hx hb dX8_sack_38 (by decide) ?_
        have hPc_8 := hP
        refine vp_callSi (W.runV (As := [.int 0]) (rest := []) ⟨hx, hb, hml, hown, hts⟩ (r_X8_those l dC dI cI cZ cL cJ mo m_la m_sz m_it m_st m_mv m_tp m_rd m_ac m_as m_wo m_ik m_ke m_tr ms mt ml mk mv mb mw mz mp ma mx fs w9 k9 h9 0 (hM)) (cwV 1 hts gX8_sack_X8_those rfl rfl rfl (by decide +kernel) ⟨Nat.le_of_ble_eq_true rfl, Nat.le_of_ble_eq_true rfl⟩) (pvP 8 0 hK hP rfl rfl hPc_8) rfl rfl hl.1 rfl (lv_room (Nat.le_of_ble_eq_true rfl)) dX8_sack_39 ⟨Nat.le_of_ble_eq_true rfl, Nat.le_of_ble_eq_true rfl⟩) (fun r_8 h_8 => ?_)
        obtain ⟨j_8, rfl, hz_8_0, hz_8_1⟩ := h_8
        refine lv_istore_n (lv' := [(3, .int (nI j_8)), (0, .ref mo), (1, .int (nI j_2)), (2, .int (nI j_5))]) hx hb dX8_sack_42 rfl hl (by decide) rfl (fun ls hl => ?_)
        refine lv_iconst (v := 0) hx hb dX8_sack_43 (by decide) ?_
        refine lv_istore (lv' := [(4, .int 0), (3, .int (nI j_8)), (0, .ref mo), (1, .int (nI j_2)), (2, .int (nI j_5))]) hx hb dX8_sack_44 hl (by decide) rfl (fun ls hl => ?_)
        refine lv_iload_n hx hb dX8_sack_46 rfl (lv_at hl 1 rfl) ?_
        refine lv_istore (lv' := [(5, .int (nI j_8)), (4, .int 0), (3, .int (nI j_8)), (0, .ref mo), (1, .int (nI j_2)), (2, .int (nI j_5))]) hx hb dX8_sack_47 hl (by decide) rfl (fun ls hl => ?_)
        refine lv_iconst (v := 0) hx hb dX8_sack_49 (by decide) ?_
        refine lv_istore (lv' := [(6, .int 0), (5, .int (nI j_8)), (4, .int 0), (3, .int (nI j_8)), (0, .ref mo), (1, .int (nI j_2)), (2, .int (nI j_5))]) hx hb dX8_sack_50 hl (by decide) rfl (fun ls hl => ?_)
        refine lv_iconst (v := 0) hx hb dX8_sack_52 (by decide) ?_
        refine lv_istore (lv' := [(7, .int 0), (6, .int 0), (5, .int (nI j_8)), (4, .int 0), (3, .int (nI j_8)), (0, .ref mo), (1, .int (nI j_2)), (2, .int (nI j_5))]) hx hb dX8_sack_53 hl (by decide) rfl (fun ls hl => ?_)
        refine lp_go (σ := (Int32) × (Int32) × (Int32)) (fun ii (st : (Int32) × (Int32) × (Int32)) H locs ls => match st with | (w_17, w_18, w_19) => lv_has ls 8 [(7, .int (nI ii)), (6, .int w_17), (5, .int w_18), (4, .int w_19), (3, .int (nI j_8)), (0, .ref mo), (1, .int (nI j_2)), (2, .int (nI j_5))] ∧ H = s.heap ∧ locs = [] ∧ (skF (m38 fs) (nI j_2) (nI j_8) ii = (w_19, w_18, w_17))) (j_8+1) ?_ ?_ 0 (by omega) (0, (nI j_8), 0) ⟨lv_sub hl [0, 1, 2, 3, 4, 5, 6, 7] rfl, rfl, rfl, rfl⟩
        · rintro ii ⟨w_17, w_18, w_19⟩ H locs ls hii ⟨hl, rfl, rfl, haf_0⟩ ih
          refine lv_iload hx hb dX8_sack_55 (lv_at hl 0 rfl) ?_
          refine lv_iload_n hx hb dX8_sack_57 rfl (lv_at hl 4 rfl) ?_
          refine lv_icmp_gt (tgt := 103) hx hb dX8_sack_58 (by decide) (fun c_ => absurd c_ (fun q_ => absurd ((nI_ltI (a := j_8) (b := ii) (by omega) (by omega)).mp q_) (by omega))) (fun _ => ?_)
          refine lv_iload hx hb dX8_sack_61 (lv_at hl 0 rfl) ?_
          refine lv_iload_n hx hb dX8_sack_63 rfl (lv_at hl 4 rfl) ?_
          refine lv_iconst (v := (-1)) hx hb dX8_sack_64 (by decide) ?_
          refine lv_ixor hx hb dX8_sack_65 ?_
          refine lv_topi (fun v_33 e_33 => ?_)
          refine lv_iand hx hb dX8_sack_66 ?_
          refine lv_topi (fun v_34 e_34 => ?_)
          refine lv_if_ne (tgt := 97) hx hb dX8_sack_67 (by decide) (fun c_35 => ?_) (fun c_35 => ?_)
          · skip
            refine lv_iinc (v := (nI (ii + 1))) (lv' := [(7, .int (nI (ii + 1))), (6, .int w_17), (5, .int w_18), (4, .int w_19), (3, .int (nI j_8)), (0, .ref mo), (1, .int (nI j_2)), (2, .int (nI j_5))]) hx hb dX8_sack_97 hl (k := 0) rfl (nI_add ii 1) (by decide) rfl (fun ls hl => ?_)
            refine lv_goto (tgt := 55) hx hb dX8_sack_100 (by decide) ?_
            exact ih (w_17, w_18, w_19) _ _ _ ⟨lv_sub hl [0, 1, 2, 3, 4, 5, 6, 7] rfl, rfl, rfl, (lf_X8_sack_3 hM hT h999 hT0 c_1 hkn1 hw1 h01 f_2_1_0 q_2 hj_2 f_5_1_0 q_5 hj_5 hz_8_0 hz_8_1 hii haf_0 e_33 e_34 c_35)⟩
          · skip
            refine lv_aload_n hx hb dX8_sack_70 rfl (lv_at hl 5 rfl) ?_
            refine lv_iload hx hb dX8_sack_71 (lv_at hl 0 rfl) ?_
            have hPc_36 := hP
            refine vp_callSi (W.runV (As := [.int (nI ii)]) (rest := []) ⟨hx, hb, hml, hown, hts⟩ (r_X8_loudOf l dC dI cI cZ cL cJ mo m_la m_sz m_it m_st m_mv m_tp m_rd m_ac m_as m_wo m_ik m_ke m_tr ms mt ml mk mv mb mw mz mp ma mx fs w9 k9 h9 (nI ii) (hM)) (cwV 1 hts gX8_sack_X8_loudOf rfl rfl rfl (by decide +kernel) ⟨Nat.le_of_ble_eq_true rfl, Nat.le_of_ble_eq_true rfl⟩) (pvP 8 0 hK hP rfl rfl hPc_36) rfl rfl hl.1 rfl (lv_room (Nat.le_of_ble_eq_true rfl)) dX8_sack_73 ⟨Nat.le_of_ble_eq_true rfl, Nat.le_of_ble_eq_true rfl⟩) (fun r_36 h_36 => ?_)
            obtain ⟨j_36, rfl, hz_36_0, hz_36_1, hz_36_2⟩ := h_36
            refine lv_iload_n hx hb dX8_sack_76 rfl (lv_at hl 6 rfl) ?_
            refine lv_icmp_ne (tgt := 97) hx hb dX8_sack_77 (by decide) (fun c_37 => ?_) (fun c_37 => ?_)
            · have c_37 : ¬ (j_36 = j_2) := fun q_ => c_37 ((nI_eq (a := j_36) (b := j_2) (by omega) (by omega)).mpr q_)
              refine lv_iinc (v := (nI (ii + 1))) (lv' := [(7, .int (nI (ii + 1))), (6, .int w_17), (5, .int w_18), (4, .int w_19), (3, .int (nI j_8)), (0, .ref mo), (1, .int (nI j_2)), (2, .int (nI j_5))]) hx hb dX8_sack_97 hl (k := 0) rfl (nI_add ii 1) (by decide) rfl (fun ls hl => ?_)
              refine lv_goto (tgt := 55) hx hb dX8_sack_100 (by decide) ?_
              exact ih (w_17, w_18, w_19) _ _ _ ⟨lv_sub hl [0, 1, 2, 3, 4, 5, 6, 7] rfl, rfl, rfl, (lf_X8_sack_4 hM hT h999 hT0 c_1 hkn1 hw1 h01 f_2_1_0 q_2 hj_2 f_5_1_0 q_5 hj_5 hz_8_0 hz_8_1 hii haf_0 e_33 e_34 c_35 hz_36_0 hz_36_1 hz_36_2 c_37)⟩
            · have c_37 : j_36 = j_2 := (nI_eq (a := j_36) (b := j_2) (by omega) (by omega)).mp c_37
              obtain ⟨v_38, e_38⟩ : ∃ y : Int32, y = w_19 + Int32.ofInt 1 := ⟨_, rfl⟩
              refine lv_iinc (v := v_38) (lv' := [(4, .int v_38), (7, .int (nI ii)), (6, .int w_17), (5, .int w_18), (3, .int (nI j_8)), (0, .ref mo), (1, .int (nI j_2)), (2, .int (nI j_5))]) hx hb dX8_sack_80 hl (k := 3) rfl e_38.symm (by decide) rfl (fun ls hl => ?_)
              refine lv_iload hx hb dX8_sack_83 (lv_at hl 3 rfl) ?_
              refine lv_iload hx hb dX8_sack_85 (lv_at hl 1 rfl) ?_
              refine lv_iand hx hb dX8_sack_87 ?_
              refine lv_topi (fun v_39 e_39 => ?_)
              refine lv_istore (lv' := [(5, .int v_39), (4, .int v_38), (7, .int (nI ii)), (6, .int w_17), (3, .int (nI j_8)), (0, .ref mo), (1, .int (nI j_2)), (2, .int (nI j_5))]) hx hb dX8_sack_88 hl (by decide) rfl (fun ls hl => ?_)
              refine lv_iload hx hb dX8_sack_90 (lv_at hl 3 rfl) ?_
              refine lv_iload hx hb dX8_sack_92 (lv_at hl 2 rfl) ?_
              refine lv_ior hx hb dX8_sack_94 ?_
              refine lv_topi (fun v_40 e_40 => ?_)
              refine lv_istore (lv' := [(6, .int v_40), (5, .int v_39), (4, .int v_38), (7, .int (nI ii)), (3, .int (nI j_8)), (0, .ref mo), (1, .int (nI j_2)), (2, .int (nI j_5))]) hx hb dX8_sack_95 hl (by decide) rfl (fun ls hl => ?_)
              refine lv_iinc (v := (nI (ii + 1))) (lv' := [(7, .int (nI (ii + 1))), (6, .int v_40), (5, .int v_39), (4, .int v_38), (3, .int (nI j_8)), (0, .ref mo), (1, .int (nI j_2)), (2, .int (nI j_5))]) hx hb dX8_sack_97 hl (k := 3) rfl (nI_add ii 1) (by decide) rfl (fun ls hl => ?_)
              refine lv_goto (tgt := 55) hx hb dX8_sack_100 (by decide) ?_
              exact ih (v_40, v_39, v_38) _ _ _ ⟨lv_sub hl [0, 1, 2, 3, 4, 5, 6, 7] rfl, rfl, rfl, (lf_X8_sack_5 hM hT h999 hT0 c_1 hkn1 hw1 h01 f_2_1_0 q_2 hj_2 f_5_1_0 q_5 hj_5 hz_8_0 hz_8_1 hii haf_0 e_33 e_34 c_35 hz_36_0 hz_36_1 hz_36_2 c_37 e_38 e_39 e_40)⟩
        · rintro ⟨w_17, w_18, w_19⟩ H locs ls ⟨hl, rfl, rfl, haf_0⟩
          refine lv_iload hx hb dX8_sack_55 (lv_at hl 0 rfl) ?_
          refine lv_iload_n hx hb dX8_sack_57 rfl (lv_at hl 4 rfl) ?_
          refine lv_icmp_gt (tgt := 103) hx hb dX8_sack_58 (by decide) (fun _ => ?_) (fun c_ => absurd ((nI_ltI (a := j_8) (b := (j_8+1)) (by omega) (by omega)).mpr (by omega)) c_)
          refine lv_iload_n hx hb dX8_sack_103 rfl (lv_at hl 7 rfl) ?_
          refine lv_if_ne (tgt := 112) hx hb dX8_sack_104 (by decide) (fun c_42 => ?_) (fun c_42 => ?_)
          · have c_42 : ¬ (j_5 = 0) := fun q_ => c_42 ((nI_eq (a := j_5) (b := 0) (by omega) (by omega)).mpr q_)
            refine lv_iload_n hx hb dX8_sack_112 rfl (lv_at hl 7 rfl) ?_
            refine lv_iconst (v := 2) hx hb dX8_sack_113 (by decide) ?_
            refine lv_icmp_ne (tgt := 122) hx hb dX8_sack_114 (by decide) (fun c_43 => ?_) (fun c_43 => ?_)
            · have c_43 : ¬ (j_5 = 2) := fun q_ => c_43 ((nI_eq (a := j_5) (b := 2) (by omega) (by omega)).mpr q_)
              refine lv_iload hx hb dX8_sack_122 (lv_at hl 3 rfl) ?_
              refine lv_if_ne (tgt := 131) hx hb dX8_sack_124 (by decide) (fun c_44 => ?_) (fun c_44 => ?_)
              · skip
                refine lv_iload hx hb dX8_sack_131 (lv_at hl 2 rfl) ?_
                exact W.iret (v := w_18) hx hb hr (fun t ht hW => ⟨w_18, rfl, (lf_X8_sack_6 hM hT h999 hT0 c_1 hkn1 hw1 h01 f_2_1_0 q_2 hj_2 f_5_1_0 q_5 hj_5 hz_8_0 hz_8_1 haf_0 c_42 c_43 c_44), ht⟩) (fun _ h => by cases h) dX8_sack_133
              · skip
                refine lv_iconst (v := 0) hx hb dX8_sack_127 (by decide) ?_
                refine lv_goto (tgt := 133) hx hb dX8_sack_128 (by decide) ?_
                exact W.iret (v := 0) hx hb hr (fun t ht hW => ⟨0, rfl, (lf_X8_sack_7 hM hT h999 hT0 c_1 hkn1 hw1 h01 f_2_1_0 q_2 hj_2 f_5_1_0 q_5 hj_5 hz_8_0 hz_8_1 haf_0 c_42 c_43 c_44), ht⟩) (fun _ h => by cases h) dX8_sack_133
            · have c_43 : j_5 = 2 := (nI_eq (a := j_5) (b := 2) (by omega) (by omega)).mp c_43
              refine lv_iload hx hb dX8_sack_117 (lv_at hl 1 rfl) ?_
              refine lv_goto (tgt := 133) hx hb dX8_sack_119 (by decide) ?_
              exact W.iret (v := w_17) hx hb hr (fun t ht hW => ⟨w_17, rfl, (lf_X8_sack_8 hM hT h999 hT0 c_1 hkn1 hw1 h01 f_2_1_0 q_2 hj_2 f_5_1_0 q_5 hj_5 hz_8_0 hz_8_1 haf_0 c_42 c_43), ht⟩) (fun _ h => by cases h) dX8_sack_133
          · have c_42 : j_5 = 0 := (nI_eq (a := j_5) (b := 0) (by omega) (by omega)).mp c_42
            refine lv_iload hx hb dX8_sack_107 (lv_at hl 3 rfl) ?_
            refine lv_goto (tgt := 133) hx hb dX8_sack_109 (by decide) ?_
            exact W.iret (v := w_19) hx hb hr (fun t ht hW => ⟨w_19, rfl, (lf_X8_sack_9 hM hT h999 hT0 c_1 hkn1 hw1 h01 f_2_1_0 q_2 hj_2 f_5_1_0 q_5 hj_5 hz_8_0 hz_8_1 haf_0 c_42), ht⟩) (fun _ h => by cases h) dX8_sack_133
  · skip
    have h00 : fs 0 = 0 := (hT0 c_1).1
    refine lv_ldc (own := RX8) (v := (-1000002)) hx hb hown (hts _ mx_X8_sack_2) dX8_sack_7 ?_
    exact W.iret (v := (-1000002)) hx hb hr (fun t ht hW => ⟨(-1000002), rfl, (lf_X8_sack_10 hM hT h999 hT0 c_1 h00), ht⟩) (fun _ h => by cases h) dX8_sack_9
-- 48.mod3_d
/-! acts: what a path's end knows, and what is said of it -/
theorem sB_no {a v : Int32} {z : Nat} (e : v = nI z - 1) (hz : z ≤ 16) (q : a < 0 ∨ v < a) : ¬ sB (nI z) a := by
  rw [e] at q
  intro h
  exact ((trc_M hz).mp q).elim h.1 h.2
theorem iC_M {f : RF} {w k h : Nat} (hM : okM f w k h) {a : Int32} : iC (f 0) a ↔ sB (f 0) a := by
  obtain ⟨-, -, -, -, -, -, ⟨c, c1, c2, c3⟩, -⟩ := hM
  rw [c3]
  have h := trc_M (a := a) (z := c) (by omega)
  constructor
  · rintro ⟨p, q⟩
    exact ⟨p, fun r => (h.mpr (Or.inr r)).elim p q⟩
  · rintro ⟨p, q⟩
    exact ⟨p, fun r => (h.mp (Or.inr r)).elim p q⟩
section ACTM
variable {fs g : RF} {w9 k9 h9 ma man : Nat} {A B : AC}
theorem capM_n (h0 : fs 0 = 0) : m38 fs = n_cap (m38 fs) ∧ ma = kpN (gd_cap (m38 fs)) ma ∧ A = kpA (gd_cap (m38 fs)) (m38 fs) ma A ∧ (-1000002 : Int32) = a_cap (m38 fs) := by
  have g : ¬ gd_cap (m38 fs) := fun q => q h0
  exact ⟨(if_neg g).symm, (if_neg g).symm, (if_neg g).symm, (if_neg g).symm⟩
theorem capM_d {v3 v4 v6 : Int32} (h0 : ¬ fs 0 = 0) (e3 : v3 = fs 6) (e4 : v4 = 1 - v3) (hu : g = upd fs 6 v4) (e6 : v6 = g 6) (hA : A = ntA (m38 fs) ma B) (hN : man = ntN ma) : m38 g = n_cap (m38 fs) ∧ man = kpN (gd_cap (m38 fs)) ma ∧ A = kpA (gd_cap (m38 fs)) (m38 fs) ma B ∧ v6 = a_cap (m38 fs) := by
  have gg : gd_cap (m38 fs) := h0
  refine ⟨?_, hN.trans (if_pos gg).symm, hA.trans (if_pos gg).symm, ?_⟩
  · unfold n_cap
    rw [if_pos gg, hu, m38_up (by decide), e4, e3, mm6]
  · unfold a_cap
    rw [if_pos gg, e6, hu, pk_us, e4, e3, mm6]
theorem windM_g {a0 a1 : Int32} (h3 : fs 3 = nI w9) (hB : ¬ sB (nI w9) a0 ∨ (a1 < 0 ∨ 4 < a1)) : ¬ gd_wind (m38 fs) a0 a1 := by
  rintro ⟨x, y⟩
  rcases hB with q | q
  · rw [mm3, h3] at x
    exact q x
  · exact y q
theorem windM_n {a0 a1 : Int32} (g : ¬ gd_wind (m38 fs) a0 a1) : m38 fs = n_wind (m38 fs) a0 a1 ∧ ma = kpN (gd_wind (m38 fs) a0 a1) ma ∧ A = kpA (gd_wind (m38 fs) a0 a1) (m38 fs) ma A ∧ (-1000001 : Int32) = a_wind (m38 fs) a0 a1 := ⟨(if_neg g).symm, (if_neg g).symm, (if_neg g).symm, (if_neg g).symm⟩
theorem windM_d {j : Nat} {v x : Int32} (h3 : fs 3 = nI w9) (hw : w9 ≤ 6) (hj : j < w9) (q : ¬ (v < 0 ∨ 4 < v)) (e : x = fs (8 + j)) (hu : g = upd fs (8 + j) v) (hA : A = ntA (m38 fs) ma B) (hN : man = ntN ma) : m38 g = n_wind (m38 fs) (nI j) v ∧ man = kpN (gd_wind (m38 fs) (nI j) v) ma ∧ A = kpA (gd_wind (m38 fs) (nI j) v) (m38 fs) ma B ∧ x = a_wind (m38 fs) (nI j) v := by
  have gg : gd_wind (m38 fs) (nI j) v := ⟨by rw [mm3, h3]; exact sB_ok hj (by omega), q⟩
  have hc : (nI j).toNatClampNeg = j := nI_clamp (by omega)
  refine ⟨?_, hN.trans (if_pos gg).symm, hA.trans (if_pos gg).symm, ?_⟩
  · unfold n_wind
    rw [if_pos gg, hu, m38_up (by omega), hc]
  · unfold a_wind
    rw [if_pos gg, hc, m38_at (by omega), e]
theorem looM_n {a0 a1 a2 : Int32} (g : ¬ ok_loose (m38 fs) a0 a1 a2) : m38 fs = n_loose (m38 fs) a0 a1 a2 ∧ ma = kpN (gd_loose (m38 fs) a0 a1 a2) ma ∧ A = kpA (gd_loose (m38 fs) a0 a1 a2) (m38 fs) ma A ∧ (-1000001 : Int32) = a_loose (m38 fs) a0 a1 a2 := by
  have g2 : ¬ gd_loose (m38 fs) a0 a1 a2 := fun q => g q.1
  exact ⟨(if_neg g2).symm, (if_neg g2).symm, (if_neg g2).symm, (if_pos g).symm⟩
theorem looM_g {a0 a1 a2 : Int32} (hM : okM fs w9 k9 h9) (h : ¬ sB (nI k9) a0 ∨ ¬ iC (fs 0) a1 ∨ (a2 < 1 ∨ 20 < a2)) : ¬ ok_loose (m38 fs) a0 a1 a2 := by
  rintro ⟨x, y, z⟩
  rcases h with q | q | q
  · rw [mm4, hM.2.1] at x
    exact q x
  · rw [mm0] at y
    exact q ((iC_M hM).mpr y)
  · exact z q
theorem looM_ok {j : Nat} {a1 l : Int32} (hM : okM fs w9 k9 h9) (hj : j < k9) (hc : iC (fs 0) a1) (q : ¬ (l < 1 ∨ 20 < l)) : ok_loose (m38 fs) (nI j) a1 l := by
  have h6 := hM.2.2.2.2.1
  exact ⟨by rw [mm4, hM.2.1]; exact sB_ok hj (by omega), by rw [mm0]; exact (iC_M hM).mp hc, q⟩
theorem looM_s {j : Nat} {a1 l v : Int32} (hM : okM fs w9 k9 h9) (hj : j < k9) (hc : iC (fs 0) a1) (q : ¬ (l < 1 ∨ 20 < l)) (e : v = fs (26 + j)) (c : v = 0) : m38 fs = n_loose (m38 fs) (nI j) a1 l ∧ ma = kpN (gd_loose (m38 fs) (nI j) a1 l) ma ∧ A = kpA (gd_loose (m38 fs) (nI j) a1 l) (m38 fs) ma A ∧ (-1000002 : Int32) = a_loose (m38 fs) (nI j) a1 l := by
  have h6 := hM.2.2.2.2.1
  have ok := looM_ok hM hj hc q
  have hcl : (nI j).toNatClampNeg = j := nI_clamp (by omega)
  have z : m38 fs (26 + (nI j).toNatClampNeg) = 0 := by
    rw [hcl, m38_at (by omega), ← e]
    exact c
  have gg : ¬ gd_loose (m38 fs) (nI j) a1 l := fun t => t.2 z
  refine ⟨(if_neg gg).symm, (if_neg gg).symm, (if_neg gg).symm, ?_⟩
  unfold a_loose
  rw [if_neg (fun t => t ok), if_pos z]
theorem looM_d {j : Nat} {a1 l v z : Int32} (hM : okM fs w9 k9 h9) (hj : j < k9) (hc : iC (fs 0) a1) (q : ¬ (l < 1 ∨ 20 < l)) (e : v = fs (26 + j)) (c : ¬ v = 0) (hM2 : okM g w9 k9 h9) (hf : g = upd (upd (upd fs (26 + j) 0) (20 + j) a1) (32 + j) l) (hz : z = thR (fun s => g (26 + s)) 0 k9) (hA : A = ntA (m38 fs) ma B) (hN : man = ntN ma) : m38 g = n_loose (m38 fs) (nI j) a1 l ∧ man = kpN (gd_loose (m38 fs) (nI j) a1 l) ma ∧ A = kpA (gd_loose (m38 fs) (nI j) a1 l) (m38 fs) ma B ∧ z = a_loose (m38 fs) (nI j) a1 l := by
  have h6 := hM.2.2.2.2.1
  have ok := looM_ok hM hj hc q
  have hcl : (nI j).toNatClampNeg = j := nI_clamp (by omega)
  have nz : ¬ m38 fs (26 + (nI j).toNatClampNeg) = 0 := by
    rw [hcl, m38_at (by omega), ← e]
    exact c
  have gg : gd_loose (m38 fs) (nI j) a1 l := ⟨ok, nz⟩
  have hn : m38 g = n_loose (m38 fs) (nI j) a1 l := by
    unfold n_loose
    rw [if_pos gg, hf, hcl, m38_up (by omega), m38_up (by omega), m38_up (by omega)]
  refine ⟨hn, hN.trans (if_pos gg).symm, hA.trans (if_pos gg).symm, ?_⟩
  unfold a_loose
  rw [if_neg (fun t => t ok), if_neg nz, ← hn, th_M hM2]
  exact hz
theorem selM_0 {n : Int32} (h0 : fs 0 = 0) : m38 fs = n_sell (m38 fs) n ∧ ma = kpN (gd_sell (m38 fs) n) ma ∧ A = kpA (gd_sell (m38 fs) n) (m38 fs) ma A ∧ (-1000002 : Int32) = a_sell (m38 fs) n := by
  have z : m38 fs 0 = 0 := h0
  have gg : ¬ gd_sell (m38 fs) n := fun q => q.1 z
  refine ⟨(if_neg gg).symm, (if_neg gg).symm, (if_neg gg).symm, ?_⟩
  unfold a_sell
  rw [if_pos z]
theorem selM_1 {n : Int32} (h0 : ¬ fs 0 = 0) (q : n < 1 ∨ 999 < n) : m38 fs = n_sell (m38 fs) n ∧ ma = kpN (gd_sell (m38 fs) n) ma ∧ A = kpA (gd_sell (m38 fs) n) (m38 fs) ma A ∧ (-1000001 : Int32) = a_sell (m38 fs) n := by
  have z : ¬ m38 fs 0 = 0 := h0
  have gg : ¬ gd_sell (m38 fs) n := fun t => t.2.1 q
  refine ⟨(if_neg gg).symm, (if_neg gg).symm, (if_neg gg).symm, ?_⟩
  unfold a_sell
  rw [if_neg z, if_pos q]
theorem selM_2 {n v : Int32} (h0 : ¬ fs 0 = 0) (q : ¬ (n < 1 ∨ 999 < n)) (e : v = fs 7) (c : ¬ n ≤ v) : m38 fs = n_sell (m38 fs) n ∧ ma = kpN (gd_sell (m38 fs) n) ma ∧ A = kpA (gd_sell (m38 fs) n) (m38 fs) ma A ∧ (-1000002 : Int32) = a_sell (m38 fs) n := by
  have z : ¬ m38 fs 0 = 0 := h0
  have t : m38 fs 7 < n := by
    rw [mm7, ← e]
    exact i_nle.mp c
  have gg : ¬ gd_sell (m38 fs) n := fun q => q.2.2 t
  refine ⟨(if_neg gg).symm, (if_neg gg).symm, (if_neg gg).symm, ?_⟩
  unfold a_sell
  rw [if_neg z, if_neg q, if_pos t]
theorem selM_d {n v v8 v9 v11 : Int32} (h0 : ¬ fs 0 = 0) (q : ¬ (n < 1 ∨ 999 < n)) (e : v = fs 7) (c : n ≤ v) (e8 : v8 = fs 7) (e9 : v9 = v8 - n) (hu : g = upd fs 7 v9) (e11 : v11 = g 7) (hA : A = ntA (m38 fs) ma B) (hN : man = ntN ma) : m38 g = n_sell (m38 fs) n ∧ man = kpN (gd_sell (m38 fs) n) ma ∧ A = kpA (gd_sell (m38 fs) n) (m38 fs) ma B ∧ v11 = a_sell (m38 fs) n := by
  have z : ¬ m38 fs 0 = 0 := h0
  have t : ¬ m38 fs 7 < n := by
    rw [mm7, ← e]
    exact i_nlt.mpr c
  have gg : gd_sell (m38 fs) n := ⟨z, q, t⟩
  refine ⟨?_, hN.trans (if_pos gg).symm, hA.trans (if_pos gg).symm, ?_⟩
  · unfold n_sell
    rw [if_pos gg, hu, m38_up (by decide), e9, e8, mm7]
  · unfold a_sell
    rw [if_neg z, if_neg q, if_neg t, e11, hu, pk_us, e9, e8, mm7]
theorem hr_stepM {i n z z2 : Nat} {r F F2 C C2 : RF} {a : AC} (h : hrI i r n a = (m38 F, z, acM C z)) (hA : acM C2 z2 = ntA (m38 F) z (acM C z)) (hN : z2 = ntN z) (hF : F2 = mH F) (hc : m38 (mH F) = mH (m38 F)) : hrI (i + 1) r n a = (m38 F2, z2, acM C2 z2) := by
  show (mH (hrI i r n a).1, ntN (hrI i r n a).2.1, ntA (hrI i r n a).1 (hrI i r n a).2.1 (hrI i r n a).2.2) = _
  rw [h, hA, hF, hc, hN]
theorem hrsM_0 {r : RF} {An : Nat} {Ac : AC} {n : Int32} (h0 : r 0 = 0) : r = (s_hrs r An Ac n).1 ∧ An = (s_hrs r An Ac n).2.1 ∧ Ac = (s_hrs r An Ac n).2.2 ∧ (-1000002 : Int32) = a_hrs r n := by
  have gg : ¬ gd_hrs r n := fun q => q.1 h0
  have e : s_hrs r An Ac n = (r, An, Ac) := if_neg gg
  rw [e]
  exact ⟨rfl, rfl, rfl, (if_pos h0).symm⟩
theorem hrsM_1 {r : RF} {An : Nat} {Ac : AC} {n : Int32} (h0 : ¬ r 0 = 0) (q : n < 1 ∨ 24 < n) : r = (s_hrs r An Ac n).1 ∧ An = (s_hrs r An Ac n).2.1 ∧ Ac = (s_hrs r An Ac n).2.2 ∧ (-1000001 : Int32) = a_hrs r n := by
  have gg : ¬ gd_hrs r n := fun t => t.2.1 q
  have e : s_hrs r An Ac n = (r, An, Ac) := if_neg gg
  rw [e]
  refine ⟨rfl, rfl, rfl, ?_⟩
  unfold a_hrs
  rw [if_neg h0, if_pos q]
theorem hrsM_2 {r : RF} {An j h : Nat} {Ac : AC} (h1 : ¬ nI j < 1) (h0 : ¬ r 0 = 0) (hj : j ≤ 24) (h5 : r 5 = nI h) (hb : h ≤ 999) (hh : ¬ h + j ≤ 999) : r = (s_hrs r An Ac (nI j)).1 ∧ An = (s_hrs r An Ac (nI j)).2.1 ∧ Ac = (s_hrs r An Ac (nI j)).2.2 ∧ (-1000003 : Int32) = a_hrs r (nI j) := by
  rw [hrs_neg h1 h0 hj h5 hb hh]
  exact ⟨rfl, rfl, rfl, (hrs_nega h1 h0 hj h5 hb hh).symm⟩
end ACTM
theorem askM_do {fs fe : RF} {mx w9 k9 h9 j : Nat} {x : Int32} (hM : okM fs w9 k9 h9) (hj : j < k9) (hx : x = 0 ∨ x = 1) : a_ask (m38 fs) (nI j) x (mx, fe) = (akM fs j x (0, fe)).1 ∧ n_ask (m38 fs) (nI j) x (mx, fe) = (akM fs j x (0, fe)).2 := by
  have h6 := hM.2.2.2.2.1
  have hc : (nI j).toNatClampNeg = j := nI_clamp (by omega)
  have hB : ¬ nI j < 0 ∧ ¬ m38 fs 4 ≤ nI j := by
    rw [mm4, hM.2.1]
    exact sB_ok hj (by omega)
  have g : ¬ (¬ (¬ nI j < 0 ∧ ¬ m38 fs 4 ≤ nI j) ∨ ¬ (x = 0 ∨ x = 1)) := by
    rintro (q | q)
    · exact q hB
    · exact q hx
  have hk : akM (m38 fs) j x (0, fe) = akM fs j x (0, fe) := akM_c (by omega)
  unfold a_ask n_ask
  rw [if_neg g, if_neg g, hc, hk]
  exact ⟨rfl, rfl⟩
theorem askM_1 {fs fe F : RF} {mx w9 k9 h9 j i m : Nat} {r : Int32} (hM : okM fs w9 k9 h9) (hj : j < k9) (hi : i ≤ 1) (c : ¬ i = 0) (h1 : (mkM fs j (0, fe)).2 = (m, F)) (h2 : r = (mkM fs j (0, fe)).1) : m = (n_ask (m38 fs) (nI j) (nI i) (mx, fe)).1 ∧ F = (n_ask (m38 fs) (nI j) (nI i) (mx, fe)).2 ∧ r = a_ask (m38 fs) (nI j) (nI i) (mx, fe) := by
  obtain rfl : i = 1 := by omega
  obtain ⟨a, b⟩ := askM_do (fe := fe) (mx := mx) (x := nI 1) hM hj (Or.inr rfl)
  have e : akM fs j (nI 1) (0, fe) = mkM fs j (0, fe) := if_neg (by decide)
  rw [a, b, e, h1, h2]
  exact ⟨rfl, rfl, rfl⟩
theorem askM_0 {fs fe F : RF} {mx w9 k9 h9 j i m : Nat} {r : Int32} (hM : okM fs w9 k9 h9) (hj : j < k9) (c : i = 0) (h1 : (szM fs j (0, fe)).2 = (m, F)) (h2 : r = (szM fs j (0, fe)).1) : m = (n_ask (m38 fs) (nI j) (nI i) (mx, fe)).1 ∧ F = (n_ask (m38 fs) (nI j) (nI i) (mx, fe)).2 ∧ r = a_ask (m38 fs) (nI j) (nI i) (mx, fe) := by
  subst c
  obtain ⟨a, b⟩ := askM_do (fe := fe) (mx := mx) (x := nI 0) hM hj (Or.inl rfl)
  have e : akM fs j (nI 0) (0, fe) = szM fs j (0, fe) := if_pos (by decide)
  rw [a, b, e, h1, h2]
  exact ⟨rfl, rfl, rfl⟩
theorem dX8_cap_0 : decode cX8_cap 0 = .ok (.aload_n 0, 1) := dq_42 (by decide +kernel)
theorem dX8_cap_1 : decode cX8_cap 1 = .ok (.getfield 138, 3) := dq_180 (b1 := 0) (b2 := 138) (by decide +kernel) (by decide)
theorem dX8_cap_10 : decode cX8_cap 10 = .ok (.aload_n 0, 1) := dq_42 (by decide +kernel)
theorem dX8_cap_11 : decode cX8_cap 11 = .ok (.invokevirtual 164, 3) := dq_182 (b1 := 0) (b2 := 164) (by decide +kernel) (by decide)
theorem dX8_cap_14 : decode cX8_cap 14 = .ok (.aload_n 0, 1) := dq_42 (by decide +kernel)
theorem dX8_cap_15 : decode cX8_cap 15 = .ok (.getfield 19, 3) := dq_180 (b1 := 0) (b2 := 19) (by decide +kernel) (by decide)
theorem dX8_cap_18 : decode cX8_cap 18 = .ok (.bipush 6, 2) := dq_16 (b1 := 6) (by decide +kernel) (by decide)
theorem dX8_cap_20 : decode cX8_cap 20 = .ok (.iconst 1, 1) := dq_4 (by decide +kernel)
theorem dX8_cap_21 : decode cX8_cap 21 = .ok (.aload_n 0, 1) := dq_42 (by decide +kernel)
theorem dX8_cap_22 : decode cX8_cap 22 = .ok (.getfield 19, 3) := dq_180 (b1 := 0) (b2 := 19) (by decide +kernel) (by decide)
theorem dX8_cap_25 : decode cX8_cap 25 = .ok (.bipush 6, 2) := dq_16 (b1 := 6) (by decide +kernel) (by decide)
theorem dX8_cap_27 : decode cX8_cap 27 = .ok (.iaload, 1) := dq_46 (by decide +kernel)
theorem dX8_cap_28 : decode cX8_cap 28 = .ok (.isub, 1) := dq_100 (by decide +kernel)
theorem dX8_cap_29 : decode cX8_cap 29 = .ok (.iastore, 1) := dq_79 (by decide +kernel)
theorem dX8_cap_30 : decode cX8_cap 30 = .ok (.aload_n 0, 1) := dq_42 (by decide +kernel)
theorem dX8_cap_31 : decode cX8_cap 31 = .ok (.getfield 19, 3) := dq_180 (b1 := 0) (b2 := 19) (by decide +kernel) (by decide)
theorem dX8_cap_34 : decode cX8_cap 34 = .ok (.bipush 6, 2) := dq_16 (b1 := 6) (by decide +kernel) (by decide)
theorem dX8_cap_36 : decode cX8_cap 36 = .ok (.iaload, 1) := dq_46 (by decide +kernel)
theorem dX8_cap_37 : decode cX8_cap 37 = .ok (.ireturn, 1) := dq_172 (by decide +kernel)
theorem dX8_cap_4 : decode cX8_cap 4 = .ok (.ifCond .ne 6, 3) := dq_154 (b1 := 0) (b2 := 6) (by decide +kernel) (by decide)
theorem dX8_cap_7 : decode cX8_cap 7 = .ok (.ldc 161, 2) := dq_18 (b1 := 161) (by decide +kernel) (by decide)
theorem dX8_cap_9 : decode cX8_cap 9 = .ok (.ireturn, 1) := dq_172 (by decide +kernel)
theorem dX8_hours_0 : decode cX8_hours 0 = .ok (.aload_n 0, 1) := dq_42 (by decide +kernel)
theorem dX8_hours_1 : decode cX8_hours 1 = .ok (.getfield 138, 3) := dq_180 (b1 := 0) (b2 := 138) (by decide +kernel) (by decide)
theorem dX8_hours_10 : decode cX8_hours 10 = .ok (.iload_n 1, 1) := dq_27 (by decide +kernel)
theorem dX8_hours_11 : decode cX8_hours 11 = .ok (.i2l, 1) := dq_133 (by decide +kernel)
theorem dX8_hours_12 : decode cX8_hours 12 = .ok (.lconst 1, 1) := dq_10 (by decide +kernel)
theorem dX8_hours_13 : decode cX8_hours 13 = .ok (.ldc2_w 162, 3) := dq_20 (b1 := 0) (b2 := 162) (by decide +kernel) (by decide)
theorem dX8_hours_16 : decode cX8_hours 16 = .ok (.invokestatic 57, 3) := dq_184 (b1 := 0) (b2 := 57) (by decide +kernel) (by decide)
theorem dX8_hours_19 : decode cX8_hours 19 = .ok (.ifCond .ne 6, 3) := dq_154 (b1 := 0) (b2 := 6) (by decide +kernel) (by decide)
theorem dX8_hours_22 : decode cX8_hours 22 = .ok (.ldc 67, 2) := dq_18 (b1 := 67) (by decide +kernel) (by decide)
theorem dX8_hours_24 : decode cX8_hours 24 = .ok (.ireturn, 1) := dq_172 (by decide +kernel)
theorem dX8_hours_25 : decode cX8_hours 25 = .ok (.aload_n 0, 1) := dq_42 (by decide +kernel)
theorem dX8_hours_26 : decode cX8_hours 26 = .ok (.getfield 19, 3) := dq_180 (b1 := 0) (b2 := 19) (by decide +kernel) (by decide)
theorem dX8_hours_29 : decode cX8_hours 29 = .ok (.iconst 5, 1) := dq_8 (by decide +kernel)
theorem dX8_hours_30 : decode cX8_hours 30 = .ok (.iaload, 1) := dq_46 (by decide +kernel)
theorem dX8_hours_31 : decode cX8_hours 31 = .ok (.iload_n 1, 1) := dq_27 (by decide +kernel)
theorem dX8_hours_32 : decode cX8_hours 32 = .ok (.iadd, 1) := dq_96 (by decide +kernel)
theorem dX8_hours_33 : decode cX8_hours 33 = .ok (.sipush 999, 3) := dq_17 (b1 := 3) (b2 := 231) (by decide +kernel) (by decide)
theorem dX8_hours_36 : decode cX8_hours 36 = .ok (.if_icmp .le 6, 3) := dq_164 (b1 := 0) (b2 := 6) (by decide +kernel) (by decide)
theorem dX8_hours_39 : decode cX8_hours 39 = .ok (.ldc 84, 2) := dq_18 (b1 := 84) (by decide +kernel) (by decide)
theorem dX8_hours_4 : decode cX8_hours 4 = .ok (.ifCond .ne 6, 3) := dq_154 (b1 := 0) (b2 := 6) (by decide +kernel) (by decide)
theorem dX8_hours_41 : decode cX8_hours 41 = .ok (.ireturn, 1) := dq_172 (by decide +kernel)
theorem dX8_hours_42 : decode cX8_hours 42 = .ok (.iconst 0, 1) := dq_3 (by decide +kernel)
theorem dX8_hours_43 : decode cX8_hours 43 = .ok (.istore_n 2, 1) := dq_61 (by decide +kernel)
theorem dX8_hours_44 : decode cX8_hours 44 = .ok (.iload_n 2, 1) := dq_28 (by decide +kernel)
theorem dX8_hours_45 : decode cX8_hours 45 = .ok (.iload_n 1, 1) := dq_27 (by decide +kernel)
theorem dX8_hours_46 : decode cX8_hours 46 = .ok (.if_icmp .ge 18, 3) := dq_162 (b1 := 0) (b2 := 18) (by decide +kernel) (by decide)
theorem dX8_hours_49 : decode cX8_hours 49 = .ok (.aload_n 0, 1) := dq_42 (by decide +kernel)
theorem dX8_hours_50 : decode cX8_hours 50 = .ok (.invokevirtual 164, 3) := dq_182 (b1 := 0) (b2 := 164) (by decide +kernel) (by decide)
theorem dX8_hours_53 : decode cX8_hours 53 = .ok (.aload_n 0, 1) := dq_42 (by decide +kernel)
theorem dX8_hours_54 : decode cX8_hours 54 = .ok (.invokevirtual 167, 3) := dq_182 (b1 := 0) (b2 := 167) (by decide +kernel) (by decide)
theorem dX8_hours_57 : decode cX8_hours 57 = .ok (.pop, 1) := dq_87 (by decide +kernel)
theorem dX8_hours_58 : decode cX8_hours 58 = .ok (.iinc 2 1, 3) := dq_132 (b1 := 2) (b2 := 1) (by decide +kernel) (by decide) (by decide)
theorem dX8_hours_61 : decode cX8_hours 61 = .ok (.goto (-17), 3) := dq_167 (b1 := 255) (b2 := 239) (by decide +kernel) (by decide)
theorem dX8_hours_64 : decode cX8_hours 64 = .ok (.aload_n 0, 1) := dq_42 (by decide +kernel)
theorem dX8_hours_65 : decode cX8_hours 65 = .ok (.getfield 19, 3) := dq_180 (b1 := 0) (b2 := 19) (by decide +kernel) (by decide)
theorem dX8_hours_68 : decode cX8_hours 68 = .ok (.bipush 7, 2) := dq_16 (b1 := 7) (by decide +kernel) (by decide)
theorem dX8_hours_7 : decode cX8_hours 7 = .ok (.ldc 161, 2) := dq_18 (b1 := 161) (by decide +kernel) (by decide)
theorem dX8_hours_70 : decode cX8_hours 70 = .ok (.iaload, 1) := dq_46 (by decide +kernel)
theorem dX8_hours_71 : decode cX8_hours 71 = .ok (.ireturn, 1) := dq_172 (by decide +kernel)
theorem dX8_hours_9 : decode cX8_hours 9 = .ok (.ireturn, 1) := dq_172 (by decide +kernel)
theorem dX8_loose_0 : decode cX8_loose 0 = .ok (.aload_n 0, 1) := dq_42 (by decide +kernel)
theorem dX8_loose_1 : decode cX8_loose 1 = .ok (.iload_n 1, 1) := dq_27 (by decide +kernel)
theorem dX8_loose_10 : decode cX8_loose 10 = .ok (.invokevirtual 148, 3) := dq_182 (b1 := 0) (b2 := 148) (by decide +kernel) (by decide)
theorem dX8_loose_13 : decode cX8_loose 13 = .ok (.ifCond .eq 15, 3) := dq_153 (b1 := 0) (b2 := 15) (by decide +kernel) (by decide)
theorem dX8_loose_16 : decode cX8_loose 16 = .ok (.iload_n 3, 1) := dq_29 (by decide +kernel)
theorem dX8_loose_17 : decode cX8_loose 17 = .ok (.i2l, 1) := dq_133 (by decide +kernel)
theorem dX8_loose_18 : decode cX8_loose 18 = .ok (.lconst 1, 1) := dq_10 (by decide +kernel)
theorem dX8_loose_19 : decode cX8_loose 19 = .ok (.ldc2_w 176, 3) := dq_20 (b1 := 0) (b2 := 176) (by decide +kernel) (by decide)
theorem dX8_loose_2 : decode cX8_loose 2 = .ok (.invokevirtual 173, 3) := dq_182 (b1 := 0) (b2 := 173) (by decide +kernel) (by decide)
theorem dX8_loose_22 : decode cX8_loose 22 = .ok (.invokestatic 57, 3) := dq_184 (b1 := 0) (b2 := 57) (by decide +kernel) (by decide)
theorem dX8_loose_25 : decode cX8_loose 25 = .ok (.ifCond .ne 6, 3) := dq_154 (b1 := 0) (b2 := 6) (by decide +kernel) (by decide)
theorem dX8_loose_28 : decode cX8_loose 28 = .ok (.ldc 67, 2) := dq_18 (b1 := 67) (by decide +kernel) (by decide)
theorem dX8_loose_30 : decode cX8_loose 30 = .ok (.ireturn, 1) := dq_172 (by decide +kernel)
theorem dX8_loose_31 : decode cX8_loose 31 = .ok (.aload_n 0, 1) := dq_42 (by decide +kernel)
theorem dX8_loose_32 : decode cX8_loose 32 = .ok (.getfield 19, 3) := dq_180 (b1 := 0) (b2 := 19) (by decide +kernel) (by decide)
theorem dX8_loose_35 : decode cX8_loose 35 = .ok (.bipush 26, 2) := dq_16 (b1 := 26) (by decide +kernel) (by decide)
theorem dX8_loose_37 : decode cX8_loose 37 = .ok (.iload_n 1, 1) := dq_27 (by decide +kernel)
theorem dX8_loose_38 : decode cX8_loose 38 = .ok (.iadd, 1) := dq_96 (by decide +kernel)
theorem dX8_loose_39 : decode cX8_loose 39 = .ok (.iaload, 1) := dq_46 (by decide +kernel)
theorem dX8_loose_40 : decode cX8_loose 40 = .ok (.ifCond .ne 6, 3) := dq_154 (b1 := 0) (b2 := 6) (by decide +kernel) (by decide)
theorem dX8_loose_43 : decode cX8_loose 43 = .ok (.ldc 161, 2) := dq_18 (b1 := 161) (by decide +kernel) (by decide)
theorem dX8_loose_45 : decode cX8_loose 45 = .ok (.ireturn, 1) := dq_172 (by decide +kernel)
theorem dX8_loose_46 : decode cX8_loose 46 = .ok (.aload_n 0, 1) := dq_42 (by decide +kernel)
theorem dX8_loose_47 : decode cX8_loose 47 = .ok (.invokevirtual 164, 3) := dq_182 (b1 := 0) (b2 := 164) (by decide +kernel) (by decide)
theorem dX8_loose_5 : decode cX8_loose 5 = .ok (.ifCond .eq 23, 3) := dq_153 (b1 := 0) (b2 := 23) (by decide +kernel) (by decide)
theorem dX8_loose_50 : decode cX8_loose 50 = .ok (.aload_n 0, 1) := dq_42 (by decide +kernel)
theorem dX8_loose_51 : decode cX8_loose 51 = .ok (.iload_n 1, 1) := dq_27 (by decide +kernel)
theorem dX8_loose_52 : decode cX8_loose 52 = .ok (.iload_n 2, 1) := dq_28 (by decide +kernel)
theorem dX8_loose_53 : decode cX8_loose 53 = .ok (.iload_n 3, 1) := dq_29 (by decide +kernel)
theorem dX8_loose_54 : decode cX8_loose 54 = .ok (.invokevirtual 178, 3) := dq_182 (b1 := 0) (b2 := 178) (by decide +kernel) (by decide)
theorem dX8_loose_57 : decode cX8_loose 57 = .ok (.aload_n 0, 1) := dq_42 (by decide +kernel)
theorem dX8_loose_58 : decode cX8_loose 58 = .ok (.iconst 0, 1) := dq_3 (by decide +kernel)
theorem dX8_loose_59 : decode cX8_loose 59 = .ok (.invokevirtual 182, 3) := dq_182 (b1 := 0) (b2 := 182) (by decide +kernel) (by decide)
theorem dX8_loose_62 : decode cX8_loose 62 = .ok (.ireturn, 1) := dq_172 (by decide +kernel)
theorem dX8_loose_8 : decode cX8_loose 8 = .ok (.aload_n 0, 1) := dq_42 (by decide +kernel)
theorem dX8_loose_9 : decode cX8_loose 9 = .ok (.iload_n 2, 1) := dq_28 (by decide +kernel)
theorem dX8_note_0 : decode cX8_note 0 = .ok (.aload_n 0, 1) := dq_42 (by decide +kernel)
theorem dX8_note_1 : decode cX8_note 1 = .ok (.getfield 142, 3) := dq_180 (b1 := 0) (b2 := 142) (by decide +kernel) (by decide)
theorem dX8_note_10 : decode cX8_note 10 = .ok (.istore_n 1, 1) := dq_60 (by decide +kernel)
theorem dX8_note_11 : decode cX8_note 11 = .ok (.iload_n 1, 1) := dq_27 (by decide +kernel)
theorem dX8_note_12 : decode cX8_note 12 = .ok (.sipush 874, 3) := dq_17 (b1 := 3) (b2 := 106) (by decide +kernel) (by decide)
theorem dX8_note_15 : decode cX8_note 15 = .ok (.if_icmp .ge 24, 3) := dq_162 (b1 := 0) (b2 := 24) (by decide +kernel) (by decide)
theorem dX8_note_18 : decode cX8_note 18 = .ok (.aload_n 0, 1) := dq_42 (by decide +kernel)
theorem dX8_note_19 : decode cX8_note 19 = .ok (.getfield 31, 3) := dq_180 (b1 := 0) (b2 := 31) (by decide +kernel) (by decide)
theorem dX8_note_22 : decode cX8_note 22 = .ok (.iload_n 1, 1) := dq_27 (by decide +kernel)
theorem dX8_note_23 : decode cX8_note 23 = .ok (.aload_n 0, 1) := dq_42 (by decide +kernel)
theorem dX8_note_24 : decode cX8_note 24 = .ok (.getfield 31, 3) := dq_180 (b1 := 0) (b2 := 31) (by decide +kernel) (by decide)
theorem dX8_note_27 : decode cX8_note 27 = .ok (.iload_n 1, 1) := dq_27 (by decide +kernel)
theorem dX8_note_28 : decode cX8_note 28 = .ok (.bipush 38, 2) := dq_16 (b1 := 38) (by decide +kernel) (by decide)
theorem dX8_note_30 : decode cX8_note 30 = .ok (.iadd, 1) := dq_96 (by decide +kernel)
theorem dX8_note_31 : decode cX8_note 31 = .ok (.iaload, 1) := dq_46 (by decide +kernel)
theorem dX8_note_32 : decode cX8_note 32 = .ok (.iastore, 1) := dq_79 (by decide +kernel)
theorem dX8_note_33 : decode cX8_note 33 = .ok (.iinc 1 1, 3) := dq_132 (b1 := 1) (b2 := 1) (by decide +kernel) (by decide) (by decide)
theorem dX8_note_36 : decode cX8_note 36 = .ok (.goto (-25), 3) := dq_167 (b1 := 255) (b2 := 231) (by decide +kernel) (by decide)
theorem dX8_note_39 : decode cX8_note 39 = .ok (.aload_n 0, 1) := dq_42 (by decide +kernel)
theorem dX8_note_4 : decode cX8_note 4 = .ok (.bipush 24, 2) := dq_16 (b1 := 24) (by decide +kernel) (by decide)
theorem dX8_note_40 : decode cX8_note 40 = .ok (.dup, 1) := dq_89 (by decide +kernel)
theorem dX8_note_41 : decode cX8_note 41 = .ok (.getfield 142, 3) := dq_180 (b1 := 0) (b2 := 142) (by decide +kernel) (by decide)
theorem dX8_note_44 : decode cX8_note 44 = .ok (.iconst 1, 1) := dq_4 (by decide +kernel)
theorem dX8_note_45 : decode cX8_note 45 = .ok (.isub, 1) := dq_100 (by decide +kernel)
theorem dX8_note_46 : decode cX8_note 46 = .ok (.putfield 142, 3) := dq_181 (b1 := 0) (b2 := 142) (by decide +kernel) (by decide)
theorem dX8_note_49 : decode cX8_note 49 = .ok (.iconst 0, 1) := dq_3 (by decide +kernel)
theorem dX8_note_50 : decode cX8_note 50 = .ok (.istore_n 1, 1) := dq_60 (by decide +kernel)
theorem dX8_note_51 : decode cX8_note 51 = .ok (.iload_n 1, 1) := dq_27 (by decide +kernel)
theorem dX8_note_52 : decode cX8_note 52 = .ok (.bipush 38, 2) := dq_16 (b1 := 38) (by decide +kernel) (by decide)
theorem dX8_note_54 : decode cX8_note 54 = .ok (.if_icmp .ge 29, 3) := dq_162 (b1 := 0) (b2 := 29) (by decide +kernel) (by decide)
theorem dX8_note_57 : decode cX8_note 57 = .ok (.aload_n 0, 1) := dq_42 (by decide +kernel)
theorem dX8_note_58 : decode cX8_note 58 = .ok (.getfield 31, 3) := dq_180 (b1 := 0) (b2 := 31) (by decide +kernel) (by decide)
theorem dX8_note_6 : decode cX8_note 6 = .ok (.if_icmp .ne 43, 3) := dq_160 (b1 := 0) (b2 := 43) (by decide +kernel) (by decide)
theorem dX8_note_61 : decode cX8_note 61 = .ok (.bipush 38, 2) := dq_16 (b1 := 38) (by decide +kernel) (by decide)
theorem dX8_note_63 : decode cX8_note 63 = .ok (.aload_n 0, 1) := dq_42 (by decide +kernel)
theorem dX8_note_64 : decode cX8_note 64 = .ok (.getfield 142, 3) := dq_180 (b1 := 0) (b2 := 142) (by decide +kernel) (by decide)
theorem dX8_note_67 : decode cX8_note 67 = .ok (.imul, 1) := dq_104 (by decide +kernel)
theorem dX8_note_68 : decode cX8_note 68 = .ok (.iload_n 1, 1) := dq_27 (by decide +kernel)
theorem dX8_note_69 : decode cX8_note 69 = .ok (.iadd, 1) := dq_96 (by decide +kernel)
theorem dX8_note_70 : decode cX8_note 70 = .ok (.aload_n 0, 1) := dq_42 (by decide +kernel)
theorem dX8_note_71 : decode cX8_note 71 = .ok (.getfield 19, 3) := dq_180 (b1 := 0) (b2 := 19) (by decide +kernel) (by decide)
theorem dX8_note_74 : decode cX8_note 74 = .ok (.iload_n 1, 1) := dq_27 (by decide +kernel)
theorem dX8_note_75 : decode cX8_note 75 = .ok (.iaload, 1) := dq_46 (by decide +kernel)
theorem dX8_note_76 : decode cX8_note 76 = .ok (.iastore, 1) := dq_79 (by decide +kernel)
theorem dX8_note_77 : decode cX8_note 77 = .ok (.iinc 1 1, 3) := dq_132 (b1 := 1) (b2 := 1) (by decide +kernel) (by decide) (by decide)
theorem dX8_note_80 : decode cX8_note 80 = .ok (.goto (-29), 3) := dq_167 (b1 := 255) (b2 := 227) (by decide +kernel) (by decide)
theorem dX8_note_83 : decode cX8_note 83 = .ok (.aload_n 0, 1) := dq_42 (by decide +kernel)
theorem dX8_note_84 : decode cX8_note 84 = .ok (.dup, 1) := dq_89 (by decide +kernel)
theorem dX8_note_85 : decode cX8_note 85 = .ok (.getfield 142, 3) := dq_180 (b1 := 0) (b2 := 142) (by decide +kernel) (by decide)
theorem dX8_note_88 : decode cX8_note 88 = .ok (.iconst 1, 1) := dq_4 (by decide +kernel)
theorem dX8_note_89 : decode cX8_note 89 = .ok (.iadd, 1) := dq_96 (by decide +kernel)
theorem dX8_note_9 : decode cX8_note 9 = .ok (.iconst 0, 1) := dq_3 (by decide +kernel)
theorem dX8_note_90 : decode cX8_note 90 = .ok (.putfield 142, 3) := dq_181 (b1 := 0) (b2 := 142) (by decide +kernel) (by decide)
theorem dX8_note_93 : decode cX8_note 93 = .ok (.return_, 1) := dq_177 (by decide +kernel)
theorem dX8_sell_0 : decode cX8_sell 0 = .ok (.aload_n 0, 1) := dq_42 (by decide +kernel)
theorem dX8_sell_1 : decode cX8_sell 1 = .ok (.getfield 138, 3) := dq_180 (b1 := 0) (b2 := 138) (by decide +kernel) (by decide)
theorem dX8_sell_10 : decode cX8_sell 10 = .ok (.iload_n 1, 1) := dq_27 (by decide +kernel)
theorem dX8_sell_11 : decode cX8_sell 11 = .ok (.i2l, 1) := dq_133 (by decide +kernel)
theorem dX8_sell_12 : decode cX8_sell 12 = .ok (.lconst 1, 1) := dq_10 (by decide +kernel)
theorem dX8_sell_13 : decode cX8_sell 13 = .ok (.ldc2_w 185, 3) := dq_20 (b1 := 0) (b2 := 185) (by decide +kernel) (by decide)
theorem dX8_sell_16 : decode cX8_sell 16 = .ok (.invokestatic 57, 3) := dq_184 (b1 := 0) (b2 := 57) (by decide +kernel) (by decide)
theorem dX8_sell_19 : decode cX8_sell 19 = .ok (.ifCond .ne 6, 3) := dq_154 (b1 := 0) (b2 := 6) (by decide +kernel) (by decide)
theorem dX8_sell_22 : decode cX8_sell 22 = .ok (.ldc 67, 2) := dq_18 (b1 := 67) (by decide +kernel) (by decide)
theorem dX8_sell_24 : decode cX8_sell 24 = .ok (.ireturn, 1) := dq_172 (by decide +kernel)
theorem dX8_sell_25 : decode cX8_sell 25 = .ok (.aload_n 0, 1) := dq_42 (by decide +kernel)
theorem dX8_sell_26 : decode cX8_sell 26 = .ok (.getfield 19, 3) := dq_180 (b1 := 0) (b2 := 19) (by decide +kernel) (by decide)
theorem dX8_sell_29 : decode cX8_sell 29 = .ok (.bipush 7, 2) := dq_16 (b1 := 7) (by decide +kernel) (by decide)
theorem dX8_sell_31 : decode cX8_sell 31 = .ok (.iaload, 1) := dq_46 (by decide +kernel)
theorem dX8_sell_32 : decode cX8_sell 32 = .ok (.iload_n 1, 1) := dq_27 (by decide +kernel)
theorem dX8_sell_33 : decode cX8_sell 33 = .ok (.if_icmp .ge 6, 3) := dq_162 (b1 := 0) (b2 := 6) (by decide +kernel) (by decide)
theorem dX8_sell_36 : decode cX8_sell 36 = .ok (.ldc 161, 2) := dq_18 (b1 := 161) (by decide +kernel) (by decide)
theorem dX8_sell_38 : decode cX8_sell 38 = .ok (.ireturn, 1) := dq_172 (by decide +kernel)
theorem dX8_sell_39 : decode cX8_sell 39 = .ok (.aload_n 0, 1) := dq_42 (by decide +kernel)
theorem dX8_sell_4 : decode cX8_sell 4 = .ok (.ifCond .ne 6, 3) := dq_154 (b1 := 0) (b2 := 6) (by decide +kernel) (by decide)
theorem dX8_sell_40 : decode cX8_sell 40 = .ok (.invokevirtual 164, 3) := dq_182 (b1 := 0) (b2 := 164) (by decide +kernel) (by decide)
theorem dX8_sell_43 : decode cX8_sell 43 = .ok (.aload_n 0, 1) := dq_42 (by decide +kernel)
theorem dX8_sell_44 : decode cX8_sell 44 = .ok (.getfield 19, 3) := dq_180 (b1 := 0) (b2 := 19) (by decide +kernel) (by decide)
theorem dX8_sell_47 : decode cX8_sell 47 = .ok (.bipush 7, 2) := dq_16 (b1 := 7) (by decide +kernel) (by decide)
theorem dX8_sell_49 : decode cX8_sell 49 = .ok (.dup2, 1) := dq_92 (by decide +kernel)
theorem dX8_sell_50 : decode cX8_sell 50 = .ok (.iaload, 1) := dq_46 (by decide +kernel)
theorem dX8_sell_51 : decode cX8_sell 51 = .ok (.iload_n 1, 1) := dq_27 (by decide +kernel)
theorem dX8_sell_52 : decode cX8_sell 52 = .ok (.isub, 1) := dq_100 (by decide +kernel)
theorem dX8_sell_53 : decode cX8_sell 53 = .ok (.iastore, 1) := dq_79 (by decide +kernel)
theorem dX8_sell_54 : decode cX8_sell 54 = .ok (.aload_n 0, 1) := dq_42 (by decide +kernel)
theorem dX8_sell_55 : decode cX8_sell 55 = .ok (.getfield 19, 3) := dq_180 (b1 := 0) (b2 := 19) (by decide +kernel) (by decide)
theorem dX8_sell_58 : decode cX8_sell 58 = .ok (.bipush 7, 2) := dq_16 (b1 := 7) (by decide +kernel) (by decide)
theorem dX8_sell_60 : decode cX8_sell 60 = .ok (.iaload, 1) := dq_46 (by decide +kernel)
theorem dX8_sell_61 : decode cX8_sell 61 = .ok (.ireturn, 1) := dq_172 (by decide +kernel)
theorem dX8_sell_7 : decode cX8_sell 7 = .ok (.ldc 161, 2) := dq_18 (b1 := 161) (by decide +kernel) (by decide)
theorem dX8_sell_9 : decode cX8_sell 9 = .ok (.ireturn, 1) := dq_172 (by decide +kernel)
theorem dX8_undo_0 : decode cX8_undo 0 = .ok (.aload_n 0, 1) := dq_42 (by decide +kernel)
theorem dX8_undo_1 : decode cX8_undo 1 = .ok (.getfield 142, 3) := dq_180 (b1 := 0) (b2 := 142) (by decide +kernel) (by decide)
theorem dX8_undo_10 : decode cX8_undo 10 = .ok (.aload_n 0, 1) := dq_42 (by decide +kernel)
theorem dX8_undo_11 : decode cX8_undo 11 = .ok (.dup, 1) := dq_89 (by decide +kernel)
theorem dX8_undo_12 : decode cX8_undo 12 = .ok (.getfield 142, 3) := dq_180 (b1 := 0) (b2 := 142) (by decide +kernel) (by decide)
theorem dX8_undo_15 : decode cX8_undo 15 = .ok (.iconst 1, 1) := dq_4 (by decide +kernel)
theorem dX8_undo_16 : decode cX8_undo 16 = .ok (.isub, 1) := dq_100 (by decide +kernel)
theorem dX8_undo_17 : decode cX8_undo 17 = .ok (.putfield 142, 3) := dq_181 (b1 := 0) (b2 := 142) (by decide +kernel) (by decide)
theorem dX8_undo_20 : decode cX8_undo 20 = .ok (.iconst 0, 1) := dq_3 (by decide +kernel)
theorem dX8_undo_21 : decode cX8_undo 21 = .ok (.istore_n 1, 1) := dq_60 (by decide +kernel)
theorem dX8_undo_22 : decode cX8_undo 22 = .ok (.iload_n 1, 1) := dq_27 (by decide +kernel)
theorem dX8_undo_23 : decode cX8_undo 23 = .ok (.bipush 38, 2) := dq_16 (b1 := 38) (by decide +kernel) (by decide)
theorem dX8_undo_25 : decode cX8_undo 25 = .ok (.if_icmp .ge 29, 3) := dq_162 (b1 := 0) (b2 := 29) (by decide +kernel) (by decide)
theorem dX8_undo_28 : decode cX8_undo 28 = .ok (.aload_n 0, 1) := dq_42 (by decide +kernel)
theorem dX8_undo_29 : decode cX8_undo 29 = .ok (.getfield 19, 3) := dq_180 (b1 := 0) (b2 := 19) (by decide +kernel) (by decide)
theorem dX8_undo_32 : decode cX8_undo 32 = .ok (.iload_n 1, 1) := dq_27 (by decide +kernel)
theorem dX8_undo_33 : decode cX8_undo 33 = .ok (.aload_n 0, 1) := dq_42 (by decide +kernel)
theorem dX8_undo_34 : decode cX8_undo 34 = .ok (.getfield 31, 3) := dq_180 (b1 := 0) (b2 := 31) (by decide +kernel) (by decide)
theorem dX8_undo_37 : decode cX8_undo 37 = .ok (.bipush 38, 2) := dq_16 (b1 := 38) (by decide +kernel) (by decide)
theorem dX8_undo_39 : decode cX8_undo 39 = .ok (.aload_n 0, 1) := dq_42 (by decide +kernel)
theorem dX8_undo_4 : decode cX8_undo 4 = .ok (.ifCond .ne 6, 3) := dq_154 (b1 := 0) (b2 := 6) (by decide +kernel) (by decide)
theorem dX8_undo_40 : decode cX8_undo 40 = .ok (.getfield 142, 3) := dq_180 (b1 := 0) (b2 := 142) (by decide +kernel) (by decide)
theorem dX8_undo_43 : decode cX8_undo 43 = .ok (.imul, 1) := dq_104 (by decide +kernel)
theorem dX8_undo_44 : decode cX8_undo 44 = .ok (.iload_n 1, 1) := dq_27 (by decide +kernel)
theorem dX8_undo_45 : decode cX8_undo 45 = .ok (.iadd, 1) := dq_96 (by decide +kernel)
theorem dX8_undo_46 : decode cX8_undo 46 = .ok (.iaload, 1) := dq_46 (by decide +kernel)
theorem dX8_undo_47 : decode cX8_undo 47 = .ok (.iastore, 1) := dq_79 (by decide +kernel)
theorem dX8_undo_48 : decode cX8_undo 48 = .ok (.iinc 1 1, 3) := dq_132 (b1 := 1) (b2 := 1) (by decide +kernel) (by decide) (by decide)
theorem dX8_undo_51 : decode cX8_undo 51 = .ok (.goto (-29), 3) := dq_167 (b1 := 255) (b2 := 227) (by decide +kernel) (by decide)
theorem dX8_undo_54 : decode cX8_undo 54 = .ok (.aload_n 0, 1) := dq_42 (by decide +kernel)
theorem dX8_undo_55 : decode cX8_undo 55 = .ok (.getfield 142, 3) := dq_180 (b1 := 0) (b2 := 142) (by decide +kernel) (by decide)
theorem dX8_undo_58 : decode cX8_undo 58 = .ok (.ireturn, 1) := dq_172 (by decide +kernel)
theorem dX8_undo_7 : decode cX8_undo 7 = .ok (.ldc 161, 2) := dq_18 (b1 := 161) (by decide +kernel) (by decide)
theorem dX8_undo_9 : decode cX8_undo 9 = .ok (.ireturn, 1) := dq_172 (by decide +kernel)
theorem dX8_wind_0 : decode cX8_wind 0 = .ok (.iload_n 1, 1) := dq_27 (by decide +kernel)
theorem dX8_wind_1 : decode cX8_wind 1 = .ok (.i2l, 1) := dq_133 (by decide +kernel)
theorem dX8_wind_10 : decode cX8_wind 10 = .ok (.isub, 1) := dq_100 (by decide +kernel)
theorem dX8_wind_11 : decode cX8_wind 11 = .ok (.i2l, 1) := dq_133 (by decide +kernel)
theorem dX8_wind_12 : decode cX8_wind 12 = .ok (.invokestatic 57, 3) := dq_184 (b1 := 0) (b2 := 57) (by decide +kernel) (by decide)
theorem dX8_wind_15 : decode cX8_wind 15 = .ok (.ifCond .eq 15, 3) := dq_153 (b1 := 0) (b2 := 15) (by decide +kernel) (by decide)
theorem dX8_wind_18 : decode cX8_wind 18 = .ok (.iload_n 2, 1) := dq_28 (by decide +kernel)
theorem dX8_wind_19 : decode cX8_wind 19 = .ok (.i2l, 1) := dq_133 (by decide +kernel)
theorem dX8_wind_2 : decode cX8_wind 2 = .ok (.lconst 0, 1) := dq_9 (by decide +kernel)
theorem dX8_wind_20 : decode cX8_wind 20 = .ok (.lconst 0, 1) := dq_9 (by decide +kernel)
theorem dX8_wind_21 : decode cX8_wind 21 = .ok (.ldc2_w 171, 3) := dq_20 (b1 := 0) (b2 := 171) (by decide +kernel) (by decide)
theorem dX8_wind_24 : decode cX8_wind 24 = .ok (.invokestatic 57, 3) := dq_184 (b1 := 0) (b2 := 57) (by decide +kernel) (by decide)
theorem dX8_wind_27 : decode cX8_wind 27 = .ok (.ifCond .ne 6, 3) := dq_154 (b1 := 0) (b2 := 6) (by decide +kernel) (by decide)
theorem dX8_wind_3 : decode cX8_wind 3 = .ok (.aload_n 0, 1) := dq_42 (by decide +kernel)
theorem dX8_wind_30 : decode cX8_wind 30 = .ok (.ldc 67, 2) := dq_18 (b1 := 67) (by decide +kernel) (by decide)
theorem dX8_wind_32 : decode cX8_wind 32 = .ok (.ireturn, 1) := dq_172 (by decide +kernel)
theorem dX8_wind_33 : decode cX8_wind 33 = .ok (.aload_n 0, 1) := dq_42 (by decide +kernel)
theorem dX8_wind_34 : decode cX8_wind 34 = .ok (.invokevirtual 164, 3) := dq_182 (b1 := 0) (b2 := 164) (by decide +kernel) (by decide)
theorem dX8_wind_37 : decode cX8_wind 37 = .ok (.aload_n 0, 1) := dq_42 (by decide +kernel)
theorem dX8_wind_38 : decode cX8_wind 38 = .ok (.getfield 19, 3) := dq_180 (b1 := 0) (b2 := 19) (by decide +kernel) (by decide)
theorem dX8_wind_4 : decode cX8_wind 4 = .ok (.getfield 19, 3) := dq_180 (b1 := 0) (b2 := 19) (by decide +kernel) (by decide)
theorem dX8_wind_41 : decode cX8_wind 41 = .ok (.bipush 8, 2) := dq_16 (b1 := 8) (by decide +kernel) (by decide)
theorem dX8_wind_43 : decode cX8_wind 43 = .ok (.iload_n 1, 1) := dq_27 (by decide +kernel)
theorem dX8_wind_44 : decode cX8_wind 44 = .ok (.iadd, 1) := dq_96 (by decide +kernel)
theorem dX8_wind_45 : decode cX8_wind 45 = .ok (.iaload, 1) := dq_46 (by decide +kernel)
theorem dX8_wind_46 : decode cX8_wind 46 = .ok (.istore_n 3, 1) := dq_62 (by decide +kernel)
theorem dX8_wind_47 : decode cX8_wind 47 = .ok (.aload_n 0, 1) := dq_42 (by decide +kernel)
theorem dX8_wind_48 : decode cX8_wind 48 = .ok (.getfield 19, 3) := dq_180 (b1 := 0) (b2 := 19) (by decide +kernel) (by decide)
theorem dX8_wind_51 : decode cX8_wind 51 = .ok (.bipush 8, 2) := dq_16 (b1 := 8) (by decide +kernel) (by decide)
theorem dX8_wind_53 : decode cX8_wind 53 = .ok (.iload_n 1, 1) := dq_27 (by decide +kernel)
theorem dX8_wind_54 : decode cX8_wind 54 = .ok (.iadd, 1) := dq_96 (by decide +kernel)
theorem dX8_wind_55 : decode cX8_wind 55 = .ok (.iload_n 2, 1) := dq_28 (by decide +kernel)
theorem dX8_wind_56 : decode cX8_wind 56 = .ok (.iastore, 1) := dq_79 (by decide +kernel)
theorem dX8_wind_57 : decode cX8_wind 57 = .ok (.iload_n 3, 1) := dq_29 (by decide +kernel)
theorem dX8_wind_58 : decode cX8_wind 58 = .ok (.ireturn, 1) := dq_172 (by decide +kernel)
theorem dX8_wind_7 : decode cX8_wind 7 = .ok (.iconst 3, 1) := dq_6 (by decide +kernel)
theorem dX8_wind_8 : decode cX8_wind 8 = .ok (.iaload, 1) := dq_46 (by decide +kernel)
theorem dX8_wind_9 : decode cX8_wind 9 = .ok (.iconst 1, 1) := dq_4 (by decide +kernel)
theorem mx_X8_cap_8 : Cond.code yX8_note cX8_note 2 none ∈ wsX8_cap := by unfold wsX8_cap; exact List.mem_cons_of_mem _ (List.mem_append_left _ (List.mem_of_getElem? (i := 7) rfl))
theorem mx_X8_cap_9 : Cond.fieldLink RX8 142 "MillTalkModel" "actMany" "I" ∈ wsX8_cap := by unfold wsX8_cap; exact List.mem_cons_of_mem _ (List.mem_append_left _ (List.mem_of_getElem? (i := 8) rfl))
theorem mx_X8_cap_10 : Cond.fieldLink RX8 31 "MillTalkModel" "acts" "[I" ∈ wsX8_cap := by unfold wsX8_cap; exact List.mem_cons_of_mem _ (List.mem_append_left _ (List.mem_of_getElem? (i := 9) rfl))
theorem mx_X8_cap_3 : Cond.fieldLink RX8 19 "MillTalkModel" "st" "[I" ∈ wsX8_cap := by unfold wsX8_cap; exact List.mem_cons_of_mem _ (List.mem_append_left _ (List.mem_of_getElem? (i := 2) rfl))
theorem mb_X8_cap_wsX80 {w : Cond} (h : w ∈ wsX80) : w ∈ wsX8_cap := by unfold wsX8_cap; exact List.mem_cons_of_mem _ (List.mem_append_right _ (h))
theorem ggX8_cap_X8_note : GoodIn wsX8_cap wsX8_note := goodIn_sub (by unfold wsX8_note; exact List.forall_mem_cons.mpr ⟨mx_X8_cap_8, List.forall_mem_append.mpr ⟨List.forall_mem_cons.mpr ⟨mx_X8_cap_9, List.forall_mem_cons.mpr ⟨mx_X8_cap_10, List.forall_mem_cons.mpr ⟨mx_X8_cap_3, fun _ h_ => absurd h_ List.not_mem_nil⟩⟩⟩, (fun _ h_ => mb_X8_cap_wsX80 h_)⟩⟩) (by decide +kernel)
theorem mx_X8_cap_4 : Cond.methodLink RX8 164 yX8_note ∈ wsX8_cap := by unfold wsX8_cap; exact List.mem_cons_of_mem _ (List.mem_append_left _ (List.mem_of_getElem? (i := 3) rfl))
theorem mx_X8_cap_5 : Cond.instanceMethod yX8_note ∈ wsX8_cap := by unfold wsX8_cap; exact List.mem_cons_of_mem _ (List.mem_append_left _ (List.mem_of_getElem? (i := 4) rfl))
theorem mx_X8_cap_6 : Cond.selects RX8 yX8_note yX8_note ∈ wsX8_cap := by unfold wsX8_cap; exact List.mem_cons_of_mem _ (List.mem_append_left _ (List.mem_of_getElem? (i := 5) rfl))
theorem mx_X8_cap_7 : Cond.initialized RX8 ∈ wsX8_cap := by unfold wsX8_cap; exact List.mem_cons_of_mem _ (List.mem_append_left _ (List.mem_of_getElem? (i := 6) rfl))
theorem gX8_cap_X8_note : GoodIn wsX8_cap (wsV RX8 164 RX8 yX8_note wsX8_note) := goodIn_app (goodIn_sub (List.forall_mem_cons.mpr ⟨mx_X8_cap_4, List.forall_mem_cons.mpr ⟨mx_X8_cap_5, List.forall_mem_cons.mpr ⟨mx_X8_cap_6, List.forall_mem_cons.mpr ⟨mx_X8_cap_7, fun _ h_ => absurd h_ List.not_mem_nil⟩⟩⟩⟩) (by decide +kernel)) ggX8_cap_X8_note
theorem mb_X8_hours_wsX8_hours_r1 {w : Cond} (h : w ∈ wsX8_hours_r1) : w ∈ wsX8_hours := by unfold wsX8_hours; exact List.mem_cons_of_mem _ (List.mem_append_left _ (List.mem_append_left _ (h)))
theorem mx_X8_hours_10 : Cond.code yX8_in cX8_in 6 (some .boolean) ∈ wsX8_hours := mb_X8_hours_wsX8_hours_r1 (List.mem_of_getElem? (i := 9) rfl)
theorem ggX8_hours_X8_in : GoodIn wsX8_hours wsX8_in := goodIn_sub (by unfold wsX8_in; exact List.forall_mem_cons.mpr ⟨mx_X8_hours_10, fun _ h_ => absurd h_ List.not_mem_nil⟩) (by decide +kernel)
set_option maxRecDepth 20000 in
theorem gX8_hours_X8_in : GoodIn wsX8_hours (va_wsS RX8 57 yX8_in wsX8_in) := goodIn_app (goodIn_of _ (by decide +kernel)) ggX8_hours_X8_in
theorem mx_X8_hours_14 : Cond.code yX8_note cX8_note 2 none ∈ wsX8_hours := mb_X8_hours_wsX8_hours_r1 (List.mem_of_getElem? (i := 13) rfl)
theorem mx_X8_hours_15 : Cond.fieldLink RX8 142 "MillTalkModel" "actMany" "I" ∈ wsX8_hours := mb_X8_hours_wsX8_hours_r1 (List.mem_of_getElem? (i := 14) rfl)
theorem mx_X8_hours_16 : Cond.fieldLink RX8 31 "MillTalkModel" "acts" "[I" ∈ wsX8_hours := mb_X8_hours_wsX8_hours_r1 (List.mem_of_getElem? (i := 15) rfl)
theorem mx_X8_hours_5 : Cond.fieldLink RX8 19 "MillTalkModel" "st" "[I" ∈ wsX8_hours := mb_X8_hours_wsX8_hours_r1 (List.mem_of_getElem? (i := 4) rfl)
theorem mb_X8_hours_wsX80 {w : Cond} (h : w ∈ wsX80) : w ∈ wsX8_hours := by unfold wsX8_hours; exact List.mem_cons_of_mem _ (List.mem_append_right _ (h))
theorem ggX8_hours_X8_note : GoodIn wsX8_hours wsX8_note := goodIn_sub (by unfold wsX8_note; exact List.forall_mem_cons.mpr ⟨mx_X8_hours_14, List.forall_mem_append.mpr ⟨List.forall_mem_cons.mpr ⟨mx_X8_hours_15, List.forall_mem_cons.mpr ⟨mx_X8_hours_16, List.forall_mem_cons.mpr ⟨mx_X8_hours_5, fun _ h_ => absurd h_ List.not_mem_nil⟩⟩⟩, (fun _ h_ => mb_X8_hours_wsX80 h_)⟩⟩) (by decide +kernel)
theorem mx_X8_hours_11 : Cond.methodLink RX8 164 yX8_note ∈ wsX8_hours := mb_X8_hours_wsX8_hours_r1 (List.mem_of_getElem? (i := 10) rfl)
theorem mx_X8_hours_12 : Cond.instanceMethod yX8_note ∈ wsX8_hours := mb_X8_hours_wsX8_hours_r1 (List.mem_of_getElem? (i := 11) rfl)
theorem mx_X8_hours_13 : Cond.selects RX8 yX8_note yX8_note ∈ wsX8_hours := mb_X8_hours_wsX8_hours_r1 (List.mem_of_getElem? (i := 12) rfl)
theorem mx_X8_hours_9 : Cond.initialized RX8 ∈ wsX8_hours := mb_X8_hours_wsX8_hours_r1 (List.mem_of_getElem? (i := 8) rfl)
theorem gX8_hours_X8_note : GoodIn wsX8_hours (wsV RX8 164 RX8 yX8_note wsX8_note) := goodIn_app (goodIn_sub (List.forall_mem_cons.mpr ⟨mx_X8_hours_11, List.forall_mem_cons.mpr ⟨mx_X8_hours_12, List.forall_mem_cons.mpr ⟨mx_X8_hours_13, List.forall_mem_cons.mpr ⟨mx_X8_hours_9, fun _ h_ => absurd h_ List.not_mem_nil⟩⟩⟩⟩) (by decide +kernel)) ggX8_hours_X8_note
theorem mx_X8_hours_20 : Cond.code yX8_oneHour cX8_oneHour 4 (some .int) ∈ wsX8_hours := mb_X8_hours_wsX8_hours_r1 (List.mem_of_getElem? (i := 19) rfl)
theorem mx_X8_hours_21 : Cond.methodLink RX8 151 yX8_gustOf ∈ wsX8_hours := mb_X8_hours_wsX8_hours_r1 (List.mem_of_getElem? (i := 20) rfl)
theorem mx_X8_hours_22 : Cond.instanceMethod yX8_gustOf ∈ wsX8_hours := mb_X8_hours_wsX8_hours_r1 (List.mem_of_getElem? (i := 21) rfl)
theorem mx_X8_hours_23 : Cond.selects RX8 yX8_gustOf yX8_gustOf ∈ wsX8_hours := mb_X8_hours_wsX8_hours_r1 (List.mem_of_getElem? (i := 22) rfl)
theorem mx_X8_hours_24 : Cond.code yX8_gustOf cX8_gustOf 2 (some .int) ∈ wsX8_hours := mb_X8_hours_wsX8_hours_r1 (List.mem_of_getElem? (i := 23) rfl)
theorem mb_X8_hours_wsX8_hours_r2 {w : Cond} (h : w ∈ wsX8_hours_r2) : w ∈ wsX8_hours := by unfold wsX8_hours; exact List.mem_cons_of_mem _ (List.mem_append_left _ (List.mem_append_right _ (h)))
theorem mx_X8_hours_25 : Cond.methodLink RX8 154 yX8_drift ∈ wsX8_hours := mb_X8_hours_wsX8_hours_r2 (List.mem_of_getElem? (i := 0) rfl)
theorem mx_X8_hours_26 : Cond.instanceMethod yX8_drift ∈ wsX8_hours := mb_X8_hours_wsX8_hours_r2 (List.mem_of_getElem? (i := 1) rfl)
theorem mx_X8_hours_27 : Cond.selects RX8 yX8_drift yX8_drift ∈ wsX8_hours := mb_X8_hours_wsX8_hours_r2 (List.mem_of_getElem? (i := 2) rfl)
theorem mx_X8_hours_28 : Cond.code yX8_drift cX8_drift 7 none ∈ wsX8_hours := mb_X8_hours_wsX8_hours_r2 (List.mem_of_getElem? (i := 3) rfl)
theorem mx_X8_hours_29 : Cond.methodLink RX8 145 yX8_drifts ∈ wsX8_hours := mb_X8_hours_wsX8_hours_r2 (List.mem_of_getElem? (i := 4) rfl)
theorem mx_X8_hours_30 : Cond.static yX8_drifts ∈ wsX8_hours := mb_X8_hours_wsX8_hours_r2 (List.mem_of_getElem? (i := 5) rfl)
theorem mx_X8_hours_31 : Cond.code yX8_drifts cX8_drifts 2 (some .int) ∈ wsX8_hours := mb_X8_hours_wsX8_hours_r2 (List.mem_of_getElem? (i := 6) rfl)
theorem mx_X8_hours_32 : Cond.methodLink RX8 148 yX8_isCell ∈ wsX8_hours := mb_X8_hours_wsX8_hours_r2 (List.mem_of_getElem? (i := 7) rfl)
theorem mx_X8_hours_33 : Cond.instanceMethod yX8_isCell ∈ wsX8_hours := mb_X8_hours_wsX8_hours_r2 (List.mem_of_getElem? (i := 8) rfl)
theorem mx_X8_hours_34 : Cond.selects RX8 yX8_isCell yX8_isCell ∈ wsX8_hours := mb_X8_hours_wsX8_hours_r2 (List.mem_of_getElem? (i := 9) rfl)
theorem mx_X8_hours_35 : Cond.code yX8_isCell cX8_isCell 2 (some .boolean) ∈ wsX8_hours := mb_X8_hours_wsX8_hours_r2 (List.mem_of_getElem? (i := 10) rfl)
theorem mx_X8_hours_7 : Cond.methodLink RX8 57 yX8_in ∈ wsX8_hours := mb_X8_hours_wsX8_hours_r1 (List.mem_of_getElem? (i := 6) rfl)
theorem mx_X8_hours_8 : Cond.static yX8_in ∈ wsX8_hours := mb_X8_hours_wsX8_hours_r1 (List.mem_of_getElem? (i := 7) rfl)
theorem mx_X8_hours_36 : Cond.methodLink RX8 158 yX8_isAtMill ∈ wsX8_hours := mb_X8_hours_wsX8_hours_r2 (List.mem_of_getElem? (i := 11) rfl)
theorem mx_X8_hours_37 : Cond.instanceMethod yX8_isAtMill ∈ wsX8_hours := mb_X8_hours_wsX8_hours_r2 (List.mem_of_getElem? (i := 12) rfl)
theorem mx_X8_hours_38 : Cond.selects RX8 yX8_isAtMill yX8_isAtMill ∈ wsX8_hours := mb_X8_hours_wsX8_hours_r2 (List.mem_of_getElem? (i := 13) rfl)
theorem mx_X8_hours_39 : Cond.code yX8_isAtMill cX8_isAtMill 3 (some .boolean) ∈ wsX8_hours := mb_X8_hours_wsX8_hours_r2 (List.mem_of_getElem? (i := 14) rfl)
theorem ggX8_hours_X8_oneHour : GoodIn wsX8_hours wsX8_oneHour := goodIn_sub (by unfold wsX8_oneHour; exact List.forall_mem_cons.mpr ⟨mx_X8_hours_20, List.forall_mem_append.mpr ⟨List.forall_mem_cons.mpr ⟨mx_X8_hours_5, List.forall_mem_cons.mpr ⟨mx_X8_hours_21, List.forall_mem_cons.mpr ⟨mx_X8_hours_22, List.forall_mem_cons.mpr ⟨mx_X8_hours_23, List.forall_mem_cons.mpr ⟨mx_X8_hours_9, List.forall_mem_cons.mpr ⟨mx_X8_hours_24, List.forall_mem_cons.mpr ⟨mx_X8_hours_25, List.forall_mem_cons.mpr ⟨mx_X8_hours_26, List.forall_mem_cons.mpr ⟨mx_X8_hours_27, List.forall_mem_cons.mpr ⟨mx_X8_hours_28, List.forall_mem_cons.mpr ⟨mx_X8_hours_29, List.forall_mem_cons.mpr ⟨mx_X8_hours_30, List.forall_mem_cons.mpr ⟨mx_X8_hours_31, List.forall_mem_cons.mpr ⟨mx_X8_hours_32, List.forall_mem_cons.mpr ⟨mx_X8_hours_33, List.forall_mem_cons.mpr ⟨mx_X8_hours_34, List.forall_mem_cons.mpr ⟨mx_X8_hours_35, List.forall_mem_cons.mpr ⟨mx_X8_hours_7, List.forall_mem_cons.mpr ⟨mx_X8_hours_8, List.forall_mem_cons.mpr ⟨mx_X8_hours_10, List.forall_mem_cons.mpr ⟨mx_X8_hours_36, List.forall_mem_cons.mpr ⟨mx_X8_hours_37, List.forall_mem_cons.mpr ⟨mx_X8_hours_38, List.forall_mem_cons.mpr ⟨mx_X8_hours_39, fun _ h_ => absurd h_ List.not_mem_nil⟩⟩⟩⟩⟩⟩⟩⟩⟩⟩⟩⟩⟩⟩⟩⟩⟩⟩⟩⟩⟩⟩⟩⟩, (fun _ h_ => mb_X8_hours_wsX80 h_)⟩⟩) (by decide +kernel)
theorem mx_X8_hours_17 : Cond.methodLink RX8 167 yX8_oneHour ∈ wsX8_hours := mb_X8_hours_wsX8_hours_r1 (List.mem_of_getElem? (i := 16) rfl)
theorem mx_X8_hours_18 : Cond.instanceMethod yX8_oneHour ∈ wsX8_hours := mb_X8_hours_wsX8_hours_r1 (List.mem_of_getElem? (i := 17) rfl)
theorem mx_X8_hours_19 : Cond.selects RX8 yX8_oneHour yX8_oneHour ∈ wsX8_hours := mb_X8_hours_wsX8_hours_r1 (List.mem_of_getElem? (i := 18) rfl)
theorem gX8_hours_X8_oneHour : GoodIn wsX8_hours (wsV RX8 167 RX8 yX8_oneHour wsX8_oneHour) := goodIn_app (goodIn_sub (List.forall_mem_cons.mpr ⟨mx_X8_hours_17, List.forall_mem_cons.mpr ⟨mx_X8_hours_18, List.forall_mem_cons.mpr ⟨mx_X8_hours_19, List.forall_mem_cons.mpr ⟨mx_X8_hours_9, fun _ h_ => absurd h_ List.not_mem_nil⟩⟩⟩⟩) (by decide +kernel)) ggX8_hours_X8_oneHour
theorem mb_X8_loose_wsX8_loose_r1 {w : Cond} (h : w ∈ wsX8_loose_r1) : w ∈ wsX8_loose := by unfold wsX8_loose; exact List.mem_cons_of_mem _ (List.mem_append_left _ (List.mem_append_left _ (h)))
theorem mx_X8_loose_12 : Cond.code yX8_in cX8_in 6 (some .boolean) ∈ wsX8_loose := mb_X8_loose_wsX8_loose_r1 (List.mem_of_getElem? (i := 11) rfl)
theorem ggX8_loose_X8_in : GoodIn wsX8_loose wsX8_in := goodIn_sub (by unfold wsX8_in; exact List.forall_mem_cons.mpr ⟨mx_X8_loose_12, fun _ h_ => absurd h_ List.not_mem_nil⟩) (by decide +kernel)
set_option maxRecDepth 20000 in
theorem gX8_loose_X8_in : GoodIn wsX8_loose (va_wsS RX8 57 yX8_in wsX8_in) := goodIn_app (goodIn_of _ (by decide +kernel)) ggX8_loose_X8_in
theorem mx_X8_loose_16 : Cond.code yX8_isCell cX8_isCell 2 (some .boolean) ∈ wsX8_loose := mb_X8_loose_wsX8_loose_r1 (List.mem_of_getElem? (i := 15) rfl)
theorem mx_X8_loose_3 : Cond.fieldLink RX8 19 "MillTalkModel" "st" "[I" ∈ wsX8_loose := mb_X8_loose_wsX8_loose_r1 (List.mem_of_getElem? (i := 2) rfl)
theorem mx_X8_loose_10 : Cond.methodLink RX8 57 yX8_in ∈ wsX8_loose := mb_X8_loose_wsX8_loose_r1 (List.mem_of_getElem? (i := 9) rfl)
theorem mx_X8_loose_11 : Cond.static yX8_in ∈ wsX8_loose := mb_X8_loose_wsX8_loose_r1 (List.mem_of_getElem? (i := 10) rfl)
theorem mx_X8_loose_8 : Cond.initialized RX8 ∈ wsX8_loose := mb_X8_loose_wsX8_loose_r1 (List.mem_of_getElem? (i := 7) rfl)
theorem mb_X8_loose_wsX80 {w : Cond} (h : w ∈ wsX80) : w ∈ wsX8_loose := by unfold wsX8_loose; exact List.mem_cons_of_mem _ (List.mem_append_right _ (h))
theorem ggX8_loose_X8_isCell : GoodIn wsX8_loose wsX8_isCell := goodIn_sub (by unfold wsX8_isCell; exact List.forall_mem_cons.mpr ⟨mx_X8_loose_16, List.forall_mem_append.mpr ⟨List.forall_mem_cons.mpr ⟨mx_X8_loose_3, List.forall_mem_cons.mpr ⟨mx_X8_loose_10, List.forall_mem_cons.mpr ⟨mx_X8_loose_11, List.forall_mem_cons.mpr ⟨mx_X8_loose_8, List.forall_mem_cons.mpr ⟨mx_X8_loose_12, fun _ h_ => absurd h_ List.not_mem_nil⟩⟩⟩⟩⟩, (fun _ h_ => mb_X8_loose_wsX80 h_)⟩⟩) (by decide +kernel)
theorem mx_X8_loose_13 : Cond.methodLink RX8 148 yX8_isCell ∈ wsX8_loose := mb_X8_loose_wsX8_loose_r1 (List.mem_of_getElem? (i := 12) rfl)
theorem mx_X8_loose_14 : Cond.instanceMethod yX8_isCell ∈ wsX8_loose := mb_X8_loose_wsX8_loose_r1 (List.mem_of_getElem? (i := 13) rfl)
theorem mx_X8_loose_15 : Cond.selects RX8 yX8_isCell yX8_isCell ∈ wsX8_loose := mb_X8_loose_wsX8_loose_r1 (List.mem_of_getElem? (i := 14) rfl)
theorem gX8_loose_X8_isCell : GoodIn wsX8_loose (wsV RX8 148 RX8 yX8_isCell wsX8_isCell) := goodIn_app (goodIn_sub (List.forall_mem_cons.mpr ⟨mx_X8_loose_13, List.forall_mem_cons.mpr ⟨mx_X8_loose_14, List.forall_mem_cons.mpr ⟨mx_X8_loose_15, List.forall_mem_cons.mpr ⟨mx_X8_loose_8, fun _ h_ => absurd h_ List.not_mem_nil⟩⟩⟩⟩) (by decide +kernel)) ggX8_loose_X8_isCell
theorem mx_X8_loose_9 : Cond.code yX8_isSound cX8_isSound 2 (some .boolean) ∈ wsX8_loose := mb_X8_loose_wsX8_loose_r1 (List.mem_of_getElem? (i := 8) rfl)
theorem ggX8_loose_X8_isSound : GoodIn wsX8_loose wsX8_isSound := goodIn_sub (by unfold wsX8_isSound; exact List.forall_mem_cons.mpr ⟨mx_X8_loose_9, List.forall_mem_append.mpr ⟨List.forall_mem_cons.mpr ⟨mx_X8_loose_3, List.forall_mem_cons.mpr ⟨mx_X8_loose_10, List.forall_mem_cons.mpr ⟨mx_X8_loose_11, List.forall_mem_cons.mpr ⟨mx_X8_loose_8, List.forall_mem_cons.mpr ⟨mx_X8_loose_12, fun _ h_ => absurd h_ List.not_mem_nil⟩⟩⟩⟩⟩, (fun _ h_ => mb_X8_loose_wsX80 h_)⟩⟩) (by decide +kernel)
theorem mx_X8_loose_5 : Cond.methodLink RX8 173 yX8_isSound ∈ wsX8_loose := mb_X8_loose_wsX8_loose_r1 (List.mem_of_getElem? (i := 4) rfl)
theorem mx_X8_loose_6 : Cond.instanceMethod yX8_isSound ∈ wsX8_loose := mb_X8_loose_wsX8_loose_r1 (List.mem_of_getElem? (i := 5) rfl)
theorem mx_X8_loose_7 : Cond.selects RX8 yX8_isSound yX8_isSound ∈ wsX8_loose := mb_X8_loose_wsX8_loose_r1 (List.mem_of_getElem? (i := 6) rfl)
theorem gX8_loose_X8_isSound : GoodIn wsX8_loose (wsV RX8 173 RX8 yX8_isSound wsX8_isSound) := goodIn_app (goodIn_sub (List.forall_mem_cons.mpr ⟨mx_X8_loose_5, List.forall_mem_cons.mpr ⟨mx_X8_loose_6, List.forall_mem_cons.mpr ⟨mx_X8_loose_7, List.forall_mem_cons.mpr ⟨mx_X8_loose_8, fun _ h_ => absurd h_ List.not_mem_nil⟩⟩⟩⟩) (by decide +kernel)) ggX8_loose_X8_isSound
theorem mb_X8_loose_wsX8_loose_r2 {w : Cond} (h : w ∈ wsX8_loose_r2) : w ∈ wsX8_loose := by unfold wsX8_loose; exact List.mem_cons_of_mem _ (List.mem_append_left _ (List.mem_append_right _ (h)))
theorem mx_X8_loose_26 : Cond.code yX8_letLoose cX8_letLoose 4 none ∈ wsX8_loose := mb_X8_loose_wsX8_loose_r2 (List.mem_of_getElem? (i := 1) rfl)
theorem ggX8_loose_X8_letLoose : GoodIn wsX8_loose wsX8_letLoose := goodIn_sub (by unfold wsX8_letLoose; exact List.forall_mem_cons.mpr ⟨mx_X8_loose_26, List.forall_mem_append.mpr ⟨List.forall_mem_cons.mpr ⟨mx_X8_loose_3, fun _ h_ => absurd h_ List.not_mem_nil⟩, (fun _ h_ => mb_X8_loose_wsX80 h_)⟩⟩) (by decide +kernel)
theorem mx_X8_loose_23 : Cond.methodLink RX8 178 yX8_letLoose ∈ wsX8_loose := mb_X8_loose_wsX8_loose_r1 (List.mem_of_getElem? (i := 22) rfl)
theorem mx_X8_loose_24 : Cond.instanceMethod yX8_letLoose ∈ wsX8_loose := mb_X8_loose_wsX8_loose_r1 (List.mem_of_getElem? (i := 23) rfl)
theorem mx_X8_loose_25 : Cond.selects RX8 yX8_letLoose yX8_letLoose ∈ wsX8_loose := mb_X8_loose_wsX8_loose_r2 (List.mem_of_getElem? (i := 0) rfl)
theorem gX8_loose_X8_letLoose : GoodIn wsX8_loose (wsV RX8 178 RX8 yX8_letLoose wsX8_letLoose) := goodIn_app (goodIn_sub (List.forall_mem_cons.mpr ⟨mx_X8_loose_23, List.forall_mem_cons.mpr ⟨mx_X8_loose_24, List.forall_mem_cons.mpr ⟨mx_X8_loose_25, List.forall_mem_cons.mpr ⟨mx_X8_loose_8, fun _ h_ => absurd h_ List.not_mem_nil⟩⟩⟩⟩) (by decide +kernel)) ggX8_loose_X8_letLoose
theorem mx_X8_loose_20 : Cond.code yX8_note cX8_note 2 none ∈ wsX8_loose := mb_X8_loose_wsX8_loose_r1 (List.mem_of_getElem? (i := 19) rfl)
theorem mx_X8_loose_21 : Cond.fieldLink RX8 142 "MillTalkModel" "actMany" "I" ∈ wsX8_loose := mb_X8_loose_wsX8_loose_r1 (List.mem_of_getElem? (i := 20) rfl)
theorem mx_X8_loose_22 : Cond.fieldLink RX8 31 "MillTalkModel" "acts" "[I" ∈ wsX8_loose := mb_X8_loose_wsX8_loose_r1 (List.mem_of_getElem? (i := 21) rfl)
theorem ggX8_loose_X8_note : GoodIn wsX8_loose wsX8_note := goodIn_sub (by unfold wsX8_note; exact List.forall_mem_cons.mpr ⟨mx_X8_loose_20, List.forall_mem_append.mpr ⟨List.forall_mem_cons.mpr ⟨mx_X8_loose_21, List.forall_mem_cons.mpr ⟨mx_X8_loose_22, List.forall_mem_cons.mpr ⟨mx_X8_loose_3, fun _ h_ => absurd h_ List.not_mem_nil⟩⟩⟩, (fun _ h_ => mb_X8_loose_wsX80 h_)⟩⟩) (by decide +kernel)
theorem mx_X8_loose_17 : Cond.methodLink RX8 164 yX8_note ∈ wsX8_loose := mb_X8_loose_wsX8_loose_r1 (List.mem_of_getElem? (i := 16) rfl)
theorem mx_X8_loose_18 : Cond.instanceMethod yX8_note ∈ wsX8_loose := mb_X8_loose_wsX8_loose_r1 (List.mem_of_getElem? (i := 17) rfl)
theorem mx_X8_loose_19 : Cond.selects RX8 yX8_note yX8_note ∈ wsX8_loose := mb_X8_loose_wsX8_loose_r1 (List.mem_of_getElem? (i := 18) rfl)
theorem gX8_loose_X8_note : GoodIn wsX8_loose (wsV RX8 164 RX8 yX8_note wsX8_note) := goodIn_app (goodIn_sub (List.forall_mem_cons.mpr ⟨mx_X8_loose_17, List.forall_mem_cons.mpr ⟨mx_X8_loose_18, List.forall_mem_cons.mpr ⟨mx_X8_loose_19, List.forall_mem_cons.mpr ⟨mx_X8_loose_8, fun _ h_ => absurd h_ List.not_mem_nil⟩⟩⟩⟩) (by decide +kernel)) ggX8_loose_X8_note
theorem mx_X8_loose_30 : Cond.code yX8_those cX8_those 4 (some .int) ∈ wsX8_loose := mb_X8_loose_wsX8_loose_r2 (List.mem_of_getElem? (i := 5) rfl)
theorem ggX8_loose_X8_those : GoodIn wsX8_loose wsX8_those := goodIn_sub (by unfold wsX8_those; exact List.forall_mem_cons.mpr ⟨mx_X8_loose_30, List.forall_mem_append.mpr ⟨List.forall_mem_cons.mpr ⟨mx_X8_loose_3, fun _ h_ => absurd h_ List.not_mem_nil⟩, (fun _ h_ => mb_X8_loose_wsX80 h_)⟩⟩) (by decide +kernel)
theorem mx_X8_loose_27 : Cond.methodLink RX8 182 yX8_those ∈ wsX8_loose := mb_X8_loose_wsX8_loose_r2 (List.mem_of_getElem? (i := 2) rfl)
theorem mx_X8_loose_28 : Cond.instanceMethod yX8_those ∈ wsX8_loose := mb_X8_loose_wsX8_loose_r2 (List.mem_of_getElem? (i := 3) rfl)
theorem mx_X8_loose_29 : Cond.selects RX8 yX8_those yX8_those ∈ wsX8_loose := mb_X8_loose_wsX8_loose_r2 (List.mem_of_getElem? (i := 4) rfl)
theorem gX8_loose_X8_those : GoodIn wsX8_loose (wsV RX8 182 RX8 yX8_those wsX8_those) := goodIn_app (goodIn_sub (List.forall_mem_cons.mpr ⟨mx_X8_loose_27, List.forall_mem_cons.mpr ⟨mx_X8_loose_28, List.forall_mem_cons.mpr ⟨mx_X8_loose_29, List.forall_mem_cons.mpr ⟨mx_X8_loose_8, fun _ h_ => absurd h_ List.not_mem_nil⟩⟩⟩⟩) (by decide +kernel)) ggX8_loose_X8_those
theorem mx_X8_sell_9 : Cond.code yX8_in cX8_in 6 (some .boolean) ∈ wsX8_sell := by unfold wsX8_sell; exact List.mem_cons_of_mem _ (List.mem_append_left _ (List.mem_of_getElem? (i := 8) rfl))
theorem ggX8_sell_X8_in : GoodIn wsX8_sell wsX8_in := goodIn_sub (by unfold wsX8_in; exact List.forall_mem_cons.mpr ⟨mx_X8_sell_9, fun _ h_ => absurd h_ List.not_mem_nil⟩) (by decide +kernel)
set_option maxRecDepth 20000 in
theorem gX8_sell_X8_in : GoodIn wsX8_sell (va_wsS RX8 57 yX8_in wsX8_in) := goodIn_app (goodIn_of _ (by decide +kernel)) ggX8_sell_X8_in
theorem mx_X8_sell_13 : Cond.code yX8_note cX8_note 2 none ∈ wsX8_sell := by unfold wsX8_sell; exact List.mem_cons_of_mem _ (List.mem_append_left _ (List.mem_of_getElem? (i := 12) rfl))
theorem mx_X8_sell_14 : Cond.fieldLink RX8 142 "MillTalkModel" "actMany" "I" ∈ wsX8_sell := by unfold wsX8_sell; exact List.mem_cons_of_mem _ (List.mem_append_left _ (List.mem_of_getElem? (i := 13) rfl))
theorem mx_X8_sell_15 : Cond.fieldLink RX8 31 "MillTalkModel" "acts" "[I" ∈ wsX8_sell := by unfold wsX8_sell; exact List.mem_cons_of_mem _ (List.mem_append_left _ (List.mem_of_getElem? (i := 14) rfl))
theorem mx_X8_sell_5 : Cond.fieldLink RX8 19 "MillTalkModel" "st" "[I" ∈ wsX8_sell := by unfold wsX8_sell; exact List.mem_cons_of_mem _ (List.mem_append_left _ (List.mem_of_getElem? (i := 4) rfl))
theorem mb_X8_sell_wsX80 {w : Cond} (h : w ∈ wsX80) : w ∈ wsX8_sell := by unfold wsX8_sell; exact List.mem_cons_of_mem _ (List.mem_append_right _ (h))
theorem ggX8_sell_X8_note : GoodIn wsX8_sell wsX8_note := goodIn_sub (by unfold wsX8_note; exact List.forall_mem_cons.mpr ⟨mx_X8_sell_13, List.forall_mem_append.mpr ⟨List.forall_mem_cons.mpr ⟨mx_X8_sell_14, List.forall_mem_cons.mpr ⟨mx_X8_sell_15, List.forall_mem_cons.mpr ⟨mx_X8_sell_5, fun _ h_ => absurd h_ List.not_mem_nil⟩⟩⟩, (fun _ h_ => mb_X8_sell_wsX80 h_)⟩⟩) (by decide +kernel)
theorem mx_X8_sell_10 : Cond.methodLink RX8 164 yX8_note ∈ wsX8_sell := by unfold wsX8_sell; exact List.mem_cons_of_mem _ (List.mem_append_left _ (List.mem_of_getElem? (i := 9) rfl))
theorem mx_X8_sell_11 : Cond.instanceMethod yX8_note ∈ wsX8_sell := by unfold wsX8_sell; exact List.mem_cons_of_mem _ (List.mem_append_left _ (List.mem_of_getElem? (i := 10) rfl))
theorem mx_X8_sell_12 : Cond.selects RX8 yX8_note yX8_note ∈ wsX8_sell := by unfold wsX8_sell; exact List.mem_cons_of_mem _ (List.mem_append_left _ (List.mem_of_getElem? (i := 11) rfl))
theorem mx_X8_sell_8 : Cond.initialized RX8 ∈ wsX8_sell := by unfold wsX8_sell; exact List.mem_cons_of_mem _ (List.mem_append_left _ (List.mem_of_getElem? (i := 7) rfl))
theorem gX8_sell_X8_note : GoodIn wsX8_sell (wsV RX8 164 RX8 yX8_note wsX8_note) := goodIn_app (goodIn_sub (List.forall_mem_cons.mpr ⟨mx_X8_sell_10, List.forall_mem_cons.mpr ⟨mx_X8_sell_11, List.forall_mem_cons.mpr ⟨mx_X8_sell_12, List.forall_mem_cons.mpr ⟨mx_X8_sell_8, fun _ h_ => absurd h_ List.not_mem_nil⟩⟩⟩⟩) (by decide +kernel)) ggX8_sell_X8_note
theorem mx_X8_wind_7 : Cond.code yX8_in cX8_in 6 (some .boolean) ∈ wsX8_wind := by unfold wsX8_wind; exact List.mem_cons_of_mem _ (List.mem_append_left _ (List.mem_of_getElem? (i := 6) rfl))
theorem ggX8_wind_X8_in : GoodIn wsX8_wind wsX8_in := goodIn_sub (by unfold wsX8_in; exact List.forall_mem_cons.mpr ⟨mx_X8_wind_7, fun _ h_ => absurd h_ List.not_mem_nil⟩) (by decide +kernel)
set_option maxRecDepth 20000 in
theorem gX8_wind_X8_in : GoodIn wsX8_wind (va_wsS RX8 57 yX8_in wsX8_in) := goodIn_app (goodIn_of _ (by decide +kernel)) ggX8_wind_X8_in
theorem mx_X8_wind_11 : Cond.code yX8_note cX8_note 2 none ∈ wsX8_wind := by unfold wsX8_wind; exact List.mem_cons_of_mem _ (List.mem_append_left _ (List.mem_of_getElem? (i := 10) rfl))
theorem mx_X8_wind_12 : Cond.fieldLink RX8 142 "MillTalkModel" "actMany" "I" ∈ wsX8_wind := by unfold wsX8_wind; exact List.mem_cons_of_mem _ (List.mem_append_left _ (List.mem_of_getElem? (i := 11) rfl))
theorem mx_X8_wind_13 : Cond.fieldLink RX8 31 "MillTalkModel" "acts" "[I" ∈ wsX8_wind := by unfold wsX8_wind; exact List.mem_cons_of_mem _ (List.mem_append_left _ (List.mem_of_getElem? (i := 12) rfl))
theorem mx_X8_wind_1 : Cond.fieldLink RX8 19 "MillTalkModel" "st" "[I" ∈ wsX8_wind := by unfold wsX8_wind; exact List.mem_cons_of_mem _ (List.mem_append_left _ (List.mem_of_getElem? (i := 0) rfl))
theorem mb_X8_wind_wsX80 {w : Cond} (h : w ∈ wsX80) : w ∈ wsX8_wind := by unfold wsX8_wind; exact List.mem_cons_of_mem _ (List.mem_append_right _ (h))
theorem ggX8_wind_X8_note : GoodIn wsX8_wind wsX8_note := goodIn_sub (by unfold wsX8_note; exact List.forall_mem_cons.mpr ⟨mx_X8_wind_11, List.forall_mem_append.mpr ⟨List.forall_mem_cons.mpr ⟨mx_X8_wind_12, List.forall_mem_cons.mpr ⟨mx_X8_wind_13, List.forall_mem_cons.mpr ⟨mx_X8_wind_1, fun _ h_ => absurd h_ List.not_mem_nil⟩⟩⟩, (fun _ h_ => mb_X8_wind_wsX80 h_)⟩⟩) (by decide +kernel)
theorem mx_X8_wind_8 : Cond.methodLink RX8 164 yX8_note ∈ wsX8_wind := by unfold wsX8_wind; exact List.mem_cons_of_mem _ (List.mem_append_left _ (List.mem_of_getElem? (i := 7) rfl))
theorem mx_X8_wind_9 : Cond.instanceMethod yX8_note ∈ wsX8_wind := by unfold wsX8_wind; exact List.mem_cons_of_mem _ (List.mem_append_left _ (List.mem_of_getElem? (i := 8) rfl))
theorem mx_X8_wind_10 : Cond.selects RX8 yX8_note yX8_note ∈ wsX8_wind := by unfold wsX8_wind; exact List.mem_cons_of_mem _ (List.mem_append_left _ (List.mem_of_getElem? (i := 9) rfl))
theorem mx_X8_wind_6 : Cond.initialized RX8 ∈ wsX8_wind := by unfold wsX8_wind; exact List.mem_cons_of_mem _ (List.mem_append_left _ (List.mem_of_getElem? (i := 5) rfl))
theorem gX8_wind_X8_note : GoodIn wsX8_wind (wsV RX8 164 RX8 yX8_note wsX8_note) := goodIn_app (goodIn_sub (List.forall_mem_cons.mpr ⟨mx_X8_wind_8, List.forall_mem_cons.mpr ⟨mx_X8_wind_9, List.forall_mem_cons.mpr ⟨mx_X8_wind_10, List.forall_mem_cons.mpr ⟨mx_X8_wind_6, fun _ h_ => absurd h_ List.not_mem_nil⟩⟩⟩⟩) (by decide +kernel)) ggX8_wind_X8_note
theorem i_X8_cap_X8 : ∀ w ∈ u_ws RX8 TX8 24, w ∈ wsX8_cap := fun _ h_ => mb_X8_cap_wsX80 h_
theorem i_X8_hours_X8 : ∀ w ∈ u_ws RX8 TX8 24, w ∈ wsX8_hours := fun _ h_ => mb_X8_hours_wsX80 h_
theorem i_X8_loose_X8 : ∀ w ∈ u_ws RX8 TX8 24, w ∈ wsX8_loose := fun _ h_ => mb_X8_loose_wsX80 h_
theorem mb_X8_note_wsX80 {w : Cond} (h : w ∈ wsX80) : w ∈ wsX8_note := by unfold wsX8_note; exact List.mem_cons_of_mem _ (List.mem_append_right _ (h))
theorem i_X8_note_X8 : ∀ w ∈ u_ws RX8 TX8 24, w ∈ wsX8_note := fun _ h_ => mb_X8_note_wsX80 h_
theorem i_X8_sell_X8 : ∀ w ∈ u_ws RX8 TX8 24, w ∈ wsX8_sell := fun _ h_ => mb_X8_sell_wsX80 h_
theorem mb_X8_undo_wsX80 {w : Cond} (h : w ∈ wsX80) : w ∈ wsX8_undo := by unfold wsX8_undo; exact List.mem_cons_of_mem _ (List.mem_append_right _ (h))
theorem i_X8_undo_X8 : ∀ w ∈ u_ws RX8 TX8 24, w ∈ wsX8_undo := fun _ h_ => mb_X8_undo_wsX80 h_
theorem i_X8_wind_X8 : ∀ w ∈ u_ws RX8 TX8 24, w ∈ wsX8_wind := fun _ h_ => mb_X8_wind_wsX80 h_
theorem mx_X8_note_1 : Cond.fieldLink RX8 142 "MillTalkModel" "actMany" "I" ∈ wsX8_note := by unfold wsX8_note; exact List.mem_cons_of_mem _ (List.mem_append_left _ (List.mem_of_getElem? (i := 0) rfl))
theorem mx_X8_note_2 : Cond.fieldLink RX8 31 "MillTalkModel" "acts" "[I" ∈ wsX8_note := by unfold wsX8_note; exact List.mem_cons_of_mem _ (List.mem_append_left _ (List.mem_of_getElem? (i := 1) rfl))
theorem mx_X8_note_3 : Cond.fieldLink RX8 19 "MillTalkModel" "st" "[I" ∈ wsX8_note := by unfold wsX8_note; exact List.mem_cons_of_mem _ (List.mem_append_left _ (List.mem_of_getElem? (i := 2) rfl))
theorem mx_X8_cap_1 : Cond.fieldLink RX8 138 "MillTalkModel" "isThere" "Z" ∈ wsX8_cap := by unfold wsX8_cap; exact List.mem_cons_of_mem _ (List.mem_append_left _ (List.mem_of_getElem? (i := 0) rfl))
theorem mx_X8_cap_2 : Cond.constant RX8 161 (-1000002) ∈ wsX8_cap := by unfold wsX8_cap; exact List.mem_cons_of_mem _ (List.mem_append_left _ (List.mem_of_getElem? (i := 1) rfl))
theorem mx_X8_wind_3 : Cond.constant RX8 67 (-1000001) ∈ wsX8_wind := by unfold wsX8_wind; exact List.mem_cons_of_mem _ (List.mem_append_left _ (List.mem_of_getElem? (i := 2) rfl))
theorem mx_X8_wind_2 : Cond.constantLong RX8 171 (4) ∈ wsX8_wind := by unfold wsX8_wind; exact List.mem_cons_of_mem _ (List.mem_append_left _ (List.mem_of_getElem? (i := 1) rfl))
theorem mx_X8_loose_2 : Cond.constant RX8 67 (-1000001) ∈ wsX8_loose := mb_X8_loose_wsX8_loose_r1 (List.mem_of_getElem? (i := 1) rfl)
theorem mx_X8_loose_1 : Cond.constantLong RX8 176 (20) ∈ wsX8_loose := mb_X8_loose_wsX8_loose_r1 (List.mem_of_getElem? (i := 0) rfl)
theorem mx_X8_loose_4 : Cond.constant RX8 161 (-1000002) ∈ wsX8_loose := mb_X8_loose_wsX8_loose_r1 (List.mem_of_getElem? (i := 3) rfl)
theorem mx_X8_sell_1 : Cond.fieldLink RX8 138 "MillTalkModel" "isThere" "Z" ∈ wsX8_sell := by unfold wsX8_sell; exact List.mem_cons_of_mem _ (List.mem_append_left _ (List.mem_of_getElem? (i := 0) rfl))
theorem mx_X8_sell_3 : Cond.constantLong RX8 185 (999) ∈ wsX8_sell := by unfold wsX8_sell; exact List.mem_cons_of_mem _ (List.mem_append_left _ (List.mem_of_getElem? (i := 2) rfl))
theorem mx_X8_sell_4 : Cond.constant RX8 67 (-1000001) ∈ wsX8_sell := by unfold wsX8_sell; exact List.mem_cons_of_mem _ (List.mem_append_left _ (List.mem_of_getElem? (i := 3) rfl))
theorem mx_X8_sell_2 : Cond.constant RX8 161 (-1000002) ∈ wsX8_sell := by unfold wsX8_sell; exact List.mem_cons_of_mem _ (List.mem_append_left _ (List.mem_of_getElem? (i := 1) rfl))
theorem mx_X8_undo_1 : Cond.fieldLink RX8 142 "MillTalkModel" "actMany" "I" ∈ wsX8_undo := by unfold wsX8_undo; exact List.mem_cons_of_mem _ (List.mem_append_left _ (List.mem_of_getElem? (i := 0) rfl))
theorem mx_X8_undo_3 : Cond.fieldLink RX8 19 "MillTalkModel" "st" "[I" ∈ wsX8_undo := by unfold wsX8_undo; exact List.mem_cons_of_mem _ (List.mem_append_left _ (List.mem_of_getElem? (i := 2) rfl))
theorem mx_X8_undo_4 : Cond.fieldLink RX8 31 "MillTalkModel" "acts" "[I" ∈ wsX8_undo := by unfold wsX8_undo; exact List.mem_cons_of_mem _ (List.mem_append_left _ (List.mem_of_getElem? (i := 3) rfl))
theorem mx_X8_undo_2 : Cond.constant RX8 161 (-1000002) ∈ wsX8_undo := by unfold wsX8_undo; exact List.mem_cons_of_mem _ (List.mem_append_left _ (List.mem_of_getElem? (i := 1) rfl))
theorem mx_X8_hours_1 : Cond.fieldLink RX8 138 "MillTalkModel" "isThere" "Z" ∈ wsX8_hours := mb_X8_hours_wsX8_hours_r1 (List.mem_of_getElem? (i := 0) rfl)
theorem mx_X8_hours_3 : Cond.constantLong RX8 162 (24) ∈ wsX8_hours := mb_X8_hours_wsX8_hours_r1 (List.mem_of_getElem? (i := 2) rfl)
theorem mx_X8_hours_4 : Cond.constant RX8 67 (-1000001) ∈ wsX8_hours := mb_X8_hours_wsX8_hours_r1 (List.mem_of_getElem? (i := 3) rfl)
theorem mx_X8_hours_6 : Cond.constant RX8 84 (-1000003) ∈ wsX8_hours := mb_X8_hours_wsX8_hours_r1 (List.mem_of_getElem? (i := 5) rfl)
theorem mx_X8_hours_2 : Cond.constant RX8 161 (-1000002) ∈ wsX8_hours := mb_X8_hours_wsX8_hours_r1 (List.mem_of_getElem? (i := 1) rfl)
