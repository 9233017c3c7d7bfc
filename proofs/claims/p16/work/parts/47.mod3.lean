set_option maxHeartbeats 4000000 in
set_option maxRecDepth 100000 in
theorem r_X8_note (l : Launch) (dC : Nat → ClassId) (dI : Nat → Nat → Nat) (cI cZ cL cJ : ClassId) (sz : Nat) (mo : Nat) (m_la : Nat) (m_sz : Nat) (m_it : Nat) (m_st : Nat) (m_mv : Nat) (m_tp : Nat) (m_rd : Nat) (m_ac : Nat) (m_as : Nat) (m_wo : Nat) (m_ik : Nat) (m_ke : Nat) (m_tr : Nat) (ms : Int32) (mt : Int32) (ml : Int32) (mk : Int32) (mv : Int32) (mb : Int32) (mw : Int32) (mz : Nat) (mp : Nat) (ma : Nat) (mx : Nat) (fs : Nat → Int32) (fc : Nat → Int32) (hac : okA fc ma) (hma : ma ≤ 24) (hKs : okK fs) : Met l yX8_note wsX8_note ({ frames := 0, cells := 0, slots := 0, locals := 0 }) (va_Pc [.ref mo] (fun U => U.heap.size = sz ∧ va_P (dC, dI) vwCl [(xo_8_rrriirrriiiiiiirrirrrrri mo m_la m_sz m_it ms mt m_st m_mv m_tp (nI mz) ml (nI mp) mk mv mb mw m_rd m_ac (nI ma) m_as m_wo m_ik m_ke m_tr (nI mx)), (xI m_st cI 38 fs), (xI m_ac cI 912 fc)] U.heap ∧ va_K (dC, dI) vwCl [(cI, .int), (cZ, .boolean), (cL, .object RX3), (cJ, .array .int)] U ∧ va_D (fun _ => True) [(xo_8_rrriirrriiiiiiirrirrrrri mo m_la m_sz m_it ms mt m_st m_mv m_tp (nI mz) ml (nI mp) mk mv mb mw m_rd m_ac (nI ma) m_as m_wo m_ik m_ke m_tr (nI mx)), (xI m_st cI 38 fs), (xI m_ac cI 912 fc)])) (va_Qv (fun (_ : Unit) => True) (fun (_ : Unit) t => ∃ (fcn : Nat → Int32) (man : Nat), va_P (dC, dI) vwCl [(xo_8_rrriirrriiiiiiirrirrrrri mo m_la m_sz m_it ms mt m_st m_mv m_tp (nI mz) ml (nI mp) mk mv mb mw m_rd m_ac (nI man) m_as m_wo m_ik m_ke m_tr (nI mx)), (xI m_st cI 38 fs), (xI m_ac cI 912 fcn)] t.heap ∧ va_D (va_A [(xo_8_rrriirrriiiiiiirrirrrrri mo m_la m_sz m_it ms mt m_st m_mv m_tp (nI mz) ml (nI mp) mk mv mb mw m_rd m_ac (nI ma) m_as m_wo m_ik m_ke m_tr (nI mx)), (xI m_st cI 38 fs), (xI m_ac cI 912 fc)] sz) [(xo_8_rrriirrriiiiiiirrirrrrri mo m_la m_sz m_it ms mt m_st m_mv m_tp (nI mz) ml (nI mp) mk mv mb mw m_rd m_ac (nI man) m_as m_wo m_ik m_ke m_tr (nI mx)), (xI m_st cI 38 fs), (xI m_ac cI 912 fcn)] ∧ okA fcn man ∧ man ≤ 24 ∧ 1 ≤ man ∧ acM fcn man = ntA (m38 fs) ma (acM fc ma) ∧ man = ntN ma) (va_A [(xo_8_rrriirrriiiiiiirrirrrrri mo m_la m_sz m_it ms mt m_st m_mv m_tp (nI mz) ml (nI mp) mk mv mb mw m_rd m_ac (nI ma) m_as m_wo m_ik m_ke m_tr (nI mx)), (xI m_st cI 38 fs), (xI m_ac cI 912 fc)] sz)) 0 0 (va_A [(xo_8_rrriirrriiiiiiirrirrrrri mo m_la m_sz m_it ms mt m_st m_mv m_tp (nI mz) ml (nI mp) mk mv mb mw m_rd m_ac (nI ma) m_as m_wo m_ik m_ke m_tr (nI mx)), (xI m_st cI 38 fs), (xI m_ac cI 912 fc)] sz) := by
  refine Met.ofW (cc := cX8_note) (maxL := 2) (ret := none) (by decide) rfl ?_
  intro p e s m args below meth c s₁ B hml hv
  obtain ⟨rfl, hsz, hP, hK, hD0⟩ := hv
  have hx := B.exec
  have hb := B.bytes
  have hr := B.returns
  have hts := atoms_spec (ws := wsX8_note) B.pre
  have hown : s.vm.findClass RX8 = some m.cls := findClass_of_methodNamed B.named
  have hlocks := B.notSynchronized
  subst hsz
  have hD := hD0.self (sz := s.heap.size)
  generalize hAe : va_A [(xo_8_rrriirrriiiiiiirrirrrrri mo m_la m_sz m_it ms mt m_st m_mv m_tp (nI mz) ml (nI mp) mk mv mb mw m_rd m_ac (nI ma) m_as m_wo m_ik m_ke m_tr (nI mx)), (xI m_st cI 38 fs), (xI m_ac cI 912 fc)] s.heap.size = A at hD ⊢
  have hA : ∀ q : Nat, s.heap.size ≤ q → A q := fun q h => by rw [← hAe]; exact Or.inr h
  have hS : va_S A s.heap s.heap [] := va_S.rf
  have hP : va_P (dC, dI) vwCl [(xo_8_rrriirrriiiiiiirrirrrrri mo m_la m_sz m_it ms mt m_st m_mv m_tp (nI mz) ml (nI mp) mk mv mb mw m_rd m_ac (nI ma) m_as m_wo m_ik m_ke m_tr (nI mx)), (xI m_st cI 38 fs), (xI m_ac cI 912 fc)] s.heap := hP
  have hl := lv_entry ([.ref mo]) (n := 2) (Nat.le_of_ble_eq_true rfl)
  rw [lg_entry_eq]
  generalize (lg_sl ([.ref mo]) ++ List.replicate (2 - (lg_sl ([.ref mo])).length) Slot.unset).toArray = ls at hl ⊢
  have hl : lv_has ls 2 [(0, .ref mo)] := hl
  refine lv_aload_n hx hb dX8_note_0 rfl (lv_at hl 0 rfl) ?_
  refine va_get (D := (dC, dI)) (ci := 8) (v := .int (nI ma)) (C := RX8) (T := TX8) (N := 24) hx hb hts i_X8_note_X8 hown hK hP 0 rfl rfl 17 (by decide) (hts _ mx_X8_note_1) (fun _ h9 => h9) rfl dX8_note_1 ?_
  refine lv_bipush (v := 24) hx hb dX8_note_4 (by decide) ?_
  refine lv_icmp_ne (tgt := 49) hx hb dX8_note_6 (by decide) (fun c_1 => ?_) (fun c_1 => ?_)
  · have c_1 : ¬ (ma = 24) := fun q_ => c_1 ((nI_eq (a := ma) (b := 24) (by omega) (by omega)).mpr q_)
    refine lv_iconst (v := 0) hx hb dX8_note_49 (by decide) ?_
    refine lv_istore_n (lv' := [(1, .int 0), (0, .ref mo)]) hx hb dX8_note_50 rfl hl (by decide) rfl (fun ls hl => ?_)
    refine lp_go (σ := (Nat → Int32)) (fun ii (st : (Nat → Int32)) H locs ls => match st with | w_7 => lv_has ls 2 [(1, .int (nI ii)), (0, .ref mo)] ∧ va_P (dC, dI) vwCl [(xo_8_rrriirrriiiiiiirrirrrrri mo m_la m_sz m_it ms mt m_st m_mv m_tp (nI mz) ml (nI mp) mk mv mb mw m_rd m_ac (nI ma) m_as m_wo m_ik m_ke m_tr (nI mx)), (xI m_st cI 38 fs), (xI m_ac cI 912 w_7)] H ∧ va_D A [(xo_8_rrriirrriiiiiiirrirrrrri mo m_la m_sz m_it ms mt m_st m_mv m_tp (nI mz) ml (nI mp) mk mv mb mw m_rd m_ac (nI ma) m_as m_wo m_ik m_ke m_tr (nI mx)), (xI m_st cI 38 fs), (xI m_ac cI 912 w_7)] ∧ va_S A s.heap H locs ∧ (∀ j : Nat, j < ii → w_7 (38 * ma + j) = fs j) ∧ (∀ j : Nat, j < 38 * ma ∨ 38 * ma + 38 ≤ j → w_7 j = fc j)) 38 ?_ ?_ 0 (by omega) (fc) ⟨lv_sub hl [0, 1] rfl, hP.sub (ws' := [(xo_8_rrriirrriiiiiiirrirrrrri mo m_la m_sz m_it ms mt m_st m_mv m_tp (nI mz) ml (nI mp) mk mv mb mw m_rd m_ac (nI ma) m_as m_wo m_ik m_ke m_tr (nI mx)), (xI m_st cI 38 fs), (xI m_ac cI 912 fc)]) [0, 1, 2] rfl, hD.sub (ws' := [(xo_8_rrriirrriiiiiiirrirrrrri mo m_la m_sz m_it ms mt m_st m_mv m_tp (nI mz) ml (nI mp) mk mv mb mw m_rd m_ac (nI ma) m_as m_wo m_ik m_ke m_tr (nI mx)), (xI m_st cI 38 fs), (xI m_ac cI 912 fc)]) [0, 1, 2] (by decide +kernel) rfl, hS, (fun j h_ => absurd h_ (Nat.not_lt_zero j)), (fun j _ => rfl)⟩
    · rintro ii w_7 H locs ls hii ⟨hl, hP, hD, hS, haf_0, haf_1⟩ ih
      refine lv_iload_n hx hb dX8_note_51 rfl (lv_at hl 0 rfl) ?_
      refine lv_bipush (v := 38) hx hb dX8_note_52 (by decide) ?_
      refine lv_icmp_ge (tgt := 83) hx hb dX8_note_54 (by decide) (fun c_ => absurd c_ (fun q_ => absurd ((nI_leI (a := 38) (b := ii) (by omega) (by omega)).mp q_) (by omega))) (fun _ => ?_)
      refine lv_aload_n hx hb dX8_note_57 rfl (lv_at hl 1 rfl) ?_
      refine va_get (D := (dC, dI)) (ci := 8) (v := .ref m_ac) (C := RX8) (T := TX8) (N := 24) hx hb hts i_X8_note_X8 hown hK hP 0 rfl rfl 16 (by decide) (hts _ mx_X8_note_2) (fun _ h9 => h9) rfl dX8_note_58 ?_
      refine lv_bipush (v := 38) hx hb dX8_note_61 (by decide) ?_
      refine lv_aload_n hx hb dX8_note_63 rfl (lv_at hl 1 rfl) ?_
      refine va_get (D := (dC, dI)) (ci := 8) (v := .int (nI ma)) (C := RX8) (T := TX8) (N := 24) hx hb hts i_X8_note_X8 hown hK hP 0 rfl rfl 17 (by decide) (hts _ mx_X8_note_1) (fun _ h9 => h9) rfl dX8_note_64 ?_
      refine lv_imul hx hb dX8_note_67 ?_
      refine lv_topi (fun v_15 e_15 => ?_)
      obtain rfl : v_15 = (nI (38 * ma)) := (e_15).trans (pk_mul 38 ma)
      refine lv_iload_n hx hb dX8_note_68 rfl (lv_at hl 0 rfl) ?_
      refine lv_iadd hx hb dX8_note_69 ?_
      refine lv_topi (fun v_16 e_16 => ?_)
      obtain rfl : v_16 = (nI ((38 * ma) + ii)) := (e_16).trans (nI_add (38 * ma) ii)
      refine lv_aload_n hx hb dX8_note_70 rfl (lv_at hl 1 rfl) ?_
      refine va_get (D := (dC, dI)) (ci := 8) (v := .ref m_st) (C := RX8) (T := TX8) (N := 24) hx hb hts i_X8_note_X8 hown hK hP 0 rfl rfl 5 (by decide) (hts _ mx_X8_note_3) (fun _ h9 => h9) rfl dX8_note_71 ?_
      refine lv_iload_n hx hb dX8_note_74 rfl (lv_at hl 0 rfl) ?_
      refine va_iald hx hb hK hP 1 0 rfl rfl (vp_in_nI (by omega) (by omega)) dX8_note_75 ?_
      refine lv_topi (fun v_17 e_17 => ?_)
      refine va_iast hx hb hK hP hD hS 2 0 rfl rfl (vp_in_nI (by omega) (by omega)) dX8_note_76 (fun H locs hP hD hS => ?_)
      generalize hg_18 : upd w_7 ((nI ((38 * ma) + ii)) : Int32).toNatClampNeg v_17 = g_18 at hP hD
      have hP : va_P (dC, dI) vwCl [(xo_8_rrriirrriiiiiiirrirrrrri mo m_la m_sz m_it ms mt m_st m_mv m_tp (nI mz) ml (nI mp) mk mv mb mw m_rd m_ac (nI ma) m_as m_wo m_ik m_ke m_tr (nI mx)), (xI m_st cI 38 fs), (xI m_ac cI 912 g_18)] H := hP
      have hD := dto hP hD
      refine lv_iinc (v := (nI (ii + 1))) (lv' := [(1, .int (nI (ii + 1))), (0, .ref mo)]) hx hb dX8_note_77 hl (k := 0) rfl (nI_add ii 1) (by decide) rfl (fun ls hl => ?_)
      refine lv_goto (tgt := 51) hx hb dX8_note_80 (by decide) ?_
      exact ih (g_18) _ _ _ ⟨lv_sub hl [0, 1] rfl, hP.sub (ws' := [(xo_8_rrriirrriiiiiiirrirrrrri mo m_la m_sz m_it ms mt m_st m_mv m_tp (nI mz) ml (nI mp) mk mv mb mw m_rd m_ac (nI ma) m_as m_wo m_ik m_ke m_tr (nI mx)), (xI m_st cI 38 fs), (xI m_ac cI 912 g_18)]) [0, 1, 2] rfl, hD.sub (ws' := [(xo_8_rrriirrriiiiiiirrirrrrri mo m_la m_sz m_it ms mt m_st m_mv m_tp (nI mz) ml (nI mp) mk mv mb mw m_rd m_ac (nI ma) m_as m_wo m_ik m_ke m_tr (nI mx)), (xI m_st cI 38 fs), (xI m_ac cI 912 g_18)]) [0, 1, 2] (by decide +kernel) rfl, hS, (cp_d (a := 38 * ma) haf_0 (by omega) e_17 hg_18), (cp_do (a := 38 * ma) (n := 38) haf_1 (by omega) (by omega) hg_18)⟩
    · rintro w_7 H locs ls ⟨hl, hP, hD, hS, haf_0, haf_1⟩
      refine lv_iload_n hx hb dX8_note_51 rfl (lv_at hl 0 rfl) ?_
      refine lv_bipush (v := 38) hx hb dX8_note_52 (by decide) ?_
      refine lv_icmp_ge (tgt := 83) hx hb dX8_note_54 (by decide) (fun _ => ?_) (fun c_ => absurd ((nI_leI (a := 38) (b := 38) (by omega) (by omega)).mpr (by omega)) c_)
      have hpu := okA_push (n := ma) hac hKs haf_0 haf_1
      refine lv_aload_n hx hb dX8_note_83 rfl (lv_at hl 1 rfl) ?_
      refine lv_dup hx hb dX8_note_84 rfl ?_
      refine va_get (D := (dC, dI)) (ci := 8) (v := .int (nI ma)) (C := RX8) (T := TX8) (N := 24) hx hb hts i_X8_note_X8 hown hK hP 0 rfl rfl 17 (by decide) (hts _ mx_X8_note_1) (fun _ h9 => h9) rfl dX8_note_85 ?_
      refine lv_iconst (v := 1) hx hb dX8_note_88 (by decide) ?_
      refine lv_iadd hx hb dX8_note_89 ?_
      refine lv_topi (fun v_20 e_20 => ?_)
      obtain rfl : v_20 = (nI (ma + 1)) := (e_20).trans (nI_add ma 1)
      refine va_put (D := (dC, dI)) (ci := 8) (v := .int (nI (ma + 1))) (ty := .int) (C := RX8) (T := TX8) (N := 24) hx hb hts i_X8_note_X8 tyX8 tyX8_ok nmX8 hown hK hP hD hS 0 rfl rfl 17 (by decide) (hts _ mx_X8_note_1) (fun _ h9 => h9) rfl (by decide +kernel) rfl rfl (Nat.le_of_ble_eq_true rfl) dX8_note_90 (fun H locs hP hD hS => ?_)
      have hP : va_P (dC, dI) vwCl [(xo_8_rrriirrriiiiiiirrirrrrri mo m_la m_sz m_it ms mt m_st m_mv m_tp (nI mz) ml (nI mp) mk mv mb mw m_rd m_ac (nI (ma + 1)) m_as m_wo m_ik m_ke m_tr (nI mx)), (xI m_st cI 38 fs), (xI m_ac cI 912 w_7)] H := hP
      have hD := dto hP hD
      have hX9 := cut2 (wc := [(xo_8_rrriirrriiiiiiirrirrrrri mo m_la m_sz m_it ms mt m_st m_mv m_tp (nI mz) ml (nI mp) mk mv mb mw m_rd m_ac (nI (ma + 1)) m_as m_wo m_ik m_ke m_tr (nI mx)), (xI m_st cI 38 fs), (xI m_ac cI 912 w_7)]) hP hD [0, 1, 2] (by decide +kernel) rfl
      exact W.vret hx hb hr (fun t ht hW => ⟨⟨(), rfl, trivial, ⟨w_7, (ma + 1), va_Ht ht hX9.1, hX9.2, hpu, (by omega), (by omega), (acM_push (by omega) haf_0 haf_1), (by unfold ntN; split <;> omega)⟩⟩, hS.F ht⟩) hS.2.2 dX8_note_93
  · have c_1 : ma = 24 := (nI_eq (a := ma) (b := 24) (by omega) (by omega)).mp c_1
    have e24_ : ma = 24 := by omega
    have hac24 : okA fc 24 := e24_ ▸ hac
    refine lv_iconst (v := 0) hx hb dX8_note_9 (by decide) ?_
    refine lv_istore_n (lv' := [(1, .int 0), (0, .ref mo)]) hx hb dX8_note_10 rfl hl (by decide) rfl (fun ls hl => ?_)
    refine lp_go (σ := (Nat → Int32)) (fun ii (st : (Nat → Int32)) H locs ls => match st with | w_25 => lv_has ls 2 [(1, .int (nI ii)), (0, .ref mo)] ∧ va_P (dC, dI) vwCl [(xo_8_rrriirrriiiiiiirrirrrrri mo m_la m_sz m_it ms mt m_st m_mv m_tp (nI mz) ml (nI mp) mk mv mb mw m_rd m_ac (nI ma) m_as m_wo m_ik m_ke m_tr (nI mx)), (xI m_st cI 38 fs), (xI m_ac cI 912 w_25)] H ∧ va_D A [(xo_8_rrriirrriiiiiiirrirrrrri mo m_la m_sz m_it ms mt m_st m_mv m_tp (nI mz) ml (nI mp) mk mv mb mw m_rd m_ac (nI ma) m_as m_wo m_ik m_ke m_tr (nI mx)), (xI m_st cI 38 fs), (xI m_ac cI 912 w_25)] ∧ va_S A s.heap H locs ∧ ((∀ j : Nat, j < ii → w_25 j = fc (j + 38)) ∧ ∀ j : Nat, ii ≤ j → w_25 j = fc j)) 874 ?_ ?_ 0 (by omega) (fc) ⟨lv_sub hl [0, 1] rfl, hP.sub (ws' := [(xo_8_rrriirrriiiiiiirrirrrrri mo m_la m_sz m_it ms mt m_st m_mv m_tp (nI mz) ml (nI mp) mk mv mb mw m_rd m_ac (nI ma) m_as m_wo m_ik m_ke m_tr (nI mx)), (xI m_st cI 38 fs), (xI m_ac cI 912 fc)]) [0, 1, 2] rfl, hD.sub (ws' := [(xo_8_rrriirrriiiiiiirrirrrrri mo m_la m_sz m_it ms mt m_st m_mv m_tp (nI mz) ml (nI mp) mk mv mb mw m_rd m_ac (nI ma) m_as m_wo m_ik m_ke m_tr (nI mx)), (xI m_st cI 38 fs), (xI m_ac cI 912 fc)]) [0, 1, 2] (by decide +kernel) rfl, hS, ⟨fun j h_ => absurd h_ (Nat.not_lt_zero j), fun j _ => rfl⟩⟩
    · rintro ii w_25 H locs ls hii ⟨hl, hP, hD, hS, haf_0⟩ ih
      refine lv_iload_n hx hb dX8_note_11 rfl (lv_at hl 0 rfl) ?_
      refine lv_sipush (v := 874) hx hb dX8_note_12 (by decide) ?_
      refine lv_icmp_ge (tgt := 39) hx hb dX8_note_15 (by decide) (fun c_ => absurd c_ (fun q_ => absurd ((nI_leI (a := 874) (b := ii) (by omega) (by omega)).mp q_) (by omega))) (fun _ => ?_)
      refine lv_aload_n hx hb dX8_note_18 rfl (lv_at hl 1 rfl) ?_
      refine va_get (D := (dC, dI)) (ci := 8) (v := .ref m_ac) (C := RX8) (T := TX8) (N := 24) hx hb hts i_X8_note_X8 hown hK hP 0 rfl rfl 16 (by decide) (hts _ mx_X8_note_2) (fun _ h9 => h9) rfl dX8_note_19 ?_
      refine lv_iload_n hx hb dX8_note_22 rfl (lv_at hl 0 rfl) ?_
      refine lv_aload_n hx hb dX8_note_23 rfl (lv_at hl 1 rfl) ?_
      refine va_get (D := (dC, dI)) (ci := 8) (v := .ref m_ac) (C := RX8) (T := TX8) (N := 24) hx hb hts i_X8_note_X8 hown hK hP 0 rfl rfl 16 (by decide) (hts _ mx_X8_note_2) (fun _ h9 => h9) rfl dX8_note_24 ?_
      refine lv_iload_n hx hb dX8_note_27 rfl (lv_at hl 0 rfl) ?_
      refine lv_bipush (v := 38) hx hb dX8_note_28 (by decide) ?_
      refine lv_iadd hx hb dX8_note_30 ?_
      refine lv_topi (fun v_32 e_32 => ?_)
      obtain rfl : v_32 = (nI (ii + 38)) := (e_32).trans (nI_add ii 38)
      refine va_iald hx hb hK hP 2 0 rfl rfl (vp_in_nI (by omega) (by omega)) dX8_note_31 ?_
      refine lv_topi (fun v_33 e_33 => ?_)
      refine va_iast hx hb hK hP hD hS 2 0 rfl rfl (vp_in_nI (by omega) (by omega)) dX8_note_32 (fun H locs hP hD hS => ?_)
      generalize hg_34 : upd w_25 ((nI ii) : Int32).toNatClampNeg v_33 = g_34 at hP hD
      have hP : va_P (dC, dI) vwCl [(xo_8_rrriirrriiiiiiirrirrrrri mo m_la m_sz m_it ms mt m_st m_mv m_tp (nI mz) ml (nI mp) mk mv mb mw m_rd m_ac (nI ma) m_as m_wo m_ik m_ke m_tr (nI mx)), (xI m_st cI 38 fs), (xI m_ac cI 912 g_34)] H := hP
      have hD := dto hP hD
      refine lv_iinc (v := (nI (ii + 1))) (lv' := [(1, .int (nI (ii + 1))), (0, .ref mo)]) hx hb dX8_note_33 hl (k := 0) rfl (nI_add ii 1) (by decide) rfl (fun ls hl => ?_)
      refine lv_goto (tgt := 11) hx hb dX8_note_36 (by decide) ?_
      exact ih (g_34) _ _ _ ⟨lv_sub hl [0, 1] rfl, hP.sub (ws' := [(xo_8_rrriirrriiiiiiirrirrrrri mo m_la m_sz m_it ms mt m_st m_mv m_tp (nI mz) ml (nI mp) mk mv mb mw m_rd m_ac (nI ma) m_as m_wo m_ik m_ke m_tr (nI mx)), (xI m_st cI 38 fs), (xI m_ac cI 912 g_34)]) [0, 1, 2] rfl, hD.sub (ws' := [(xo_8_rrriirrriiiiiiirrirrrrri mo m_la m_sz m_it ms mt m_st m_mv m_tp (nI mz) ml (nI mp) mk mv mb mw m_rd m_ac (nI ma) m_as m_wo m_ik m_ke m_tr (nI mx)), (xI m_st cI 38 fs), (xI m_ac cI 912 g_34)]) [0, 1, 2] (by decide +kernel) rfl, hS, (cp_sh haf_0 (by omega) e_33 hg_34)⟩
    · rintro w_25 H locs ls ⟨hl, hP, hD, hS, haf_0⟩
      refine lv_iload_n hx hb dX8_note_11 rfl (lv_at hl 0 rfl) ?_
      refine lv_sipush (v := 874) hx hb dX8_note_12 (by decide) ?_
      refine lv_icmp_ge (tgt := 39) hx hb dX8_note_15 (by decide) (fun _ => ?_) (fun c_ => absurd ((nI_leI (a := 874) (b := 874) (by omega) (by omega)).mpr (by omega)) c_)
      have hsh := okA_sh hac24 haf_0 (by assumption)
      have haf_s := haf_0
      refine lv_aload_n hx hb dX8_note_39 rfl (lv_at hl 1 rfl) ?_
      refine lv_dup hx hb dX8_note_40 rfl ?_
      refine va_get (D := (dC, dI)) (ci := 8) (v := .int (nI ma)) (C := RX8) (T := TX8) (N := 24) hx hb hts i_X8_note_X8 hown hK hP 0 rfl rfl 17 (by decide) (hts _ mx_X8_note_1) (fun _ h9 => h9) rfl dX8_note_41 ?_
      refine lv_iconst (v := 1) hx hb dX8_note_44 (by decide) ?_
      refine lv_isub hx hb dX8_note_45 ?_
      refine lv_topi (fun v_36 e_36 => ?_)
      obtain rfl : v_36 = (nI (ma - 1)) := (e_36).trans (pk_sub (a := ma) (b := 1) (by omega))
      refine va_put (D := (dC, dI)) (ci := 8) (v := .int (nI (ma - 1))) (ty := .int) (C := RX8) (T := TX8) (N := 24) hx hb hts i_X8_note_X8 tyX8 tyX8_ok nmX8 hown hK hP hD hS 0 rfl rfl 17 (by decide) (hts _ mx_X8_note_1) (fun _ h9 => h9) rfl (by decide +kernel) rfl rfl (Nat.le_of_ble_eq_true rfl) dX8_note_46 (fun H locs hP hD hS => ?_)
      have hP : va_P (dC, dI) vwCl [(xo_8_rrriirrriiiiiiirrirrrrri mo m_la m_sz m_it ms mt m_st m_mv m_tp (nI mz) ml (nI mp) mk mv mb mw m_rd m_ac (nI (ma - 1)) m_as m_wo m_ik m_ke m_tr (nI mx)), (xI m_st cI 38 fs), (xI m_ac cI 912 w_25)] H := hP
      have hD := dto hP hD
      refine lv_iconst (v := 0) hx hb dX8_note_49 (by decide) ?_
      refine lv_istore_n (lv' := [(1, .int 0), (0, .ref mo)]) hx hb dX8_note_50 rfl hl (by decide) rfl (fun ls hl => ?_)
      refine lp_go (σ := (Nat → Int32)) (fun ii (st : (Nat → Int32)) H locs ls => match st with | w_42 => lv_has ls 2 [(1, .int (nI ii)), (0, .ref mo)] ∧ va_P (dC, dI) vwCl [(xo_8_rrriirrriiiiiiirrirrrrri mo m_la m_sz m_it ms mt m_st m_mv m_tp (nI mz) ml (nI mp) mk mv mb mw m_rd m_ac (nI (ma - 1)) m_as m_wo m_ik m_ke m_tr (nI mx)), (xI m_st cI 38 fs), (xI m_ac cI 912 w_42)] H ∧ va_D A [(xo_8_rrriirrriiiiiiirrirrrrri mo m_la m_sz m_it ms mt m_st m_mv m_tp (nI mz) ml (nI mp) mk mv mb mw m_rd m_ac (nI (ma - 1)) m_as m_wo m_ik m_ke m_tr (nI mx)), (xI m_st cI 38 fs), (xI m_ac cI 912 w_42)] ∧ va_S A s.heap H locs ∧ (∀ j : Nat, j < ii → w_42 (38 * (ma - 1) + j) = fs j) ∧ (∀ j : Nat, j < 38 * (ma - 1) ∨ 38 * (ma - 1) + 38 ≤ j → w_42 j = w_25 j)) 38 ?_ ?_ 0 (by omega) (w_25) ⟨lv_sub hl [0, 1] rfl, hP.sub (ws' := [(xo_8_rrriirrriiiiiiirrirrrrri mo m_la m_sz m_it ms mt m_st m_mv m_tp (nI mz) ml (nI mp) mk mv mb mw m_rd m_ac (nI (ma - 1)) m_as m_wo m_ik m_ke m_tr (nI mx)), (xI m_st cI 38 fs), (xI m_ac cI 912 w_25)]) [0, 1, 2] rfl, hD.sub (ws' := [(xo_8_rrriirrriiiiiiirrirrrrri mo m_la m_sz m_it ms mt m_st m_mv m_tp (nI mz) ml (nI mp) mk mv mb mw m_rd m_ac (nI (ma - 1)) m_as m_wo m_ik m_ke m_tr (nI mx)), (xI m_st cI 38 fs), (xI m_ac cI 912 w_25)]) [0, 1, 2] (by decide +kernel) rfl, hS, (fun j h_ => absurd h_ (Nat.not_lt_zero j)), (fun j _ => rfl)⟩
      · rintro ii w_42 H locs ls hii ⟨hl, hP, hD, hS, haf_0, haf_1⟩ ih
        refine lv_iload_n hx hb dX8_note_51 rfl (lv_at hl 0 rfl) ?_
        refine lv_bipush (v := 38) hx hb dX8_note_52 (by decide) ?_
        refine lv_icmp_ge (tgt := 83) hx hb dX8_note_54 (by decide) (fun c_ => absurd c_ (fun q_ => absurd ((nI_leI (a := 38) (b := ii) (by omega) (by omega)).mp q_) (by omega))) (fun _ => ?_)
        refine lv_aload_n hx hb dX8_note_57 rfl (lv_at hl 1 rfl) ?_
        refine va_get (D := (dC, dI)) (ci := 8) (v := .ref m_ac) (C := RX8) (T := TX8) (N := 24) hx hb hts i_X8_note_X8 hown hK hP 0 rfl rfl 16 (by decide) (hts _ mx_X8_note_2) (fun _ h9 => h9) rfl dX8_note_58 ?_
        refine lv_bipush (v := 38) hx hb dX8_note_61 (by decide) ?_
        refine lv_aload_n hx hb dX8_note_63 rfl (lv_at hl 1 rfl) ?_
        refine va_get (D := (dC, dI)) (ci := 8) (v := .int (nI (ma - 1))) (C := RX8) (T := TX8) (N := 24) hx hb hts i_X8_note_X8 hown hK hP 0 rfl rfl 17 (by decide) (hts _ mx_X8_note_1) (fun _ h9 => h9) rfl dX8_note_64 ?_
        refine lv_imul hx hb dX8_note_67 ?_
        refine lv_topi (fun v_50 e_50 => ?_)
        obtain rfl : v_50 = (nI (38 * (ma - 1))) := (e_50).trans (pk_mul 38 (ma - 1))
        refine lv_iload_n hx hb dX8_note_68 rfl (lv_at hl 0 rfl) ?_
        refine lv_iadd hx hb dX8_note_69 ?_
        refine lv_topi (fun v_51 e_51 => ?_)
        obtain rfl : v_51 = (nI ((38 * (ma - 1)) + ii)) := (e_51).trans (nI_add (38 * (ma - 1)) ii)
        refine lv_aload_n hx hb dX8_note_70 rfl (lv_at hl 1 rfl) ?_
        refine va_get (D := (dC, dI)) (ci := 8) (v := .ref m_st) (C := RX8) (T := TX8) (N := 24) hx hb hts i_X8_note_X8 hown hK hP 0 rfl rfl 5 (by decide) (hts _ mx_X8_note_3) (fun _ h9 => h9) rfl dX8_note_71 ?_
        refine lv_iload_n hx hb dX8_note_74 rfl (lv_at hl 0 rfl) ?_
        refine va_iald hx hb hK hP 1 0 rfl rfl (vp_in_nI (by omega) (by omega)) dX8_note_75 ?_
        refine lv_topi (fun v_52 e_52 => ?_)
        refine va_iast hx hb hK hP hD hS 2 0 rfl rfl (vp_in_nI (by omega) (by omega)) dX8_note_76 (fun H locs hP hD hS => ?_)
        generalize hg_53 : upd w_42 ((nI ((38 * (ma - 1)) + ii)) : Int32).toNatClampNeg v_52 = g_53 at hP hD
        have hP : va_P (dC, dI) vwCl [(xo_8_rrriirrriiiiiiirrirrrrri mo m_la m_sz m_it ms mt m_st m_mv m_tp (nI mz) ml (nI mp) mk mv mb mw m_rd m_ac (nI (ma - 1)) m_as m_wo m_ik m_ke m_tr (nI mx)), (xI m_st cI 38 fs), (xI m_ac cI 912 g_53)] H := hP
        have hD := dto hP hD
        refine lv_iinc (v := (nI (ii + 1))) (lv' := [(1, .int (nI (ii + 1))), (0, .ref mo)]) hx hb dX8_note_77 hl (k := 0) rfl (nI_add ii 1) (by decide) rfl (fun ls hl => ?_)
        refine lv_goto (tgt := 51) hx hb dX8_note_80 (by decide) ?_
        exact ih (g_53) _ _ _ ⟨lv_sub hl [0, 1] rfl, hP.sub (ws' := [(xo_8_rrriirrriiiiiiirrirrrrri mo m_la m_sz m_it ms mt m_st m_mv m_tp (nI mz) ml (nI mp) mk mv mb mw m_rd m_ac (nI (ma - 1)) m_as m_wo m_ik m_ke m_tr (nI mx)), (xI m_st cI 38 fs), (xI m_ac cI 912 g_53)]) [0, 1, 2] rfl, hD.sub (ws' := [(xo_8_rrriirrriiiiiiirrirrrrri mo m_la m_sz m_it ms mt m_st m_mv m_tp (nI mz) ml (nI mp) mk mv mb mw m_rd m_ac (nI (ma - 1)) m_as m_wo m_ik m_ke m_tr (nI mx)), (xI m_st cI 38 fs), (xI m_ac cI 912 g_53)]) [0, 1, 2] (by decide +kernel) rfl, hS, (cp_d (a := 38 * (ma - 1)) haf_0 (by omega) e_52 hg_53), (cp_do (a := 38 * (ma - 1)) (n := 38) haf_1 (by omega) (by omega) hg_53)⟩
      · rintro w_42 H locs ls ⟨hl, hP, hD, hS, haf_0, haf_1⟩
        refine lv_iload_n hx hb dX8_note_51 rfl (lv_at hl 0 rfl) ?_
        refine lv_bipush (v := 38) hx hb dX8_note_52 (by decide) ?_
        refine lv_icmp_ge (tgt := 83) hx hb dX8_note_54 (by decide) (fun _ => ?_) (fun c_ => absurd ((nI_leI (a := 38) (b := 38) (by omega) (by omega)).mpr (by omega)) c_)
        have hpu := okA_push (n := (ma - 1)) hsh hKs haf_0 haf_1
        refine lv_aload_n hx hb dX8_note_83 rfl (lv_at hl 1 rfl) ?_
        refine lv_dup hx hb dX8_note_84 rfl ?_
        refine va_get (D := (dC, dI)) (ci := 8) (v := .int (nI (ma - 1))) (C := RX8) (T := TX8) (N := 24) hx hb hts i_X8_note_X8 hown hK hP 0 rfl rfl 17 (by decide) (hts _ mx_X8_note_1) (fun _ h9 => h9) rfl dX8_note_85 ?_
        refine lv_iconst (v := 1) hx hb dX8_note_88 (by decide) ?_
        refine lv_iadd hx hb dX8_note_89 ?_
        refine lv_topi (fun v_55 e_55 => ?_)
        obtain rfl : v_55 = (nI ((ma - 1) + 1)) := (e_55).trans (nI_add (ma - 1) 1)
        refine va_put (D := (dC, dI)) (ci := 8) (v := .int (nI ((ma - 1) + 1))) (ty := .int) (C := RX8) (T := TX8) (N := 24) hx hb hts i_X8_note_X8 tyX8 tyX8_ok nmX8 hown hK hP hD hS 0 rfl rfl 17 (by decide) (hts _ mx_X8_note_1) (fun _ h9 => h9) rfl (by decide +kernel) rfl rfl (Nat.le_of_ble_eq_true rfl) dX8_note_90 (fun H locs hP hD hS => ?_)
        have hP : va_P (dC, dI) vwCl [(xo_8_rrriirrriiiiiiirrirrrrri mo m_la m_sz m_it ms mt m_st m_mv m_tp (nI mz) ml (nI mp) mk mv mb mw m_rd m_ac (nI ((ma - 1) + 1)) m_as m_wo m_ik m_ke m_tr (nI mx)), (xI m_st cI 38 fs), (xI m_ac cI 912 w_42)] H := hP
        have hD := dto hP hD
        have hX9 := cut2 (wc := [(xo_8_rrriirrriiiiiiirrirrrrri mo m_la m_sz m_it ms mt m_st m_mv m_tp (nI mz) ml (nI mp) mk mv mb mw m_rd m_ac (nI ((ma - 1) + 1)) m_as m_wo m_ik m_ke m_tr (nI mx)), (xI m_st cI 38 fs), (xI m_ac cI 912 w_42)]) hP hD [0, 1, 2] (by decide +kernel) rfl
        exact W.vret hx hb hr (fun t ht hW => ⟨⟨(), rfl, trivial, ⟨w_42, ((ma - 1) + 1), va_Ht ht hX9.1, hX9.2, hpu, (by omega), (by omega), (by subst e24_; exact acM_shift haf_s haf_0 haf_1), (by unfold ntN; split <;> omega)⟩⟩, hS.F ht⟩) hS.2.2 dX8_note_93
theorem lf_X8_cap_1 {mt : Int32} {ma : Nat} {fs : Nat → Int32} {w9 : Nat} {k9 : Nat} {h9 : Nat} {fc : Nat → Int32} {fcn_2 : Nat → Int32} {man_2 : Nat} {v_3 : Int32} {v_4 : Int32} {g_5 : Nat → Int32} {v_6 : Int32} (hM : okM fs w9 k9 h9) (hT : ¬ mt = 0 → 1 ≤ k9) (h999 : h9 ≤ 999) (hT0 : mt = 0 → fs 0 = 0 ∧ ma = 0) (hac : okA fc ma) (hma : ma ≤ 24) (c_1 : ¬ (mt = 0)) (hkn1 : 1 ≤ k9) (hw1 : 1 ≤ w9) (h01 : ¬ fs 0 = 0) (hF_2_0 : okA fcn_2 man_2) (hF_2_1 : man_2 ≤ 24) (hF_2_2 : 1 ≤ man_2) (hF_2_3 : acM fcn_2 man_2 = ntA (m38 fs) ma (acM fc ma)) (hF_2_4 : man_2 = ntN ma) (e_3 : v_3 = fs 6) (e_4 : v_4 = (1 - v_3)) (hu_5 : g_5 = upd fs 6 v_4) (e_6 : v_6 = g_5 6) : (mt = 0 → g_5 0 = 0 ∧ man_2 = 0) := by
  have hw6 := hM.2.2.2.1
  have hk6 := hM.2.2.2.2.1
  first
  | exact hT0
  | (intro h_; exact absurd (hT0 h_).1 h01)
  | (intro h_; have h9 := (hT0 h_).2; omega)
  | exact (capM_n (ma := ma) (A := acM fc ma) h00).1
  | exact (capM_n (ma := ma) (A := acM fc ma) h00).2.1
  | exact (capM_n (ma := ma) (A := acM fc ma) h00).2.2.1
  | exact (capM_n (ma := ma) (A := acM fc ma) h00).2.2.2
  | exact (capM_d h01 (by assumption) (by assumption) (by assumption) (by assumption) (by assumption) (by assumption)).1
  | exact (capM_d h01 (by assumption) (by assumption) (by assumption) (by assumption) (by assumption) (by assumption)).2.1
  | exact (capM_d h01 (by assumption) (by assumption) (by assumption) (by assumption) (by assumption) (by assumption)).2.2.1
  | exact (capM_d h01 (by assumption) (by assumption) (by assumption) (by assumption) (by assumption) (by assumption)).2.2.2
theorem lf_X8_cap_2 {mt : Int32} {ma : Nat} {fs : Nat → Int32} {w9 : Nat} {k9 : Nat} {h9 : Nat} {fc : Nat → Int32} {fcn_2 : Nat → Int32} {man_2 : Nat} {v_3 : Int32} {v_4 : Int32} {g_5 : Nat → Int32} {v_6 : Int32} (hM : okM fs w9 k9 h9) (hT : ¬ mt = 0 → 1 ≤ k9) (h999 : h9 ≤ 999) (hT0 : mt = 0 → fs 0 = 0 ∧ ma = 0) (hac : okA fc ma) (hma : ma ≤ 24) (c_1 : ¬ (mt = 0)) (hkn1 : 1 ≤ k9) (hw1 : 1 ≤ w9) (h01 : ¬ fs 0 = 0) (hF_2_0 : okA fcn_2 man_2) (hF_2_1 : man_2 ≤ 24) (hF_2_2 : 1 ≤ man_2) (hF_2_3 : acM fcn_2 man_2 = ntA (m38 fs) ma (acM fc ma)) (hF_2_4 : man_2 = ntN ma) (e_3 : v_3 = fs 6) (e_4 : v_4 = (1 - v_3)) (hu_5 : g_5 = upd fs 6 v_4) (e_6 : v_6 = g_5 6) : m38 g_5 = n_cap (m38 fs) := by
  have hw6 := hM.2.2.2.1
  have hk6 := hM.2.2.2.2.1
  first
  | exact hT0
  | (intro h_; exact absurd (hT0 h_).1 h01)
  | (intro h_; have h9 := (hT0 h_).2; omega)
  | exact (capM_n (ma := ma) (A := acM fc ma) h00).1
  | exact (capM_n (ma := ma) (A := acM fc ma) h00).2.1
  | exact (capM_n (ma := ma) (A := acM fc ma) h00).2.2.1
  | exact (capM_n (ma := ma) (A := acM fc ma) h00).2.2.2
  | exact (capM_d h01 (by assumption) (by assumption) (by assumption) (by assumption) (by assumption) (by assumption)).1
  | exact (capM_d h01 (by assumption) (by assumption) (by assumption) (by assumption) (by assumption) (by assumption)).2.1
  | exact (capM_d h01 (by assumption) (by assumption) (by assumption) (by assumption) (by assumption) (by assumption)).2.2.1
  | exact (capM_d h01 (by assumption) (by assumption) (by assumption) (by assumption) (by assumption) (by assumption)).2.2.2
theorem lf_X8_cap_3 {mt : Int32} {ma : Nat} {fs : Nat → Int32} {w9 : Nat} {k9 : Nat} {h9 : Nat} {fc : Nat → Int32} {fcn_2 : Nat → Int32} {man_2 : Nat} {v_3 : Int32} {v_4 : Int32} {g_5 : Nat → Int32} {v_6 : Int32} (hM : okM fs w9 k9 h9) (hT : ¬ mt = 0 → 1 ≤ k9) (h999 : h9 ≤ 999) (hT0 : mt = 0 → fs 0 = 0 ∧ ma = 0) (hac : okA fc ma) (hma : ma ≤ 24) (c_1 : ¬ (mt = 0)) (hkn1 : 1 ≤ k9) (hw1 : 1 ≤ w9) (h01 : ¬ fs 0 = 0) (hF_2_0 : okA fcn_2 man_2) (hF_2_1 : man_2 ≤ 24) (hF_2_2 : 1 ≤ man_2) (hF_2_3 : acM fcn_2 man_2 = ntA (m38 fs) ma (acM fc ma)) (hF_2_4 : man_2 = ntN ma) (e_3 : v_3 = fs 6) (e_4 : v_4 = (1 - v_3)) (hu_5 : g_5 = upd fs 6 v_4) (e_6 : v_6 = g_5 6) : man_2 = kpN (gd_cap (m38 fs)) ma := by
  have hw6 := hM.2.2.2.1
  have hk6 := hM.2.2.2.2.1
  first
  | exact hT0
  | (intro h_; exact absurd (hT0 h_).1 h01)
  | (intro h_; have h9 := (hT0 h_).2; omega)
  | exact (capM_n (ma := ma) (A := acM fc ma) h00).1
  | exact (capM_n (ma := ma) (A := acM fc ma) h00).2.1
  | exact (capM_n (ma := ma) (A := acM fc ma) h00).2.2.1
  | exact (capM_n (ma := ma) (A := acM fc ma) h00).2.2.2
  | exact (capM_d h01 (by assumption) (by assumption) (by assumption) (by assumption) (by assumption) (by assumption)).1
  | exact (capM_d h01 (by assumption) (by assumption) (by assumption) (by assumption) (by assumption) (by assumption)).2.1
  | exact (capM_d h01 (by assumption) (by assumption) (by assumption) (by assumption) (by assumption) (by assumption)).2.2.1
  | exact (capM_d h01 (by assumption) (by assumption) (by assumption) (by assumption) (by assumption) (by assumption)).2.2.2
theorem lf_X8_cap_4 {mt : Int32} {ma : Nat} {fs : Nat → Int32} {w9 : Nat} {k9 : Nat} {h9 : Nat} {fc : Nat → Int32} {fcn_2 : Nat → Int32} {man_2 : Nat} {v_3 : Int32} {v_4 : Int32} {g_5 : Nat → Int32} {v_6 : Int32} (hM : okM fs w9 k9 h9) (hT : ¬ mt = 0 → 1 ≤ k9) (h999 : h9 ≤ 999) (hT0 : mt = 0 → fs 0 = 0 ∧ ma = 0) (hac : okA fc ma) (hma : ma ≤ 24) (c_1 : ¬ (mt = 0)) (hkn1 : 1 ≤ k9) (hw1 : 1 ≤ w9) (h01 : ¬ fs 0 = 0) (hF_2_0 : okA fcn_2 man_2) (hF_2_1 : man_2 ≤ 24) (hF_2_2 : 1 ≤ man_2) (hF_2_3 : acM fcn_2 man_2 = ntA (m38 fs) ma (acM fc ma)) (hF_2_4 : man_2 = ntN ma) (e_3 : v_3 = fs 6) (e_4 : v_4 = (1 - v_3)) (hu_5 : g_5 = upd fs 6 v_4) (e_6 : v_6 = g_5 6) : acM fcn_2 man_2 = kpA (gd_cap (m38 fs)) (m38 fs) ma (acM fc ma) := by
  have hw6 := hM.2.2.2.1
  have hk6 := hM.2.2.2.2.1
  first
  | exact hT0
  | (intro h_; exact absurd (hT0 h_).1 h01)
  | (intro h_; have h9 := (hT0 h_).2; omega)
  | exact (capM_n (ma := ma) (A := acM fc ma) h00).1
  | exact (capM_n (ma := ma) (A := acM fc ma) h00).2.1
  | exact (capM_n (ma := ma) (A := acM fc ma) h00).2.2.1
  | exact (capM_n (ma := ma) (A := acM fc ma) h00).2.2.2
  | exact (capM_d h01 (by assumption) (by assumption) (by assumption) (by assumption) (by assumption) (by assumption)).1
  | exact (capM_d h01 (by assumption) (by assumption) (by assumption) (by assumption) (by assumption) (by assumption)).2.1
  | exact (capM_d h01 (by assumption) (by assumption) (by assumption) (by assumption) (by assumption) (by assumption)).2.2.1
  | exact (capM_d h01 (by assumption) (by assumption) (by assumption) (by assumption) (by assumption) (by assumption)).2.2.2
theorem lf_X8_cap_5 {mt : Int32} {ma : Nat} {fs : Nat → Int32} {w9 : Nat} {k9 : Nat} {h9 : Nat} {fc : Nat → Int32} {fcn_2 : Nat → Int32} {man_2 : Nat} {v_3 : Int32} {v_4 : Int32} {g_5 : Nat → Int32} {v_6 : Int32} (hM : okM fs w9 k9 h9) (hT : ¬ mt = 0 → 1 ≤ k9) (h999 : h9 ≤ 999) (hT0 : mt = 0 → fs 0 = 0 ∧ ma = 0) (hac : okA fc ma) (hma : ma ≤ 24) (c_1 : ¬ (mt = 0)) (hkn1 : 1 ≤ k9) (hw1 : 1 ≤ w9) (h01 : ¬ fs 0 = 0) (hF_2_0 : okA fcn_2 man_2) (hF_2_1 : man_2 ≤ 24) (hF_2_2 : 1 ≤ man_2) (hF_2_3 : acM fcn_2 man_2 = ntA (m38 fs) ma (acM fc ma)) (hF_2_4 : man_2 = ntN ma) (e_3 : v_3 = fs 6) (e_4 : v_4 = (1 - v_3)) (hu_5 : g_5 = upd fs 6 v_4) (e_6 : v_6 = g_5 6) : v_6 = (a_cap (m38 fs)) := by
  have hw6 := hM.2.2.2.1
  have hk6 := hM.2.2.2.2.1
  first
  | exact hT0
  | (intro h_; exact absurd (hT0 h_).1 h01)
  | (intro h_; have h9 := (hT0 h_).2; omega)
  | exact (capM_n (ma := ma) (A := acM fc ma) h00).1
  | exact (capM_n (ma := ma) (A := acM fc ma) h00).2.1
  | exact (capM_n (ma := ma) (A := acM fc ma) h00).2.2.1
  | exact (capM_n (ma := ma) (A := acM fc ma) h00).2.2.2
  | exact (capM_d h01 (by assumption) (by assumption) (by assumption) (by assumption) (by assumption) (by assumption)).1
  | exact (capM_d h01 (by assumption) (by assumption) (by assumption) (by assumption) (by assumption) (by assumption)).2.1
  | exact (capM_d h01 (by assumption) (by assumption) (by assumption) (by assumption) (by assumption) (by assumption)).2.2.1
  | exact (capM_d h01 (by assumption) (by assumption) (by assumption) (by assumption) (by assumption) (by assumption)).2.2.2
theorem lf_X8_cap_6 {mt : Int32} {ma : Nat} {fs : Nat → Int32} {w9 : Nat} {k9 : Nat} {h9 : Nat} {fc : Nat → Int32} (hM : okM fs w9 k9 h9) (hT : ¬ mt = 0 → 1 ≤ k9) (h999 : h9 ≤ 999) (hT0 : mt = 0 → fs 0 = 0 ∧ ma = 0) (hac : okA fc ma) (hma : ma ≤ 24) (c_1 : mt = 0) (h00 : fs 0 = 0) : (mt = 0 → fs 0 = 0 ∧ ma = 0) := by
  have hw6 := hM.2.2.2.1
  have hk6 := hM.2.2.2.2.1
  first
  | exact hT0
  | (intro h_; exact absurd (hT0 h_).1 h01)
  | (intro h_; have h9 := (hT0 h_).2; omega)
  | exact (capM_n (ma := ma) (A := acM fc ma) h00).1
  | exact (capM_n (ma := ma) (A := acM fc ma) h00).2.1
  | exact (capM_n (ma := ma) (A := acM fc ma) h00).2.2.1
  | exact (capM_n (ma := ma) (A := acM fc ma) h00).2.2.2
  | exact (capM_d h01 (by assumption) (by assumption) (by assumption) (by assumption) (by assumption) (by assumption)).1
  | exact (capM_d h01 (by assumption) (by assumption) (by assumption) (by assumption) (by assumption) (by assumption)).2.1
  | exact (capM_d h01 (by assumption) (by assumption) (by assumption) (by assumption) (by assumption) (by assumption)).2.2.1
  | exact (capM_d h01 (by assumption) (by assumption) (by assumption) (by assumption) (by assumption) (by assumption)).2.2.2
theorem lf_X8_cap_7 {mt : Int32} {ma : Nat} {fs : Nat → Int32} {w9 : Nat} {k9 : Nat} {h9 : Nat} {fc : Nat → Int32} (hM : okM fs w9 k9 h9) (hT : ¬ mt = 0 → 1 ≤ k9) (h999 : h9 ≤ 999) (hT0 : mt = 0 → fs 0 = 0 ∧ ma = 0) (hac : okA fc ma) (hma : ma ≤ 24) (c_1 : mt = 0) (h00 : fs 0 = 0) : m38 fs = n_cap (m38 fs) := by
  have hw6 := hM.2.2.2.1
  have hk6 := hM.2.2.2.2.1
  first
  | exact hT0
  | (intro h_; exact absurd (hT0 h_).1 h01)
  | (intro h_; have h9 := (hT0 h_).2; omega)
  | exact (capM_n (ma := ma) (A := acM fc ma) h00).1
  | exact (capM_n (ma := ma) (A := acM fc ma) h00).2.1
  | exact (capM_n (ma := ma) (A := acM fc ma) h00).2.2.1
  | exact (capM_n (ma := ma) (A := acM fc ma) h00).2.2.2
  | exact (capM_d h01 (by assumption) (by assumption) (by assumption) (by assumption) (by assumption) (by assumption)).1
  | exact (capM_d h01 (by assumption) (by assumption) (by assumption) (by assumption) (by assumption) (by assumption)).2.1
  | exact (capM_d h01 (by assumption) (by assumption) (by assumption) (by assumption) (by assumption) (by assumption)).2.2.1
  | exact (capM_d h01 (by assumption) (by assumption) (by assumption) (by assumption) (by assumption) (by assumption)).2.2.2
theorem lf_X8_cap_8 {mt : Int32} {ma : Nat} {fs : Nat → Int32} {w9 : Nat} {k9 : Nat} {h9 : Nat} {fc : Nat → Int32} (hM : okM fs w9 k9 h9) (hT : ¬ mt = 0 → 1 ≤ k9) (h999 : h9 ≤ 999) (hT0 : mt = 0 → fs 0 = 0 ∧ ma = 0) (hac : okA fc ma) (hma : ma ≤ 24) (c_1 : mt = 0) (h00 : fs 0 = 0) : ma = kpN (gd_cap (m38 fs)) ma := by
  have hw6 := hM.2.2.2.1
  have hk6 := hM.2.2.2.2.1
  first
  | exact hT0
  | (intro h_; exact absurd (hT0 h_).1 h01)
  | (intro h_; have h9 := (hT0 h_).2; omega)
  | exact (capM_n (ma := ma) (A := acM fc ma) h00).1
  | exact (capM_n (ma := ma) (A := acM fc ma) h00).2.1
  | exact (capM_n (ma := ma) (A := acM fc ma) h00).2.2.1
  | exact (capM_n (ma := ma) (A := acM fc ma) h00).2.2.2
  | exact (capM_d h01 (by assumption) (by assumption) (by assumption) (by assumption) (by assumption) (by assumption)).1
  | exact (capM_d h01 (by assumption) (by assumption) (by assumption) (by assumption) (by assumption) (by assumption)).2.1
  | exact (capM_d h01 (by assumption) (by assumption) (by assumption) (by assumption) (by assumption) (by assumption)).2.2.1
  | exact (capM_d h01 (by assumption) (by assumption) (by assumption) (by assumption) (by assumption) (by assumption)).2.2.2
theorem lf_X8_cap_9 {mt : Int32} {ma : Nat} {fs : Nat → Int32} {w9 : Nat} {k9 : Nat} {h9 : Nat} {fc : Nat → Int32} (hM : okM fs w9 k9 h9) (hT : ¬ mt = 0 → 1 ≤ k9) (h999 : h9 ≤ 999) (hT0 : mt = 0 → fs 0 = 0 ∧ ma = 0) (hac : okA fc ma) (hma : ma ≤ 24) (c_1 : mt = 0) (h00 : fs 0 = 0) : acM fc ma = kpA (gd_cap (m38 fs)) (m38 fs) ma (acM fc ma) := by
  have hw6 := hM.2.2.2.1
  have hk6 := hM.2.2.2.2.1
  first
  | exact hT0
  | (intro h_; exact absurd (hT0 h_).1 h01)
  | (intro h_; have h9 := (hT0 h_).2; omega)
  | exact (capM_n (ma := ma) (A := acM fc ma) h00).1
  | exact (capM_n (ma := ma) (A := acM fc ma) h00).2.1
  | exact (capM_n (ma := ma) (A := acM fc ma) h00).2.2.1
  | exact (capM_n (ma := ma) (A := acM fc ma) h00).2.2.2
  | exact (capM_d h01 (by assumption) (by assumption) (by assumption) (by assumption) (by assumption) (by assumption)).1
  | exact (capM_d h01 (by assumption) (by assumption) (by assumption) (by assumption) (by assumption) (by assumption)).2.1
  | exact (capM_d h01 (by assumption) (by assumption) (by assumption) (by assumption) (by assumption) (by assumption)).2.2.1
  | exact (capM_d h01 (by assumption) (by assumption) (by assumption) (by assumption) (by assumption) (by assumption)).2.2.2
theorem lf_X8_cap_10 {mt : Int32} {ma : Nat} {fs : Nat → Int32} {w9 : Nat} {k9 : Nat} {h9 : Nat} {fc : Nat → Int32} (hM : okM fs w9 k9 h9) (hT : ¬ mt = 0 → 1 ≤ k9) (h999 : h9 ≤ 999) (hT0 : mt = 0 → fs 0 = 0 ∧ ma = 0) (hac : okA fc ma) (hma : ma ≤ 24) (c_1 : mt = 0) (h00 : fs 0 = 0) : (-1000002) = (a_cap (m38 fs)) := by
  have hw6 := hM.2.2.2.1
  have hk6 := hM.2.2.2.2.1
  first
  | exact hT0
  | (intro h_; exact absurd (hT0 h_).1 h01)
  | (intro h_; have h9 := (hT0 h_).2; omega)
  | exact (capM_n (ma := ma) (A := acM fc ma) h00).1
  | exact (capM_n (ma := ma) (A := acM fc ma) h00).2.1
  | exact (capM_n (ma := ma) (A := acM fc ma) h00).2.2.1
  | exact (capM_n (ma := ma) (A := acM fc ma) h00).2.2.2
  | exact (capM_d h01 (by assumption) (by assumption) (by assumption) (by assumption) (by assumption) (by assumption)).1
  | exact (capM_d h01 (by assumption) (by assumption) (by assumption) (by assumption) (by assumption) (by assumption)).2.1
  | exact (capM_d h01 (by assumption) (by assumption) (by assumption) (by assumption) (by assumption) (by assumption)).2.2.1
  | exact (capM_d h01 (by assumption) (by assumption) (by assumption) (by assumption) (by assumption) (by assumption)).2.2.2
set_option maxHeartbeats 4000000 in
set_option maxRecDepth 100000 in
theorem r_X8_cap (l : Launch) (dC : Nat → ClassId) (dI : Nat → Nat → Nat) (cI cZ cL cJ : ClassId) (sz : Nat) (mo : Nat) (m_la : Nat) (m_sz : Nat) (m_it : Nat) (m_st : Nat) (m_mv : Nat) (m_tp : Nat) (m_rd : Nat) (m_ac : Nat) (m_as : Nat) (m_wo : Nat) (m_ik : Nat) (m_ke : Nat) (m_tr : Nat) (ms : Int32) (mt : Int32) (ml : Int32) (mk : Int32) (mv : Int32) (mb : Int32) (mw : Int32) (mz : Nat) (mp : Nat) (ma : Nat) (mx : Nat) (fs : Nat → Int32) (w9 : Nat) (k9 : Nat) (h9 : Nat) (fc : Nat → Int32) (hM : okM fs w9 k9 h9) (hT : ¬ mt = 0 → 1 ≤ k9) (h999 : h9 ≤ 999) (hT0 : mt = 0 → fs 0 = 0 ∧ ma = 0) (hac : okA fc ma) (hma : ma ≤ 24) : Met l yX8_cap wsX8_cap ({ frames := 1, cells := 0, slots := 0, locals := 21 }) (va_Pc [.ref mo] (fun U => U.heap.size = sz ∧ va_P (dC, dI) vwCl [(xo_8_rrriirrriiiiiiirrirrrrri mo m_la m_sz m_it ms mt m_st m_mv m_tp (nI mz) ml (nI mp) mk mv mb mw m_rd m_ac (nI ma) m_as m_wo m_ik m_ke m_tr (nI mx)), (xI m_st cI 38 fs), (xI m_ac cI 912 fc)] U.heap ∧ va_K (dC, dI) vwCl [(cI, .int), (cZ, .boolean), (cL, .object RX3), (cJ, .array .int)] U ∧ va_D (fun _ => True) [(xo_8_rrriirrriiiiiiirrirrrrri mo m_la m_sz m_it ms mt m_st m_mv m_tp (nI mz) ml (nI mp) mk mv mb mw m_rd m_ac (nI ma) m_as m_wo m_ik m_ke m_tr (nI mx)), (xI m_st cI 38 fs), (xI m_ac cI 912 fc)])) (va_Qi (fun r (_ : Unit) => r = (a_cap (m38 fs))) (fun (_ : Unit) t => ∃ (fsn : Nat → Int32) (fcn : Nat → Int32) (man : Nat) (w9n : Nat) (k9n : Nat) (h9n : Nat), va_P (dC, dI) vwCl [(xo_8_rrriirrriiiiiiirrirrrrri mo m_la m_sz m_it ms mt m_st m_mv m_tp (nI mz) ml (nI mp) mk mv mb mw m_rd m_ac (nI man) m_as m_wo m_ik m_ke m_tr (nI mx)), (xI m_st cI 38 fsn), (xI m_ac cI 912 fcn)] t.heap ∧ va_D (va_A [(xo_8_rrriirrriiiiiiirrirrrrri mo m_la m_sz m_it ms mt m_st m_mv m_tp (nI mz) ml (nI mp) mk mv mb mw m_rd m_ac (nI ma) m_as m_wo m_ik m_ke m_tr (nI mx)), (xI m_st cI 38 fs), (xI m_ac cI 912 fc)] sz) [(xo_8_rrriirrriiiiiiirrirrrrri mo m_la m_sz m_it ms mt m_st m_mv m_tp (nI mz) ml (nI mp) mk mv mb mw m_rd m_ac (nI man) m_as m_wo m_ik m_ke m_tr (nI mx)), (xI m_st cI 38 fsn), (xI m_ac cI 912 fcn)] ∧ okM fsn w9n k9n h9n ∧ (¬ mt = 0 → 1 ≤ k9n) ∧ h9n ≤ 999 ∧ okA fcn man ∧ man ≤ 24 ∧ (mt = 0 → fsn 0 = 0 ∧ man = 0) ∧ m38 fsn = n_cap (m38 fs) ∧ man = kpN (gd_cap (m38 fs)) ma ∧ acM fcn man = kpA (gd_cap (m38 fs)) (m38 fs) ma (acM fc ma)) (va_A [(xo_8_rrriirrriiiiiiirrirrrrri mo m_la m_sz m_it ms mt m_st m_mv m_tp (nI mz) ml (nI mp) mk mv mb mw m_rd m_ac (nI ma) m_as m_wo m_ik m_ke m_tr (nI mx)), (xI m_st cI 38 fs), (xI m_ac cI 912 fc)] sz)) 0 0 (va_A [(xo_8_rrriirrriiiiiiirrirrrrri mo m_la m_sz m_it ms mt m_st m_mv m_tp (nI mz) ml (nI mp) mk mv mb mw m_rd m_ac (nI ma) m_as m_wo m_ik m_ke m_tr (nI mx)), (xI m_st cI 38 fs), (xI m_ac cI 912 fc)] sz) := by
  refine Met.ofW (cc := cX8_cap) (maxL := 1) (ret := (some .int)) (by decide) rfl ?_
  intro p e s m args below meth c s₁ B hml hv
  obtain ⟨rfl, hsz, hP, hK, hD0⟩ := hv
  have hx := B.exec
  have hb := B.bytes
  have hr := B.returns
  have hts := atoms_spec (ws := wsX8_cap) B.pre
  have hown : s.vm.findClass RX8 = some m.cls := findClass_of_methodNamed B.named
  have hlocks := B.notSynchronized
  subst hsz
  have hD := hD0.self (sz := s.heap.size)
  generalize hAe : va_A [(xo_8_rrriirrriiiiiiirrirrrrri mo m_la m_sz m_it ms mt m_st m_mv m_tp (nI mz) ml (nI mp) mk mv mb mw m_rd m_ac (nI ma) m_as m_wo m_ik m_ke m_tr (nI mx)), (xI m_st cI 38 fs), (xI m_ac cI 912 fc)] s.heap.size = A at hD ⊢
  have hA : ∀ q : Nat, s.heap.size ≤ q → A q := fun q h => by rw [← hAe]; exact Or.inr h
  have hS : va_S A s.heap s.heap [] := va_S.rf
  have hP : va_P (dC, dI) vwCl [(xo_8_rrriirrriiiiiiirrirrrrri mo m_la m_sz m_it ms mt m_st m_mv m_tp (nI mz) ml (nI mp) mk mv mb mw m_rd m_ac (nI ma) m_as m_wo m_ik m_ke m_tr (nI mx)), (xI m_st cI 38 fs), (xI m_ac cI 912 fc)] s.heap := hP
  have hl := lv_entry ([.ref mo]) (n := 1) (Nat.le_of_ble_eq_true rfl)
  rw [lg_entry_eq]
  generalize (lg_sl ([.ref mo]) ++ List.replicate (1 - (lg_sl ([.ref mo])).length) Slot.unset).toArray = ls at hl ⊢
  have hl : lv_has ls 1 [(0, .ref mo)] := hl
  have hk6 := hM.2.2.2.2.1
  have hw6 := hM.2.2.2.1
  refine lv_aload_n hx hb dX8_cap_0 rfl (lv_at hl 0 rfl) ?_
  refine va_get (D := (dC, dI)) (ci := 8) (v := .int mt) (C := RX8) (T := TX8) (N := 24) hx hb hts i_X8_cap_X8 hown hK hP 0 rfl rfl 4 (by decide) (hts _ mx_X8_cap_1) (fun _ h9 => h9) rfl dX8_cap_1 ?_
  refine lv_if_ne (tgt := 10) hx hb dX8_cap_4 (by decide) (fun c_1 => ?_) (fun c_1 => ?_)
  · skip
    have hkn1 := hT c_1
    have hw1 := hM.2.2.2.2.2.1.mp hkn1
    have h01 : ¬ fs 0 = 0 := cell_nz hM hkn1
    refine lv_aload_n hx hb dX8_cap_10 rfl (lv_at hl 0 rfl) ?_
    have hc_2 := cutW (wc := [(xo_8_rrriirrriiiiiiirrirrrrri mo m_la m_sz m_it ms mt m_st m_mv m_tp (nI mz) ml (nI mp) mk mv mb mw m_rd m_ac (nI ma) m_as m_wo m_ik m_ke m_tr (nI mx)), (xI m_st cI 38 fs), (xI m_ac cI 912 fc)]) hP hD hS hA [0, 1, 2] (by decide +kernel) rfl
    refine va_callv (va_runV (As := []) (rest := []) ⟨hx, hb, hml, hown, hts⟩ (r_X8_note l dC dI cI cZ cL cJ s.heap.size mo m_la m_sz m_it m_st m_mv m_tp m_rd m_ac m_as m_wo m_ik m_ke m_tr ms mt ml mk mv mb mw mz mp ma mx fs fc (hac) (by omega) (⟨w9, k9, h9, hM, hkn1, by omega⟩)) (cwV 0 hts gX8_cap_X8_note rfl rfl rfl (by decide +kernel) ⟨Nat.le_of_ble_eq_true rfl, Nat.le_of_ble_eq_true rfl⟩) (pvW 8 0 hK hP rfl rfl hc_2) rfl rfl hl.1 rfl (lv_room (Nat.le_of_ble_eq_true rfl)) dX8_cap_11 ⟨Nat.le_of_ble_eq_true rfl, Nat.le_of_ble_eq_true rfl⟩) hS (fun q _ h => hc_2.2.2 q h) hc_2.2.2 (fun u_2 t_2 H1 locs ht hvm h_2 hB hz1 hk1 hS => ?_)
    refine xl_2_7 hB (fun fcn_2 man_2 hP1 hD1 hF_2_0 hF_2_1 hF_2_2 hF_2_3 hF_2_4 => ?_)
    clear hB
    rw [ht] at hP1
    obtain ⟨hP, hD⟩ := va_join (wr := []) (w1 := [(xo_8_rrriirrriiiiiiirrirrrrri mo m_la m_sz m_it ms mt m_st m_mv m_tp (nI mz) ml (nI mp) mk mv mb mw m_rd m_ac (nI man_2) m_as m_wo m_ik m_ke m_tr (nI mx)), (xI m_st cI 38 fs), (xI m_ac cI 912 fcn_2)]) hP hD [0, 1, 2] [] rfl rfl (by decide +kernel) (by decide +kernel) hk1 hc_2.2.2 hP1 hD1
    generalize H1 = H at hP hS ⊢
    have hP : va_P (dC, dI) vwCl [(xo_8_rrriirrriiiiiiirrirrrrri mo m_la m_sz m_it ms mt m_st m_mv m_tp (nI mz) ml (nI mp) mk mv mb mw m_rd m_ac (nI man_2) m_as m_wo m_ik m_ke m_tr (nI mx)), (xI m_st cI 38 fs), (xI m_ac cI 912 fcn_2)] H := hP
    have hD := dto hP hD
    refine lv_aload_n hx hb dX8_cap_14 rfl (lv_at hl 0 rfl) ?_
    refine va_get (D := (dC, dI)) (ci := 8) (v := .ref m_st) (C := RX8) (T := TX8) (N := 24) hx hb hts i_X8_cap_X8 hown hK hP 0 rfl rfl 5 (by decide) (hts _ mx_X8_cap_3) (fun _ h9 => h9) rfl dX8_cap_15 ?_
    refine lv_bipush (v := 6) hx hb dX8_cap_18 (by decide) ?_
    refine lv_iconst (v := 1) hx hb dX8_cap_20 (by decide) ?_
    refine lv_aload_n hx hb dX8_cap_21 rfl (lv_at hl 0 rfl) ?_
    refine va_get (D := (dC, dI)) (ci := 8) (v := .ref m_st) (C := RX8) (T := TX8) (N := 24) hx hb hts i_X8_cap_X8 hown hK hP 0 rfl rfl 5 (by decide) (hts _ mx_X8_cap_3) (fun _ h9 => h9) rfl dX8_cap_22 ?_
    refine lv_bipush (v := 6) hx hb dX8_cap_25 (by decide) ?_
    refine va_iald hx hb hK hP 1 0 rfl rfl (by unfold vp_in; decide) dX8_cap_27 ?_
    refine lv_topi (fun v_3 e_3 => ?_)
    have e_3 : v_3 = fs 6 := e_3
    refine lv_isub hx hb dX8_cap_28 ?_
    refine lv_topi (fun v_4 e_4 => ?_)
    refine va_iast hx hb hK hP hD hS 1 0 rfl rfl (by unfold vp_in; decide) dX8_cap_29 (fun H locs hP hD hS => ?_)
    generalize hg_5 : upd fs (6 : Int32).toNatClampNeg v_4 = g_5 at hP hD
    have hu_5 : g_5 = upd fs 6 v_4 := hg_5.symm
    have hM_5 : okM g_5 w9 k9 h9 := okM_off (i := 6) hM hg_5 (by omega) (by omega) (by omega) (by omega) (by omega)
    have hP : va_P (dC, dI) vwCl [(xo_8_rrriirrriiiiiiirrirrrrri mo m_la m_sz m_it ms mt m_st m_mv m_tp (nI mz) ml (nI mp) mk mv mb mw m_rd m_ac (nI man_2) m_as m_wo m_ik m_ke m_tr (nI mx)), (xI m_st cI 38 g_5), (xI m_ac cI 912 fcn_2)] H := hP
    have hD := dto hP hD
    refine lv_aload_n hx hb dX8_cap_30 rfl (lv_at hl 0 rfl) ?_
    refine va_get (D := (dC, dI)) (ci := 8) (v := .ref m_st) (C := RX8) (T := TX8) (N := 24) hx hb hts i_X8_cap_X8 hown hK hP 0 rfl rfl 5 (by decide) (hts _ mx_X8_cap_3) (fun _ h9 => h9) rfl dX8_cap_31 ?_
    refine lv_bipush (v := 6) hx hb dX8_cap_34 (by decide) ?_
    refine va_iald hx hb hK hP 1 0 rfl rfl (by unfold vp_in; decide) dX8_cap_36 ?_
    refine lv_topi (fun v_6 e_6 => ?_)
    have e_6 : v_6 = g_5 6 := e_6
    have hX9 := cut2 (wc := [(xo_8_rrriirrriiiiiiirrirrrrri mo m_la m_sz m_it ms mt m_st m_mv m_tp (nI mz) ml (nI mp) mk mv mb mw m_rd m_ac (nI man_2) m_as m_wo m_ik m_ke m_tr (nI mx)), (xI m_st cI 38 g_5), (xI m_ac cI 912 fcn_2)]) hP hD [0, 1, 2] (by decide +kernel) rfl
    exact W.iret (v := v_6) hx hb hr (fun t ht hW => ⟨⟨v_6, (), rfl, (lf_X8_cap_5 hM hT h999 hT0 hac hma c_1 hkn1 hw1 h01 hF_2_0 hF_2_1 hF_2_2 hF_2_3 hF_2_4 e_3 e_4 hu_5 e_6), ⟨g_5, fcn_2, man_2, w9, k9, h9, va_Ht ht hX9.1, hX9.2, hM_5, hT, (by omega), hF_2_0, (by omega), (lf_X8_cap_1 hM hT h999 hT0 hac hma c_1 hkn1 hw1 h01 hF_2_0 hF_2_1 hF_2_2 hF_2_3 hF_2_4 e_3 e_4 hu_5 e_6), (lf_X8_cap_2 hM hT h999 hT0 hac hma c_1 hkn1 hw1 h01 hF_2_0 hF_2_1 hF_2_2 hF_2_3 hF_2_4 e_3 e_4 hu_5 e_6), (lf_X8_cap_3 hM hT h999 hT0 hac hma c_1 hkn1 hw1 h01 hF_2_0 hF_2_1 hF_2_2 hF_2_3 hF_2_4 e_3 e_4 hu_5 e_6), (lf_X8_cap_4 hM hT h999 hT0 hac hma c_1 hkn1 hw1 h01 hF_2_0 hF_2_1 hF_2_2 hF_2_3 hF_2_4 e_3 e_4 hu_5 e_6)⟩⟩, hS.F ht⟩) hS.2.2 dX8_cap_37
  · skip
    have h00 : fs 0 = 0 := (hT0 c_1).1
    refine lv_ldc (own := RX8) (v := (-1000002)) hx hb hown (hts _ mx_X8_cap_2) dX8_cap_7 ?_
    have hX9 := cut2 (wc := [(xo_8_rrriirrriiiiiiirrirrrrri mo m_la m_sz m_it ms mt m_st m_mv m_tp (nI mz) ml (nI mp) mk mv mb mw m_rd m_ac (nI ma) m_as m_wo m_ik m_ke m_tr (nI mx)), (xI m_st cI 38 fs), (xI m_ac cI 912 fc)]) hP hD [0, 1, 2] (by decide +kernel) rfl
    exact W.iret (v := (-1000002)) hx hb hr (fun t ht hW => ⟨⟨(-1000002), (), rfl, (lf_X8_cap_10 hM hT h999 hT0 hac hma c_1 h00), ⟨fs, fc, ma, w9, k9, h9, va_Ht ht hX9.1, hX9.2, hM, hT, (by omega), hac, (by omega), (lf_X8_cap_6 hM hT h999 hT0 hac hma c_1 h00), (lf_X8_cap_7 hM hT h999 hT0 hac hma c_1 h00), (lf_X8_cap_8 hM hT h999 hT0 hac hma c_1 h00), (lf_X8_cap_9 hM hT h999 hT0 hac hma c_1 h00)⟩⟩, hS.F ht⟩) hS.2.2 dX8_cap_9
theorem lf_X8_wind_1 {mt : Int32} {ma : Nat} {fs : Nat → Int32} {w9 : Nat} {k9 : Nat} {h9 : Nat} {fc : Nat → Int32} {a0 : Int32} {v_2 : Int32} (hM : okM fs w9 k9 h9) (hT : ¬ mt = 0 → 1 ≤ k9) (h999 : h9 ≤ 999) (hT0 : mt = 0 → fs 0 = 0 ∧ ma = 0) (hac : okA fc ma) (hma : ma ≤ 24) (e_2 : v_2 = ((nI w9) - 1)) (f_3_0_0 : ((a0).toInt64 < 0 ∨ (v_2).toInt64 < (a0).toInt64)) (q_3 : (a0 < 0 ∨ v_2 < a0)) : (mt = 0 → fs 0 = 0 ∧ ma = 0) := by
  have hw6 := hM.2.2.2.1
  have hk6 := hM.2.2.2.2.1
  first
  | exact hT0
  | (intro h_; exact absurd (hT0 h_).1 h01)
  | (intro h_; have h9 := (hT0 h_).2; omega)
  | exact (windM_n (ma := ma) (A := acM fc ma) (windM_g hM.1 (Or.inl (sB_no e_2 (by omega) q_3)))).1
  | exact (windM_n (ma := ma) (A := acM fc ma) (windM_g hM.1 (Or.inl (sB_no e_2 (by omega) q_3)))).2.1
  | exact (windM_n (ma := ma) (A := acM fc ma) (windM_g hM.1 (Or.inl (sB_no e_2 (by omega) q_3)))).2.2.1
  | exact (windM_n (ma := ma) (A := acM fc ma) (windM_g hM.1 (Or.inl (sB_no e_2 (by omega) q_3)))).2.2.2
  | exact (windM_n (ma := ma) (A := acM fc ma) (windM_g hM.1 (Or.inr q_6))).1
  | exact (windM_n (ma := ma) (A := acM fc ma) (windM_g hM.1 (Or.inr q_6))).2.1
  | exact (windM_n (ma := ma) (A := acM fc ma) (windM_g hM.1 (Or.inr q_6))).2.2.1
  | exact (windM_n (ma := ma) (A := acM fc ma) (windM_g hM.1 (Or.inr q_6))).2.2.2
  | exact (windM_d hM.1 hw6 hj_3 q_6 (by assumption) (by assumption) (by assumption) (by assumption)).1
  | exact (windM_d hM.1 hw6 hj_3 q_6 (by assumption) (by assumption) (by assumption) (by assumption)).2.1
  | exact (windM_d hM.1 hw6 hj_3 q_6 (by assumption) (by assumption) (by assumption) (by assumption)).2.2.1
  | exact (windM_d hM.1 hw6 hj_3 q_6 (by assumption) (by assumption) (by assumption) (by assumption)).2.2.2
theorem lf_X8_wind_2 {mt : Int32} {ma : Nat} {fs : Nat → Int32} {w9 : Nat} {k9 : Nat} {h9 : Nat} {fc : Nat → Int32} {a0 : Int32} {a1 : Int32} {v_2 : Int32} (hM : okM fs w9 k9 h9) (hT : ¬ mt = 0 → 1 ≤ k9) (h999 : h9 ≤ 999) (hT0 : mt = 0 → fs 0 = 0 ∧ ma = 0) (hac : okA fc ma) (hma : ma ≤ 24) (e_2 : v_2 = ((nI w9) - 1)) (f_3_0_0 : ((a0).toInt64 < 0 ∨ (v_2).toInt64 < (a0).toInt64)) (q_3 : (a0 < 0 ∨ v_2 < a0)) : m38 fs = n_wind (m38 fs) a0 a1 := by
  have hw6 := hM.2.2.2.1
  have hk6 := hM.2.2.2.2.1
  first
  | exact hT0
  | (intro h_; exact absurd (hT0 h_).1 h01)
  | (intro h_; have h9 := (hT0 h_).2; omega)
  | exact (windM_n (ma := ma) (A := acM fc ma) (windM_g hM.1 (Or.inl (sB_no e_2 (by omega) q_3)))).1
  | exact (windM_n (ma := ma) (A := acM fc ma) (windM_g hM.1 (Or.inl (sB_no e_2 (by omega) q_3)))).2.1
  | exact (windM_n (ma := ma) (A := acM fc ma) (windM_g hM.1 (Or.inl (sB_no e_2 (by omega) q_3)))).2.2.1
  | exact (windM_n (ma := ma) (A := acM fc ma) (windM_g hM.1 (Or.inl (sB_no e_2 (by omega) q_3)))).2.2.2
  | exact (windM_n (ma := ma) (A := acM fc ma) (windM_g hM.1 (Or.inr q_6))).1
  | exact (windM_n (ma := ma) (A := acM fc ma) (windM_g hM.1 (Or.inr q_6))).2.1
  | exact (windM_n (ma := ma) (A := acM fc ma) (windM_g hM.1 (Or.inr q_6))).2.2.1
  | exact (windM_n (ma := ma) (A := acM fc ma) (windM_g hM.1 (Or.inr q_6))).2.2.2
  | exact (windM_d hM.1 hw6 hj_3 q_6 (by assumption) (by assumption) (by assumption) (by assumption)).1
  | exact (windM_d hM.1 hw6 hj_3 q_6 (by assumption) (by assumption) (by assumption) (by assumption)).2.1
  | exact (windM_d hM.1 hw6 hj_3 q_6 (by assumption) (by assumption) (by assumption) (by assumption)).2.2.1
  | exact (windM_d hM.1 hw6 hj_3 q_6 (by assumption) (by assumption) (by assumption) (by assumption)).2.2.2
theorem lf_X8_wind_3 {mt : Int32} {ma : Nat} {fs : Nat → Int32} {w9 : Nat} {k9 : Nat} {h9 : Nat} {fc : Nat → Int32} {a0 : Int32} {a1 : Int32} {v_2 : Int32} (hM : okM fs w9 k9 h9) (hT : ¬ mt = 0 → 1 ≤ k9) (h999 : h9 ≤ 999) (hT0 : mt = 0 → fs 0 = 0 ∧ ma = 0) (hac : okA fc ma) (hma : ma ≤ 24) (e_2 : v_2 = ((nI w9) - 1)) (f_3_0_0 : ((a0).toInt64 < 0 ∨ (v_2).toInt64 < (a0).toInt64)) (q_3 : (a0 < 0 ∨ v_2 < a0)) : ma = kpN (gd_wind (m38 fs) a0 a1) ma := by
  have hw6 := hM.2.2.2.1
  have hk6 := hM.2.2.2.2.1
  first
  | exact hT0
  | (intro h_; exact absurd (hT0 h_).1 h01)
  | (intro h_; have h9 := (hT0 h_).2; omega)
  | exact (windM_n (ma := ma) (A := acM fc ma) (windM_g hM.1 (Or.inl (sB_no e_2 (by omega) q_3)))).1
  | exact (windM_n (ma := ma) (A := acM fc ma) (windM_g hM.1 (Or.inl (sB_no e_2 (by omega) q_3)))).2.1
  | exact (windM_n (ma := ma) (A := acM fc ma) (windM_g hM.1 (Or.inl (sB_no e_2 (by omega) q_3)))).2.2.1
  | exact (windM_n (ma := ma) (A := acM fc ma) (windM_g hM.1 (Or.inl (sB_no e_2 (by omega) q_3)))).2.2.2
  | exact (windM_n (ma := ma) (A := acM fc ma) (windM_g hM.1 (Or.inr q_6))).1
  | exact (windM_n (ma := ma) (A := acM fc ma) (windM_g hM.1 (Or.inr q_6))).2.1
  | exact (windM_n (ma := ma) (A := acM fc ma) (windM_g hM.1 (Or.inr q_6))).2.2.1
  | exact (windM_n (ma := ma) (A := acM fc ma) (windM_g hM.1 (Or.inr q_6))).2.2.2
  | exact (windM_d hM.1 hw6 hj_3 q_6 (by assumption) (by assumption) (by assumption) (by assumption)).1
  | exact (windM_d hM.1 hw6 hj_3 q_6 (by assumption) (by assumption) (by assumption) (by assumption)).2.1
  | exact (windM_d hM.1 hw6 hj_3 q_6 (by assumption) (by assumption) (by assumption) (by assumption)).2.2.1
  | exact (windM_d hM.1 hw6 hj_3 q_6 (by assumption) (by assumption) (by assumption) (by assumption)).2.2.2
theorem lf_X8_wind_4 {mt : Int32} {ma : Nat} {fs : Nat → Int32} {w9 : Nat} {k9 : Nat} {h9 : Nat} {fc : Nat → Int32} {a0 : Int32} {a1 : Int32} {v_2 : Int32} (hM : okM fs w9 k9 h9) (hT : ¬ mt = 0 → 1 ≤ k9) (h999 : h9 ≤ 999) (hT0 : mt = 0 → fs 0 = 0 ∧ ma = 0) (hac : okA fc ma) (hma : ma ≤ 24) (e_2 : v_2 = ((nI w9) - 1)) (f_3_0_0 : ((a0).toInt64 < 0 ∨ (v_2).toInt64 < (a0).toInt64)) (q_3 : (a0 < 0 ∨ v_2 < a0)) : acM fc ma = kpA (gd_wind (m38 fs) a0 a1) (m38 fs) ma (acM fc ma) := by
  have hw6 := hM.2.2.2.1
  have hk6 := hM.2.2.2.2.1
  first
  | exact hT0
  | (intro h_; exact absurd (hT0 h_).1 h01)
  | (intro h_; have h9 := (hT0 h_).2; omega)
  | exact (windM_n (ma := ma) (A := acM fc ma) (windM_g hM.1 (Or.inl (sB_no e_2 (by omega) q_3)))).1
  | exact (windM_n (ma := ma) (A := acM fc ma) (windM_g hM.1 (Or.inl (sB_no e_2 (by omega) q_3)))).2.1
  | exact (windM_n (ma := ma) (A := acM fc ma) (windM_g hM.1 (Or.inl (sB_no e_2 (by omega) q_3)))).2.2.1
  | exact (windM_n (ma := ma) (A := acM fc ma) (windM_g hM.1 (Or.inl (sB_no e_2 (by omega) q_3)))).2.2.2
  | exact (windM_n (ma := ma) (A := acM fc ma) (windM_g hM.1 (Or.inr q_6))).1
  | exact (windM_n (ma := ma) (A := acM fc ma) (windM_g hM.1 (Or.inr q_6))).2.1
  | exact (windM_n (ma := ma) (A := acM fc ma) (windM_g hM.1 (Or.inr q_6))).2.2.1
  | exact (windM_n (ma := ma) (A := acM fc ma) (windM_g hM.1 (Or.inr q_6))).2.2.2
  | exact (windM_d hM.1 hw6 hj_3 q_6 (by assumption) (by assumption) (by assumption) (by assumption)).1
  | exact (windM_d hM.1 hw6 hj_3 q_6 (by assumption) (by assumption) (by assumption) (by assumption)).2.1
  | exact (windM_d hM.1 hw6 hj_3 q_6 (by assumption) (by assumption) (by assumption) (by assumption)).2.2.1
  | exact (windM_d hM.1 hw6 hj_3 q_6 (by assumption) (by assumption) (by assumption) (by assumption)).2.2.2
theorem lf_X8_wind_5 {mt : Int32} {ma : Nat} {fs : Nat → Int32} {w9 : Nat} {k9 : Nat} {h9 : Nat} {fc : Nat → Int32} {a0 : Int32} {a1 : Int32} {v_2 : Int32} (hM : okM fs w9 k9 h9) (hT : ¬ mt = 0 → 1 ≤ k9) (h999 : h9 ≤ 999) (hT0 : mt = 0 → fs 0 = 0 ∧ ma = 0) (hac : okA fc ma) (hma : ma ≤ 24) (e_2 : v_2 = ((nI w9) - 1)) (f_3_0_0 : ((a0).toInt64 < 0 ∨ (v_2).toInt64 < (a0).toInt64)) (q_3 : (a0 < 0 ∨ v_2 < a0)) : (-1000001) = (a_wind (m38 fs) a0 a1) := by
  have hw6 := hM.2.2.2.1
  have hk6 := hM.2.2.2.2.1
  first
  | exact hT0
  | (intro h_; exact absurd (hT0 h_).1 h01)
  | (intro h_; have h9 := (hT0 h_).2; omega)
  | exact (windM_n (ma := ma) (A := acM fc ma) (windM_g hM.1 (Or.inl (sB_no e_2 (by omega) q_3)))).1
  | exact (windM_n (ma := ma) (A := acM fc ma) (windM_g hM.1 (Or.inl (sB_no e_2 (by omega) q_3)))).2.1
  | exact (windM_n (ma := ma) (A := acM fc ma) (windM_g hM.1 (Or.inl (sB_no e_2 (by omega) q_3)))).2.2.1
  | exact (windM_n (ma := ma) (A := acM fc ma) (windM_g hM.1 (Or.inl (sB_no e_2 (by omega) q_3)))).2.2.2
  | exact (windM_n (ma := ma) (A := acM fc ma) (windM_g hM.1 (Or.inr q_6))).1
  | exact (windM_n (ma := ma) (A := acM fc ma) (windM_g hM.1 (Or.inr q_6))).2.1
  | exact (windM_n (ma := ma) (A := acM fc ma) (windM_g hM.1 (Or.inr q_6))).2.2.1
  | exact (windM_n (ma := ma) (A := acM fc ma) (windM_g hM.1 (Or.inr q_6))).2.2.2
  | exact (windM_d hM.1 hw6 hj_3 q_6 (by assumption) (by assumption) (by assumption) (by assumption)).1
  | exact (windM_d hM.1 hw6 hj_3 q_6 (by assumption) (by assumption) (by assumption) (by assumption)).2.1
  | exact (windM_d hM.1 hw6 hj_3 q_6 (by assumption) (by assumption) (by assumption) (by assumption)).2.2.1
  | exact (windM_d hM.1 hw6 hj_3 q_6 (by assumption) (by assumption) (by assumption) (by assumption)).2.2.2
theorem lf_X8_wind_6 {mt : Int32} {ma : Nat} {fs : Nat → Int32} {w9 : Nat} {k9 : Nat} {h9 : Nat} {fc : Nat → Int32} {a1 : Int32} {v_2 : Int32} {j_3 : Nat} (hM : okM fs w9 k9 h9) (hT : ¬ mt = 0 → 1 ≤ k9) (h999 : h9 ≤ 999) (hT0 : mt = 0 → fs 0 = 0 ∧ ma = 0) (hac : okA fc ma) (hma : ma ≤ 24) (e_2 : v_2 = ((nI w9) - 1)) (f_3_1_0 : (¬ (((nI j_3)).toInt64 < 0 ∨ (v_2).toInt64 < ((nI j_3)).toInt64))) (q_3 : ¬ ((nI j_3) < 0 ∨ v_2 < (nI j_3))) (hj_3 : j_3 < w9) (hkn1 : 1 ≤ k9) (hw1 : 1 ≤ w9) (h01 : ¬ fs 0 = 0) (f_6_0_0 : ((a1).toInt64 < 0 ∨ 4 < (a1).toInt64)) (q_6 : (a1 < 0 ∨ 4 < a1)) : (mt = 0 → fs 0 = 0 ∧ ma = 0) := by
  have hw6 := hM.2.2.2.1
  have hk6 := hM.2.2.2.2.1
  first
  | exact hT0
  | (intro h_; exact absurd (hT0 h_).1 h01)
  | (intro h_; have h9 := (hT0 h_).2; omega)
  | exact (windM_n (ma := ma) (A := acM fc ma) (windM_g hM.1 (Or.inl (sB_no e_2 (by omega) q_3)))).1
  | exact (windM_n (ma := ma) (A := acM fc ma) (windM_g hM.1 (Or.inl (sB_no e_2 (by omega) q_3)))).2.1
  | exact (windM_n (ma := ma) (A := acM fc ma) (windM_g hM.1 (Or.inl (sB_no e_2 (by omega) q_3)))).2.2.1
  | exact (windM_n (ma := ma) (A := acM fc ma) (windM_g hM.1 (Or.inl (sB_no e_2 (by omega) q_3)))).2.2.2
  | exact (windM_n (ma := ma) (A := acM fc ma) (windM_g hM.1 (Or.inr q_6))).1
  | exact (windM_n (ma := ma) (A := acM fc ma) (windM_g hM.1 (Or.inr q_6))).2.1
  | exact (windM_n (ma := ma) (A := acM fc ma) (windM_g hM.1 (Or.inr q_6))).2.2.1
  | exact (windM_n (ma := ma) (A := acM fc ma) (windM_g hM.1 (Or.inr q_6))).2.2.2
  | exact (windM_d hM.1 hw6 hj_3 q_6 (by assumption) (by assumption) (by assumption) (by assumption)).1
  | exact (windM_d hM.1 hw6 hj_3 q_6 (by assumption) (by assumption) (by assumption) (by assumption)).2.1
  | exact (windM_d hM.1 hw6 hj_3 q_6 (by assumption) (by assumption) (by assumption) (by assumption)).2.2.1
  | exact (windM_d hM.1 hw6 hj_3 q_6 (by assumption) (by assumption) (by assumption) (by assumption)).2.2.2
theorem lf_X8_wind_7 {mt : Int32} {ma : Nat} {fs : Nat → Int32} {w9 : Nat} {k9 : Nat} {h9 : Nat} {fc : Nat → Int32} {a1 : Int32} {v_2 : Int32} {j_3 : Nat} (hM : okM fs w9 k9 h9) (hT : ¬ mt = 0 → 1 ≤ k9) (h999 : h9 ≤ 999) (hT0 : mt = 0 → fs 0 = 0 ∧ ma = 0) (hac : okA fc ma) (hma : ma ≤ 24) (e_2 : v_2 = ((nI w9) - 1)) (f_3_1_0 : (¬ (((nI j_3)).toInt64 < 0 ∨ (v_2).toInt64 < ((nI j_3)).toInt64))) (q_3 : ¬ ((nI j_3) < 0 ∨ v_2 < (nI j_3))) (hj_3 : j_3 < w9) (hkn1 : 1 ≤ k9) (hw1 : 1 ≤ w9) (h01 : ¬ fs 0 = 0) (f_6_0_0 : ((a1).toInt64 < 0 ∨ 4 < (a1).toInt64)) (q_6 : (a1 < 0 ∨ 4 < a1)) : m38 fs = n_wind (m38 fs) (nI j_3) a1 := by
  have hw6 := hM.2.2.2.1
  have hk6 := hM.2.2.2.2.1
  first
  | exact hT0
  | (intro h_; exact absurd (hT0 h_).1 h01)
  | (intro h_; have h9 := (hT0 h_).2; omega)
  | exact (windM_n (ma := ma) (A := acM fc ma) (windM_g hM.1 (Or.inl (sB_no e_2 (by omega) q_3)))).1
  | exact (windM_n (ma := ma) (A := acM fc ma) (windM_g hM.1 (Or.inl (sB_no e_2 (by omega) q_3)))).2.1
  | exact (windM_n (ma := ma) (A := acM fc ma) (windM_g hM.1 (Or.inl (sB_no e_2 (by omega) q_3)))).2.2.1
  | exact (windM_n (ma := ma) (A := acM fc ma) (windM_g hM.1 (Or.inl (sB_no e_2 (by omega) q_3)))).2.2.2
  | exact (windM_n (ma := ma) (A := acM fc ma) (windM_g hM.1 (Or.inr q_6))).1
  | exact (windM_n (ma := ma) (A := acM fc ma) (windM_g hM.1 (Or.inr q_6))).2.1
  | exact (windM_n (ma := ma) (A := acM fc ma) (windM_g hM.1 (Or.inr q_6))).2.2.1
  | exact (windM_n (ma := ma) (A := acM fc ma) (windM_g hM.1 (Or.inr q_6))).2.2.2
  | exact (windM_d hM.1 hw6 hj_3 q_6 (by assumption) (by assumption) (by assumption) (by assumption)).1
  | exact (windM_d hM.1 hw6 hj_3 q_6 (by assumption) (by assumption) (by assumption) (by assumption)).2.1
  | exact (windM_d hM.1 hw6 hj_3 q_6 (by assumption) (by assumption) (by assumption) (by assumption)).2.2.1
  | exact (windM_d hM.1 hw6 hj_3 q_6 (by assumption) (by assumption) (by assumption) (by assumption)).2.2.2
theorem lf_X8_wind_8 {mt : Int32} {ma : Nat} {fs : Nat → Int32} {w9 : Nat} {k9 : Nat} {h9 : Nat} {fc : Nat → Int32} {a1 : Int32} {v_2 : Int32} {j_3 : Nat} (hM : okM fs w9 k9 h9) (hT : ¬ mt = 0 → 1 ≤ k9) (h999 : h9 ≤ 999) (hT0 : mt = 0 → fs 0 = 0 ∧ ma = 0) (hac : okA fc ma) (hma : ma ≤ 24) (e_2 : v_2 = ((nI w9) - 1)) (f_3_1_0 : (¬ (((nI j_3)).toInt64 < 0 ∨ (v_2).toInt64 < ((nI j_3)).toInt64))) (q_3 : ¬ ((nI j_3) < 0 ∨ v_2 < (nI j_3))) (hj_3 : j_3 < w9) (hkn1 : 1 ≤ k9) (hw1 : 1 ≤ w9) (h01 : ¬ fs 0 = 0) (f_6_0_0 : ((a1).toInt64 < 0 ∨ 4 < (a1).toInt64)) (q_6 : (a1 < 0 ∨ 4 < a1)) : ma = kpN (gd_wind (m38 fs) (nI j_3) a1) ma := by
  have hw6 := hM.2.2.2.1
  have hk6 := hM.2.2.2.2.1
  first
  | exact hT0
  | (intro h_; exact absurd (hT0 h_).1 h01)
  | (intro h_; have h9 := (hT0 h_).2; omega)
  | exact (windM_n (ma := ma) (A := acM fc ma) (windM_g hM.1 (Or.inl (sB_no e_2 (by omega) q_3)))).1
  | exact (windM_n (ma := ma) (A := acM fc ma) (windM_g hM.1 (Or.inl (sB_no e_2 (by omega) q_3)))).2.1
  | exact (windM_n (ma := ma) (A := acM fc ma) (windM_g hM.1 (Or.inl (sB_no e_2 (by omega) q_3)))).2.2.1
  | exact (windM_n (ma := ma) (A := acM fc ma) (windM_g hM.1 (Or.inl (sB_no e_2 (by omega) q_3)))).2.2.2
  | exact (windM_n (ma := ma) (A := acM fc ma) (windM_g hM.1 (Or.inr q_6))).1
  | exact (windM_n (ma := ma) (A := acM fc ma) (windM_g hM.1 (Or.inr q_6))).2.1
  | exact (windM_n (ma := ma) (A := acM fc ma) (windM_g hM.1 (Or.inr q_6))).2.2.1
  | exact (windM_n (ma := ma) (A := acM fc ma) (windM_g hM.1 (Or.inr q_6))).2.2.2
  | exact (windM_d hM.1 hw6 hj_3 q_6 (by assumption) (by assumption) (by assumption) (by assumption)).1
  | exact (windM_d hM.1 hw6 hj_3 q_6 (by assumption) (by assumption) (by assumption) (by assumption)).2.1
  | exact (windM_d hM.1 hw6 hj_3 q_6 (by assumption) (by assumption) (by assumption) (by assumption)).2.2.1
  | exact (windM_d hM.1 hw6 hj_3 q_6 (by assumption) (by assumption) (by assumption) (by assumption)).2.2.2
theorem lf_X8_wind_9 {mt : Int32} {ma : Nat} {fs : Nat → Int32} {w9 : Nat} {k9 : Nat} {h9 : Nat} {fc : Nat → Int32} {a1 : Int32} {v_2 : Int32} {j_3 : Nat} (hM : okM fs w9 k9 h9) (hT : ¬ mt = 0 → 1 ≤ k9) (h999 : h9 ≤ 999) (hT0 : mt = 0 → fs 0 = 0 ∧ ma = 0) (hac : okA fc ma) (hma : ma ≤ 24) (e_2 : v_2 = ((nI w9) - 1)) (f_3_1_0 : (¬ (((nI j_3)).toInt64 < 0 ∨ (v_2).toInt64 < ((nI j_3)).toInt64))) (q_3 : ¬ ((nI j_3) < 0 ∨ v_2 < (nI j_3))) (hj_3 : j_3 < w9) (hkn1 : 1 ≤ k9) (hw1 : 1 ≤ w9) (h01 : ¬ fs 0 = 0) (f_6_0_0 : ((a1).toInt64 < 0 ∨ 4 < (a1).toInt64)) (q_6 : (a1 < 0 ∨ 4 < a1)) : acM fc ma = kpA (gd_wind (m38 fs) (nI j_3) a1) (m38 fs) ma (acM fc ma) := by
  have hw6 := hM.2.2.2.1
  have hk6 := hM.2.2.2.2.1
  first
  | exact hT0
  | (intro h_; exact absurd (hT0 h_).1 h01)
  | (intro h_; have h9 := (hT0 h_).2; omega)
  | exact (windM_n (ma := ma) (A := acM fc ma) (windM_g hM.1 (Or.inl (sB_no e_2 (by omega) q_3)))).1
  | exact (windM_n (ma := ma) (A := acM fc ma) (windM_g hM.1 (Or.inl (sB_no e_2 (by omega) q_3)))).2.1
  | exact (windM_n (ma := ma) (A := acM fc ma) (windM_g hM.1 (Or.inl (sB_no e_2 (by omega) q_3)))).2.2.1
  | exact (windM_n (ma := ma) (A := acM fc ma) (windM_g hM.1 (Or.inl (sB_no e_2 (by omega) q_3)))).2.2.2
  | exact (windM_n (ma := ma) (A := acM fc ma) (windM_g hM.1 (Or.inr q_6))).1
  | exact (windM_n (ma := ma) (A := acM fc ma) (windM_g hM.1 (Or.inr q_6))).2.1
  | exact (windM_n (ma := ma) (A := acM fc ma) (windM_g hM.1 (Or.inr q_6))).2.2.1
  | exact (windM_n (ma := ma) (A := acM fc ma) (windM_g hM.1 (Or.inr q_6))).2.2.2
  | exact (windM_d hM.1 hw6 hj_3 q_6 (by assumption) (by assumption) (by assumption) (by assumption)).1
  | exact (windM_d hM.1 hw6 hj_3 q_6 (by assumption) (by assumption) (by assumption) (by assumption)).2.1
  | exact (windM_d hM.1 hw6 hj_3 q_6 (by assumption) (by assumption) (by assumption) (by assumption)).2.2.1
  | exact (windM_d hM.1 hw6 hj_3 q_6 (by assumption) (by assumption) (by assumption) (by assumption)).2.2.2
theorem lf_X8_wind_10 {mt : Int32} {ma : Nat} {fs : Nat → Int32} {w9 : Nat} {k9 : Nat} {h9 : Nat} {fc : Nat → Int32} {a1 : Int32} {v_2 : Int32} {j_3 : Nat} (hM : okM fs w9 k9 h9) (hT : ¬ mt = 0 → 1 ≤ k9) (h999 : h9 ≤ 999) (hT0 : mt = 0 → fs 0 = 0 ∧ ma = 0) (hac : okA fc ma) (hma : ma ≤ 24) (e_2 : v_2 = ((nI w9) - 1)) (f_3_1_0 : (¬ (((nI j_3)).toInt64 < 0 ∨ (v_2).toInt64 < ((nI j_3)).toInt64))) (q_3 : ¬ ((nI j_3) < 0 ∨ v_2 < (nI j_3))) (hj_3 : j_3 < w9) (hkn1 : 1 ≤ k9) (hw1 : 1 ≤ w9) (h01 : ¬ fs 0 = 0) (f_6_0_0 : ((a1).toInt64 < 0 ∨ 4 < (a1).toInt64)) (q_6 : (a1 < 0 ∨ 4 < a1)) : (-1000001) = (a_wind (m38 fs) (nI j_3) a1) := by
  have hw6 := hM.2.2.2.1
  have hk6 := hM.2.2.2.2.1
  first
  | exact hT0
  | (intro h_; exact absurd (hT0 h_).1 h01)
  | (intro h_; have h9 := (hT0 h_).2; omega)
  | exact (windM_n (ma := ma) (A := acM fc ma) (windM_g hM.1 (Or.inl (sB_no e_2 (by omega) q_3)))).1
  | exact (windM_n (ma := ma) (A := acM fc ma) (windM_g hM.1 (Or.inl (sB_no e_2 (by omega) q_3)))).2.1
  | exact (windM_n (ma := ma) (A := acM fc ma) (windM_g hM.1 (Or.inl (sB_no e_2 (by omega) q_3)))).2.2.1
  | exact (windM_n (ma := ma) (A := acM fc ma) (windM_g hM.1 (Or.inl (sB_no e_2 (by omega) q_3)))).2.2.2
  | exact (windM_n (ma := ma) (A := acM fc ma) (windM_g hM.1 (Or.inr q_6))).1
  | exact (windM_n (ma := ma) (A := acM fc ma) (windM_g hM.1 (Or.inr q_6))).2.1
  | exact (windM_n (ma := ma) (A := acM fc ma) (windM_g hM.1 (Or.inr q_6))).2.2.1
  | exact (windM_n (ma := ma) (A := acM fc ma) (windM_g hM.1 (Or.inr q_6))).2.2.2
  | exact (windM_d hM.1 hw6 hj_3 q_6 (by assumption) (by assumption) (by assumption) (by assumption)).1
  | exact (windM_d hM.1 hw6 hj_3 q_6 (by assumption) (by assumption) (by assumption) (by assumption)).2.1
  | exact (windM_d hM.1 hw6 hj_3 q_6 (by assumption) (by assumption) (by assumption) (by assumption)).2.2.1
  | exact (windM_d hM.1 hw6 hj_3 q_6 (by assumption) (by assumption) (by assumption) (by assumption)).2.2.2
theorem lf_X8_wind_11 {mt : Int32} {ma : Nat} {fs : Nat → Int32} {w9 : Nat} {k9 : Nat} {h9 : Nat} {fc : Nat → Int32} {v_2 : Int32} {j_3 : Nat} {j_6 : Nat} {fcn_9 : Nat → Int32} {man_9 : Nat} {v_11 : Int32} {g_13 : Nat → Int32} (hM : okM fs w9 k9 h9) (hT : ¬ mt = 0 → 1 ≤ k9) (h999 : h9 ≤ 999) (hT0 : mt = 0 → fs 0 = 0 ∧ ma = 0) (hac : okA fc ma) (hma : ma ≤ 24) (e_2 : v_2 = ((nI w9) - 1)) (f_3_1_0 : (¬ (((nI j_3)).toInt64 < 0 ∨ (v_2).toInt64 < ((nI j_3)).toInt64))) (q_3 : ¬ ((nI j_3) < 0 ∨ v_2 < (nI j_3))) (hj_3 : j_3 < w9) (hkn1 : 1 ≤ k9) (hw1 : 1 ≤ w9) (h01 : ¬ fs 0 = 0) (f_6_1_0 : (¬ (((nI j_6)).toInt64 < 0 ∨ 4 < ((nI j_6)).toInt64))) (q_6 : ¬ ((nI j_6) < 0 ∨ 4 < (nI j_6))) (hj_6 : j_6 ≤ 4) (hF_9_0 : okA fcn_9 man_9) (hF_9_1 : man_9 ≤ 24) (hF_9_2 : 1 ≤ man_9) (hF_9_3 : acM fcn_9 man_9 = ntA (m38 fs) ma (acM fc ma)) (hF_9_4 : man_9 = ntN ma) (e_11 : v_11 = fs (8 + j_3)) (hu_13 : g_13 = upd fs (8 + j_3) (nI j_6)) : (mt = 0 → g_13 0 = 0 ∧ man_9 = 0) := by
  have hw6 := hM.2.2.2.1
  have hk6 := hM.2.2.2.2.1
  first
  | exact hT0
  | (intro h_; exact absurd (hT0 h_).1 h01)
  | (intro h_; have h9 := (hT0 h_).2; omega)
  | exact (windM_n (ma := ma) (A := acM fc ma) (windM_g hM.1 (Or.inl (sB_no e_2 (by omega) q_3)))).1
  | exact (windM_n (ma := ma) (A := acM fc ma) (windM_g hM.1 (Or.inl (sB_no e_2 (by omega) q_3)))).2.1
  | exact (windM_n (ma := ma) (A := acM fc ma) (windM_g hM.1 (Or.inl (sB_no e_2 (by omega) q_3)))).2.2.1
  | exact (windM_n (ma := ma) (A := acM fc ma) (windM_g hM.1 (Or.inl (sB_no e_2 (by omega) q_3)))).2.2.2
  | exact (windM_n (ma := ma) (A := acM fc ma) (windM_g hM.1 (Or.inr q_6))).1
  | exact (windM_n (ma := ma) (A := acM fc ma) (windM_g hM.1 (Or.inr q_6))).2.1
  | exact (windM_n (ma := ma) (A := acM fc ma) (windM_g hM.1 (Or.inr q_6))).2.2.1
  | exact (windM_n (ma := ma) (A := acM fc ma) (windM_g hM.1 (Or.inr q_6))).2.2.2
  | exact (windM_d hM.1 hw6 hj_3 q_6 (by assumption) (by assumption) (by assumption) (by assumption)).1
  | exact (windM_d hM.1 hw6 hj_3 q_6 (by assumption) (by assumption) (by assumption) (by assumption)).2.1
  | exact (windM_d hM.1 hw6 hj_3 q_6 (by assumption) (by assumption) (by assumption) (by assumption)).2.2.1
  | exact (windM_d hM.1 hw6 hj_3 q_6 (by assumption) (by assumption) (by assumption) (by assumption)).2.2.2
theorem lf_X8_wind_12 {mt : Int32} {ma : Nat} {fs : Nat → Int32} {w9 : Nat} {k9 : Nat} {h9 : Nat} {fc : Nat → Int32} {v_2 : Int32} {j_3 : Nat} {j_6 : Nat} {fcn_9 : Nat → Int32} {man_9 : Nat} {v_11 : Int32} {g_13 : Nat → Int32} (hM : okM fs w9 k9 h9) (hT : ¬ mt = 0 → 1 ≤ k9) (h999 : h9 ≤ 999) (hT0 : mt = 0 → fs 0 = 0 ∧ ma = 0) (hac : okA fc ma) (hma : ma ≤ 24) (e_2 : v_2 = ((nI w9) - 1)) (f_3_1_0 : (¬ (((nI j_3)).toInt64 < 0 ∨ (v_2).toInt64 < ((nI j_3)).toInt64))) (q_3 : ¬ ((nI j_3) < 0 ∨ v_2 < (nI j_3))) (hj_3 : j_3 < w9) (hkn1 : 1 ≤ k9) (hw1 : 1 ≤ w9) (h01 : ¬ fs 0 = 0) (f_6_1_0 : (¬ (((nI j_6)).toInt64 < 0 ∨ 4 < ((nI j_6)).toInt64))) (q_6 : ¬ ((nI j_6) < 0 ∨ 4 < (nI j_6))) (hj_6 : j_6 ≤ 4) (hF_9_0 : okA fcn_9 man_9) (hF_9_1 : man_9 ≤ 24) (hF_9_2 : 1 ≤ man_9) (hF_9_3 : acM fcn_9 man_9 = ntA (m38 fs) ma (acM fc ma)) (hF_9_4 : man_9 = ntN ma) (e_11 : v_11 = fs (8 + j_3)) (hu_13 : g_13 = upd fs (8 + j_3) (nI j_6)) : m38 g_13 = n_wind (m38 fs) (nI j_3) (nI j_6) := by
  have hw6 := hM.2.2.2.1
  have hk6 := hM.2.2.2.2.1
  first
  | exact hT0
  | (intro h_; exact absurd (hT0 h_).1 h01)
  | (intro h_; have h9 := (hT0 h_).2; omega)
  | exact (windM_n (ma := ma) (A := acM fc ma) (windM_g hM.1 (Or.inl (sB_no e_2 (by omega) q_3)))).1
  | exact (windM_n (ma := ma) (A := acM fc ma) (windM_g hM.1 (Or.inl (sB_no e_2 (by omega) q_3)))).2.1
  | exact (windM_n (ma := ma) (A := acM fc ma) (windM_g hM.1 (Or.inl (sB_no e_2 (by omega) q_3)))).2.2.1
  | exact (windM_n (ma := ma) (A := acM fc ma) (windM_g hM.1 (Or.inl (sB_no e_2 (by omega) q_3)))).2.2.2
  | exact (windM_n (ma := ma) (A := acM fc ma) (windM_g hM.1 (Or.inr q_6))).1
  | exact (windM_n (ma := ma) (A := acM fc ma) (windM_g hM.1 (Or.inr q_6))).2.1
  | exact (windM_n (ma := ma) (A := acM fc ma) (windM_g hM.1 (Or.inr q_6))).2.2.1
  | exact (windM_n (ma := ma) (A := acM fc ma) (windM_g hM.1 (Or.inr q_6))).2.2.2
  | exact (windM_d hM.1 hw6 hj_3 q_6 (by assumption) (by assumption) (by assumption) (by assumption)).1
  | exact (windM_d hM.1 hw6 hj_3 q_6 (by assumption) (by assumption) (by assumption) (by assumption)).2.1
  | exact (windM_d hM.1 hw6 hj_3 q_6 (by assumption) (by assumption) (by assumption) (by assumption)).2.2.1
  | exact (windM_d hM.1 hw6 hj_3 q_6 (by assumption) (by assumption) (by assumption) (by assumption)).2.2.2
theorem lf_X8_wind_13 {mt : Int32} {ma : Nat} {fs : Nat → Int32} {w9 : Nat} {k9 : Nat} {h9 : Nat} {fc : Nat → Int32} {v_2 : Int32} {j_3 : Nat} {j_6 : Nat} {fcn_9 : Nat → Int32} {man_9 : Nat} {v_11 : Int32} {g_13 : Nat → Int32} (hM : okM fs w9 k9 h9) (hT : ¬ mt = 0 → 1 ≤ k9) (h999 : h9 ≤ 999) (hT0 : mt = 0 → fs 0 = 0 ∧ ma = 0) (hac : okA fc ma) (hma : ma ≤ 24) (e_2 : v_2 = ((nI w9) - 1)) (f_3_1_0 : (¬ (((nI j_3)).toInt64 < 0 ∨ (v_2).toInt64 < ((nI j_3)).toInt64))) (q_3 : ¬ ((nI j_3) < 0 ∨ v_2 < (nI j_3))) (hj_3 : j_3 < w9) (hkn1 : 1 ≤ k9) (hw1 : 1 ≤ w9) (h01 : ¬ fs 0 = 0) (f_6_1_0 : (¬ (((nI j_6)).toInt64 < 0 ∨ 4 < ((nI j_6)).toInt64))) (q_6 : ¬ ((nI j_6) < 0 ∨ 4 < (nI j_6))) (hj_6 : j_6 ≤ 4) (hF_9_0 : okA fcn_9 man_9) (hF_9_1 : man_9 ≤ 24) (hF_9_2 : 1 ≤ man_9) (hF_9_3 : acM fcn_9 man_9 = ntA (m38 fs) ma (acM fc ma)) (hF_9_4 : man_9 = ntN ma) (e_11 : v_11 = fs (8 + j_3)) (hu_13 : g_13 = upd fs (8 + j_3) (nI j_6)) : man_9 = kpN (gd_wind (m38 fs) (nI j_3) (nI j_6)) ma := by
  have hw6 := hM.2.2.2.1
  have hk6 := hM.2.2.2.2.1
  first
  | exact hT0
  | (intro h_; exact absurd (hT0 h_).1 h01)
  | (intro h_; have h9 := (hT0 h_).2; omega)
  | exact (windM_n (ma := ma) (A := acM fc ma) (windM_g hM.1 (Or.inl (sB_no e_2 (by omega) q_3)))).1
  | exact (windM_n (ma := ma) (A := acM fc ma) (windM_g hM.1 (Or.inl (sB_no e_2 (by omega) q_3)))).2.1
  | exact (windM_n (ma := ma) (A := acM fc ma) (windM_g hM.1 (Or.inl (sB_no e_2 (by omega) q_3)))).2.2.1
  | exact (windM_n (ma := ma) (A := acM fc ma) (windM_g hM.1 (Or.inl (sB_no e_2 (by omega) q_3)))).2.2.2
  | exact (windM_n (ma := ma) (A := acM fc ma) (windM_g hM.1 (Or.inr q_6))).1
  | exact (windM_n (ma := ma) (A := acM fc ma) (windM_g hM.1 (Or.inr q_6))).2.1
  | exact (windM_n (ma := ma) (A := acM fc ma) (windM_g hM.1 (Or.inr q_6))).2.2.1
  | exact (windM_n (ma := ma) (A := acM fc ma) (windM_g hM.1 (Or.inr q_6))).2.2.2
  | exact (windM_d hM.1 hw6 hj_3 q_6 (by assumption) (by assumption) (by assumption) (by assumption)).1
  | exact (windM_d hM.1 hw6 hj_3 q_6 (by assumption) (by assumption) (by assumption) (by assumption)).2.1
  | exact (windM_d hM.1 hw6 hj_3 q_6 (by assumption) (by assumption) (by assumption) (by assumption)).2.2.1
  | exact (windM_d hM.1 hw6 hj_3 q_6 (by assumption) (by assumption) (by assumption) (by assumption)).2.2.2
theorem lf_X8_wind_14 {mt : Int32} {ma : Nat} {fs : Nat → Int32} {w9 : Nat} {k9 : Nat} {h9 : Nat} {fc : Nat → Int32} {v_2 : Int32} {j_3 : Nat} {j_6 : Nat} {fcn_9 : Nat → Int32} {man_9 : Nat} {v_11 : Int32} {g_13 : Nat → Int32} (hM : okM fs w9 k9 h9) (hT : ¬ mt = 0 → 1 ≤ k9) (h999 : h9 ≤ 999) (hT0 : mt = 0 → fs 0 = 0 ∧ ma = 0) (hac : okA fc ma) (hma : ma ≤ 24) (e_2 : v_2 = ((nI w9) - 1)) (f_3_1_0 : (¬ (((nI j_3)).toInt64 < 0 ∨ (v_2).toInt64 < ((nI j_3)).toInt64))) (q_3 : ¬ ((nI j_3) < 0 ∨ v_2 < (nI j_3))) (hj_3 : j_3 < w9) (hkn1 : 1 ≤ k9) (hw1 : 1 ≤ w9) (h01 : ¬ fs 0 = 0) (f_6_1_0 : (¬ (((nI j_6)).toInt64 < 0 ∨ 4 < ((nI j_6)).toInt64))) (q_6 : ¬ ((nI j_6) < 0 ∨ 4 < (nI j_6))) (hj_6 : j_6 ≤ 4) (hF_9_0 : okA fcn_9 man_9) (hF_9_1 : man_9 ≤ 24) (hF_9_2 : 1 ≤ man_9) (hF_9_3 : acM fcn_9 man_9 = ntA (m38 fs) ma (acM fc ma)) (hF_9_4 : man_9 = ntN ma) (e_11 : v_11 = fs (8 + j_3)) (hu_13 : g_13 = upd fs (8 + j_3) (nI j_6)) : acM fcn_9 man_9 = kpA (gd_wind (m38 fs) (nI j_3) (nI j_6)) (m38 fs) ma (acM fc ma) := by
  have hw6 := hM.2.2.2.1
  have hk6 := hM.2.2.2.2.1
  first
  | exact hT0
  | (intro h_; exact absurd (hT0 h_).1 h01)
  | (intro h_; have h9 := (hT0 h_).2; omega)
  | exact (windM_n (ma := ma) (A := acM fc ma) (windM_g hM.1 (Or.inl (sB_no e_2 (by omega) q_3)))).1
  | exact (windM_n (ma := ma) (A := acM fc ma) (windM_g hM.1 (Or.inl (sB_no e_2 (by omega) q_3)))).2.1
  | exact (windM_n (ma := ma) (A := acM fc ma) (windM_g hM.1 (Or.inl (sB_no e_2 (by omega) q_3)))).2.2.1
  | exact (windM_n (ma := ma) (A := acM fc ma) (windM_g hM.1 (Or.inl (sB_no e_2 (by omega) q_3)))).2.2.2
  | exact (windM_n (ma := ma) (A := acM fc ma) (windM_g hM.1 (Or.inr q_6))).1
  | exact (windM_n (ma := ma) (A := acM fc ma) (windM_g hM.1 (Or.inr q_6))).2.1
  | exact (windM_n (ma := ma) (A := acM fc ma) (windM_g hM.1 (Or.inr q_6))).2.2.1
  | exact (windM_n (ma := ma) (A := acM fc ma) (windM_g hM.1 (Or.inr q_6))).2.2.2
  | exact (windM_d hM.1 hw6 hj_3 q_6 (by assumption) (by assumption) (by assumption) (by assumption)).1
  | exact (windM_d hM.1 hw6 hj_3 q_6 (by assumption) (by assumption) (by assumption) (by assumption)).2.1
  | exact (windM_d hM.1 hw6 hj_3 q_6 (by assumption) (by assumption) (by assumption) (by assumption)).2.2.1
  | exact (windM_d hM.1 hw6 hj_3 q_6 (by assumption) (by assumption) (by assumption) (by assumption)).2.2.2
theorem lf_X8_wind_15 {mt : Int32} {ma : Nat} {fs : Nat → Int32} {w9 : Nat} {k9 : Nat} {h9 : Nat} {fc : Nat → Int32} {v_2 : Int32} {j_3 : Nat} {j_6 : Nat} {fcn_9 : Nat → Int32} {man_9 : Nat} {v_11 : Int32} {g_13 : Nat → Int32} (hM : okM fs w9 k9 h9) (hT : ¬ mt = 0 → 1 ≤ k9) (h999 : h9 ≤ 999) (hT0 : mt = 0 → fs 0 = 0 ∧ ma = 0) (hac : okA fc ma) (hma : ma ≤ 24) (e_2 : v_2 = ((nI w9) - 1)) (f_3_1_0 : (¬ (((nI j_3)).toInt64 < 0 ∨ (v_2).toInt64 < ((nI j_3)).toInt64))) (q_3 : ¬ ((nI j_3) < 0 ∨ v_2 < (nI j_3))) (hj_3 : j_3 < w9) (hkn1 : 1 ≤ k9) (hw1 : 1 ≤ w9) (h01 : ¬ fs 0 = 0) (f_6_1_0 : (¬ (((nI j_6)).toInt64 < 0 ∨ 4 < ((nI j_6)).toInt64))) (q_6 : ¬ ((nI j_6) < 0 ∨ 4 < (nI j_6))) (hj_6 : j_6 ≤ 4) (hF_9_0 : okA fcn_9 man_9) (hF_9_1 : man_9 ≤ 24) (hF_9_2 : 1 ≤ man_9) (hF_9_3 : acM fcn_9 man_9 = ntA (m38 fs) ma (acM fc ma)) (hF_9_4 : man_9 = ntN ma) (e_11 : v_11 = fs (8 + j_3)) (hu_13 : g_13 = upd fs (8 + j_3) (nI j_6)) : v_11 = (a_wind (m38 fs) (nI j_3) (nI j_6)) := by
  have hw6 := hM.2.2.2.1
  have hk6 := hM.2.2.2.2.1
  first
  | exact hT0
  | (intro h_; exact absurd (hT0 h_).1 h01)
  | (intro h_; have h9 := (hT0 h_).2; omega)
  | exact (windM_n (ma := ma) (A := acM fc ma) (windM_g hM.1 (Or.inl (sB_no e_2 (by omega) q_3)))).1
  | exact (windM_n (ma := ma) (A := acM fc ma) (windM_g hM.1 (Or.inl (sB_no e_2 (by omega) q_3)))).2.1
  | exact (windM_n (ma := ma) (A := acM fc ma) (windM_g hM.1 (Or.inl (sB_no e_2 (by omega) q_3)))).2.2.1
  | exact (windM_n (ma := ma) (A := acM fc ma) (windM_g hM.1 (Or.inl (sB_no e_2 (by omega) q_3)))).2.2.2
  | exact (windM_n (ma := ma) (A := acM fc ma) (windM_g hM.1 (Or.inr q_6))).1
  | exact (windM_n (ma := ma) (A := acM fc ma) (windM_g hM.1 (Or.inr q_6))).2.1
  | exact (windM_n (ma := ma) (A := acM fc ma) (windM_g hM.1 (Or.inr q_6))).2.2.1
  | exact (windM_n (ma := ma) (A := acM fc ma) (windM_g hM.1 (Or.inr q_6))).2.2.2
  | exact (windM_d hM.1 hw6 hj_3 q_6 (by assumption) (by assumption) (by assumption) (by assumption)).1
  | exact (windM_d hM.1 hw6 hj_3 q_6 (by assumption) (by assumption) (by assumption) (by assumption)).2.1
  | exact (windM_d hM.1 hw6 hj_3 q_6 (by assumption) (by assumption) (by assumption) (by assumption)).2.2.1
  | exact (windM_d hM.1 hw6 hj_3 q_6 (by assumption) (by assumption) (by assumption) (by assumption)).2.2.2
set_option maxHeartbeats 4000000 in
set_option maxRecDepth 100000 in
theorem r_X8_wind (l : Launch) (dC : Nat → ClassId) (dI : Nat → Nat → Nat) (cI cZ cL cJ : ClassId) (sz : Nat) (mo : Nat) (m_la : Nat) (m_sz : Nat) (m_it : Nat) (m_st : Nat) (m_mv : Nat) (m_tp : Nat) (m_rd : Nat) (m_ac : Nat) (m_as : Nat) (m_wo : Nat) (m_ik : Nat) (m_ke : Nat) (m_tr : Nat) (ms : Int32) (mt : Int32) (ml : Int32) (mk : Int32) (mv : Int32) (mb : Int32) (mw : Int32) (mz : Nat) (mp : Nat) (ma : Nat) (mx : Nat) (fs : Nat → Int32) (w9 : Nat) (k9 : Nat) (h9 : Nat) (fc : Nat → Int32) (a0 : Int32) (a1 : Int32) (hM : okM fs w9 k9 h9) (hT : ¬ mt = 0 → 1 ≤ k9) (h999 : h9 ≤ 999) (hT0 : mt = 0 → fs 0 = 0 ∧ ma = 0) (hac : okA fc ma) (hma : ma ≤ 24) : Met l yX8_wind wsX8_wind ({ frames := 1, cells := 0, slots := 0, locals := 25 }) (va_Pc [.ref mo, .int a0, .int a1] (fun U => U.heap.size = sz ∧ va_P (dC, dI) vwCl [(xo_8_rrriirrriiiiiiirrirrrrri mo m_la m_sz m_it ms mt m_st m_mv m_tp (nI mz) ml (nI mp) mk mv mb mw m_rd m_ac (nI ma) m_as m_wo m_ik m_ke m_tr (nI mx)), (xI m_st cI 38 fs), (xI m_ac cI 912 fc)] U.heap ∧ va_K (dC, dI) vwCl [(cI, .int), (cZ, .boolean), (cL, .object RX3), (cJ, .array .int)] U ∧ va_D (fun _ => True) [(xo_8_rrriirrriiiiiiirrirrrrri mo m_la m_sz m_it ms mt m_st m_mv m_tp (nI mz) ml (nI mp) mk mv mb mw m_rd m_ac (nI ma) m_as m_wo m_ik m_ke m_tr (nI mx)), (xI m_st cI 38 fs), (xI m_ac cI 912 fc)])) (va_Qi (fun r (_ : Unit) => r = (a_wind (m38 fs) a0 a1)) (fun (_ : Unit) t => ∃ (fsn : Nat → Int32) (fcn : Nat → Int32) (man : Nat) (w9n : Nat) (k9n : Nat) (h9n : Nat), va_P (dC, dI) vwCl [(xo_8_rrriirrriiiiiiirrirrrrri mo m_la m_sz m_it ms mt m_st m_mv m_tp (nI mz) ml (nI mp) mk mv mb mw m_rd m_ac (nI man) m_as m_wo m_ik m_ke m_tr (nI mx)), (xI m_st cI 38 fsn), (xI m_ac cI 912 fcn)] t.heap ∧ va_D (va_A [(xo_8_rrriirrriiiiiiirrirrrrri mo m_la m_sz m_it ms mt m_st m_mv m_tp (nI mz) ml (nI mp) mk mv mb mw m_rd m_ac (nI ma) m_as m_wo m_ik m_ke m_tr (nI mx)), (xI m_st cI 38 fs), (xI m_ac cI 912 fc)] sz) [(xo_8_rrriirrriiiiiiirrirrrrri mo m_la m_sz m_it ms mt m_st m_mv m_tp (nI mz) ml (nI mp) mk mv mb mw m_rd m_ac (nI man) m_as m_wo m_ik m_ke m_tr (nI mx)), (xI m_st cI 38 fsn), (xI m_ac cI 912 fcn)] ∧ okM fsn w9n k9n h9n ∧ (¬ mt = 0 → 1 ≤ k9n) ∧ h9n ≤ 999 ∧ okA fcn man ∧ man ≤ 24 ∧ (mt = 0 → fsn 0 = 0 ∧ man = 0) ∧ m38 fsn = n_wind (m38 fs) a0 a1 ∧ man = kpN (gd_wind (m38 fs) a0 a1) ma ∧ acM fcn man = kpA (gd_wind (m38 fs) a0 a1) (m38 fs) ma (acM fc ma)) (va_A [(xo_8_rrriirrriiiiiiirrirrrrri mo m_la m_sz m_it ms mt m_st m_mv m_tp (nI mz) ml (nI mp) mk mv mb mw m_rd m_ac (nI ma) m_as m_wo m_ik m_ke m_tr (nI mx)), (xI m_st cI 38 fs), (xI m_ac cI 912 fc)] sz)) 0 0 (va_A [(xo_8_rrriirrriiiiiiirrirrrrri mo m_la m_sz m_it ms mt m_st m_mv m_tp (nI mz) ml (nI mp) mk mv mb mw m_rd m_ac (nI ma) m_as m_wo m_ik m_ke m_tr (nI mx)), (xI m_st cI 38 fs), (xI m_ac cI 912 fc)] sz) := by
  refine Met.ofW (cc := cX8_wind) (maxL := 4) (ret := (some .int)) (by decide) rfl ?_
  intro p e s m args below meth c s₁ B hml hv
  obtain ⟨rfl, hsz, hP, hK, hD0⟩ := hv
  have hx := B.exec
  have hb := B.bytes
  have hr := B.returns
  have hts := atoms_spec (ws := wsX8_wind) B.pre
  have hown : s.vm.findClass RX8 = some m.cls := findClass_of_methodNamed B.named
  have hlocks := B.notSynchronized
  subst hsz
  have hD := hD0.self (sz := s.heap.size)
  generalize hAe : va_A [(xo_8_rrriirrriiiiiiirrirrrrri mo m_la m_sz m_it ms mt m_st m_mv m_tp (nI mz) ml (nI mp) mk mv mb mw m_rd m_ac (nI ma) m_as m_wo m_ik m_ke m_tr (nI mx)), (xI m_st cI 38 fs), (xI m_ac cI 912 fc)] s.heap.size = A at hD ⊢
  have hA : ∀ q : Nat, s.heap.size ≤ q → A q := fun q h => by rw [← hAe]; exact Or.inr h
  have hS : va_S A s.heap s.heap [] := va_S.rf
  have hP : va_P (dC, dI) vwCl [(xo_8_rrriirrriiiiiiirrirrrrri mo m_la m_sz m_it ms mt m_st m_mv m_tp (nI mz) ml (nI mp) mk mv mb mw m_rd m_ac (nI ma) m_as m_wo m_ik m_ke m_tr (nI mx)), (xI m_st cI 38 fs), (xI m_ac cI 912 fc)] s.heap := hP
  have hl := lv_entry ([.ref mo, .int a0, .int a1]) (n := 4) (Nat.le_of_ble_eq_true rfl)
  rw [lg_entry_eq]
  generalize (lg_sl ([.ref mo, .int a0, .int a1]) ++ List.replicate (4 - (lg_sl ([.ref mo, .int a0, .int a1])).length) Slot.unset).toArray = ls at hl ⊢
  have hl : lv_has ls 4 [(0, .ref mo), (1, .int a0), (2, .int a1)] := hl
  have hk6 := hM.2.2.2.2.1
  have hw6 := hM.2.2.2.1
  refine lv_iload_n hx hb dX8_wind_0 rfl (lv_at hl 1 rfl) ?_
  refine lv_i2l hx hb dX8_wind_1 rfl ?_
  refine lv_lconst (v := 0) hx hb dX8_wind_2 (by decide) ?_
  refine lv_aload_n hx hb dX8_wind_3 rfl (lv_at hl 0 rfl) ?_
  refine va_get (D := (dC, dI)) (ci := 8) (v := .ref m_st) (C := RX8) (T := TX8) (N := 24) hx hb hts i_X8_wind_X8 hown hK hP 0 rfl rfl 5 (by decide) (hts _ mx_X8_wind_1) (fun _ h9 => h9) rfl dX8_wind_4 ?_
  refine lv_iconst (v := 3) hx hb dX8_wind_7 (by decide) ?_
  refine va_iald hx hb hK hP 1 0 rfl rfl (by unfold vp_in; decide) dX8_wind_8 ?_
  refine lv_topi (fun v_1 e_1 => ?_)
  obtain rfl : v_1 = (nI w9) := (e_1).trans hM.1
  refine lv_iconst (v := 1) hx hb dX8_wind_9 (by decide) ?_
  refine lv_isub hx hb dX8_wind_10 ?_
  refine lv_topi (fun v_2 e_2 => ?_)
  refine lv_i2l hx hb dX8_wind_11 rfl ?_
  have hPc_3 := hP.sub (ws' := []) [] rfl
  refine vp_callSi (W.runS (As := [.long (a0).toInt64, .long 0, .long (v_2).toInt64]) (rest := []) ⟨hx, hb, hml, hown, hts⟩ (r_X8_in l dC dI cI cZ cL cJ ((a0).toInt64) 0 ((v_2).toInt64) ) (va_cwS 3 hts gX8_wind_X8_in rfl rfl rfl (by decide +kernel) ⟨Nat.le_of_ble_eq_true rfl, Nat.le_of_ble_eq_true rfl⟩) (psP hK hPc_3) rfl rfl hl.1 rfl (lv_room (Nat.le_of_ble_eq_true rfl)) dX8_wind_12 ⟨Nat.le_of_ble_eq_true rfl, Nat.le_of_ble_eq_true rfl⟩) (fun r_3 h_3 => ?_)
  rcases h_3 with ⟨h_3, f_3_0_0⟩ | ⟨h_3, f_3_1_0⟩
  · subst h_3
    have q_3 : (a0 < 0 ∨ v_2 < a0) := (in32 (x := a0) (l := 0) (u := v_2) (by decide) rfl).mp f_3_0_0
    refine lv_if_eq (tgt := 30) hx hb dX8_wind_15 (by decide) (fun _ => ?_) (fun c_ => absurd (by decide) c_)
    refine lv_ldc (own := RX8) (v := (-1000001)) hx hb hown (hts _ mx_X8_wind_3) dX8_wind_30 ?_
    have hX9 := cut2 (wc := [(xo_8_rrriirrriiiiiiirrirrrrri mo m_la m_sz m_it ms mt m_st m_mv m_tp (nI mz) ml (nI mp) mk mv mb mw m_rd m_ac (nI ma) m_as m_wo m_ik m_ke m_tr (nI mx)), (xI m_st cI 38 fs), (xI m_ac cI 912 fc)]) hP hD [0, 1, 2] (by decide +kernel) rfl
    exact W.iret (v := (-1000001)) hx hb hr (fun t ht hW => ⟨⟨(-1000001), (), rfl, (lf_X8_wind_5 hM hT h999 hT0 hac hma e_2 f_3_0_0 q_3), ⟨fs, fc, ma, w9, k9, h9, va_Ht ht hX9.1, hX9.2, hM, hT, (by omega), hac, (by omega), (lf_X8_wind_1 hM hT h999 hT0 hac hma e_2 f_3_0_0 q_3), (lf_X8_wind_2 hM hT h999 hT0 hac hma e_2 f_3_0_0 q_3), (lf_X8_wind_3 hM hT h999 hT0 hac hma e_2 f_3_0_0 q_3), (lf_X8_wind_4 hM hT h999 hT0 hac hma e_2 f_3_0_0 q_3)⟩⟩, hS.F ht⟩) hS.2.2 dX8_wind_32
  · subst h_3
    have q_3 : ¬ (a0 < 0 ∨ v_2 < a0) := fun q_ => f_3_1_0 ((in32 (x := a0) (l := 0) (u := v_2) (by decide) rfl).mpr q_)
    obtain ⟨j_3, hj_3, rfl⟩ := vp_in_of (snd_in (k := w9) (by omega) e_2 f_3_1_0) (by omega)
    have hw1 : 1 ≤ w9 := by omega
    have hkn1 := hM.2.2.2.2.2.1.mpr hw1
    have h01 : ¬ fs 0 = 0 := cell_nz hM hkn1
    refine lv_if_eq (tgt := 30) hx hb dX8_wind_15 (by decide) (fun c_ => absurd c_ (by decide)) (fun _ => ?_)
    refine lv_iload_n hx hb dX8_wind_18 rfl (lv_at hl 2 rfl) ?_
    refine lv_i2l hx hb dX8_wind_19 rfl ?_
    refine lv_lconst (v := 0) hx hb dX8_wind_20 (by decide) ?_
    refine lv_ldc2 (own := RX8) (v := 4) hx hb hown (hts _ mx_X8_wind_2) dX8_wind_21 ?_
    have hPc_6 := hP.sub (ws' := []) [] rfl
    refine vp_callSi (W.runS (As := [.long (a1).toInt64, .long 0, .long 4]) (rest := []) ⟨hx, hb, hml, hown, hts⟩ (r_X8_in l dC dI cI cZ cL cJ ((a1).toInt64) 0 4 ) (va_cwS 3 hts gX8_wind_X8_in rfl rfl rfl (by decide +kernel) ⟨Nat.le_of_ble_eq_true rfl, Nat.le_of_ble_eq_true rfl⟩) (psP hK hPc_6) rfl rfl hl.1 rfl (lv_room (Nat.le_of_ble_eq_true rfl)) dX8_wind_24 ⟨Nat.le_of_ble_eq_true rfl, Nat.le_of_ble_eq_true rfl⟩) (fun r_6 h_6 => ?_)
    rcases h_6 with ⟨h_6, f_6_0_0⟩ | ⟨h_6, f_6_1_0⟩
    · subst h_6
      have q_6 : (a1 < 0 ∨ 4 < a1) := (in32 (x := a1) (l := 0) (u := 4) (by decide) (by decide)).mp f_6_0_0
      refine lv_if_ne (tgt := 33) hx hb dX8_wind_27 (by decide) (fun c_ => absurd (by decide) c_) (fun _ => ?_)
      refine lv_ldc (own := RX8) (v := (-1000001)) hx hb hown (hts _ mx_X8_wind_3) dX8_wind_30 ?_
      have hX9 := cut2 (wc := [(xo_8_rrriirrriiiiiiirrirrrrri mo m_la m_sz m_it ms mt m_st m_mv m_tp (nI mz) ml (nI mp) mk mv mb mw m_rd m_ac (nI ma) m_as m_wo m_ik m_ke m_tr (nI mx)), (xI m_st cI 38 fs), (xI m_ac cI 912 fc)]) hP hD [0, 1, 2] (by decide +kernel) rfl
      exact W.iret (v := (-1000001)) hx hb hr (fun t ht hW => ⟨⟨(-1000001), (), rfl, (lf_X8_wind_10 hM hT h999 hT0 hac hma e_2 f_3_1_0 q_3 hj_3 hkn1 hw1 h01 f_6_0_0 q_6), ⟨fs, fc, ma, w9, k9, h9, va_Ht ht hX9.1, hX9.2, hM, hT, (by omega), hac, (by omega), (lf_X8_wind_6 hM hT h999 hT0 hac hma e_2 f_3_1_0 q_3 hj_3 hkn1 hw1 h01 f_6_0_0 q_6), (lf_X8_wind_7 hM hT h999 hT0 hac hma e_2 f_3_1_0 q_3 hj_3 hkn1 hw1 h01 f_6_0_0 q_6), (lf_X8_wind_8 hM hT h999 hT0 hac hma e_2 f_3_1_0 q_3 hj_3 hkn1 hw1 h01 f_6_0_0 q_6), (lf_X8_wind_9 hM hT h999 hT0 hac hma e_2 f_3_1_0 q_3 hj_3 hkn1 hw1 h01 f_6_0_0 q_6)⟩⟩, hS.F ht⟩) hS.2.2 dX8_wind_32
    · subst h_6
      have q_6 : ¬ (a1 < 0 ∨ 4 < a1) := fun q_ => f_6_1_0 ((in32 (x := a1) (l := 0) (u := 4) (by decide) (by decide)).mpr q_)
      obtain ⟨j_6, hj_6, hl_6, rfl⟩ := in64 (lo := 0) (n := 4) rfl rfl (by decide) f_6_1_0
      refine lv_if_ne (tgt := 33) hx hb dX8_wind_27 (by decide) (fun _ => ?_) (fun c_ => absurd c_ (by decide))
      refine lv_aload_n hx hb dX8_wind_33 rfl (lv_at hl 0 rfl) ?_
      have hc_9 := cutW (wc := [(xo_8_rrriirrriiiiiiirrirrrrri mo m_la m_sz m_it ms mt m_st m_mv m_tp (nI mz) ml (nI mp) mk mv mb mw m_rd m_ac (nI ma) m_as m_wo m_ik m_ke m_tr (nI mx)), (xI m_st cI 38 fs), (xI m_ac cI 912 fc)]) hP hD hS hA [0, 1, 2] (by decide +kernel) rfl
      refine va_callv (va_runV (As := []) (rest := []) ⟨hx, hb, hml, hown, hts⟩ (r_X8_note l dC dI cI cZ cL cJ s.heap.size mo m_la m_sz m_it m_st m_mv m_tp m_rd m_ac m_as m_wo m_ik m_ke m_tr ms mt ml mk mv mb mw mz mp ma mx fs fc (hac) (by omega) (⟨w9, k9, h9, hM, hkn1, by omega⟩)) (cwV 0 hts gX8_wind_X8_note rfl rfl rfl (by decide +kernel) ⟨Nat.le_of_ble_eq_true rfl, Nat.le_of_ble_eq_true rfl⟩) (pvW 8 0 hK hP rfl rfl hc_9) rfl rfl hl.1 rfl (lv_room (Nat.le_of_ble_eq_true rfl)) dX8_wind_34 ⟨Nat.le_of_ble_eq_true rfl, Nat.le_of_ble_eq_true rfl⟩) hS (fun q _ h => hc_9.2.2 q h) hc_9.2.2 (fun u_9 t_9 H1 locs ht hvm h_9 hB hz1 hk1 hS => ?_)
      refine xl_2_7 hB (fun fcn_9 man_9 hP1 hD1 hF_9_0 hF_9_1 hF_9_2 hF_9_3 hF_9_4 => ?_)
      clear hB
      rw [ht] at hP1
      obtain ⟨hP, hD⟩ := va_join (wr := []) (w1 := [(xo_8_rrriirrriiiiiiirrirrrrri mo m_la m_sz m_it ms mt m_st m_mv m_tp (nI mz) ml (nI mp) mk mv mb mw m_rd m_ac (nI man_9) m_as m_wo m_ik m_ke m_tr (nI mx)), (xI m_st cI 38 fs), (xI m_ac cI 912 fcn_9)]) hP hD [0, 1, 2] [] rfl rfl (by decide +kernel) (by decide +kernel) hk1 hc_9.2.2 hP1 hD1
      generalize H1 = H at hP hS ⊢
      have hP : va_P (dC, dI) vwCl [(xo_8_rrriirrriiiiiiirrirrrrri mo m_la m_sz m_it ms mt m_st m_mv m_tp (nI mz) ml (nI mp) mk mv mb mw m_rd m_ac (nI man_9) m_as m_wo m_ik m_ke m_tr (nI mx)), (xI m_st cI 38 fs), (xI m_ac cI 912 fcn_9)] H := hP
      have hD := dto hP hD
      refine lv_aload_n hx hb dX8_wind_37 rfl (lv_at hl 0 rfl) ?_
      refine va_get (D := (dC, dI)) (ci := 8) (v := .ref m_st) (C := RX8) (T := TX8) (N := 24) hx hb hts i_X8_wind_X8 hown hK hP 0 rfl rfl 5 (by decide) (hts _ mx_X8_wind_1) (fun _ h9 => h9) rfl dX8_wind_38 ?_
      refine lv_bipush (v := 8) hx hb dX8_wind_41 (by decide) ?_
      refine lv_iload_n hx hb dX8_wind_43 rfl (lv_at hl 1 rfl) ?_
      refine lv_iadd hx hb dX8_wind_44 ?_
      refine lv_topi (fun v_10 e_10 => ?_)
      obtain rfl : v_10 = (nI (8 + j_3)) := (e_10).trans (nI_add 8 j_3)
      refine va_iald hx hb hK hP 1 0 rfl rfl (vp_in_nI (by omega) (by omega)) dX8_wind_45 ?_
      refine lv_topi (fun v_11 e_11 => ?_)
      have e_11 : v_11 = fs (8 + j_3) := e_11.trans (congrArg fs (nI_clamp (by omega)))
      refine lv_istore_n (lv' := [(3, .int v_11), (0, .ref mo), (1, .int (nI j_3)), (2, .int (nI j_6))]) hx hb dX8_wind_46 rfl hl (by decide) rfl (fun ls hl => ?_)
      refine lv_aload_n hx hb dX8_wind_47 rfl (lv_at hl 1 rfl) ?_
      refine va_get (D := (dC, dI)) (ci := 8) (v := .ref m_st) (C := RX8) (T := TX8) (N := 24) hx hb hts i_X8_wind_X8 hown hK hP 0 rfl rfl 5 (by decide) (hts _ mx_X8_wind_1) (fun _ h9 => h9) rfl dX8_wind_48 ?_
      refine lv_bipush (v := 8) hx hb dX8_wind_51 (by decide) ?_
      refine lv_iload_n hx hb dX8_wind_53 rfl (lv_at hl 2 rfl) ?_
      refine lv_iadd hx hb dX8_wind_54 ?_
      refine lv_topi (fun v_12 e_12 => ?_)
      obtain rfl : v_12 = (nI (8 + j_3)) := (e_12).trans (nI_add 8 j_3)
      refine lv_iload_n hx hb dX8_wind_55 rfl (lv_at hl 3 rfl) ?_
      refine va_iast hx hb hK hP hD hS 1 0 rfl rfl (vp_in_nI (by omega) (by omega)) dX8_wind_56 (fun H locs hP hD hS => ?_)
      generalize hg_13 : upd fs ((nI (8 + j_3)) : Int32).toNatClampNeg (nI j_6) = g_13 at hP hD
      have hu_13 : g_13 = upd fs (8 + j_3) (nI j_6) := (by rw [← hg_13, nI_clamp (by omega)])
      have hM_13 : okM g_13 w9 k9 h9 := okM_off (i := (8 + j_3)) hM hg_13 (by omega) (by omega) (by omega) (by omega) (by omega)
      have hP : va_P (dC, dI) vwCl [(xo_8_rrriirrriiiiiiirrirrrrri mo m_la m_sz m_it ms mt m_st m_mv m_tp (nI mz) ml (nI mp) mk mv mb mw m_rd m_ac (nI man_9) m_as m_wo m_ik m_ke m_tr (nI mx)), (xI m_st cI 38 g_13), (xI m_ac cI 912 fcn_9)] H := hP
      have hD := dto hP hD
      refine lv_iload_n hx hb dX8_wind_57 rfl (lv_at hl 0 rfl) ?_
      have hX9 := cut2 (wc := [(xo_8_rrriirrriiiiiiirrirrrrri mo m_la m_sz m_it ms mt m_st m_mv m_tp (nI mz) ml (nI mp) mk mv mb mw m_rd m_ac (nI man_9) m_as m_wo m_ik m_ke m_tr (nI mx)), (xI m_st cI 38 g_13), (xI m_ac cI 912 fcn_9)]) hP hD [0, 1, 2] (by decide +kernel) rfl
      exact W.iret (v := v_11) hx hb hr (fun t ht hW => ⟨⟨v_11, (), rfl, (lf_X8_wind_15 hM hT h999 hT0 hac hma e_2 f_3_1_0 q_3 hj_3 hkn1 hw1 h01 f_6_1_0 q_6 hj_6 hF_9_0 hF_9_1 hF_9_2 hF_9_3 hF_9_4 e_11 hu_13), ⟨g_13, fcn_9, man_9, w9, k9, h9, va_Ht ht hX9.1, hX9.2, hM_13, hT, (by omega), hF_9_0, (by omega), (lf_X8_wind_11 hM hT h999 hT0 hac hma e_2 f_3_1_0 q_3 hj_3 hkn1 hw1 h01 f_6_1_0 q_6 hj_6 hF_9_0 hF_9_1 hF_9_2 hF_9_3 hF_9_4 e_11 hu_13), (lf_X8_wind_12 hM hT h999 hT0 hac hma e_2 f_3_1_0 q_3 hj_3 hkn1 hw1 h01 f_6_1_0 q_6 hj_6 hF_9_0 hF_9_1 hF_9_2 hF_9_3 hF_9_4 e_11 hu_13), (lf_X8_wind_13 hM hT h999 hT0 hac hma e_2 f_3_1_0 q_3 hj_3 hkn1 hw1 h01 f_6_1_0 q_6 hj_6 hF_9_0 hF_9_1 hF_9_2 hF_9_3 hF_9_4 e_11 hu_13), (lf_X8_wind_14 hM hT h999 hT0 hac hma e_2 f_3_1_0 q_3 hj_3 hkn1 hw1 h01 f_6_1_0 q_6 hj_6 hF_9_0 hF_9_1 hF_9_2 hF_9_3 hF_9_4 e_11 hu_13)⟩⟩, hS.F ht⟩) hS.2.2 dX8_wind_58
theorem lf_X8_loose_1 {mt : Int32} {ma : Nat} {fs : Nat → Int32} {w9 : Nat} {k9 : Nat} {h9 : Nat} {fc : Nat → Int32} {a0 : Int32} (hM : okM fs w9 k9 h9) (hT : ¬ mt = 0 → 1 ≤ k9) (h999 : h9 ≤ 999) (hT0 : mt = 0 → fs 0 = 0 ∧ ma = 0) (hac : okA fc ma) (hma : ma ≤ 24) (f_1_0_0 : ¬ sB (nI k9) a0) : (mt = 0 → fs 0 = 0 ∧ ma = 0) := by
  have hw6 := hM.2.2.2.1
  have hk6 := hM.2.2.2.2.1
  first
  | exact hT0
  | (intro h_; exact absurd (hT0 h_).1 h01)
  | (intro h_; have h9 := (hT0 h_).2; omega)
  | exact (looM_n (ma := ma) (A := acM fc ma) (looM_g hM (Or.inl f_1_0_0))).1
  | exact (looM_n (ma := ma) (A := acM fc ma) (looM_g hM (Or.inl f_1_0_0))).2.1
  | exact (looM_n (ma := ma) (A := acM fc ma) (looM_g hM (Or.inl f_1_0_0))).2.2.1
  | exact (looM_n (ma := ma) (A := acM fc ma) (looM_g hM (Or.inl f_1_0_0))).2.2.2
  | exact (looM_n (ma := ma) (A := acM fc ma) (looM_g hM (Or.inr (Or.inl f_5_0_0)))).1
  | exact (looM_n (ma := ma) (A := acM fc ma) (looM_g hM (Or.inr (Or.inl f_5_0_0)))).2.1
  | exact (looM_n (ma := ma) (A := acM fc ma) (looM_g hM (Or.inr (Or.inl f_5_0_0)))).2.2.1
  | exact (looM_n (ma := ma) (A := acM fc ma) (looM_g hM (Or.inr (Or.inl f_5_0_0)))).2.2.2
  | exact (looM_n (ma := ma) (A := acM fc ma) (looM_g hM (Or.inr (Or.inr q_8)))).1
  | exact (looM_n (ma := ma) (A := acM fc ma) (looM_g hM (Or.inr (Or.inr q_8)))).2.1
  | exact (looM_n (ma := ma) (A := acM fc ma) (looM_g hM (Or.inr (Or.inr q_8)))).2.2.1
  | exact (looM_n (ma := ma) (A := acM fc ma) (looM_g hM (Or.inr (Or.inr q_8)))).2.2.2
  | exact (looM_s (ma := ma) (A := acM fc ma) hM hj_1 f_5_1_0 q_8 e_12 c_13).1
  | exact (looM_s (ma := ma) (A := acM fc ma) hM hj_1 f_5_1_0 q_8 e_12 c_13).2.1
  | exact (looM_s (ma := ma) (A := acM fc ma) hM hj_1 f_5_1_0 q_8 e_12 c_13).2.2.1
  | exact (looM_s (ma := ma) (A := acM fc ma) hM hj_1 f_5_1_0 q_8 e_12 c_13).2.2.2
  | exact (looM_d hM hj_1 f_5_1_0 q_8 e_12 c_13 (by assumption) (by assumption) (by assumption) (by assumption) (by assumption)).1
  | exact (looM_d hM hj_1 f_5_1_0 q_8 e_12 c_13 (by assumption) (by assumption) (by assumption) (by assumption) (by assumption)).2.1
  | exact (looM_d hM hj_1 f_5_1_0 q_8 e_12 c_13 (by assumption) (by assumption) (by assumption) (by assumption) (by assumption)).2.2.1
  | exact (looM_d hM hj_1 f_5_1_0 q_8 e_12 c_13 (by assumption) (by assumption) (by assumption) (by assumption) (by assumption)).2.2.2
theorem lf_X8_loose_2 {mt : Int32} {ma : Nat} {fs : Nat → Int32} {w9 : Nat} {k9 : Nat} {h9 : Nat} {fc : Nat → Int32} {a0 : Int32} {a1 : Int32} {a2 : Int32} (hM : okM fs w9 k9 h9) (hT : ¬ mt = 0 → 1 ≤ k9) (h999 : h9 ≤ 999) (hT0 : mt = 0 → fs 0 = 0 ∧ ma = 0) (hac : okA fc ma) (hma : ma ≤ 24) (f_1_0_0 : ¬ sB (nI k9) a0) : m38 fs = n_loose (m38 fs) a0 a1 a2 := by
  have hw6 := hM.2.2.2.1
  have hk6 := hM.2.2.2.2.1
  first
  | exact hT0
  | (intro h_; exact absurd (hT0 h_).1 h01)
  | (intro h_; have h9 := (hT0 h_).2; omega)
  | exact (looM_n (ma := ma) (A := acM fc ma) (looM_g hM (Or.inl f_1_0_0))).1
  | exact (looM_n (ma := ma) (A := acM fc ma) (looM_g hM (Or.inl f_1_0_0))).2.1
  | exact (looM_n (ma := ma) (A := acM fc ma) (looM_g hM (Or.inl f_1_0_0))).2.2.1
  | exact (looM_n (ma := ma) (A := acM fc ma) (looM_g hM (Or.inl f_1_0_0))).2.2.2
  | exact (looM_n (ma := ma) (A := acM fc ma) (looM_g hM (Or.inr (Or.inl f_5_0_0)))).1
  | exact (looM_n (ma := ma) (A := acM fc ma) (looM_g hM (Or.inr (Or.inl f_5_0_0)))).2.1
  | exact (looM_n (ma := ma) (A := acM fc ma) (looM_g hM (Or.inr (Or.inl f_5_0_0)))).2.2.1
  | exact (looM_n (ma := ma) (A := acM fc ma) (looM_g hM (Or.inr (Or.inl f_5_0_0)))).2.2.2
  | exact (looM_n (ma := ma) (A := acM fc ma) (looM_g hM (Or.inr (Or.inr q_8)))).1
  | exact (looM_n (ma := ma) (A := acM fc ma) (looM_g hM (Or.inr (Or.inr q_8)))).2.1
  | exact (looM_n (ma := ma) (A := acM fc ma) (looM_g hM (Or.inr (Or.inr q_8)))).2.2.1
  | exact (looM_n (ma := ma) (A := acM fc ma) (looM_g hM (Or.inr (Or.inr q_8)))).2.2.2
  | exact (looM_s (ma := ma) (A := acM fc ma) hM hj_1 f_5_1_0 q_8 e_12 c_13).1
  | exact (looM_s (ma := ma) (A := acM fc ma) hM hj_1 f_5_1_0 q_8 e_12 c_13).2.1
  | exact (looM_s (ma := ma) (A := acM fc ma) hM hj_1 f_5_1_0 q_8 e_12 c_13).2.2.1
  | exact (looM_s (ma := ma) (A := acM fc ma) hM hj_1 f_5_1_0 q_8 e_12 c_13).2.2.2
  | exact (looM_d hM hj_1 f_5_1_0 q_8 e_12 c_13 (by assumption) (by assumption) (by assumption) (by assumption) (by assumption)).1
  | exact (looM_d hM hj_1 f_5_1_0 q_8 e_12 c_13 (by assumption) (by assumption) (by assumption) (by assumption) (by assumption)).2.1
  | exact (looM_d hM hj_1 f_5_1_0 q_8 e_12 c_13 (by assumption) (by assumption) (by assumption) (by assumption) (by assumption)).2.2.1
  | exact (looM_d hM hj_1 f_5_1_0 q_8 e_12 c_13 (by assumption) (by assumption) (by assumption) (by assumption) (by assumption)).2.2.2
theorem lf_X8_loose_3 {mt : Int32} {ma : Nat} {fs : Nat → Int32} {w9 : Nat} {k9 : Nat} {h9 : Nat} {fc : Nat → Int32} {a0 : Int32} {a1 : Int32} {a2 : Int32} (hM : okM fs w9 k9 h9) (hT : ¬ mt = 0 → 1 ≤ k9) (h999 : h9 ≤ 999) (hT0 : mt = 0 → fs 0 = 0 ∧ ma = 0) (hac : okA fc ma) (hma : ma ≤ 24) (f_1_0_0 : ¬ sB (nI k9) a0) : ma = kpN (gd_loose (m38 fs) a0 a1 a2) ma := by
  have hw6 := hM.2.2.2.1
  have hk6 := hM.2.2.2.2.1
  first
  | exact hT0
  | (intro h_; exact absurd (hT0 h_).1 h01)
  | (intro h_; have h9 := (hT0 h_).2; omega)
  | exact (looM_n (ma := ma) (A := acM fc ma) (looM_g hM (Or.inl f_1_0_0))).1
  | exact (looM_n (ma := ma) (A := acM fc ma) (looM_g hM (Or.inl f_1_0_0))).2.1
  | exact (looM_n (ma := ma) (A := acM fc ma) (looM_g hM (Or.inl f_1_0_0))).2.2.1
  | exact (looM_n (ma := ma) (A := acM fc ma) (looM_g hM (Or.inl f_1_0_0))).2.2.2
  | exact (looM_n (ma := ma) (A := acM fc ma) (looM_g hM (Or.inr (Or.inl f_5_0_0)))).1
  | exact (looM_n (ma := ma) (A := acM fc ma) (looM_g hM (Or.inr (Or.inl f_5_0_0)))).2.1
  | exact (looM_n (ma := ma) (A := acM fc ma) (looM_g hM (Or.inr (Or.inl f_5_0_0)))).2.2.1
  | exact (looM_n (ma := ma) (A := acM fc ma) (looM_g hM (Or.inr (Or.inl f_5_0_0)))).2.2.2
  | exact (looM_n (ma := ma) (A := acM fc ma) (looM_g hM (Or.inr (Or.inr q_8)))).1
  | exact (looM_n (ma := ma) (A := acM fc ma) (looM_g hM (Or.inr (Or.inr q_8)))).2.1
  | exact (looM_n (ma := ma) (A := acM fc ma) (looM_g hM (Or.inr (Or.inr q_8)))).2.2.1
  | exact (looM_n (ma := ma) (A := acM fc ma) (looM_g hM (Or.inr (Or.inr q_8)))).2.2.2
  | exact (looM_s (ma := ma) (A := acM fc ma) hM hj_1 f_5_1_0 q_8 e_12 c_13).1
  | exact (looM_s (ma := ma) (A := acM fc ma) hM hj_1 f_5_1_0 q_8 e_12 c_13).2.1
  | exact (looM_s (ma := ma) (A := acM fc ma) hM hj_1 f_5_1_0 q_8 e_12 c_13).2.2.1
  | exact (looM_s (ma := ma) (A := acM fc ma) hM hj_1 f_5_1_0 q_8 e_12 c_13).2.2.2
  | exact (looM_d hM hj_1 f_5_1_0 q_8 e_12 c_13 (by assumption) (by assumption) (by assumption) (by assumption) (by assumption)).1
  | exact (looM_d hM hj_1 f_5_1_0 q_8 e_12 c_13 (by assumption) (by assumption) (by assumption) (by assumption) (by assumption)).2.1
  | exact (looM_d hM hj_1 f_5_1_0 q_8 e_12 c_13 (by assumption) (by assumption) (by assumption) (by assumption) (by assumption)).2.2.1
  | exact (looM_d hM hj_1 f_5_1_0 q_8 e_12 c_13 (by assumption) (by assumption) (by assumption) (by assumption) (by assumption)).2.2.2
theorem lf_X8_loose_4 {mt : Int32} {ma : Nat} {fs : Nat → Int32} {w9 : Nat} {k9 : Nat} {h9 : Nat} {fc : Nat → Int32} {a0 : Int32} {a1 : Int32} {a2 : Int32} (hM : okM fs w9 k9 h9) (hT : ¬ mt = 0 → 1 ≤ k9) (h999 : h9 ≤ 999) (hT0 : mt = 0 → fs 0 = 0 ∧ ma = 0) (hac : okA fc ma) (hma : ma ≤ 24) (f_1_0_0 : ¬ sB (nI k9) a0) : acM fc ma = kpA (gd_loose (m38 fs) a0 a1 a2) (m38 fs) ma (acM fc ma) := by
  have hw6 := hM.2.2.2.1
  have hk6 := hM.2.2.2.2.1
  first
  | exact hT0
  | (intro h_; exact absurd (hT0 h_).1 h01)
  | (intro h_; have h9 := (hT0 h_).2; omega)
  | exact (looM_n (ma := ma) (A := acM fc ma) (looM_g hM (Or.inl f_1_0_0))).1
  | exact (looM_n (ma := ma) (A := acM fc ma) (looM_g hM (Or.inl f_1_0_0))).2.1
  | exact (looM_n (ma := ma) (A := acM fc ma) (looM_g hM (Or.inl f_1_0_0))).2.2.1
  | exact (looM_n (ma := ma) (A := acM fc ma) (looM_g hM (Or.inl f_1_0_0))).2.2.2
  | exact (looM_n (ma := ma) (A := acM fc ma) (looM_g hM (Or.inr (Or.inl f_5_0_0)))).1
  | exact (looM_n (ma := ma) (A := acM fc ma) (looM_g hM (Or.inr (Or.inl f_5_0_0)))).2.1
  | exact (looM_n (ma := ma) (A := acM fc ma) (looM_g hM (Or.inr (Or.inl f_5_0_0)))).2.2.1
  | exact (looM_n (ma := ma) (A := acM fc ma) (looM_g hM (Or.inr (Or.inl f_5_0_0)))).2.2.2
  | exact (looM_n (ma := ma) (A := acM fc ma) (looM_g hM (Or.inr (Or.inr q_8)))).1
  | exact (looM_n (ma := ma) (A := acM fc ma) (looM_g hM (Or.inr (Or.inr q_8)))).2.1
  | exact (looM_n (ma := ma) (A := acM fc ma) (looM_g hM (Or.inr (Or.inr q_8)))).2.2.1
  | exact (looM_n (ma := ma) (A := acM fc ma) (looM_g hM (Or.inr (Or.inr q_8)))).2.2.2
  | exact (looM_s (ma := ma) (A := acM fc ma) hM hj_1 f_5_1_0 q_8 e_12 c_13).1
  | exact (looM_s (ma := ma) (A := acM fc ma) hM hj_1 f_5_1_0 q_8 e_12 c_13).2.1
  | exact (looM_s (ma := ma) (A := acM fc ma) hM hj_1 f_5_1_0 q_8 e_12 c_13).2.2.1
  | exact (looM_s (ma := ma) (A := acM fc ma) hM hj_1 f_5_1_0 q_8 e_12 c_13).2.2.2
  | exact (looM_d hM hj_1 f_5_1_0 q_8 e_12 c_13 (by assumption) (by assumption) (by assumption) (by assumption) (by assumption)).1
  | exact (looM_d hM hj_1 f_5_1_0 q_8 e_12 c_13 (by assumption) (by assumption) (by assumption) (by assumption) (by assumption)).2.1
  | exact (looM_d hM hj_1 f_5_1_0 q_8 e_12 c_13 (by assumption) (by assumption) (by assumption) (by assumption) (by assumption)).2.2.1
  | exact (looM_d hM hj_1 f_5_1_0 q_8 e_12 c_13 (by assumption) (by assumption) (by assumption) (by assumption) (by assumption)).2.2.2
theorem lf_X8_loose_5 {mt : Int32} {ma : Nat} {fs : Nat → Int32} {w9 : Nat} {k9 : Nat} {h9 : Nat} {fc : Nat → Int32} {a0 : Int32} {a1 : Int32} {a2 : Int32} (hM : okM fs w9 k9 h9) (hT : ¬ mt = 0 → 1 ≤ k9) (h999 : h9 ≤ 999) (hT0 : mt = 0 → fs 0 = 0 ∧ ma = 0) (hac : okA fc ma) (hma : ma ≤ 24) (f_1_0_0 : ¬ sB (nI k9) a0) : (-1000001) = (a_loose (m38 fs) a0 a1 a2) := by
  have hw6 := hM.2.2.2.1
  have hk6 := hM.2.2.2.2.1
  first
  | exact hT0
  | (intro h_; exact absurd (hT0 h_).1 h01)
  | (intro h_; have h9 := (hT0 h_).2; omega)
  | exact (looM_n (ma := ma) (A := acM fc ma) (looM_g hM (Or.inl f_1_0_0))).1
  | exact (looM_n (ma := ma) (A := acM fc ma) (looM_g hM (Or.inl f_1_0_0))).2.1
  | exact (looM_n (ma := ma) (A := acM fc ma) (looM_g hM (Or.inl f_1_0_0))).2.2.1
  | exact (looM_n (ma := ma) (A := acM fc ma) (looM_g hM (Or.inl f_1_0_0))).2.2.2
  | exact (looM_n (ma := ma) (A := acM fc ma) (looM_g hM (Or.inr (Or.inl f_5_0_0)))).1
  | exact (looM_n (ma := ma) (A := acM fc ma) (looM_g hM (Or.inr (Or.inl f_5_0_0)))).2.1
  | exact (looM_n (ma := ma) (A := acM fc ma) (looM_g hM (Or.inr (Or.inl f_5_0_0)))).2.2.1
  | exact (looM_n (ma := ma) (A := acM fc ma) (looM_g hM (Or.inr (Or.inl f_5_0_0)))).2.2.2
  | exact (looM_n (ma := ma) (A := acM fc ma) (looM_g hM (Or.inr (Or.inr q_8)))).1
  | exact (looM_n (ma := ma) (A := acM fc ma) (looM_g hM (Or.inr (Or.inr q_8)))).2.1
  | exact (looM_n (ma := ma) (A := acM fc ma) (looM_g hM (Or.inr (Or.inr q_8)))).2.2.1
  | exact (looM_n (ma := ma) (A := acM fc ma) (looM_g hM (Or.inr (Or.inr q_8)))).2.2.2
  | exact (looM_s (ma := ma) (A := acM fc ma) hM hj_1 f_5_1_0 q_8 e_12 c_13).1
  | exact (looM_s (ma := ma) (A := acM fc ma) hM hj_1 f_5_1_0 q_8 e_12 c_13).2.1
  | exact (looM_s (ma := ma) (A := acM fc ma) hM hj_1 f_5_1_0 q_8 e_12 c_13).2.2.1
  | exact (looM_s (ma := ma) (A := acM fc ma) hM hj_1 f_5_1_0 q_8 e_12 c_13).2.2.2
  | exact (looM_d hM hj_1 f_5_1_0 q_8 e_12 c_13 (by assumption) (by assumption) (by assumption) (by assumption) (by assumption)).1
  | exact (looM_d hM hj_1 f_5_1_0 q_8 e_12 c_13 (by assumption) (by assumption) (by assumption) (by assumption) (by assumption)).2.1
  | exact (looM_d hM hj_1 f_5_1_0 q_8 e_12 c_13 (by assumption) (by assumption) (by assumption) (by assumption) (by assumption)).2.2.1
  | exact (looM_d hM hj_1 f_5_1_0 q_8 e_12 c_13 (by assumption) (by assumption) (by assumption) (by assumption) (by assumption)).2.2.2
theorem lf_X8_loose_6 {mt : Int32} {ma : Nat} {fs : Nat → Int32} {w9 : Nat} {k9 : Nat} {h9 : Nat} {fc : Nat → Int32} {a1 : Int32} {j_1 : Nat} (hM : okM fs w9 k9 h9) (hT : ¬ mt = 0 → 1 ≤ k9) (h999 : h9 ≤ 999) (hT0 : mt = 0 → fs 0 = 0 ∧ ma = 0) (hac : okA fc ma) (hma : ma ≤ 24) (hj_1 : j_1 < k9) (hkn1 : 1 ≤ k9) (hw1 : 1 ≤ w9) (h01 : ¬ fs 0 = 0) (f_5_0_0 : ¬ iC (fs 0) a1) : (mt = 0 → fs 0 = 0 ∧ ma = 0) := by
  have hw6 := hM.2.2.2.1
  have hk6 := hM.2.2.2.2.1
  first
  | exact hT0
  | (intro h_; exact absurd (hT0 h_).1 h01)
  | (intro h_; have h9 := (hT0 h_).2; omega)
  | exact (looM_n (ma := ma) (A := acM fc ma) (looM_g hM (Or.inl f_1_0_0))).1
  | exact (looM_n (ma := ma) (A := acM fc ma) (looM_g hM (Or.inl f_1_0_0))).2.1
  | exact (looM_n (ma := ma) (A := acM fc ma) (looM_g hM (Or.inl f_1_0_0))).2.2.1
  | exact (looM_n (ma := ma) (A := acM fc ma) (looM_g hM (Or.inl f_1_0_0))).2.2.2
  | exact (looM_n (ma := ma) (A := acM fc ma) (looM_g hM (Or.inr (Or.inl f_5_0_0)))).1
  | exact (looM_n (ma := ma) (A := acM fc ma) (looM_g hM (Or.inr (Or.inl f_5_0_0)))).2.1
  | exact (looM_n (ma := ma) (A := acM fc ma) (looM_g hM (Or.inr (Or.inl f_5_0_0)))).2.2.1
  | exact (looM_n (ma := ma) (A := acM fc ma) (looM_g hM (Or.inr (Or.inl f_5_0_0)))).2.2.2
  | exact (looM_n (ma := ma) (A := acM fc ma) (looM_g hM (Or.inr (Or.inr q_8)))).1
  | exact (looM_n (ma := ma) (A := acM fc ma) (looM_g hM (Or.inr (Or.inr q_8)))).2.1
  | exact (looM_n (ma := ma) (A := acM fc ma) (looM_g hM (Or.inr (Or.inr q_8)))).2.2.1
  | exact (looM_n (ma := ma) (A := acM fc ma) (looM_g hM (Or.inr (Or.inr q_8)))).2.2.2
  | exact (looM_s (ma := ma) (A := acM fc ma) hM hj_1 f_5_1_0 q_8 e_12 c_13).1
  | exact (looM_s (ma := ma) (A := acM fc ma) hM hj_1 f_5_1_0 q_8 e_12 c_13).2.1
  | exact (looM_s (ma := ma) (A := acM fc ma) hM hj_1 f_5_1_0 q_8 e_12 c_13).2.2.1
  | exact (looM_s (ma := ma) (A := acM fc ma) hM hj_1 f_5_1_0 q_8 e_12 c_13).2.2.2
  | exact (looM_d hM hj_1 f_5_1_0 q_8 e_12 c_13 (by assumption) (by assumption) (by assumption) (by assumption) (by assumption)).1
  | exact (looM_d hM hj_1 f_5_1_0 q_8 e_12 c_13 (by assumption) (by assumption) (by assumption) (by assumption) (by assumption)).2.1
  | exact (looM_d hM hj_1 f_5_1_0 q_8 e_12 c_13 (by assumption) (by assumption) (by assumption) (by assumption) (by assumption)).2.2.1
  | exact (looM_d hM hj_1 f_5_1_0 q_8 e_12 c_13 (by assumption) (by assumption) (by assumption) (by assumption) (by assumption)).2.2.2
theorem lf_X8_loose_7 {mt : Int32} {ma : Nat} {fs : Nat → Int32} {w9 : Nat} {k9 : Nat} {h9 : Nat} {fc : Nat → Int32} {a1 : Int32} {a2 : Int32} {j_1 : Nat} (hM : okM fs w9 k9 h9) (hT : ¬ mt = 0 → 1 ≤ k9) (h999 : h9 ≤ 999) (hT0 : mt = 0 → fs 0 = 0 ∧ ma = 0) (hac : okA fc ma) (hma : ma ≤ 24) (hj_1 : j_1 < k9) (hkn1 : 1 ≤ k9) (hw1 : 1 ≤ w9) (h01 : ¬ fs 0 = 0) (f_5_0_0 : ¬ iC (fs 0) a1) : m38 fs = n_loose (m38 fs) (nI j_1) a1 a2 := by
  have hw6 := hM.2.2.2.1
  have hk6 := hM.2.2.2.2.1
  first
  | exact hT0
  | (intro h_; exact absurd (hT0 h_).1 h01)
  | (intro h_; have h9 := (hT0 h_).2; omega)
  | exact (looM_n (ma := ma) (A := acM fc ma) (looM_g hM (Or.inl f_1_0_0))).1
  | exact (looM_n (ma := ma) (A := acM fc ma) (looM_g hM (Or.inl f_1_0_0))).2.1
  | exact (looM_n (ma := ma) (A := acM fc ma) (looM_g hM (Or.inl f_1_0_0))).2.2.1
  | exact (looM_n (ma := ma) (A := acM fc ma) (looM_g hM (Or.inl f_1_0_0))).2.2.2
  | exact (looM_n (ma := ma) (A := acM fc ma) (looM_g hM (Or.inr (Or.inl f_5_0_0)))).1
  | exact (looM_n (ma := ma) (A := acM fc ma) (looM_g hM (Or.inr (Or.inl f_5_0_0)))).2.1
  | exact (looM_n (ma := ma) (A := acM fc ma) (looM_g hM (Or.inr (Or.inl f_5_0_0)))).2.2.1
  | exact (looM_n (ma := ma) (A := acM fc ma) (looM_g hM (Or.inr (Or.inl f_5_0_0)))).2.2.2
  | exact (looM_n (ma := ma) (A := acM fc ma) (looM_g hM (Or.inr (Or.inr q_8)))).1
  | exact (looM_n (ma := ma) (A := acM fc ma) (looM_g hM (Or.inr (Or.inr q_8)))).2.1
  | exact (looM_n (ma := ma) (A := acM fc ma) (looM_g hM (Or.inr (Or.inr q_8)))).2.2.1
  | exact (looM_n (ma := ma) (A := acM fc ma) (looM_g hM (Or.inr (Or.inr q_8)))).2.2.2
  | exact (looM_s (ma := ma) (A := acM fc ma) hM hj_1 f_5_1_0 q_8 e_12 c_13).1
  | exact (looM_s (ma := ma) (A := acM fc ma) hM hj_1 f_5_1_0 q_8 e_12 c_13).2.1
  | exact (looM_s (ma := ma) (A := acM fc ma) hM hj_1 f_5_1_0 q_8 e_12 c_13).2.2.1
  | exact (looM_s (ma := ma) (A := acM fc ma) hM hj_1 f_5_1_0 q_8 e_12 c_13).2.2.2
  | exact (looM_d hM hj_1 f_5_1_0 q_8 e_12 c_13 (by assumption) (by assumption) (by assumption) (by assumption) (by assumption)).1
  | exact (looM_d hM hj_1 f_5_1_0 q_8 e_12 c_13 (by assumption) (by assumption) (by assumption) (by assumption) (by assumption)).2.1
  | exact (looM_d hM hj_1 f_5_1_0 q_8 e_12 c_13 (by assumption) (by assumption) (by assumption) (by assumption) (by assumption)).2.2.1
  | exact (looM_d hM hj_1 f_5_1_0 q_8 e_12 c_13 (by assumption) (by assumption) (by assumption) (by assumption) (by assumption)).2.2.2
theorem lf_X8_loose_8 {mt : Int32} {ma : Nat} {fs : Nat → Int32} {w9 : Nat} {k9 : Nat} {h9 : Nat} {fc : Nat → Int32} {a1 : Int32} {a2 : Int32} {j_1 : Nat} (hM : okM fs w9 k9 h9) (hT : ¬ mt = 0 → 1 ≤ k9) (h999 : h9 ≤ 999) (hT0 : mt = 0 → fs 0 = 0 ∧ ma = 0) (hac : okA fc ma) (hma : ma ≤ 24) (hj_1 : j_1 < k9) (hkn1 : 1 ≤ k9) (hw1 : 1 ≤ w9) (h01 : ¬ fs 0 = 0) (f_5_0_0 : ¬ iC (fs 0) a1) : ma = kpN (gd_loose (m38 fs) (nI j_1) a1 a2) ma := by
  have hw6 := hM.2.2.2.1
  have hk6 := hM.2.2.2.2.1
  first
  | exact hT0
  | (intro h_; exact absurd (hT0 h_).1 h01)
  | (intro h_; have h9 := (hT0 h_).2; omega)
  | exact (looM_n (ma := ma) (A := acM fc ma) (looM_g hM (Or.inl f_1_0_0))).1
  | exact (looM_n (ma := ma) (A := acM fc ma) (looM_g hM (Or.inl f_1_0_0))).2.1
  | exact (looM_n (ma := ma) (A := acM fc ma) (looM_g hM (Or.inl f_1_0_0))).2.2.1
  | exact (looM_n (ma := ma) (A := acM fc ma) (looM_g hM (Or.inl f_1_0_0))).2.2.2
  | exact (looM_n (ma := ma) (A := acM fc ma) (looM_g hM (Or.inr (Or.inl f_5_0_0)))).1
  | exact (looM_n (ma := ma) (A := acM fc ma) (looM_g hM (Or.inr (Or.inl f_5_0_0)))).2.1
  | exact (looM_n (ma := ma) (A := acM fc ma) (looM_g hM (Or.inr (Or.inl f_5_0_0)))).2.2.1
  | exact (looM_n (ma := ma) (A := acM fc ma) (looM_g hM (Or.inr (Or.inl f_5_0_0)))).2.2.2
  | exact (looM_n (ma := ma) (A := acM fc ma) (looM_g hM (Or.inr (Or.inr q_8)))).1
  | exact (looM_n (ma := ma) (A := acM fc ma) (looM_g hM (Or.inr (Or.inr q_8)))).2.1
  | exact (looM_n (ma := ma) (A := acM fc ma) (looM_g hM (Or.inr (Or.inr q_8)))).2.2.1
  | exact (looM_n (ma := ma) (A := acM fc ma) (looM_g hM (Or.inr (Or.inr q_8)))).2.2.2
  | exact (looM_s (ma := ma) (A := acM fc ma) hM hj_1 f_5_1_0 q_8 e_12 c_13).1
  | exact (looM_s (ma := ma) (A := acM fc ma) hM hj_1 f_5_1_0 q_8 e_12 c_13).2.1
  | exact (looM_s (ma := ma) (A := acM fc ma) hM hj_1 f_5_1_0 q_8 e_12 c_13).2.2.1
  | exact (looM_s (ma := ma) (A := acM fc ma) hM hj_1 f_5_1_0 q_8 e_12 c_13).2.2.2
  | exact (looM_d hM hj_1 f_5_1_0 q_8 e_12 c_13 (by assumption) (by assumption) (by assumption) (by assumption) (by assumption)).1
  | exact (looM_d hM hj_1 f_5_1_0 q_8 e_12 c_13 (by assumption) (by assumption) (by assumption) (by assumption) (by assumption)).2.1
  | exact (looM_d hM hj_1 f_5_1_0 q_8 e_12 c_13 (by assumption) (by assumption) (by assumption) (by assumption) (by assumption)).2.2.1
  | exact (looM_d hM hj_1 f_5_1_0 q_8 e_12 c_13 (by assumption) (by assumption) (by assumption) (by assumption) (by assumption)).2.2.2
theorem lf_X8_loose_9 {mt : Int32} {ma : Nat} {fs : Nat → Int32} {w9 : Nat} {k9 : Nat} {h9 : Nat} {fc : Nat → Int32} {a1 : Int32} {a2 : Int32} {j_1 : Nat} (hM : okM fs w9 k9 h9) (hT : ¬ mt = 0 → 1 ≤ k9) (h999 : h9 ≤ 999) (hT0 : mt = 0 → fs 0 = 0 ∧ ma = 0) (hac : okA fc ma) (hma : ma ≤ 24) (hj_1 : j_1 < k9) (hkn1 : 1 ≤ k9) (hw1 : 1 ≤ w9) (h01 : ¬ fs 0 = 0) (f_5_0_0 : ¬ iC (fs 0) a1) : acM fc ma = kpA (gd_loose (m38 fs) (nI j_1) a1 a2) (m38 fs) ma (acM fc ma) := by
  have hw6 := hM.2.2.2.1
  have hk6 := hM.2.2.2.2.1
  first
  | exact hT0
  | (intro h_; exact absurd (hT0 h_).1 h01)
  | (intro h_; have h9 := (hT0 h_).2; omega)
  | exact (looM_n (ma := ma) (A := acM fc ma) (looM_g hM (Or.inl f_1_0_0))).1
  | exact (looM_n (ma := ma) (A := acM fc ma) (looM_g hM (Or.inl f_1_0_0))).2.1
  | exact (looM_n (ma := ma) (A := acM fc ma) (looM_g hM (Or.inl f_1_0_0))).2.2.1
  | exact (looM_n (ma := ma) (A := acM fc ma) (looM_g hM (Or.inl f_1_0_0))).2.2.2
  | exact (looM_n (ma := ma) (A := acM fc ma) (looM_g hM (Or.inr (Or.inl f_5_0_0)))).1
  | exact (looM_n (ma := ma) (A := acM fc ma) (looM_g hM (Or.inr (Or.inl f_5_0_0)))).2.1
  | exact (looM_n (ma := ma) (A := acM fc ma) (looM_g hM (Or.inr (Or.inl f_5_0_0)))).2.2.1
  | exact (looM_n (ma := ma) (A := acM fc ma) (looM_g hM (Or.inr (Or.inl f_5_0_0)))).2.2.2
  | exact (looM_n (ma := ma) (A := acM fc ma) (looM_g hM (Or.inr (Or.inr q_8)))).1
  | exact (looM_n (ma := ma) (A := acM fc ma) (looM_g hM (Or.inr (Or.inr q_8)))).2.1
  | exact (looM_n (ma := ma) (A := acM fc ma) (looM_g hM (Or.inr (Or.inr q_8)))).2.2.1
  | exact (looM_n (ma := ma) (A := acM fc ma) (looM_g hM (Or.inr (Or.inr q_8)))).2.2.2
  | exact (looM_s (ma := ma) (A := acM fc ma) hM hj_1 f_5_1_0 q_8 e_12 c_13).1
  | exact (looM_s (ma := ma) (A := acM fc ma) hM hj_1 f_5_1_0 q_8 e_12 c_13).2.1
  | exact (looM_s (ma := ma) (A := acM fc ma) hM hj_1 f_5_1_0 q_8 e_12 c_13).2.2.1
  | exact (looM_s (ma := ma) (A := acM fc ma) hM hj_1 f_5_1_0 q_8 e_12 c_13).2.2.2
  | exact (looM_d hM hj_1 f_5_1_0 q_8 e_12 c_13 (by assumption) (by assumption) (by assumption) (by assumption) (by assumption)).1
  | exact (looM_d hM hj_1 f_5_1_0 q_8 e_12 c_13 (by assumption) (by assumption) (by assumption) (by assumption) (by assumption)).2.1
  | exact (looM_d hM hj_1 f_5_1_0 q_8 e_12 c_13 (by assumption) (by assumption) (by assumption) (by assumption) (by assumption)).2.2.1
  | exact (looM_d hM hj_1 f_5_1_0 q_8 e_12 c_13 (by assumption) (by assumption) (by assumption) (by assumption) (by assumption)).2.2.2
theorem lf_X8_loose_10 {mt : Int32} {ma : Nat} {fs : Nat → Int32} {w9 : Nat} {k9 : Nat} {h9 : Nat} {fc : Nat → Int32} {a1 : Int32} {a2 : Int32} {j_1 : Nat} (hM : okM fs w9 k9 h9) (hT : ¬ mt = 0 → 1 ≤ k9) (h999 : h9 ≤ 999) (hT0 : mt = 0 → fs 0 = 0 ∧ ma = 0) (hac : okA fc ma) (hma : ma ≤ 24) (hj_1 : j_1 < k9) (hkn1 : 1 ≤ k9) (hw1 : 1 ≤ w9) (h01 : ¬ fs 0 = 0) (f_5_0_0 : ¬ iC (fs 0) a1) : (-1000001) = (a_loose (m38 fs) (nI j_1) a1 a2) := by
  have hw6 := hM.2.2.2.1
  have hk6 := hM.2.2.2.2.1
  first
  | exact hT0
  | (intro h_; exact absurd (hT0 h_).1 h01)
  | (intro h_; have h9 := (hT0 h_).2; omega)
  | exact (looM_n (ma := ma) (A := acM fc ma) (looM_g hM (Or.inl f_1_0_0))).1
  | exact (looM_n (ma := ma) (A := acM fc ma) (looM_g hM (Or.inl f_1_0_0))).2.1
  | exact (looM_n (ma := ma) (A := acM fc ma) (looM_g hM (Or.inl f_1_0_0))).2.2.1
  | exact (looM_n (ma := ma) (A := acM fc ma) (looM_g hM (Or.inl f_1_0_0))).2.2.2
  | exact (looM_n (ma := ma) (A := acM fc ma) (looM_g hM (Or.inr (Or.inl f_5_0_0)))).1
  | exact (looM_n (ma := ma) (A := acM fc ma) (looM_g hM (Or.inr (Or.inl f_5_0_0)))).2.1
  | exact (looM_n (ma := ma) (A := acM fc ma) (looM_g hM (Or.inr (Or.inl f_5_0_0)))).2.2.1
  | exact (looM_n (ma := ma) (A := acM fc ma) (looM_g hM (Or.inr (Or.inl f_5_0_0)))).2.2.2
  | exact (looM_n (ma := ma) (A := acM fc ma) (looM_g hM (Or.inr (Or.inr q_8)))).1
  | exact (looM_n (ma := ma) (A := acM fc ma) (looM_g hM (Or.inr (Or.inr q_8)))).2.1
  | exact (looM_n (ma := ma) (A := acM fc ma) (looM_g hM (Or.inr (Or.inr q_8)))).2.2.1
  | exact (looM_n (ma := ma) (A := acM fc ma) (looM_g hM (Or.inr (Or.inr q_8)))).2.2.2
  | exact (looM_s (ma := ma) (A := acM fc ma) hM hj_1 f_5_1_0 q_8 e_12 c_13).1
  | exact (looM_s (ma := ma) (A := acM fc ma) hM hj_1 f_5_1_0 q_8 e_12 c_13).2.1
  | exact (looM_s (ma := ma) (A := acM fc ma) hM hj_1 f_5_1_0 q_8 e_12 c_13).2.2.1
  | exact (looM_s (ma := ma) (A := acM fc ma) hM hj_1 f_5_1_0 q_8 e_12 c_13).2.2.2
  | exact (looM_d hM hj_1 f_5_1_0 q_8 e_12 c_13 (by assumption) (by assumption) (by assumption) (by assumption) (by assumption)).1
  | exact (looM_d hM hj_1 f_5_1_0 q_8 e_12 c_13 (by assumption) (by assumption) (by assumption) (by assumption) (by assumption)).2.1
  | exact (looM_d hM hj_1 f_5_1_0 q_8 e_12 c_13 (by assumption) (by assumption) (by assumption) (by assumption) (by assumption)).2.2.1
  | exact (looM_d hM hj_1 f_5_1_0 q_8 e_12 c_13 (by assumption) (by assumption) (by assumption) (by assumption) (by assumption)).2.2.2
theorem lf_X8_loose_11 {mt : Int32} {ma : Nat} {fs : Nat → Int32} {w9 : Nat} {k9 : Nat} {h9 : Nat} {fc : Nat → Int32} {a1 : Int32} {a2 : Int32} {j_1 : Nat} (hM : okM fs w9 k9 h9) (hT : ¬ mt = 0 → 1 ≤ k9) (h999 : h9 ≤ 999) (hT0 : mt = 0 → fs 0 = 0 ∧ ma = 0) (hac : okA fc ma) (hma : ma ≤ 24) (hj_1 : j_1 < k9) (hkn1 : 1 ≤ k9) (hw1 : 1 ≤ w9) (h01 : ¬ fs 0 = 0) (f_5_1_0 : iC (fs 0) a1) (f_8_0_0 : ((a2).toInt64 < 1 ∨ 20 < (a2).toInt64)) (q_8 : (a2 < 1 ∨ 20 < a2)) : (mt = 0 → fs 0 = 0 ∧ ma = 0) := by
  have hw6 := hM.2.2.2.1
  have hk6 := hM.2.2.2.2.1
  first
  | exact hT0
  | (intro h_; exact absurd (hT0 h_).1 h01)
  | (intro h_; have h9 := (hT0 h_).2; omega)
  | exact (looM_n (ma := ma) (A := acM fc ma) (looM_g hM (Or.inl f_1_0_0))).1
  | exact (looM_n (ma := ma) (A := acM fc ma) (looM_g hM (Or.inl f_1_0_0))).2.1
  | exact (looM_n (ma := ma) (A := acM fc ma) (looM_g hM (Or.inl f_1_0_0))).2.2.1
  | exact (looM_n (ma := ma) (A := acM fc ma) (looM_g hM (Or.inl f_1_0_0))).2.2.2
  | exact (looM_n (ma := ma) (A := acM fc ma) (looM_g hM (Or.inr (Or.inl f_5_0_0)))).1
  | exact (looM_n (ma := ma) (A := acM fc ma) (looM_g hM (Or.inr (Or.inl f_5_0_0)))).2.1
  | exact (looM_n (ma := ma) (A := acM fc ma) (looM_g hM (Or.inr (Or.inl f_5_0_0)))).2.2.1
  | exact (looM_n (ma := ma) (A := acM fc ma) (looM_g hM (Or.inr (Or.inl f_5_0_0)))).2.2.2
  | exact (looM_n (ma := ma) (A := acM fc ma) (looM_g hM (Or.inr (Or.inr q_8)))).1
  | exact (looM_n (ma := ma) (A := acM fc ma) (looM_g hM (Or.inr (Or.inr q_8)))).2.1
  | exact (looM_n (ma := ma) (A := acM fc ma) (looM_g hM (Or.inr (Or.inr q_8)))).2.2.1
  | exact (looM_n (ma := ma) (A := acM fc ma) (looM_g hM (Or.inr (Or.inr q_8)))).2.2.2
  | exact (looM_s (ma := ma) (A := acM fc ma) hM hj_1 f_5_1_0 q_8 e_12 c_13).1
  | exact (looM_s (ma := ma) (A := acM fc ma) hM hj_1 f_5_1_0 q_8 e_12 c_13).2.1
  | exact (looM_s (ma := ma) (A := acM fc ma) hM hj_1 f_5_1_0 q_8 e_12 c_13).2.2.1
  | exact (looM_s (ma := ma) (A := acM fc ma) hM hj_1 f_5_1_0 q_8 e_12 c_13).2.2.2
  | exact (looM_d hM hj_1 f_5_1_0 q_8 e_12 c_13 (by assumption) (by assumption) (by assumption) (by assumption) (by assumption)).1
  | exact (looM_d hM hj_1 f_5_1_0 q_8 e_12 c_13 (by assumption) (by assumption) (by assumption) (by assumption) (by assumption)).2.1
  | exact (looM_d hM hj_1 f_5_1_0 q_8 e_12 c_13 (by assumption) (by assumption) (by assumption) (by assumption) (by assumption)).2.2.1
  | exact (looM_d hM hj_1 f_5_1_0 q_8 e_12 c_13 (by assumption) (by assumption) (by assumption) (by assumption) (by assumption)).2.2.2
theorem lf_X8_loose_12 {mt : Int32} {ma : Nat} {fs : Nat → Int32} {w9 : Nat} {k9 : Nat} {h9 : Nat} {fc : Nat → Int32} {a1 : Int32} {a2 : Int32} {j_1 : Nat} (hM : okM fs w9 k9 h9) (hT : ¬ mt = 0 → 1 ≤ k9) (h999 : h9 ≤ 999) (hT0 : mt = 0 → fs 0 = 0 ∧ ma = 0) (hac : okA fc ma) (hma : ma ≤ 24) (hj_1 : j_1 < k9) (hkn1 : 1 ≤ k9) (hw1 : 1 ≤ w9) (h01 : ¬ fs 0 = 0) (f_5_1_0 : iC (fs 0) a1) (f_8_0_0 : ((a2).toInt64 < 1 ∨ 20 < (a2).toInt64)) (q_8 : (a2 < 1 ∨ 20 < a2)) : m38 fs = n_loose (m38 fs) (nI j_1) a1 a2 := by
  have hw6 := hM.2.2.2.1
  have hk6 := hM.2.2.2.2.1
  first
  | exact hT0
  | (intro h_; exact absurd (hT0 h_).1 h01)
  | (intro h_; have h9 := (hT0 h_).2; omega)
  | exact (looM_n (ma := ma) (A := acM fc ma) (looM_g hM (Or.inl f_1_0_0))).1
  | exact (looM_n (ma := ma) (A := acM fc ma) (looM_g hM (Or.inl f_1_0_0))).2.1
  | exact (looM_n (ma := ma) (A := acM fc ma) (looM_g hM (Or.inl f_1_0_0))).2.2.1
  | exact (looM_n (ma := ma) (A := acM fc ma) (looM_g hM (Or.inl f_1_0_0))).2.2.2
  | exact (looM_n (ma := ma) (A := acM fc ma) (looM_g hM (Or.inr (Or.inl f_5_0_0)))).1
  | exact (looM_n (ma := ma) (A := acM fc ma) (looM_g hM (Or.inr (Or.inl f_5_0_0)))).2.1
  | exact (looM_n (ma := ma) (A := acM fc ma) (looM_g hM (Or.inr (Or.inl f_5_0_0)))).2.2.1
  | exact (looM_n (ma := ma) (A := acM fc ma) (looM_g hM (Or.inr (Or.inl f_5_0_0)))).2.2.2
  | exact (looM_n (ma := ma) (A := acM fc ma) (looM_g hM (Or.inr (Or.inr q_8)))).1
  | exact (looM_n (ma := ma) (A := acM fc ma) (looM_g hM (Or.inr (Or.inr q_8)))).2.1
  | exact (looM_n (ma := ma) (A := acM fc ma) (looM_g hM (Or.inr (Or.inr q_8)))).2.2.1
  | exact (looM_n (ma := ma) (A := acM fc ma) (looM_g hM (Or.inr (Or.inr q_8)))).2.2.2
  | exact (looM_s (ma := ma) (A := acM fc ma) hM hj_1 f_5_1_0 q_8 e_12 c_13).1
  | exact (looM_s (ma := ma) (A := acM fc ma) hM hj_1 f_5_1_0 q_8 e_12 c_13).2.1
  | exact (looM_s (ma := ma) (A := acM fc ma) hM hj_1 f_5_1_0 q_8 e_12 c_13).2.2.1
  | exact (looM_s (ma := ma) (A := acM fc ma) hM hj_1 f_5_1_0 q_8 e_12 c_13).2.2.2
  | exact (looM_d hM hj_1 f_5_1_0 q_8 e_12 c_13 (by assumption) (by assumption) (by assumption) (by assumption) (by assumption)).1
  | exact (looM_d hM hj_1 f_5_1_0 q_8 e_12 c_13 (by assumption) (by assumption) (by assumption) (by assumption) (by assumption)).2.1
  | exact (looM_d hM hj_1 f_5_1_0 q_8 e_12 c_13 (by assumption) (by assumption) (by assumption) (by assumption) (by assumption)).2.2.1
  | exact (looM_d hM hj_1 f_5_1_0 q_8 e_12 c_13 (by assumption) (by assumption) (by assumption) (by assumption) (by assumption)).2.2.2
theorem lf_X8_loose_13 {mt : Int32} {ma : Nat} {fs : Nat → Int32} {w9 : Nat} {k9 : Nat} {h9 : Nat} {fc : Nat → Int32} {a1 : Int32} {a2 : Int32} {j_1 : Nat} (hM : okM fs w9 k9 h9) (hT : ¬ mt = 0 → 1 ≤ k9) (h999 : h9 ≤ 999) (hT0 : mt = 0 → fs 0 = 0 ∧ ma = 0) (hac : okA fc ma) (hma : ma ≤ 24) (hj_1 : j_1 < k9) (hkn1 : 1 ≤ k9) (hw1 : 1 ≤ w9) (h01 : ¬ fs 0 = 0) (f_5_1_0 : iC (fs 0) a1) (f_8_0_0 : ((a2).toInt64 < 1 ∨ 20 < (a2).toInt64)) (q_8 : (a2 < 1 ∨ 20 < a2)) : ma = kpN (gd_loose (m38 fs) (nI j_1) a1 a2) ma := by
  have hw6 := hM.2.2.2.1
  have hk6 := hM.2.2.2.2.1
  first
  | exact hT0
  | (intro h_; exact absurd (hT0 h_).1 h01)
  | (intro h_; have h9 := (hT0 h_).2; omega)
  | exact (looM_n (ma := ma) (A := acM fc ma) (looM_g hM (Or.inl f_1_0_0))).1
  | exact (looM_n (ma := ma) (A := acM fc ma) (looM_g hM (Or.inl f_1_0_0))).2.1
  | exact (looM_n (ma := ma) (A := acM fc ma) (looM_g hM (Or.inl f_1_0_0))).2.2.1
  | exact (looM_n (ma := ma) (A := acM fc ma) (looM_g hM (Or.inl f_1_0_0))).2.2.2
  | exact (looM_n (ma := ma) (A := acM fc ma) (looM_g hM (Or.inr (Or.inl f_5_0_0)))).1
  | exact (looM_n (ma := ma) (A := acM fc ma) (looM_g hM (Or.inr (Or.inl f_5_0_0)))).2.1
  | exact (looM_n (ma := ma) (A := acM fc ma) (looM_g hM (Or.inr (Or.inl f_5_0_0)))).2.2.1
  | exact (looM_n (ma := ma) (A := acM fc ma) (looM_g hM (Or.inr (Or.inl f_5_0_0)))).2.2.2
  | exact (looM_n (ma := ma) (A := acM fc ma) (looM_g hM (Or.inr (Or.inr q_8)))).1
  | exact (looM_n (ma := ma) (A := acM fc ma) (looM_g hM (Or.inr (Or.inr q_8)))).2.1
  | exact (looM_n (ma := ma) (A := acM fc ma) (looM_g hM (Or.inr (Or.inr q_8)))).2.2.1
  | exact (looM_n (ma := ma) (A := acM fc ma) (looM_g hM (Or.inr (Or.inr q_8)))).2.2.2
  | exact (looM_s (ma := ma) (A := acM fc ma) hM hj_1 f_5_1_0 q_8 e_12 c_13).1
  | exact (looM_s (ma := ma) (A := acM fc ma) hM hj_1 f_5_1_0 q_8 e_12 c_13).2.1
  | exact (looM_s (ma := ma) (A := acM fc ma) hM hj_1 f_5_1_0 q_8 e_12 c_13).2.2.1
  | exact (looM_s (ma := ma) (A := acM fc ma) hM hj_1 f_5_1_0 q_8 e_12 c_13).2.2.2
  | exact (looM_d hM hj_1 f_5_1_0 q_8 e_12 c_13 (by assumption) (by assumption) (by assumption) (by assumption) (by assumption)).1
  | exact (looM_d hM hj_1 f_5_1_0 q_8 e_12 c_13 (by assumption) (by assumption) (by assumption) (by assumption) (by assumption)).2.1
  | exact (looM_d hM hj_1 f_5_1_0 q_8 e_12 c_13 (by assumption) (by assumption) (by assumption) (by assumption) (by assumption)).2.2.1
  | exact (looM_d hM hj_1 f_5_1_0 q_8 e_12 c_13 (by assumption) (by assumption) (by assumption) (by assumption) (by assumption)).2.2.2
theorem lf_X8_loose_14 {mt : Int32} {ma : Nat} {fs : Nat → Int32} {w9 : Nat} {k9 : Nat} {h9 : Nat} {fc : Nat → Int32} {a1 : Int32} {a2 : Int32} {j_1 : Nat} (hM : okM fs w9 k9 h9) (hT : ¬ mt = 0 → 1 ≤ k9) (h999 : h9 ≤ 999) (hT0 : mt = 0 → fs 0 = 0 ∧ ma = 0) (hac : okA fc ma) (hma : ma ≤ 24) (hj_1 : j_1 < k9) (hkn1 : 1 ≤ k9) (hw1 : 1 ≤ w9) (h01 : ¬ fs 0 = 0) (f_5_1_0 : iC (fs 0) a1) (f_8_0_0 : ((a2).toInt64 < 1 ∨ 20 < (a2).toInt64)) (q_8 : (a2 < 1 ∨ 20 < a2)) : acM fc ma = kpA (gd_loose (m38 fs) (nI j_1) a1 a2) (m38 fs) ma (acM fc ma) := by
  have hw6 := hM.2.2.2.1
  have hk6 := hM.2.2.2.2.1
  first
  | exact hT0
  | (intro h_; exact absurd (hT0 h_).1 h01)
  | (intro h_; have h9 := (hT0 h_).2; omega)
  | exact (looM_n (ma := ma) (A := acM fc ma) (looM_g hM (Or.inl f_1_0_0))).1
  | exact (looM_n (ma := ma) (A := acM fc ma) (looM_g hM (Or.inl f_1_0_0))).2.1
  | exact (looM_n (ma := ma) (A := acM fc ma) (looM_g hM (Or.inl f_1_0_0))).2.2.1
  | exact (looM_n (ma := ma) (A := acM fc ma) (looM_g hM (Or.inl f_1_0_0))).2.2.2
  | exact (looM_n (ma := ma) (A := acM fc ma) (looM_g hM (Or.inr (Or.inl f_5_0_0)))).1
  | exact (looM_n (ma := ma) (A := acM fc ma) (looM_g hM (Or.inr (Or.inl f_5_0_0)))).2.1
  | exact (looM_n (ma := ma) (A := acM fc ma) (looM_g hM (Or.inr (Or.inl f_5_0_0)))).2.2.1
  | exact (looM_n (ma := ma) (A := acM fc ma) (looM_g hM (Or.inr (Or.inl f_5_0_0)))).2.2.2
  | exact (looM_n (ma := ma) (A := acM fc ma) (looM_g hM (Or.inr (Or.inr q_8)))).1
  | exact (looM_n (ma := ma) (A := acM fc ma) (looM_g hM (Or.inr (Or.inr q_8)))).2.1
  | exact (looM_n (ma := ma) (A := acM fc ma) (looM_g hM (Or.inr (Or.inr q_8)))).2.2.1
  | exact (looM_n (ma := ma) (A := acM fc ma) (looM_g hM (Or.inr (Or.inr q_8)))).2.2.2
  | exact (looM_s (ma := ma) (A := acM fc ma) hM hj_1 f_5_1_0 q_8 e_12 c_13).1
  | exact (looM_s (ma := ma) (A := acM fc ma) hM hj_1 f_5_1_0 q_8 e_12 c_13).2.1
  | exact (looM_s (ma := ma) (A := acM fc ma) hM hj_1 f_5_1_0 q_8 e_12 c_13).2.2.1
  | exact (looM_s (ma := ma) (A := acM fc ma) hM hj_1 f_5_1_0 q_8 e_12 c_13).2.2.2
  | exact (looM_d hM hj_1 f_5_1_0 q_8 e_12 c_13 (by assumption) (by assumption) (by assumption) (by assumption) (by assumption)).1
  | exact (looM_d hM hj_1 f_5_1_0 q_8 e_12 c_13 (by assumption) (by assumption) (by assumption) (by assumption) (by assumption)).2.1
  | exact (looM_d hM hj_1 f_5_1_0 q_8 e_12 c_13 (by assumption) (by assumption) (by assumption) (by assumption) (by assumption)).2.2.1
  | exact (looM_d hM hj_1 f_5_1_0 q_8 e_12 c_13 (by assumption) (by assumption) (by assumption) (by assumption) (by assumption)).2.2.2
theorem lf_X8_loose_15 {mt : Int32} {ma : Nat} {fs : Nat → Int32} {w9 : Nat} {k9 : Nat} {h9 : Nat} {fc : Nat → Int32} {a1 : Int32} {a2 : Int32} {j_1 : Nat} (hM : okM fs w9 k9 h9) (hT : ¬ mt = 0 → 1 ≤ k9) (h999 : h9 ≤ 999) (hT0 : mt = 0 → fs 0 = 0 ∧ ma = 0) (hac : okA fc ma) (hma : ma ≤ 24) (hj_1 : j_1 < k9) (hkn1 : 1 ≤ k9) (hw1 : 1 ≤ w9) (h01 : ¬ fs 0 = 0) (f_5_1_0 : iC (fs 0) a1) (f_8_0_0 : ((a2).toInt64 < 1 ∨ 20 < (a2).toInt64)) (q_8 : (a2 < 1 ∨ 20 < a2)) : (-1000001) = (a_loose (m38 fs) (nI j_1) a1 a2) := by
  have hw6 := hM.2.2.2.1
  have hk6 := hM.2.2.2.2.1
  first
  | exact hT0
  | (intro h_; exact absurd (hT0 h_).1 h01)
  | (intro h_; have h9 := (hT0 h_).2; omega)
  | exact (looM_n (ma := ma) (A := acM fc ma) (looM_g hM (Or.inl f_1_0_0))).1
  | exact (looM_n (ma := ma) (A := acM fc ma) (looM_g hM (Or.inl f_1_0_0))).2.1
  | exact (looM_n (ma := ma) (A := acM fc ma) (looM_g hM (Or.inl f_1_0_0))).2.2.1
  | exact (looM_n (ma := ma) (A := acM fc ma) (looM_g hM (Or.inl f_1_0_0))).2.2.2
  | exact (looM_n (ma := ma) (A := acM fc ma) (looM_g hM (Or.inr (Or.inl f_5_0_0)))).1
  | exact (looM_n (ma := ma) (A := acM fc ma) (looM_g hM (Or.inr (Or.inl f_5_0_0)))).2.1
  | exact (looM_n (ma := ma) (A := acM fc ma) (looM_g hM (Or.inr (Or.inl f_5_0_0)))).2.2.1
  | exact (looM_n (ma := ma) (A := acM fc ma) (looM_g hM (Or.inr (Or.inl f_5_0_0)))).2.2.2
  | exact (looM_n (ma := ma) (A := acM fc ma) (looM_g hM (Or.inr (Or.inr q_8)))).1
  | exact (looM_n (ma := ma) (A := acM fc ma) (looM_g hM (Or.inr (Or.inr q_8)))).2.1
  | exact (looM_n (ma := ma) (A := acM fc ma) (looM_g hM (Or.inr (Or.inr q_8)))).2.2.1
  | exact (looM_n (ma := ma) (A := acM fc ma) (looM_g hM (Or.inr (Or.inr q_8)))).2.2.2
  | exact (looM_s (ma := ma) (A := acM fc ma) hM hj_1 f_5_1_0 q_8 e_12 c_13).1
  | exact (looM_s (ma := ma) (A := acM fc ma) hM hj_1 f_5_1_0 q_8 e_12 c_13).2.1
  | exact (looM_s (ma := ma) (A := acM fc ma) hM hj_1 f_5_1_0 q_8 e_12 c_13).2.2.1
  | exact (looM_s (ma := ma) (A := acM fc ma) hM hj_1 f_5_1_0 q_8 e_12 c_13).2.2.2
  | exact (looM_d hM hj_1 f_5_1_0 q_8 e_12 c_13 (by assumption) (by assumption) (by assumption) (by assumption) (by assumption)).1
  | exact (looM_d hM hj_1 f_5_1_0 q_8 e_12 c_13 (by assumption) (by assumption) (by assumption) (by assumption) (by assumption)).2.1
  | exact (looM_d hM hj_1 f_5_1_0 q_8 e_12 c_13 (by assumption) (by assumption) (by assumption) (by assumption) (by assumption)).2.2.1
  | exact (looM_d hM hj_1 f_5_1_0 q_8 e_12 c_13 (by assumption) (by assumption) (by assumption) (by assumption) (by assumption)).2.2.2
theorem lf_X8_loose_16 {mt : Int32} {ma : Nat} {fs : Nat → Int32} {w9 : Nat} {k9 : Nat} {h9 : Nat} {fc : Nat → Int32} {a1 : Int32} {j_1 : Nat} {j_8 : Nat} {v_12 : Int32} {fcn_14 : Nat → Int32} {man_14 : Nat} {fsn_15 : Nat → Int32} {j_16 : Nat} (hM : okM fs w9 k9 h9) (hT : ¬ mt = 0 → 1 ≤ k9) (h999 : h9 ≤ 999) (hT0 : mt = 0 → fs 0 = 0 ∧ ma = 0) (hac : okA fc ma) (hma : ma ≤ 24) (hj_1 : j_1 < k9) (hkn1 : 1 ≤ k9) (hw1 : 1 ≤ w9) (h01 : ¬ fs 0 = 0) (f_5_1_0 : iC (fs 0) a1) (f_8_1_0 : (¬ (((nI j_8)).toInt64 < 1 ∨ 20 < ((nI j_8)).toInt64))) (q_8 : ¬ ((nI j_8) < 1 ∨ 20 < (nI j_8))) (hj_8 : j_8 ≤ 20) (e_12 : v_12 = fs (26 + j_1)) (c_13 : ¬ (v_12 = 0)) (hF_14_0 : okA fcn_14 man_14) (hF_14_1 : man_14 ≤ 24) (hF_14_2 : 1 ≤ man_14) (hF_14_3 : acM fcn_14 man_14 = ntA (m38 fs) ma (acM fc ma)) (hF_14_4 : man_14 = ntN ma) (hF_15_0 : okM fsn_15 w9 k9 h9) (hF_15_1 : fsn_15 = upd (upd (upd fs (26 + j_1) 0) (20 + j_1) a1) (32 + j_1) (nI j_8)) (hz_16_0 : j_16 ≤ 63) (hz_16_1 : nI j_16 = thR (fun s => fsn_15 (26 + s)) 0 k9) : (mt = 0 → fsn_15 0 = 0 ∧ man_14 = 0) := by
  have hw6 := hM.2.2.2.1
  have hk6 := hM.2.2.2.2.1
  first
  | exact hT0
  | (intro h_; exact absurd (hT0 h_).1 h01)
  | (intro h_; have h9 := (hT0 h_).2; omega)
  | exact (looM_n (ma := ma) (A := acM fc ma) (looM_g hM (Or.inl f_1_0_0))).1
  | exact (looM_n (ma := ma) (A := acM fc ma) (looM_g hM (Or.inl f_1_0_0))).2.1
  | exact (looM_n (ma := ma) (A := acM fc ma) (looM_g hM (Or.inl f_1_0_0))).2.2.1
  | exact (looM_n (ma := ma) (A := acM fc ma) (looM_g hM (Or.inl f_1_0_0))).2.2.2
  | exact (looM_n (ma := ma) (A := acM fc ma) (looM_g hM (Or.inr (Or.inl f_5_0_0)))).1
  | exact (looM_n (ma := ma) (A := acM fc ma) (looM_g hM (Or.inr (Or.inl f_5_0_0)))).2.1
  | exact (looM_n (ma := ma) (A := acM fc ma) (looM_g hM (Or.inr (Or.inl f_5_0_0)))).2.2.1
  | exact (looM_n (ma := ma) (A := acM fc ma) (looM_g hM (Or.inr (Or.inl f_5_0_0)))).2.2.2
  | exact (looM_n (ma := ma) (A := acM fc ma) (looM_g hM (Or.inr (Or.inr q_8)))).1
  | exact (looM_n (ma := ma) (A := acM fc ma) (looM_g hM (Or.inr (Or.inr q_8)))).2.1
  | exact (looM_n (ma := ma) (A := acM fc ma) (looM_g hM (Or.inr (Or.inr q_8)))).2.2.1
  | exact (looM_n (ma := ma) (A := acM fc ma) (looM_g hM (Or.inr (Or.inr q_8)))).2.2.2
  | exact (looM_s (ma := ma) (A := acM fc ma) hM hj_1 f_5_1_0 q_8 e_12 c_13).1
  | exact (looM_s (ma := ma) (A := acM fc ma) hM hj_1 f_5_1_0 q_8 e_12 c_13).2.1
  | exact (looM_s (ma := ma) (A := acM fc ma) hM hj_1 f_5_1_0 q_8 e_12 c_13).2.2.1
  | exact (looM_s (ma := ma) (A := acM fc ma) hM hj_1 f_5_1_0 q_8 e_12 c_13).2.2.2
  | exact (looM_d hM hj_1 f_5_1_0 q_8 e_12 c_13 (by assumption) (by assumption) (by assumption) (by assumption) (by assumption)).1
  | exact (looM_d hM hj_1 f_5_1_0 q_8 e_12 c_13 (by assumption) (by assumption) (by assumption) (by assumption) (by assumption)).2.1
  | exact (looM_d hM hj_1 f_5_1_0 q_8 e_12 c_13 (by assumption) (by assumption) (by assumption) (by assumption) (by assumption)).2.2.1
  | exact (looM_d hM hj_1 f_5_1_0 q_8 e_12 c_13 (by assumption) (by assumption) (by assumption) (by assumption) (by assumption)).2.2.2
theorem lf_X8_loose_17 {mt : Int32} {ma : Nat} {fs : Nat → Int32} {w9 : Nat} {k9 : Nat} {h9 : Nat} {fc : Nat → Int32} {a1 : Int32} {j_1 : Nat} {j_8 : Nat} {v_12 : Int32} {fcn_14 : Nat → Int32} {man_14 : Nat} {fsn_15 : Nat → Int32} {j_16 : Nat} (hM : okM fs w9 k9 h9) (hT : ¬ mt = 0 → 1 ≤ k9) (h999 : h9 ≤ 999) (hT0 : mt = 0 → fs 0 = 0 ∧ ma = 0) (hac : okA fc ma) (hma : ma ≤ 24) (hj_1 : j_1 < k9) (hkn1 : 1 ≤ k9) (hw1 : 1 ≤ w9) (h01 : ¬ fs 0 = 0) (f_5_1_0 : iC (fs 0) a1) (f_8_1_0 : (¬ (((nI j_8)).toInt64 < 1 ∨ 20 < ((nI j_8)).toInt64))) (q_8 : ¬ ((nI j_8) < 1 ∨ 20 < (nI j_8))) (hj_8 : j_8 ≤ 20) (e_12 : v_12 = fs (26 + j_1)) (c_13 : ¬ (v_12 = 0)) (hF_14_0 : okA fcn_14 man_14) (hF_14_1 : man_14 ≤ 24) (hF_14_2 : 1 ≤ man_14) (hF_14_3 : acM fcn_14 man_14 = ntA (m38 fs) ma (acM fc ma)) (hF_14_4 : man_14 = ntN ma) (hF_15_0 : okM fsn_15 w9 k9 h9) (hF_15_1 : fsn_15 = upd (upd (upd fs (26 + j_1) 0) (20 + j_1) a1) (32 + j_1) (nI j_8)) (hz_16_0 : j_16 ≤ 63) (hz_16_1 : nI j_16 = thR (fun s => fsn_15 (26 + s)) 0 k9) : m38 fsn_15 = n_loose (m38 fs) (nI j_1) a1 (nI j_8) := by
  have hw6 := hM.2.2.2.1
  have hk6 := hM.2.2.2.2.1
  first
  | exact hT0
  | (intro h_; exact absurd (hT0 h_).1 h01)
  | (intro h_; have h9 := (hT0 h_).2; omega)
  | exact (looM_n (ma := ma) (A := acM fc ma) (looM_g hM (Or.inl f_1_0_0))).1
  | exact (looM_n (ma := ma) (A := acM fc ma) (looM_g hM (Or.inl f_1_0_0))).2.1
  | exact (looM_n (ma := ma) (A := acM fc ma) (looM_g hM (Or.inl f_1_0_0))).2.2.1
  | exact (looM_n (ma := ma) (A := acM fc ma) (looM_g hM (Or.inl f_1_0_0))).2.2.2
  | exact (looM_n (ma := ma) (A := acM fc ma) (looM_g hM (Or.inr (Or.inl f_5_0_0)))).1
  | exact (looM_n (ma := ma) (A := acM fc ma) (looM_g hM (Or.inr (Or.inl f_5_0_0)))).2.1
  | exact (looM_n (ma := ma) (A := acM fc ma) (looM_g hM (Or.inr (Or.inl f_5_0_0)))).2.2.1
  | exact (looM_n (ma := ma) (A := acM fc ma) (looM_g hM (Or.inr (Or.inl f_5_0_0)))).2.2.2
  | exact (looM_n (ma := ma) (A := acM fc ma) (looM_g hM (Or.inr (Or.inr q_8)))).1
  | exact (looM_n (ma := ma) (A := acM fc ma) (looM_g hM (Or.inr (Or.inr q_8)))).2.1
  | exact (looM_n (ma := ma) (A := acM fc ma) (looM_g hM (Or.inr (Or.inr q_8)))).2.2.1
  | exact (looM_n (ma := ma) (A := acM fc ma) (looM_g hM (Or.inr (Or.inr q_8)))).2.2.2
  | exact (looM_s (ma := ma) (A := acM fc ma) hM hj_1 f_5_1_0 q_8 e_12 c_13).1
  | exact (looM_s (ma := ma) (A := acM fc ma) hM hj_1 f_5_1_0 q_8 e_12 c_13).2.1
  | exact (looM_s (ma := ma) (A := acM fc ma) hM hj_1 f_5_1_0 q_8 e_12 c_13).2.2.1
  | exact (looM_s (ma := ma) (A := acM fc ma) hM hj_1 f_5_1_0 q_8 e_12 c_13).2.2.2
  | exact (looM_d hM hj_1 f_5_1_0 q_8 e_12 c_13 (by assumption) (by assumption) (by assumption) (by assumption) (by assumption)).1
  | exact (looM_d hM hj_1 f_5_1_0 q_8 e_12 c_13 (by assumption) (by assumption) (by assumption) (by assumption) (by assumption)).2.1
  | exact (looM_d hM hj_1 f_5_1_0 q_8 e_12 c_13 (by assumption) (by assumption) (by assumption) (by assumption) (by assumption)).2.2.1
  | exact (looM_d hM hj_1 f_5_1_0 q_8 e_12 c_13 (by assumption) (by assumption) (by assumption) (by assumption) (by assumption)).2.2.2
theorem lf_X8_loose_18 {mt : Int32} {ma : Nat} {fs : Nat → Int32} {w9 : Nat} {k9 : Nat} {h9 : Nat} {fc : Nat → Int32} {a1 : Int32} {j_1 : Nat} {j_8 : Nat} {v_12 : Int32} {fcn_14 : Nat → Int32} {man_14 : Nat} {fsn_15 : Nat → Int32} {j_16 : Nat} (hM : okM fs w9 k9 h9) (hT : ¬ mt = 0 → 1 ≤ k9) (h999 : h9 ≤ 999) (hT0 : mt = 0 → fs 0 = 0 ∧ ma = 0) (hac : okA fc ma) (hma : ma ≤ 24) (hj_1 : j_1 < k9) (hkn1 : 1 ≤ k9) (hw1 : 1 ≤ w9) (h01 : ¬ fs 0 = 0) (f_5_1_0 : iC (fs 0) a1) (f_8_1_0 : (¬ (((nI j_8)).toInt64 < 1 ∨ 20 < ((nI j_8)).toInt64))) (q_8 : ¬ ((nI j_8) < 1 ∨ 20 < (nI j_8))) (hj_8 : j_8 ≤ 20) (e_12 : v_12 = fs (26 + j_1)) (c_13 : ¬ (v_12 = 0)) (hF_14_0 : okA fcn_14 man_14) (hF_14_1 : man_14 ≤ 24) (hF_14_2 : 1 ≤ man_14) (hF_14_3 : acM fcn_14 man_14 = ntA (m38 fs) ma (acM fc ma)) (hF_14_4 : man_14 = ntN ma) (hF_15_0 : okM fsn_15 w9 k9 h9) (hF_15_1 : fsn_15 = upd (upd (upd fs (26 + j_1) 0) (20 + j_1) a1) (32 + j_1) (nI j_8)) (hz_16_0 : j_16 ≤ 63) (hz_16_1 : nI j_16 = thR (fun s => fsn_15 (26 + s)) 0 k9) : man_14 = kpN (gd_loose (m38 fs) (nI j_1) a1 (nI j_8)) ma := by
  have hw6 := hM.2.2.2.1
  have hk6 := hM.2.2.2.2.1
  first
  | exact hT0
  | (intro h_; exact absurd (hT0 h_).1 h01)
  | (intro h_; have h9 := (hT0 h_).2; omega)
  | exact (looM_n (ma := ma) (A := acM fc ma) (looM_g hM (Or.inl f_1_0_0))).1
  | exact (looM_n (ma := ma) (A := acM fc ma) (looM_g hM (Or.inl f_1_0_0))).2.1
  | exact (looM_n (ma := ma) (A := acM fc ma) (looM_g hM (Or.inl f_1_0_0))).2.2.1
  | exact (looM_n (ma := ma) (A := acM fc ma) (looM_g hM (Or.inl f_1_0_0))).2.2.2
  | exact (looM_n (ma := ma) (A := acM fc ma) (looM_g hM (Or.inr (Or.inl f_5_0_0)))).1
  | exact (looM_n (ma := ma) (A := acM fc ma) (looM_g hM (Or.inr (Or.inl f_5_0_0)))).2.1
  | exact (looM_n (ma := ma) (A := acM fc ma) (looM_g hM (Or.inr (Or.inl f_5_0_0)))).2.2.1
  | exact (looM_n (ma := ma) (A := acM fc ma) (looM_g hM (Or.inr (Or.inl f_5_0_0)))).2.2.2
  | exact (looM_n (ma := ma) (A := acM fc ma) (looM_g hM (Or.inr (Or.inr q_8)))).1
  | exact (looM_n (ma := ma) (A := acM fc ma) (looM_g hM (Or.inr (Or.inr q_8)))).2.1
  | exact (looM_n (ma := ma) (A := acM fc ma) (looM_g hM (Or.inr (Or.inr q_8)))).2.2.1
  | exact (looM_n (ma := ma) (A := acM fc ma) (looM_g hM (Or.inr (Or.inr q_8)))).2.2.2
  | exact (looM_s (ma := ma) (A := acM fc ma) hM hj_1 f_5_1_0 q_8 e_12 c_13).1
  | exact (looM_s (ma := ma) (A := acM fc ma) hM hj_1 f_5_1_0 q_8 e_12 c_13).2.1
  | exact (looM_s (ma := ma) (A := acM fc ma) hM hj_1 f_5_1_0 q_8 e_12 c_13).2.2.1
  | exact (looM_s (ma := ma) (A := acM fc ma) hM hj_1 f_5_1_0 q_8 e_12 c_13).2.2.2
  | exact (looM_d hM hj_1 f_5_1_0 q_8 e_12 c_13 (by assumption) (by assumption) (by assumption) (by assumption) (by assumption)).1
  | exact (looM_d hM hj_1 f_5_1_0 q_8 e_12 c_13 (by assumption) (by assumption) (by assumption) (by assumption) (by assumption)).2.1
  | exact (looM_d hM hj_1 f_5_1_0 q_8 e_12 c_13 (by assumption) (by assumption) (by assumption) (by assumption) (by assumption)).2.2.1
  | exact (looM_d hM hj_1 f_5_1_0 q_8 e_12 c_13 (by assumption) (by assumption) (by assumption) (by assumption) (by assumption)).2.2.2
theorem lf_X8_loose_19 {mt : Int32} {ma : Nat} {fs : Nat → Int32} {w9 : Nat} {k9 : Nat} {h9 : Nat} {fc : Nat → Int32} {a1 : Int32} {j_1 : Nat} {j_8 : Nat} {v_12 : Int32} {fcn_14 : Nat → Int32} {man_14 : Nat} {fsn_15 : Nat → Int32} {j_16 : Nat} (hM : okM fs w9 k9 h9) (hT : ¬ mt = 0 → 1 ≤ k9) (h999 : h9 ≤ 999) (hT0 : mt = 0 → fs 0 = 0 ∧ ma = 0) (hac : okA fc ma) (hma : ma ≤ 24) (hj_1 : j_1 < k9) (hkn1 : 1 ≤ k9) (hw1 : 1 ≤ w9) (h01 : ¬ fs 0 = 0) (f_5_1_0 : iC (fs 0) a1) (f_8_1_0 : (¬ (((nI j_8)).toInt64 < 1 ∨ 20 < ((nI j_8)).toInt64))) (q_8 : ¬ ((nI j_8) < 1 ∨ 20 < (nI j_8))) (hj_8 : j_8 ≤ 20) (e_12 : v_12 = fs (26 + j_1)) (c_13 : ¬ (v_12 = 0)) (hF_14_0 : okA fcn_14 man_14) (hF_14_1 : man_14 ≤ 24) (hF_14_2 : 1 ≤ man_14) (hF_14_3 : acM fcn_14 man_14 = ntA (m38 fs) ma (acM fc ma)) (hF_14_4 : man_14 = ntN ma) (hF_15_0 : okM fsn_15 w9 k9 h9) (hF_15_1 : fsn_15 = upd (upd (upd fs (26 + j_1) 0) (20 + j_1) a1) (32 + j_1) (nI j_8)) (hz_16_0 : j_16 ≤ 63) (hz_16_1 : nI j_16 = thR (fun s => fsn_15 (26 + s)) 0 k9) : acM fcn_14 man_14 = kpA (gd_loose (m38 fs) (nI j_1) a1 (nI j_8)) (m38 fs) ma (acM fc ma) := by
  have hw6 := hM.2.2.2.1
  have hk6 := hM.2.2.2.2.1
  first
  | exact hT0
  | (intro h_; exact absurd (hT0 h_).1 h01)
  | (intro h_; have h9 := (hT0 h_).2; omega)
  | exact (looM_n (ma := ma) (A := acM fc ma) (looM_g hM (Or.inl f_1_0_0))).1
  | exact (looM_n (ma := ma) (A := acM fc ma) (looM_g hM (Or.inl f_1_0_0))).2.1
  | exact (looM_n (ma := ma) (A := acM fc ma) (looM_g hM (Or.inl f_1_0_0))).2.2.1
  | exact (looM_n (ma := ma) (A := acM fc ma) (looM_g hM (Or.inl f_1_0_0))).2.2.2
  | exact (looM_n (ma := ma) (A := acM fc ma) (looM_g hM (Or.inr (Or.inl f_5_0_0)))).1
  | exact (looM_n (ma := ma) (A := acM fc ma) (looM_g hM (Or.inr (Or.inl f_5_0_0)))).2.1
  | exact (looM_n (ma := ma) (A := acM fc ma) (looM_g hM (Or.inr (Or.inl f_5_0_0)))).2.2.1
  | exact (looM_n (ma := ma) (A := acM fc ma) (looM_g hM (Or.inr (Or.inl f_5_0_0)))).2.2.2
  | exact (looM_n (ma := ma) (A := acM fc ma) (looM_g hM (Or.inr (Or.inr q_8)))).1
  | exact (looM_n (ma := ma) (A := acM fc ma) (looM_g hM (Or.inr (Or.inr q_8)))).2.1
  | exact (looM_n (ma := ma) (A := acM fc ma) (looM_g hM (Or.inr (Or.inr q_8)))).2.2.1
  | exact (looM_n (ma := ma) (A := acM fc ma) (looM_g hM (Or.inr (Or.inr q_8)))).2.2.2
  | exact (looM_s (ma := ma) (A := acM fc ma) hM hj_1 f_5_1_0 q_8 e_12 c_13).1
  | exact (looM_s (ma := ma) (A := acM fc ma) hM hj_1 f_5_1_0 q_8 e_12 c_13).2.1
  | exact (looM_s (ma := ma) (A := acM fc ma) hM hj_1 f_5_1_0 q_8 e_12 c_13).2.2.1
  | exact (looM_s (ma := ma) (A := acM fc ma) hM hj_1 f_5_1_0 q_8 e_12 c_13).2.2.2
  | exact (looM_d hM hj_1 f_5_1_0 q_8 e_12 c_13 (by assumption) (by assumption) (by assumption) (by assumption) (by assumption)).1
  | exact (looM_d hM hj_1 f_5_1_0 q_8 e_12 c_13 (by assumption) (by assumption) (by assumption) (by assumption) (by assumption)).2.1
  | exact (looM_d hM hj_1 f_5_1_0 q_8 e_12 c_13 (by assumption) (by assumption) (by assumption) (by assumption) (by assumption)).2.2.1
  | exact (looM_d hM hj_1 f_5_1_0 q_8 e_12 c_13 (by assumption) (by assumption) (by assumption) (by assumption) (by assumption)).2.2.2
theorem lf_X8_loose_20 {mt : Int32} {ma : Nat} {fs : Nat → Int32} {w9 : Nat} {k9 : Nat} {h9 : Nat} {fc : Nat → Int32} {a1 : Int32} {j_1 : Nat} {j_8 : Nat} {v_12 : Int32} {fcn_14 : Nat → Int32} {man_14 : Nat} {fsn_15 : Nat → Int32} {j_16 : Nat} (hM : okM fs w9 k9 h9) (hT : ¬ mt = 0 → 1 ≤ k9) (h999 : h9 ≤ 999) (hT0 : mt = 0 → fs 0 = 0 ∧ ma = 0) (hac : okA fc ma) (hma : ma ≤ 24) (hj_1 : j_1 < k9) (hkn1 : 1 ≤ k9) (hw1 : 1 ≤ w9) (h01 : ¬ fs 0 = 0) (f_5_1_0 : iC (fs 0) a1) (f_8_1_0 : (¬ (((nI j_8)).toInt64 < 1 ∨ 20 < ((nI j_8)).toInt64))) (q_8 : ¬ ((nI j_8) < 1 ∨ 20 < (nI j_8))) (hj_8 : j_8 ≤ 20) (e_12 : v_12 = fs (26 + j_1)) (c_13 : ¬ (v_12 = 0)) (hF_14_0 : okA fcn_14 man_14) (hF_14_1 : man_14 ≤ 24) (hF_14_2 : 1 ≤ man_14) (hF_14_3 : acM fcn_14 man_14 = ntA (m38 fs) ma (acM fc ma)) (hF_14_4 : man_14 = ntN ma) (hF_15_0 : okM fsn_15 w9 k9 h9) (hF_15_1 : fsn_15 = upd (upd (upd fs (26 + j_1) 0) (20 + j_1) a1) (32 + j_1) (nI j_8)) (hz_16_0 : j_16 ≤ 63) (hz_16_1 : nI j_16 = thR (fun s => fsn_15 (26 + s)) 0 k9) : (nI j_16) = (a_loose (m38 fs) (nI j_1) a1 (nI j_8)) := by
  have hw6 := hM.2.2.2.1
  have hk6 := hM.2.2.2.2.1
  first
  | exact hT0
  | (intro h_; exact absurd (hT0 h_).1 h01)
  | (intro h_; have h9 := (hT0 h_).2; omega)
  | exact (looM_n (ma := ma) (A := acM fc ma) (looM_g hM (Or.inl f_1_0_0))).1
  | exact (looM_n (ma := ma) (A := acM fc ma) (looM_g hM (Or.inl f_1_0_0))).2.1
  | exact (looM_n (ma := ma) (A := acM fc ma) (looM_g hM (Or.inl f_1_0_0))).2.2.1
  | exact (looM_n (ma := ma) (A := acM fc ma) (looM_g hM (Or.inl f_1_0_0))).2.2.2
  | exact (looM_n (ma := ma) (A := acM fc ma) (looM_g hM (Or.inr (Or.inl f_5_0_0)))).1
  | exact (looM_n (ma := ma) (A := acM fc ma) (looM_g hM (Or.inr (Or.inl f_5_0_0)))).2.1
  | exact (looM_n (ma := ma) (A := acM fc ma) (looM_g hM (Or.inr (Or.inl f_5_0_0)))).2.2.1
  | exact (looM_n (ma := ma) (A := acM fc ma) (looM_g hM (Or.inr (Or.inl f_5_0_0)))).2.2.2
  | exact (looM_n (ma := ma) (A := acM fc ma) (looM_g hM (Or.inr (Or.inr q_8)))).1
  | exact (looM_n (ma := ma) (A := acM fc ma) (looM_g hM (Or.inr (Or.inr q_8)))).2.1
  | exact (looM_n (ma := ma) (A := acM fc ma) (looM_g hM (Or.inr (Or.inr q_8)))).2.2.1
  | exact (looM_n (ma := ma) (A := acM fc ma) (looM_g hM (Or.inr (Or.inr q_8)))).2.2.2
  | exact (looM_s (ma := ma) (A := acM fc ma) hM hj_1 f_5_1_0 q_8 e_12 c_13).1
  | exact (looM_s (ma := ma) (A := acM fc ma) hM hj_1 f_5_1_0 q_8 e_12 c_13).2.1
  | exact (looM_s (ma := ma) (A := acM fc ma) hM hj_1 f_5_1_0 q_8 e_12 c_13).2.2.1
  | exact (looM_s (ma := ma) (A := acM fc ma) hM hj_1 f_5_1_0 q_8 e_12 c_13).2.2.2
  | exact (looM_d hM hj_1 f_5_1_0 q_8 e_12 c_13 (by assumption) (by assumption) (by assumption) (by assumption) (by assumption)).1
  | exact (looM_d hM hj_1 f_5_1_0 q_8 e_12 c_13 (by assumption) (by assumption) (by assumption) (by assumption) (by assumption)).2.1
  | exact (looM_d hM hj_1 f_5_1_0 q_8 e_12 c_13 (by assumption) (by assumption) (by assumption) (by assumption) (by assumption)).2.2.1
  | exact (looM_d hM hj_1 f_5_1_0 q_8 e_12 c_13 (by assumption) (by assumption) (by assumption) (by assumption) (by assumption)).2.2.2
theorem lf_X8_loose_21 {mt : Int32} {ma : Nat} {fs : Nat → Int32} {w9 : Nat} {k9 : Nat} {h9 : Nat} {fc : Nat → Int32} {a1 : Int32} {j_1 : Nat} {j_8 : Nat} {v_12 : Int32} (hM : okM fs w9 k9 h9) (hT : ¬ mt = 0 → 1 ≤ k9) (h999 : h9 ≤ 999) (hT0 : mt = 0 → fs 0 = 0 ∧ ma = 0) (hac : okA fc ma) (hma : ma ≤ 24) (hj_1 : j_1 < k9) (hkn1 : 1 ≤ k9) (hw1 : 1 ≤ w9) (h01 : ¬ fs 0 = 0) (f_5_1_0 : iC (fs 0) a1) (f_8_1_0 : (¬ (((nI j_8)).toInt64 < 1 ∨ 20 < ((nI j_8)).toInt64))) (q_8 : ¬ ((nI j_8) < 1 ∨ 20 < (nI j_8))) (hj_8 : j_8 ≤ 20) (e_12 : v_12 = fs (26 + j_1)) (c_13 : v_12 = 0) : (mt = 0 → fs 0 = 0 ∧ ma = 0) := by
  have hw6 := hM.2.2.2.1
  have hk6 := hM.2.2.2.2.1
  first
  | exact hT0
  | (intro h_; exact absurd (hT0 h_).1 h01)
  | (intro h_; have h9 := (hT0 h_).2; omega)
  | exact (looM_n (ma := ma) (A := acM fc ma) (looM_g hM (Or.inl f_1_0_0))).1
  | exact (looM_n (ma := ma) (A := acM fc ma) (looM_g hM (Or.inl f_1_0_0))).2.1
  | exact (looM_n (ma := ma) (A := acM fc ma) (looM_g hM (Or.inl f_1_0_0))).2.2.1
  | exact (looM_n (ma := ma) (A := acM fc ma) (looM_g hM (Or.inl f_1_0_0))).2.2.2
  | exact (looM_n (ma := ma) (A := acM fc ma) (looM_g hM (Or.inr (Or.inl f_5_0_0)))).1
  | exact (looM_n (ma := ma) (A := acM fc ma) (looM_g hM (Or.inr (Or.inl f_5_0_0)))).2.1
  | exact (looM_n (ma := ma) (A := acM fc ma) (looM_g hM (Or.inr (Or.inl f_5_0_0)))).2.2.1
  | exact (looM_n (ma := ma) (A := acM fc ma) (looM_g hM (Or.inr (Or.inl f_5_0_0)))).2.2.2
  | exact (looM_n (ma := ma) (A := acM fc ma) (looM_g hM (Or.inr (Or.inr q_8)))).1
  | exact (looM_n (ma := ma) (A := acM fc ma) (looM_g hM (Or.inr (Or.inr q_8)))).2.1
  | exact (looM_n (ma := ma) (A := acM fc ma) (looM_g hM (Or.inr (Or.inr q_8)))).2.2.1
  | exact (looM_n (ma := ma) (A := acM fc ma) (looM_g hM (Or.inr (Or.inr q_8)))).2.2.2
  | exact (looM_s (ma := ma) (A := acM fc ma) hM hj_1 f_5_1_0 q_8 e_12 c_13).1
  | exact (looM_s (ma := ma) (A := acM fc ma) hM hj_1 f_5_1_0 q_8 e_12 c_13).2.1
  | exact (looM_s (ma := ma) (A := acM fc ma) hM hj_1 f_5_1_0 q_8 e_12 c_13).2.2.1
  | exact (looM_s (ma := ma) (A := acM fc ma) hM hj_1 f_5_1_0 q_8 e_12 c_13).2.2.2
  | exact (looM_d hM hj_1 f_5_1_0 q_8 e_12 c_13 (by assumption) (by assumption) (by assumption) (by assumption) (by assumption)).1
  | exact (looM_d hM hj_1 f_5_1_0 q_8 e_12 c_13 (by assumption) (by assumption) (by assumption) (by assumption) (by assumption)).2.1
  | exact (looM_d hM hj_1 f_5_1_0 q_8 e_12 c_13 (by assumption) (by assumption) (by assumption) (by assumption) (by assumption)).2.2.1
  | exact (looM_d hM hj_1 f_5_1_0 q_8 e_12 c_13 (by assumption) (by assumption) (by assumption) (by assumption) (by assumption)).2.2.2
theorem lf_X8_loose_22 {mt : Int32} {ma : Nat} {fs : Nat → Int32} {w9 : Nat} {k9 : Nat} {h9 : Nat} {fc : Nat → Int32} {a1 : Int32} {j_1 : Nat} {j_8 : Nat} {v_12 : Int32} (hM : okM fs w9 k9 h9) (hT : ¬ mt = 0 → 1 ≤ k9) (h999 : h9 ≤ 999) (hT0 : mt = 0 → fs 0 = 0 ∧ ma = 0) (hac : okA fc ma) (hma : ma ≤ 24) (hj_1 : j_1 < k9) (hkn1 : 1 ≤ k9) (hw1 : 1 ≤ w9) (h01 : ¬ fs 0 = 0) (f_5_1_0 : iC (fs 0) a1) (f_8_1_0 : (¬ (((nI j_8)).toInt64 < 1 ∨ 20 < ((nI j_8)).toInt64))) (q_8 : ¬ ((nI j_8) < 1 ∨ 20 < (nI j_8))) (hj_8 : j_8 ≤ 20) (e_12 : v_12 = fs (26 + j_1)) (c_13 : v_12 = 0) : m38 fs = n_loose (m38 fs) (nI j_1) a1 (nI j_8) := by
  have hw6 := hM.2.2.2.1
  have hk6 := hM.2.2.2.2.1
  first
  | exact hT0
  | (intro h_; exact absurd (hT0 h_).1 h01)
  | (intro h_; have h9 := (hT0 h_).2; omega)
  | exact (looM_n (ma := ma) (A := acM fc ma) (looM_g hM (Or.inl f_1_0_0))).1
  | exact (looM_n (ma := ma) (A := acM fc ma) (looM_g hM (Or.inl f_1_0_0))).2.1
  | exact (looM_n (ma := ma) (A := acM fc ma) (looM_g hM (Or.inl f_1_0_0))).2.2.1
  | exact (looM_n (ma := ma) (A := acM fc ma) (looM_g hM (Or.inl f_1_0_0))).2.2.2
  | exact (looM_n (ma := ma) (A := acM fc ma) (looM_g hM (Or.inr (Or.inl f_5_0_0)))).1
  | exact (looM_n (ma := ma) (A := acM fc ma) (looM_g hM (Or.inr (Or.inl f_5_0_0)))).2.1
  | exact (looM_n (ma := ma) (A := acM fc ma) (looM_g hM (Or.inr (Or.inl f_5_0_0)))).2.2.1
  | exact (looM_n (ma := ma) (A := acM fc ma) (looM_g hM (Or.inr (Or.inl f_5_0_0)))).2.2.2
  | exact (looM_n (ma := ma) (A := acM fc ma) (looM_g hM (Or.inr (Or.inr q_8)))).1
  | exact (looM_n (ma := ma) (A := acM fc ma) (looM_g hM (Or.inr (Or.inr q_8)))).2.1
  | exact (looM_n (ma := ma) (A := acM fc ma) (looM_g hM (Or.inr (Or.inr q_8)))).2.2.1
  | exact (looM_n (ma := ma) (A := acM fc ma) (looM_g hM (Or.inr (Or.inr q_8)))).2.2.2
  | exact (looM_s (ma := ma) (A := acM fc ma) hM hj_1 f_5_1_0 q_8 e_12 c_13).1
  | exact (looM_s (ma := ma) (A := acM fc ma) hM hj_1 f_5_1_0 q_8 e_12 c_13).2.1
  | exact (looM_s (ma := ma) (A := acM fc ma) hM hj_1 f_5_1_0 q_8 e_12 c_13).2.2.1
  | exact (looM_s (ma := ma) (A := acM fc ma) hM hj_1 f_5_1_0 q_8 e_12 c_13).2.2.2
  | exact (looM_d hM hj_1 f_5_1_0 q_8 e_12 c_13 (by assumption) (by assumption) (by assumption) (by assumption) (by assumption)).1
  | exact (looM_d hM hj_1 f_5_1_0 q_8 e_12 c_13 (by assumption) (by assumption) (by assumption) (by assumption) (by assumption)).2.1
  | exact (looM_d hM hj_1 f_5_1_0 q_8 e_12 c_13 (by assumption) (by assumption) (by assumption) (by assumption) (by assumption)).2.2.1
  | exact (looM_d hM hj_1 f_5_1_0 q_8 e_12 c_13 (by assumption) (by assumption) (by assumption) (by assumption) (by assumption)).2.2.2
theorem lf_X8_loose_23 {mt : Int32} {ma : Nat} {fs : Nat → Int32} {w9 : Nat} {k9 : Nat} {h9 : Nat} {fc : Nat → Int32} {a1 : Int32} {j_1 : Nat} {j_8 : Nat} {v_12 : Int32} (hM : okM fs w9 k9 h9) (hT : ¬ mt = 0 → 1 ≤ k9) (h999 : h9 ≤ 999) (hT0 : mt = 0 → fs 0 = 0 ∧ ma = 0) (hac : okA fc ma) (hma : ma ≤ 24) (hj_1 : j_1 < k9) (hkn1 : 1 ≤ k9) (hw1 : 1 ≤ w9) (h01 : ¬ fs 0 = 0) (f_5_1_0 : iC (fs 0) a1) (f_8_1_0 : (¬ (((nI j_8)).toInt64 < 1 ∨ 20 < ((nI j_8)).toInt64))) (q_8 : ¬ ((nI j_8) < 1 ∨ 20 < (nI j_8))) (hj_8 : j_8 ≤ 20) (e_12 : v_12 = fs (26 + j_1)) (c_13 : v_12 = 0) : ma = kpN (gd_loose (m38 fs) (nI j_1) a1 (nI j_8)) ma := by
  have hw6 := hM.2.2.2.1
  have hk6 := hM.2.2.2.2.1
  first
  | exact hT0
  | (intro h_; exact absurd (hT0 h_).1 h01)
  | (intro h_; have h9 := (hT0 h_).2; omega)
  | exact (looM_n (ma := ma) (A := acM fc ma) (looM_g hM (Or.inl f_1_0_0))).1
  | exact (looM_n (ma := ma) (A := acM fc ma) (looM_g hM (Or.inl f_1_0_0))).2.1
  | exact (looM_n (ma := ma) (A := acM fc ma) (looM_g hM (Or.inl f_1_0_0))).2.2.1
  | exact (looM_n (ma := ma) (A := acM fc ma) (looM_g hM (Or.inl f_1_0_0))).2.2.2
  | exact (looM_n (ma := ma) (A := acM fc ma) (looM_g hM (Or.inr (Or.inl f_5_0_0)))).1
  | exact (looM_n (ma := ma) (A := acM fc ma) (looM_g hM (Or.inr (Or.inl f_5_0_0)))).2.1
  | exact (looM_n (ma := ma) (A := acM fc ma) (looM_g hM (Or.inr (Or.inl f_5_0_0)))).2.2.1
  | exact (looM_n (ma := ma) (A := acM fc ma) (looM_g hM (Or.inr (Or.inl f_5_0_0)))).2.2.2
  | exact (looM_n (ma := ma) (A := acM fc ma) (looM_g hM (Or.inr (Or.inr q_8)))).1
  | exact (looM_n (ma := ma) (A := acM fc ma) (looM_g hM (Or.inr (Or.inr q_8)))).2.1
  | exact (looM_n (ma := ma) (A := acM fc ma) (looM_g hM (Or.inr (Or.inr q_8)))).2.2.1
  | exact (looM_n (ma := ma) (A := acM fc ma) (looM_g hM (Or.inr (Or.inr q_8)))).2.2.2
  | exact (looM_s (ma := ma) (A := acM fc ma) hM hj_1 f_5_1_0 q_8 e_12 c_13).1
  | exact (looM_s (ma := ma) (A := acM fc ma) hM hj_1 f_5_1_0 q_8 e_12 c_13).2.1
  | exact (looM_s (ma := ma) (A := acM fc ma) hM hj_1 f_5_1_0 q_8 e_12 c_13).2.2.1
  | exact (looM_s (ma := ma) (A := acM fc ma) hM hj_1 f_5_1_0 q_8 e_12 c_13).2.2.2
  | exact (looM_d hM hj_1 f_5_1_0 q_8 e_12 c_13 (by assumption) (by assumption) (by assumption) (by assumption) (by assumption)).1
  | exact (looM_d hM hj_1 f_5_1_0 q_8 e_12 c_13 (by assumption) (by assumption) (by assumption) (by assumption) (by assumption)).2.1
  | exact (looM_d hM hj_1 f_5_1_0 q_8 e_12 c_13 (by assumption) (by assumption) (by assumption) (by assumption) (by assumption)).2.2.1
  | exact (looM_d hM hj_1 f_5_1_0 q_8 e_12 c_13 (by assumption) (by assumption) (by assumption) (by assumption) (by assumption)).2.2.2
theorem lf_X8_loose_24 {mt : Int32} {ma : Nat} {fs : Nat → Int32} {w9 : Nat} {k9 : Nat} {h9 : Nat} {fc : Nat → Int32} {a1 : Int32} {j_1 : Nat} {j_8 : Nat} {v_12 : Int32} (hM : okM fs w9 k9 h9) (hT : ¬ mt = 0 → 1 ≤ k9) (h999 : h9 ≤ 999) (hT0 : mt = 0 → fs 0 = 0 ∧ ma = 0) (hac : okA fc ma) (hma : ma ≤ 24) (hj_1 : j_1 < k9) (hkn1 : 1 ≤ k9) (hw1 : 1 ≤ w9) (h01 : ¬ fs 0 = 0) (f_5_1_0 : iC (fs 0) a1) (f_8_1_0 : (¬ (((nI j_8)).toInt64 < 1 ∨ 20 < ((nI j_8)).toInt64))) (q_8 : ¬ ((nI j_8) < 1 ∨ 20 < (nI j_8))) (hj_8 : j_8 ≤ 20) (e_12 : v_12 = fs (26 + j_1)) (c_13 : v_12 = 0) : acM fc ma = kpA (gd_loose (m38 fs) (nI j_1) a1 (nI j_8)) (m38 fs) ma (acM fc ma) := by
  have hw6 := hM.2.2.2.1
  have hk6 := hM.2.2.2.2.1
  first
  | exact hT0
  | (intro h_; exact absurd (hT0 h_).1 h01)
  | (intro h_; have h9 := (hT0 h_).2; omega)
  | exact (looM_n (ma := ma) (A := acM fc ma) (looM_g hM (Or.inl f_1_0_0))).1
  | exact (looM_n (ma := ma) (A := acM fc ma) (looM_g hM (Or.inl f_1_0_0))).2.1
  | exact (looM_n (ma := ma) (A := acM fc ma) (looM_g hM (Or.inl f_1_0_0))).2.2.1
  | exact (looM_n (ma := ma) (A := acM fc ma) (looM_g hM (Or.inl f_1_0_0))).2.2.2
  | exact (looM_n (ma := ma) (A := acM fc ma) (looM_g hM (Or.inr (Or.inl f_5_0_0)))).1
  | exact (looM_n (ma := ma) (A := acM fc ma) (looM_g hM (Or.inr (Or.inl f_5_0_0)))).2.1
  | exact (looM_n (ma := ma) (A := acM fc ma) (looM_g hM (Or.inr (Or.inl f_5_0_0)))).2.2.1
  | exact (looM_n (ma := ma) (A := acM fc ma) (looM_g hM (Or.inr (Or.inl f_5_0_0)))).2.2.2
  | exact (looM_n (ma := ma) (A := acM fc ma) (looM_g hM (Or.inr (Or.inr q_8)))).1
  | exact (looM_n (ma := ma) (A := acM fc ma) (looM_g hM (Or.inr (Or.inr q_8)))).2.1
  | exact (looM_n (ma := ma) (A := acM fc ma) (looM_g hM (Or.inr (Or.inr q_8)))).2.2.1
  | exact (looM_n (ma := ma) (A := acM fc ma) (looM_g hM (Or.inr (Or.inr q_8)))).2.2.2
  | exact (looM_s (ma := ma) (A := acM fc ma) hM hj_1 f_5_1_0 q_8 e_12 c_13).1
  | exact (looM_s (ma := ma) (A := acM fc ma) hM hj_1 f_5_1_0 q_8 e_12 c_13).2.1
  | exact (looM_s (ma := ma) (A := acM fc ma) hM hj_1 f_5_1_0 q_8 e_12 c_13).2.2.1
  | exact (looM_s (ma := ma) (A := acM fc ma) hM hj_1 f_5_1_0 q_8 e_12 c_13).2.2.2
  | exact (looM_d hM hj_1 f_5_1_0 q_8 e_12 c_13 (by assumption) (by assumption) (by assumption) (by assumption) (by assumption)).1
  | exact (looM_d hM hj_1 f_5_1_0 q_8 e_12 c_13 (by assumption) (by assumption) (by assumption) (by assumption) (by assumption)).2.1
  | exact (looM_d hM hj_1 f_5_1_0 q_8 e_12 c_13 (by assumption) (by assumption) (by assumption) (by assumption) (by assumption)).2.2.1
  | exact (looM_d hM hj_1 f_5_1_0 q_8 e_12 c_13 (by assumption) (by assumption) (by assumption) (by assumption) (by assumption)).2.2.2
theorem lf_X8_loose_25 {mt : Int32} {ma : Nat} {fs : Nat → Int32} {w9 : Nat} {k9 : Nat} {h9 : Nat} {fc : Nat → Int32} {a1 : Int32} {j_1 : Nat} {j_8 : Nat} {v_12 : Int32} (hM : okM fs w9 k9 h9) (hT : ¬ mt = 0 → 1 ≤ k9) (h999 : h9 ≤ 999) (hT0 : mt = 0 → fs 0 = 0 ∧ ma = 0) (hac : okA fc ma) (hma : ma ≤ 24) (hj_1 : j_1 < k9) (hkn1 : 1 ≤ k9) (hw1 : 1 ≤ w9) (h01 : ¬ fs 0 = 0) (f_5_1_0 : iC (fs 0) a1) (f_8_1_0 : (¬ (((nI j_8)).toInt64 < 1 ∨ 20 < ((nI j_8)).toInt64))) (q_8 : ¬ ((nI j_8) < 1 ∨ 20 < (nI j_8))) (hj_8 : j_8 ≤ 20) (e_12 : v_12 = fs (26 + j_1)) (c_13 : v_12 = 0) : (-1000002) = (a_loose (m38 fs) (nI j_1) a1 (nI j_8)) := by
  have hw6 := hM.2.2.2.1
  have hk6 := hM.2.2.2.2.1
  first
  | exact hT0
  | (intro h_; exact absurd (hT0 h_).1 h01)
  | (intro h_; have h9 := (hT0 h_).2; omega)
  | exact (looM_n (ma := ma) (A := acM fc ma) (looM_g hM (Or.inl f_1_0_0))).1
  | exact (looM_n (ma := ma) (A := acM fc ma) (looM_g hM (Or.inl f_1_0_0))).2.1
  | exact (looM_n (ma := ma) (A := acM fc ma) (looM_g hM (Or.inl f_1_0_0))).2.2.1
  | exact (looM_n (ma := ma) (A := acM fc ma) (looM_g hM (Or.inl f_1_0_0))).2.2.2
  | exact (looM_n (ma := ma) (A := acM fc ma) (looM_g hM (Or.inr (Or.inl f_5_0_0)))).1
  | exact (looM_n (ma := ma) (A := acM fc ma) (looM_g hM (Or.inr (Or.inl f_5_0_0)))).2.1
  | exact (looM_n (ma := ma) (A := acM fc ma) (looM_g hM (Or.inr (Or.inl f_5_0_0)))).2.2.1
  | exact (looM_n (ma := ma) (A := acM fc ma) (looM_g hM (Or.inr (Or.inl f_5_0_0)))).2.2.2
  | exact (looM_n (ma := ma) (A := acM fc ma) (looM_g hM (Or.inr (Or.inr q_8)))).1
  | exact (looM_n (ma := ma) (A := acM fc ma) (looM_g hM (Or.inr (Or.inr q_8)))).2.1
  | exact (looM_n (ma := ma) (A := acM fc ma) (looM_g hM (Or.inr (Or.inr q_8)))).2.2.1
  | exact (looM_n (ma := ma) (A := acM fc ma) (looM_g hM (Or.inr (Or.inr q_8)))).2.2.2
  | exact (looM_s (ma := ma) (A := acM fc ma) hM hj_1 f_5_1_0 q_8 e_12 c_13).1
  | exact (looM_s (ma := ma) (A := acM fc ma) hM hj_1 f_5_1_0 q_8 e_12 c_13).2.1
  | exact (looM_s (ma := ma) (A := acM fc ma) hM hj_1 f_5_1_0 q_8 e_12 c_13).2.2.1
  | exact (looM_s (ma := ma) (A := acM fc ma) hM hj_1 f_5_1_0 q_8 e_12 c_13).2.2.2
  | exact (looM_d hM hj_1 f_5_1_0 q_8 e_12 c_13 (by assumption) (by assumption) (by assumption) (by assumption) (by assumption)).1
  | exact (looM_d hM hj_1 f_5_1_0 q_8 e_12 c_13 (by assumption) (by assumption) (by assumption) (by assumption) (by assumption)).2.1
  | exact (looM_d hM hj_1 f_5_1_0 q_8 e_12 c_13 (by assumption) (by assumption) (by assumption) (by assumption) (by assumption)).2.2.1
  | exact (looM_d hM hj_1 f_5_1_0 q_8 e_12 c_13 (by assumption) (by assumption) (by assumption) (by assumption) (by assumption)).2.2.2
set_option maxHeartbeats 4000000 in
set_option maxRecDepth 100000 in
theorem r_X8_loose (l : Launch) (dC : Nat → ClassId) (dI : Nat → Nat → Nat) (cI cZ cL cJ : ClassId) (sz : Nat) (mo : Nat) (m_la : Nat) (m_sz : Nat) (m_it : Nat) (m_st : Nat) (m_mv : Nat) (m_tp : Nat) (m_rd : Nat) (m_ac : Nat) (m_as : Nat) (m_wo : Nat) (m_ik : Nat) (m_ke : Nat) (m_tr : Nat) (ms : Int32) (mt : Int32) (ml : Int32) (mk : Int32) (mv : Int32) (mb : Int32) (mw : Int32) (mz : Nat) (mp : Nat) (ma : Nat) (mx : Nat) (fs : Nat → Int32) (w9 : Nat) (k9 : Nat) (h9 : Nat) (fc : Nat → Int32) (a0 : Int32) (a1 : Int32) (a2 : Int32) (hM : okM fs w9 k9 h9) (hT : ¬ mt = 0 → 1 ≤ k9) (h999 : h9 ≤ 999) (hT0 : mt = 0 → fs 0 = 0 ∧ ma = 0) (hac : okA fc ma) (hma : ma ≤ 24) : Met l yX8_loose wsX8_loose ({ frames := 2, cells := 0, slots := 0, locals := 46 }) (va_Pc [.ref mo, .int a0, .int a1, .int a2] (fun U => U.heap.size = sz ∧ va_P (dC, dI) vwCl [(xo_8_rrriirrriiiiiiirrirrrrri mo m_la m_sz m_it ms mt m_st m_mv m_tp (nI mz) ml (nI mp) mk mv mb mw m_rd m_ac (nI ma) m_as m_wo m_ik m_ke m_tr (nI mx)), (xI m_st cI 38 fs), (xI m_ac cI 912 fc)] U.heap ∧ va_K (dC, dI) vwCl [(cI, .int), (cZ, .boolean), (cL, .object RX3), (cJ, .array .int)] U ∧ va_D (fun _ => True) [(xo_8_rrriirrriiiiiiirrirrrrri mo m_la m_sz m_it ms mt m_st m_mv m_tp (nI mz) ml (nI mp) mk mv mb mw m_rd m_ac (nI ma) m_as m_wo m_ik m_ke m_tr (nI mx)), (xI m_st cI 38 fs), (xI m_ac cI 912 fc)])) (va_Qi (fun r (_ : Unit) => r = (a_loose (m38 fs) a0 a1 a2)) (fun (_ : Unit) t => ∃ (fsn : Nat → Int32) (fcn : Nat → Int32) (man : Nat) (w9n : Nat) (k9n : Nat) (h9n : Nat), va_P (dC, dI) vwCl [(xo_8_rrriirrriiiiiiirrirrrrri mo m_la m_sz m_it ms mt m_st m_mv m_tp (nI mz) ml (nI mp) mk mv mb mw m_rd m_ac (nI man) m_as m_wo m_ik m_ke m_tr (nI mx)), (xI m_st cI 38 fsn), (xI m_ac cI 912 fcn)] t.heap ∧ va_D (va_A [(xo_8_rrriirrriiiiiiirrirrrrri mo m_la m_sz m_it ms mt m_st m_mv m_tp (nI mz) ml (nI mp) mk mv mb mw m_rd m_ac (nI ma) m_as m_wo m_ik m_ke m_tr (nI mx)), (xI m_st cI 38 fs), (xI m_ac cI 912 fc)] sz) [(xo_8_rrriirrriiiiiiirrirrrrri mo m_la m_sz m_it ms mt m_st m_mv m_tp (nI mz) ml (nI mp) mk mv mb mw m_rd m_ac (nI man) m_as m_wo m_ik m_ke m_tr (nI mx)), (xI m_st cI 38 fsn), (xI m_ac cI 912 fcn)] ∧ okM fsn w9n k9n h9n ∧ (¬ mt = 0 → 1 ≤ k9n) ∧ h9n ≤ 999 ∧ okA fcn man ∧ man ≤ 24 ∧ (mt = 0 → fsn 0 = 0 ∧ man = 0) ∧ m38 fsn = n_loose (m38 fs) a0 a1 a2 ∧ man = kpN (gd_loose (m38 fs) a0 a1 a2) ma ∧ acM fcn man = kpA (gd_loose (m38 fs) a0 a1 a2) (m38 fs) ma (acM fc ma)) (va_A [(xo_8_rrriirrriiiiiiirrirrrrri mo m_la m_sz m_it ms mt m_st m_mv m_tp (nI mz) ml (nI mp) mk mv mb mw m_rd m_ac (nI ma) m_as m_wo m_ik m_ke m_tr (nI mx)), (xI m_st cI 38 fs), (xI m_ac cI 912 fc)] sz)) 0 0 (va_A [(xo_8_rrriirrriiiiiiirrirrrrri mo m_la m_sz m_it ms mt m_st m_mv m_tp (nI mz) ml (nI mp) mk mv mb mw m_rd m_ac (nI ma) m_as m_wo m_ik m_ke m_tr (nI mx)), (xI m_st cI 38 fs), (xI m_ac cI 912 fc)] sz) := by
  refine Met.ofW (cc := cX8_loose) (maxL := 4) (ret := (some .int)) (by decide) rfl ?_
  intro p e s m args below meth c s₁ B hml hv
  obtain ⟨rfl, hsz, hP, hK, hD0⟩ := hv
  have hx := B.exec
  have hb := B.bytes
  have hr := B.returns
  have hts := atoms_spec (ws := wsX8_loose) B.pre
  have hown : s.vm.findClass RX8 = some m.cls := findClass_of_methodNamed B.named
  have hlocks := B.notSynchronized
  subst hsz
  have hD := hD0.self (sz := s.heap.size)
  generalize hAe : va_A [(xo_8_rrriirrriiiiiiirrirrrrri mo m_la m_sz m_it ms mt m_st m_mv m_tp (nI mz) ml (nI mp) mk mv mb mw m_rd m_ac (nI ma) m_as m_wo m_ik m_ke m_tr (nI mx)), (xI m_st cI 38 fs), (xI m_ac cI 912 fc)] s.heap.size = A at hD ⊢
  have hA : ∀ q : Nat, s.heap.size ≤ q → A q := fun q h => by rw [← hAe]; exact Or.inr h
  have hS : va_S A s.heap s.heap [] := va_S.rf
  have hP : va_P (dC, dI) vwCl [(xo_8_rrriirrriiiiiiirrirrrrri mo m_la m_sz m_it ms mt m_st m_mv m_tp (nI mz) ml (nI mp) mk mv mb mw m_rd m_ac (nI ma) m_as m_wo m_ik m_ke m_tr (nI mx)), (xI m_st cI 38 fs), (xI m_ac cI 912 fc)] s.heap := hP
  have hl := lv_entry ([.ref mo, .int a0, .int a1, .int a2]) (n := 4) (Nat.le_of_ble_eq_true rfl)
  rw [lg_entry_eq]
  generalize (lg_sl ([.ref mo, .int a0, .int a1, .int a2]) ++ List.replicate (4 - (lg_sl ([.ref mo, .int a0, .int a1, .int a2])).length) Slot.unset).toArray = ls at hl ⊢
  have hl : lv_has ls 4 [(0, .ref mo), (1, .int a0), (2, .int a1), (3, .int a2)] := hl
  have hk6 := hM.2.2.2.2.1
  have hw6 := hM.2.2.2.1
  refine lv_aload_n hx hb dX8_loose_0 rfl (lv_at hl 0 rfl) ?_
  refine lv_iload_n hx hb dX8_loose_1 rfl (lv_at hl 1 rfl) ?_
  have hPc_1 := hP.sub (ws' := [(xo_8_rrriirrriiiiiiirrirrrrri mo m_la m_sz m_it ms mt m_st m_mv m_tp (nI mz) ml (nI mp) mk mv mb mw m_rd m_ac (nI ma) m_as m_wo m_ik m_ke m_tr (nI mx)), (xI m_st cI 38 fs)]) [0, 1] rfl
  refine vp_callSi (W.runV (As := [.int a0]) (rest := []) ⟨hx, hb, hml, hown, hts⟩ (r_X8_isSound l dC dI cI cZ cL cJ mo m_la m_sz m_it m_st m_mv m_tp m_rd m_ac m_as m_wo m_ik m_ke m_tr ms mt ml mk mv mb mw mz mp ma mx fs w9 k9 h9 a0 (hM)) (cwV 1 hts gX8_loose_X8_isSound rfl rfl rfl (by decide +kernel) ⟨Nat.le_of_ble_eq_true rfl, Nat.le_of_ble_eq_true rfl⟩) (pvP 8 0 hK hP rfl rfl hPc_1) rfl rfl hl.1 rfl (lv_room (Nat.le_of_ble_eq_true rfl)) dX8_loose_2 ⟨Nat.le_of_ble_eq_true rfl, Nat.le_of_ble_eq_true rfl⟩) (fun r_1 h_1 => ?_)
  rcases h_1 with ⟨h_1, f_1_0_0⟩ | ⟨h_1, f_1_1_0⟩
  · subst h_1
    refine lv_if_eq (tgt := 28) hx hb dX8_loose_5 (by decide) (fun _ => ?_) (fun c_ => absurd (by decide) c_)
    refine lv_ldc (own := RX8) (v := (-1000001)) hx hb hown (hts _ mx_X8_loose_2) dX8_loose_28 ?_
    have hX9 := cut2 (wc := [(xo_8_rrriirrriiiiiiirrirrrrri mo m_la m_sz m_it ms mt m_st m_mv m_tp (nI mz) ml (nI mp) mk mv mb mw m_rd m_ac (nI ma) m_as m_wo m_ik m_ke m_tr (nI mx)), (xI m_st cI 38 fs), (xI m_ac cI 912 fc)]) hP hD [0, 1, 2] (by decide +kernel) rfl
    exact W.iret (v := (-1000001)) hx hb hr (fun t ht hW => ⟨⟨(-1000001), (), rfl, (lf_X8_loose_5 hM hT h999 hT0 hac hma f_1_0_0), ⟨fs, fc, ma, w9, k9, h9, va_Ht ht hX9.1, hX9.2, hM, hT, (by omega), hac, (by omega), (lf_X8_loose_1 hM hT h999 hT0 hac hma f_1_0_0), (lf_X8_loose_2 hM hT h999 hT0 hac hma f_1_0_0), (lf_X8_loose_3 hM hT h999 hT0 hac hma f_1_0_0), (lf_X8_loose_4 hM hT h999 hT0 hac hma f_1_0_0)⟩⟩, hS.F ht⟩) hS.2.2 dX8_loose_30
  · subst h_1
    obtain ⟨j_1, hj_1, rfl⟩ := vp_in_of f_1_1_0 (by omega)
    have hkn1 : 1 ≤ k9 := by omega
    have hw1 := hM.2.2.2.2.2.1.mp hkn1
    have h01 : ¬ fs 0 = 0 := cell_nz hM hkn1
    refine lv_if_eq (tgt := 28) hx hb dX8_loose_5 (by decide) (fun c_ => absurd c_ (by decide)) (fun _ => ?_)
    refine lv_aload_n hx hb dX8_loose_8 rfl (lv_at hl 0 rfl) ?_
    refine lv_iload_n hx hb dX8_loose_9 rfl (lv_at hl 2 rfl) ?_
    have hPc_5 := hP.sub (ws' := [(xo_8_rrriirrriiiiiiirrirrrrri mo m_la m_sz m_it ms mt m_st m_mv m_tp (nI mz) ml (nI mp) mk mv mb mw m_rd m_ac (nI ma) m_as m_wo m_ik m_ke m_tr (nI mx)), (xI m_st cI 38 fs)]) [0, 1] rfl
    refine vp_callSi (W.runV (As := [.int a1]) (rest := []) ⟨hx, hb, hml, hown, hts⟩ (r_X8_isCell l dC dI cI cZ cL cJ mo m_la m_sz m_it m_st m_mv m_tp m_rd m_ac m_as m_wo m_ik m_ke m_tr ms mt ml mk mv mb mw mz mp ma mx fs w9 k9 h9 a1 (hM)) (cwV 1 hts gX8_loose_X8_isCell rfl rfl rfl (by decide +kernel) ⟨Nat.le_of_ble_eq_true rfl, Nat.le_of_ble_eq_true rfl⟩) (pvP 8 0 hK hP rfl rfl hPc_5) rfl rfl hl.1 rfl (lv_room (Nat.le_of_ble_eq_true rfl)) dX8_loose_10 ⟨Nat.le_of_ble_eq_true rfl, Nat.le_of_ble_eq_true rfl⟩) (fun r_5 h_5 => ?_)
    rcases h_5 with ⟨h_5, f_5_0_0⟩ | ⟨h_5, f_5_1_0⟩
    · subst h_5
      refine lv_if_eq (tgt := 28) hx hb dX8_loose_13 (by decide) (fun _ => ?_) (fun c_ => absurd (by decide) c_)
      refine lv_ldc (own := RX8) (v := (-1000001)) hx hb hown (hts _ mx_X8_loose_2) dX8_loose_28 ?_
      have hX9 := cut2 (wc := [(xo_8_rrriirrriiiiiiirrirrrrri mo m_la m_sz m_it ms mt m_st m_mv m_tp (nI mz) ml (nI mp) mk mv mb mw m_rd m_ac (nI ma) m_as m_wo m_ik m_ke m_tr (nI mx)), (xI m_st cI 38 fs), (xI m_ac cI 912 fc)]) hP hD [0, 1, 2] (by decide +kernel) rfl
      exact W.iret (v := (-1000001)) hx hb hr (fun t ht hW => ⟨⟨(-1000001), (), rfl, (lf_X8_loose_10 hM hT h999 hT0 hac hma hj_1 hkn1 hw1 h01 f_5_0_0), ⟨fs, fc, ma, w9, k9, h9, va_Ht ht hX9.1, hX9.2, hM, hT, (by omega), hac, (by omega), (lf_X8_loose_6 hM hT h999 hT0 hac hma hj_1 hkn1 hw1 h01 f_5_0_0), (lf_X8_loose_7 hM hT h999 hT0 hac hma hj_1 hkn1 hw1 h01 f_5_0_0), (lf_X8_loose_8 hM hT h999 hT0 hac hma hj_1 hkn1 hw1 h01 f_5_0_0), (lf_X8_loose_9 hM hT h999 hT0 hac hma hj_1 hkn1 hw1 h01 f_5_0_0)⟩⟩, hS.F ht⟩) hS.2.2 dX8_loose_30
    · subst h_5
      refine lv_if_eq (tgt := 28) hx hb dX8_loose_13 (by decide) (fun c_ => absurd c_ (by decide)) (fun _ => ?_)
      refine lv_iload_n hx hb dX8_loose_16 rfl (lv_at hl 3 rfl) ?_
      refine lv_i2l hx hb dX8_loose_17 rfl ?_
      refine lv_lconst (v := 1) hx hb dX8_loose_18 (by decide) ?_
      refine lv_ldc2 (own := RX8) (v := 20) hx hb hown (hts _ mx_X8_loose_1) dX8_loose_19 ?_
      have hPc_8 := hP.sub (ws' := []) [] rfl
      refine vp_callSi (W.runS (As := [.long (a2).toInt64, .long 1, .long 20]) (rest := []) ⟨hx, hb, hml, hown, hts⟩ (r_X8_in l dC dI cI cZ cL cJ ((a2).toInt64) 1 20 ) (va_cwS 3 hts gX8_loose_X8_in rfl rfl rfl (by decide +kernel) ⟨Nat.le_of_ble_eq_true rfl, Nat.le_of_ble_eq_true rfl⟩) (psP hK hPc_8) rfl rfl hl.1 rfl (lv_room (Nat.le_of_ble_eq_true rfl)) dX8_loose_22 ⟨Nat.le_of_ble_eq_true rfl, Nat.le_of_ble_eq_true rfl⟩) (fun r_8 h_8 => ?_)
      rcases h_8 with ⟨h_8, f_8_0_0⟩ | ⟨h_8, f_8_1_0⟩
      · subst h_8
        have q_8 : (a2 < 1 ∨ 20 < a2) := (in32 (x := a2) (l := 1) (u := 20) (by decide) (by decide)).mp f_8_0_0
        refine lv_if_ne (tgt := 31) hx hb dX8_loose_25 (by decide) (fun c_ => absurd (by decide) c_) (fun _ => ?_)
        refine lv_ldc (own := RX8) (v := (-1000001)) hx hb hown (hts _ mx_X8_loose_2) dX8_loose_28 ?_
        have hX9 := cut2 (wc := [(xo_8_rrriirrriiiiiiirrirrrrri mo m_la m_sz m_it ms mt m_st m_mv m_tp (nI mz) ml (nI mp) mk mv mb mw m_rd m_ac (nI ma) m_as m_wo m_ik m_ke m_tr (nI mx)), (xI m_st cI 38 fs), (xI m_ac cI 912 fc)]) hP hD [0, 1, 2] (by decide +kernel) rfl
        exact W.iret (v := (-1000001)) hx hb hr (fun t ht hW => ⟨⟨(-1000001), (), rfl, (lf_X8_loose_15 hM hT h999 hT0 hac hma hj_1 hkn1 hw1 h01 f_5_1_0 f_8_0_0 q_8), ⟨fs, fc, ma, w9, k9, h9, va_Ht ht hX9.1, hX9.2, hM, hT, (by omega), hac, (by omega), (lf_X8_loose_11 hM hT h999 hT0 hac hma hj_1 hkn1 hw1 h01 f_5_1_0 f_8_0_0 q_8), (lf_X8_loose_12 hM hT h999 hT0 hac hma hj_1 hkn1 hw1 h01 f_5_1_0 f_8_0_0 q_8), (lf_X8_loose_13 hM hT h999 hT0 hac hma hj_1 hkn1 hw1 h01 f_5_1_0 f_8_0_0 q_8), (lf_X8_loose_14 hM hT h999 hT0 hac hma hj_1 hkn1 hw1 h01 f_5_1_0 f_8_0_0 q_8)⟩⟩, hS.F ht⟩) hS.2.2 dX8_loose_30
      · subst h_8
        have q_8 : ¬ (a2 < 1 ∨ 20 < a2) := fun q_ => f_8_1_0 ((in32 (x := a2) (l := 1) (u := 20) (by decide) (by decide)).mpr q_)
        obtain ⟨j_8, hj_8, hl_8, rfl⟩ := in64 (lo := 1) (n := 20) rfl rfl (by decide) f_8_1_0
        refine lv_if_ne (tgt := 31) hx hb dX8_loose_25 (by decide) (fun _ => ?_) (fun c_ => absurd c_ (by decide))
        refine lv_aload_n hx hb dX8_loose_31 rfl (lv_at hl 0 rfl) ?_
        refine va_get (D := (dC, dI)) (ci := 8) (v := .ref m_st) (C := RX8) (T := TX8) (N := 24) hx hb hts i_X8_loose_X8 hown hK hP 0 rfl rfl 5 (by decide) (hts _ mx_X8_loose_3) (fun _ h9 => h9) rfl dX8_loose_32 ?_
        refine lv_bipush (v := 26) hx hb dX8_loose_35 (by decide) ?_
        refine lv_iload_n hx hb dX8_loose_37 rfl (lv_at hl 1 rfl) ?_
        refine lv_iadd hx hb dX8_loose_38 ?_
        refine lv_topi (fun v_11 e_11 => ?_)
        obtain rfl : v_11 = (nI (26 + j_1)) := (e_11).trans (nI_add 26 j_1)
        refine va_iald hx hb hK hP 1 0 rfl rfl (vp_in_nI (by omega) (by omega)) dX8_loose_39 ?_
        refine lv_topi (fun v_12 e_12 => ?_)
        have e_12 : v_12 = fs (26 + j_1) := e_12.trans (congrArg fs (nI_clamp (by omega)))
        refine lv_if_ne (tgt := 46) hx hb dX8_loose_40 (by decide) (fun c_13 => ?_) (fun c_13 => ?_)
        · skip
          refine lv_aload_n hx hb dX8_loose_46 rfl (lv_at hl 0 rfl) ?_
          have hc_14 := cutW (wc := [(xo_8_rrriirrriiiiiiirrirrrrri mo m_la m_sz m_it ms mt m_st m_mv m_tp (nI mz) ml (nI mp) mk mv mb mw m_rd m_ac (nI ma) m_as m_wo m_ik m_ke m_tr (nI mx)), (xI m_st cI 38 fs), (xI m_ac cI 912 fc)]) hP hD hS hA [0, 1, 2] (by decide +kernel) rfl
          refine va_callv (va_runV (As := []) (rest := []) ⟨hx, hb, hml, hown, hts⟩ (r_X8_note l dC dI cI cZ cL cJ s.heap.size mo m_la m_sz m_it m_st m_mv m_tp m_rd m_ac m_as m_wo m_ik m_ke m_tr ms mt ml mk mv mb mw mz mp ma mx fs fc (hac) (by omega) (⟨w9, k9, h9, hM, hkn1, by omega⟩)) (cwV 0 hts gX8_loose_X8_note rfl rfl rfl (by decide +kernel) ⟨Nat.le_of_ble_eq_true rfl, Nat.le_of_ble_eq_true rfl⟩) (pvW 8 0 hK hP rfl rfl hc_14) rfl rfl hl.1 rfl (lv_room (Nat.le_of_ble_eq_true rfl)) dX8_loose_47 ⟨Nat.le_of_ble_eq_true rfl, Nat.le_of_ble_eq_true rfl⟩) hS (fun q _ h => hc_14.2.2 q h) hc_14.2.2 (fun u_14 t_14 H1 locs ht hvm h_14 hB hz1 hk1 hS => ?_)
          refine xl_2_7 hB (fun fcn_14 man_14 hP1 hD1 hF_14_0 hF_14_1 hF_14_2 hF_14_3 hF_14_4 => ?_)
          clear hB
          rw [ht] at hP1
          obtain ⟨hP, hD⟩ := va_join (wr := []) (w1 := [(xo_8_rrriirrriiiiiiirrirrrrri mo m_la m_sz m_it ms mt m_st m_mv m_tp (nI mz) ml (nI mp) mk mv mb mw m_rd m_ac (nI man_14) m_as m_wo m_ik m_ke m_tr (nI mx)), (xI m_st cI 38 fs), (xI m_ac cI 912 fcn_14)]) hP hD [0, 1, 2] [] rfl rfl (by decide +kernel) (by decide +kernel) hk1 hc_14.2.2 hP1 hD1
          generalize H1 = H at hP hS ⊢
          have hP : va_P (dC, dI) vwCl [(xo_8_rrriirrriiiiiiirrirrrrri mo m_la m_sz m_it ms mt m_st m_mv m_tp (nI mz) ml (nI mp) mk mv mb mw m_rd m_ac (nI man_14) m_as m_wo m_ik m_ke m_tr (nI mx)), (xI m_st cI 38 fs), (xI m_ac cI 912 fcn_14)] H := hP
          have hD := dto hP hD
          refine lv_aload_n hx hb dX8_loose_50 rfl (lv_at hl 0 rfl) ?_
          refine lv_iload_n hx hb dX8_loose_51 rfl (lv_at hl 1 rfl) ?_
          refine lv_iload_n hx hb dX8_loose_52 rfl (lv_at hl 2 rfl) ?_
          refine lv_iload_n hx hb dX8_loose_53 rfl (lv_at hl 3 rfl) ?_
          have hc_15 := cutW (wc := [(xo_8_rrriirrriiiiiiirrirrrrri mo m_la m_sz m_it ms mt m_st m_mv m_tp (nI mz) ml (nI mp) mk mv mb mw m_rd m_ac (nI man_14) m_as m_wo m_ik m_ke m_tr (nI mx)), (xI m_st cI 38 fs)]) hP hD hS hA [0, 1] (by decide +kernel) rfl
          refine va_callv (va_runV (As := [.int (nI j_1), .int a1, .int (nI j_8)]) (rest := []) ⟨hx, hb, hml, hown, hts⟩ (r_X8_letLoose l dC dI cI cZ cL cJ H.size mo m_la m_sz m_it m_st m_mv m_tp m_rd m_ac m_as m_wo m_ik m_ke m_tr ms mt ml mk mv mb mw mz mp man_14 mx fs w9 k9 h9 j_1 j_8 a1 (hM) (by omega) (by omega) (by omega)) (cwV 3 hts gX8_loose_X8_letLoose rfl rfl rfl (by decide +kernel) ⟨Nat.le_of_ble_eq_true rfl, Nat.le_of_ble_eq_true rfl⟩) (pvW 8 0 hK hP rfl rfl hc_15) rfl rfl hl.1 rfl (lv_room (Nat.le_of_ble_eq_true rfl)) dX8_loose_54 ⟨Nat.le_of_ble_eq_true rfl, Nat.le_of_ble_eq_true rfl⟩) hS (fun q _ h => hc_15.2.2 q h) hc_15.2.2 (fun u_15 t_15 H1 locs ht hvm h_15 hB hz1 hk1 hS => ?_)
          refine xl_1_4 hB (fun fsn_15 hP1 hD1 hF_15_0 hF_15_1 => ?_)
          clear hB
          rw [ht] at hP1
          obtain ⟨hP, hD⟩ := va_join (wr := [(xI m_ac cI 912 fcn_14)]) (w1 := [(xo_8_rrriirrriiiiiiirrirrrrri mo m_la m_sz m_it ms mt m_st m_mv m_tp (nI mz) ml (nI mp) mk mv mb mw m_rd m_ac (nI man_14) m_as m_wo m_ik m_ke m_tr (nI mx)), (xI m_st cI 38 fsn_15)]) hP hD [0, 1] [2] rfl rfl (by decide +kernel) (by decide +kernel) hk1 hc_15.2.2 hP1 hD1
          generalize H1 = H at hP hS ⊢
          have hP : va_P (dC, dI) vwCl [(xI m_ac cI 912 fcn_14), (xo_8_rrriirrriiiiiiirrirrrrri mo m_la m_sz m_it ms mt m_st m_mv m_tp (nI mz) ml (nI mp) mk mv mb mw m_rd m_ac (nI man_14) m_as m_wo m_ik m_ke m_tr (nI mx)), (xI m_st cI 38 fsn_15)] H := hP
          have hD := dto hP hD
          refine lv_aload_n hx hb dX8_loose_57 rfl (lv_at hl 0 rfl) ?_
          refine lv_iconst (v := 0) hx hb dX8_loose_58 (by decide) ?_
          have hPc_16 := hP.sub (ws' := [(xo_8_rrriirrriiiiiiirrirrrrri mo m_la m_sz m_it ms mt m_st m_mv m_tp (nI mz) ml (nI mp) mk mv mb mw m_rd m_ac (nI man_14) m_as m_wo m_ik m_ke m_tr (nI mx)), (xI m_st cI 38 fsn_15)]) [1, 2] rfl
          refine vp_callSi (W.runV (As := [.int 0]) (rest := []) ⟨hx, hb, hml, hown, hts⟩ (r_X8_those l dC dI cI cZ cL cJ mo m_la m_sz m_it m_st m_mv m_tp m_rd m_ac m_as m_wo m_ik m_ke m_tr ms mt ml mk mv mb mw mz mp man_14 mx fsn_15 w9 k9 h9 0 (hF_15_0)) (cwV 1 hts gX8_loose_X8_those rfl rfl rfl (by decide +kernel) ⟨Nat.le_of_ble_eq_true rfl, Nat.le_of_ble_eq_true rfl⟩) (pvP 8 1 hK hP rfl rfl hPc_16) rfl rfl hl.1 rfl (lv_room (Nat.le_of_ble_eq_true rfl)) dX8_loose_59 ⟨Nat.le_of_ble_eq_true rfl, Nat.le_of_ble_eq_true rfl⟩) (fun r_16 h_16 => ?_)
          obtain ⟨j_16, rfl, hz_16_0, hz_16_1⟩ := h_16
          have hX9 := cut2 (wc := [(xo_8_rrriirrriiiiiiirrirrrrri mo m_la m_sz m_it ms mt m_st m_mv m_tp (nI mz) ml (nI mp) mk mv mb mw m_rd m_ac (nI man_14) m_as m_wo m_ik m_ke m_tr (nI mx)), (xI m_st cI 38 fsn_15), (xI m_ac cI 912 fcn_14)]) hP hD [1, 2, 0] (by decide +kernel) rfl
          exact W.iret (v := (nI j_16)) hx hb hr (fun t ht hW => ⟨⟨(nI j_16), (), rfl, (lf_X8_loose_20 hM hT h999 hT0 hac hma hj_1 hkn1 hw1 h01 f_5_1_0 f_8_1_0 q_8 hj_8 e_12 c_13 hF_14_0 hF_14_1 hF_14_2 hF_14_3 hF_14_4 hF_15_0 hF_15_1 hz_16_0 hz_16_1), ⟨fsn_15, fcn_14, man_14, w9, k9, h9, va_Ht ht hX9.1, hX9.2, hF_15_0, hT, (by omega), hF_14_0, (by omega), (lf_X8_loose_16 hM hT h999 hT0 hac hma hj_1 hkn1 hw1 h01 f_5_1_0 f_8_1_0 q_8 hj_8 e_12 c_13 hF_14_0 hF_14_1 hF_14_2 hF_14_3 hF_14_4 hF_15_0 hF_15_1 hz_16_0 hz_16_1), (lf_X8_loose_17 hM hT h999 hT0 hac hma hj_1 hkn1 hw1 h01 f_5_1_0 f_8_1_0 q_8 hj_8 e_12 c_13 hF_14_0 hF_14_1 hF_14_2 hF_14_3 hF_14_4 hF_15_0 hF_15_1 hz_16_0 hz_16_1), (lf_X8_loose_18 hM hT h999 hT0 hac hma hj_1 hkn1 hw1 h01 f_5_1_0 f_8_1_0 q_8 hj_8 e_12 c_13 hF_14_0 hF_14_1 hF_14_2 hF_14_3 hF_14_4 hF_15_0 hF_15_1 hz_16_0 hz_16_1), (lf_X8_loose_19 hM hT h999 hT0 hac hma hj_1 hkn1 hw1 h01 f_5_1_0 f_8_1_0 q_8 hj_8 e_12 c_13 hF_14_0 hF_14_1 hF_14_2 hF_14_3 hF_14_4 hF_15_0 hF_15_1 hz_16_0 hz_16_1)⟩⟩, hS.F ht⟩) hS.2.2 dX8_loose_62
        · skip
          refine lv_ldc (own := RX8) (v := (-1000002)) hx hb hown (hts _ mx_X8_loose_4) dX8_loose_43 ?_
          have hX9 := cut2 (wc := [(xo_8_rrriirrriiiiiiirrirrrrri mo m_la m_sz m_it ms mt m_st m_mv m_tp (nI mz) ml (nI mp) mk mv mb mw m_rd m_ac (nI ma) m_as m_wo m_ik m_ke m_tr (nI mx)), (xI m_st cI 38 fs), (xI m_ac cI 912 fc)]) hP hD [0, 1, 2] (by decide +kernel) rfl
          exact W.iret (v := (-1000002)) hx hb hr (fun t ht hW => ⟨⟨(-1000002), (), rfl, (lf_X8_loose_25 hM hT h999 hT0 hac hma hj_1 hkn1 hw1 h01 f_5_1_0 f_8_1_0 q_8 hj_8 e_12 c_13), ⟨fs, fc, ma, w9, k9, h9, va_Ht ht hX9.1, hX9.2, hM, hT, (by omega), hac, (by omega), (lf_X8_loose_21 hM hT h999 hT0 hac hma hj_1 hkn1 hw1 h01 f_5_1_0 f_8_1_0 q_8 hj_8 e_12 c_13), (lf_X8_loose_22 hM hT h999 hT0 hac hma hj_1 hkn1 hw1 h01 f_5_1_0 f_8_1_0 q_8 hj_8 e_12 c_13), (lf_X8_loose_23 hM hT h999 hT0 hac hma hj_1 hkn1 hw1 h01 f_5_1_0 f_8_1_0 q_8 hj_8 e_12 c_13), (lf_X8_loose_24 hM hT h999 hT0 hac hma hj_1 hkn1 hw1 h01 f_5_1_0 f_8_1_0 q_8 hj_8 e_12 c_13)⟩⟩, hS.F ht⟩) hS.2.2 dX8_loose_45
theorem lf_X8_sell_1 {mt : Int32} {ma : Nat} {fs : Nat → Int32} {w9 : Nat} {k9 : Nat} {h9 : Nat} {fc : Nat → Int32} {a0 : Int32} (hM : okM fs w9 k9 h9) (hT : ¬ mt = 0 → 1 ≤ k9) (h999 : h9 ≤ 999) (hT0 : mt = 0 → fs 0 = 0 ∧ ma = 0) (hac : okA fc ma) (hma : ma ≤ 24) (c_1 : ¬ (mt = 0)) (hkn1 : 1 ≤ k9) (hw1 : 1 ≤ w9) (h01 : ¬ fs 0 = 0) (f_2_0_0 : ((a0).toInt64 < 1 ∨ 999 < (a0).toInt64)) (q_2 : (a0 < 1 ∨ 999 < a0)) : (mt = 0 → fs 0 = 0 ∧ ma = 0) := by
  have hw6 := hM.2.2.2.1
  have hk6 := hM.2.2.2.2.1
  first
  | exact hT0
  | (intro h_; exact absurd (hT0 h_).1 h01)
  | (intro h_; have h9 := (hT0 h_).2; omega)
  | exact (selM_0 (ma := ma) (A := acM fc ma) h00).1
  | exact (selM_0 (ma := ma) (A := acM fc ma) h00).2.1
  | exact (selM_0 (ma := ma) (A := acM fc ma) h00).2.2.1
  | exact (selM_0 (ma := ma) (A := acM fc ma) h00).2.2.2
  | exact (selM_1 (ma := ma) (A := acM fc ma) h01 q_2).1
  | exact (selM_1 (ma := ma) (A := acM fc ma) h01 q_2).2.1
  | exact (selM_1 (ma := ma) (A := acM fc ma) h01 q_2).2.2.1
  | exact (selM_1 (ma := ma) (A := acM fc ma) h01 q_2).2.2.2
  | exact (selM_2 (ma := ma) (A := acM fc ma) h01 q_2 e_5 c_6).1
  | exact (selM_2 (ma := ma) (A := acM fc ma) h01 q_2 e_5 c_6).2.1
  | exact (selM_2 (ma := ma) (A := acM fc ma) h01 q_2 e_5 c_6).2.2.1
  | exact (selM_2 (ma := ma) (A := acM fc ma) h01 q_2 e_5 c_6).2.2.2
  | exact (selM_d h01 q_2 e_5 c_6 (by assumption) (by assumption) (by assumption) (by assumption) (by assumption) (by assumption)).1
  | exact (selM_d h01 q_2 e_5 c_6 (by assumption) (by assumption) (by assumption) (by assumption) (by assumption) (by assumption)).2.1
  | exact (selM_d h01 q_2 e_5 c_6 (by assumption) (by assumption) (by assumption) (by assumption) (by assumption) (by assumption)).2.2.1
  | exact (selM_d h01 q_2 e_5 c_6 (by assumption) (by assumption) (by assumption) (by assumption) (by assumption) (by assumption)).2.2.2
theorem lf_X8_sell_2 {mt : Int32} {ma : Nat} {fs : Nat → Int32} {w9 : Nat} {k9 : Nat} {h9 : Nat} {fc : Nat → Int32} {a0 : Int32} (hM : okM fs w9 k9 h9) (hT : ¬ mt = 0 → 1 ≤ k9) (h999 : h9 ≤ 999) (hT0 : mt = 0 → fs 0 = 0 ∧ ma = 0) (hac : okA fc ma) (hma : ma ≤ 24) (c_1 : ¬ (mt = 0)) (hkn1 : 1 ≤ k9) (hw1 : 1 ≤ w9) (h01 : ¬ fs 0 = 0) (f_2_0_0 : ((a0).toInt64 < 1 ∨ 999 < (a0).toInt64)) (q_2 : (a0 < 1 ∨ 999 < a0)) : m38 fs = n_sell (m38 fs) a0 := by
  have hw6 := hM.2.2.2.1
  have hk6 := hM.2.2.2.2.1
  first
  | exact hT0
  | (intro h_; exact absurd (hT0 h_).1 h01)
  | (intro h_; have h9 := (hT0 h_).2; omega)
  | exact (selM_0 (ma := ma) (A := acM fc ma) h00).1
  | exact (selM_0 (ma := ma) (A := acM fc ma) h00).2.1
  | exact (selM_0 (ma := ma) (A := acM fc ma) h00).2.2.1
  | exact (selM_0 (ma := ma) (A := acM fc ma) h00).2.2.2
  | exact (selM_1 (ma := ma) (A := acM fc ma) h01 q_2).1
  | exact (selM_1 (ma := ma) (A := acM fc ma) h01 q_2).2.1
  | exact (selM_1 (ma := ma) (A := acM fc ma) h01 q_2).2.2.1
  | exact (selM_1 (ma := ma) (A := acM fc ma) h01 q_2).2.2.2
  | exact (selM_2 (ma := ma) (A := acM fc ma) h01 q_2 e_5 c_6).1
  | exact (selM_2 (ma := ma) (A := acM fc ma) h01 q_2 e_5 c_6).2.1
  | exact (selM_2 (ma := ma) (A := acM fc ma) h01 q_2 e_5 c_6).2.2.1
  | exact (selM_2 (ma := ma) (A := acM fc ma) h01 q_2 e_5 c_6).2.2.2
  | exact (selM_d h01 q_2 e_5 c_6 (by assumption) (by assumption) (by assumption) (by assumption) (by assumption) (by assumption)).1
  | exact (selM_d h01 q_2 e_5 c_6 (by assumption) (by assumption) (by assumption) (by assumption) (by assumption) (by assumption)).2.1
  | exact (selM_d h01 q_2 e_5 c_6 (by assumption) (by assumption) (by assumption) (by assumption) (by assumption) (by assumption)).2.2.1
  | exact (selM_d h01 q_2 e_5 c_6 (by assumption) (by assumption) (by assumption) (by assumption) (by assumption) (by assumption)).2.2.2
theorem lf_X8_sell_3 {mt : Int32} {ma : Nat} {fs : Nat → Int32} {w9 : Nat} {k9 : Nat} {h9 : Nat} {fc : Nat → Int32} {a0 : Int32} (hM : okM fs w9 k9 h9) (hT : ¬ mt = 0 → 1 ≤ k9) (h999 : h9 ≤ 999) (hT0 : mt = 0 → fs 0 = 0 ∧ ma = 0) (hac : okA fc ma) (hma : ma ≤ 24) (c_1 : ¬ (mt = 0)) (hkn1 : 1 ≤ k9) (hw1 : 1 ≤ w9) (h01 : ¬ fs 0 = 0) (f_2_0_0 : ((a0).toInt64 < 1 ∨ 999 < (a0).toInt64)) (q_2 : (a0 < 1 ∨ 999 < a0)) : ma = kpN (gd_sell (m38 fs) a0) ma := by
  have hw6 := hM.2.2.2.1
  have hk6 := hM.2.2.2.2.1
  first
  | exact hT0
  | (intro h_; exact absurd (hT0 h_).1 h01)
  | (intro h_; have h9 := (hT0 h_).2; omega)
  | exact (selM_0 (ma := ma) (A := acM fc ma) h00).1
  | exact (selM_0 (ma := ma) (A := acM fc ma) h00).2.1
  | exact (selM_0 (ma := ma) (A := acM fc ma) h00).2.2.1
  | exact (selM_0 (ma := ma) (A := acM fc ma) h00).2.2.2
  | exact (selM_1 (ma := ma) (A := acM fc ma) h01 q_2).1
  | exact (selM_1 (ma := ma) (A := acM fc ma) h01 q_2).2.1
  | exact (selM_1 (ma := ma) (A := acM fc ma) h01 q_2).2.2.1
  | exact (selM_1 (ma := ma) (A := acM fc ma) h01 q_2).2.2.2
  | exact (selM_2 (ma := ma) (A := acM fc ma) h01 q_2 e_5 c_6).1
  | exact (selM_2 (ma := ma) (A := acM fc ma) h01 q_2 e_5 c_6).2.1
  | exact (selM_2 (ma := ma) (A := acM fc ma) h01 q_2 e_5 c_6).2.2.1
  | exact (selM_2 (ma := ma) (A := acM fc ma) h01 q_2 e_5 c_6).2.2.2
  | exact (selM_d h01 q_2 e_5 c_6 (by assumption) (by assumption) (by assumption) (by assumption) (by assumption) (by assumption)).1
  | exact (selM_d h01 q_2 e_5 c_6 (by assumption) (by assumption) (by assumption) (by assumption) (by assumption) (by assumption)).2.1
  | exact (selM_d h01 q_2 e_5 c_6 (by assumption) (by assumption) (by assumption) (by assumption) (by assumption) (by assumption)).2.2.1
  | exact (selM_d h01 q_2 e_5 c_6 (by assumption) (by assumption) (by assumption) (by assumption) (by assumption) (by assumption)).2.2.2
theorem lf_X8_sell_4 {mt : Int32} {ma : Nat} {fs : Nat → Int32} {w9 : Nat} {k9 : Nat} {h9 : Nat} {fc : Nat → Int32} {a0 : Int32} (hM : okM fs w9 k9 h9) (hT : ¬ mt = 0 → 1 ≤ k9) (h999 : h9 ≤ 999) (hT0 : mt = 0 → fs 0 = 0 ∧ ma = 0) (hac : okA fc ma) (hma : ma ≤ 24) (c_1 : ¬ (mt = 0)) (hkn1 : 1 ≤ k9) (hw1 : 1 ≤ w9) (h01 : ¬ fs 0 = 0) (f_2_0_0 : ((a0).toInt64 < 1 ∨ 999 < (a0).toInt64)) (q_2 : (a0 < 1 ∨ 999 < a0)) : acM fc ma = kpA (gd_sell (m38 fs) a0) (m38 fs) ma (acM fc ma) := by
  have hw6 := hM.2.2.2.1
  have hk6 := hM.2.2.2.2.1
  first
  | exact hT0
  | (intro h_; exact absurd (hT0 h_).1 h01)
  | (intro h_; have h9 := (hT0 h_).2; omega)
  | exact (selM_0 (ma := ma) (A := acM fc ma) h00).1
  | exact (selM_0 (ma := ma) (A := acM fc ma) h00).2.1
  | exact (selM_0 (ma := ma) (A := acM fc ma) h00).2.2.1
  | exact (selM_0 (ma := ma) (A := acM fc ma) h00).2.2.2
  | exact (selM_1 (ma := ma) (A := acM fc ma) h01 q_2).1
  | exact (selM_1 (ma := ma) (A := acM fc ma) h01 q_2).2.1
  | exact (selM_1 (ma := ma) (A := acM fc ma) h01 q_2).2.2.1
  | exact (selM_1 (ma := ma) (A := acM fc ma) h01 q_2).2.2.2
  | exact (selM_2 (ma := ma) (A := acM fc ma) h01 q_2 e_5 c_6).1
  | exact (selM_2 (ma := ma) (A := acM fc ma) h01 q_2 e_5 c_6).2.1
  | exact (selM_2 (ma := ma) (A := acM fc ma) h01 q_2 e_5 c_6).2.2.1
  | exact (selM_2 (ma := ma) (A := acM fc ma) h01 q_2 e_5 c_6).2.2.2
  | exact (selM_d h01 q_2 e_5 c_6 (by assumption) (by assumption) (by assumption) (by assumption) (by assumption) (by assumption)).1
  | exact (selM_d h01 q_2 e_5 c_6 (by assumption) (by assumption) (by assumption) (by assumption) (by assumption) (by assumption)).2.1
  | exact (selM_d h01 q_2 e_5 c_6 (by assumption) (by assumption) (by assumption) (by assumption) (by assumption) (by assumption)).2.2.1
  | exact (selM_d h01 q_2 e_5 c_6 (by assumption) (by assumption) (by assumption) (by assumption) (by assumption) (by assumption)).2.2.2
theorem lf_X8_sell_5 {mt : Int32} {ma : Nat} {fs : Nat → Int32} {w9 : Nat} {k9 : Nat} {h9 : Nat} {fc : Nat → Int32} {a0 : Int32} (hM : okM fs w9 k9 h9) (hT : ¬ mt = 0 → 1 ≤ k9) (h999 : h9 ≤ 999) (hT0 : mt = 0 → fs 0 = 0 ∧ ma = 0) (hac : okA fc ma) (hma : ma ≤ 24) (c_1 : ¬ (mt = 0)) (hkn1 : 1 ≤ k9) (hw1 : 1 ≤ w9) (h01 : ¬ fs 0 = 0) (f_2_0_0 : ((a0).toInt64 < 1 ∨ 999 < (a0).toInt64)) (q_2 : (a0 < 1 ∨ 999 < a0)) : (-1000001) = (a_sell (m38 fs) a0) := by
  have hw6 := hM.2.2.2.1
  have hk6 := hM.2.2.2.2.1
  first
  | exact hT0
  | (intro h_; exact absurd (hT0 h_).1 h01)
  | (intro h_; have h9 := (hT0 h_).2; omega)
  | exact (selM_0 (ma := ma) (A := acM fc ma) h00).1
  | exact (selM_0 (ma := ma) (A := acM fc ma) h00).2.1
  | exact (selM_0 (ma := ma) (A := acM fc ma) h00).2.2.1
  | exact (selM_0 (ma := ma) (A := acM fc ma) h00).2.2.2
  | exact (selM_1 (ma := ma) (A := acM fc ma) h01 q_2).1
  | exact (selM_1 (ma := ma) (A := acM fc ma) h01 q_2).2.1
  | exact (selM_1 (ma := ma) (A := acM fc ma) h01 q_2).2.2.1
  | exact (selM_1 (ma := ma) (A := acM fc ma) h01 q_2).2.2.2
  | exact (selM_2 (ma := ma) (A := acM fc ma) h01 q_2 e_5 c_6).1
  | exact (selM_2 (ma := ma) (A := acM fc ma) h01 q_2 e_5 c_6).2.1
  | exact (selM_2 (ma := ma) (A := acM fc ma) h01 q_2 e_5 c_6).2.2.1
  | exact (selM_2 (ma := ma) (A := acM fc ma) h01 q_2 e_5 c_6).2.2.2
  | exact (selM_d h01 q_2 e_5 c_6 (by assumption) (by assumption) (by assumption) (by assumption) (by assumption) (by assumption)).1
  | exact (selM_d h01 q_2 e_5 c_6 (by assumption) (by assumption) (by assumption) (by assumption) (by assumption) (by assumption)).2.1
  | exact (selM_d h01 q_2 e_5 c_6 (by assumption) (by assumption) (by assumption) (by assumption) (by assumption) (by assumption)).2.2.1
  | exact (selM_d h01 q_2 e_5 c_6 (by assumption) (by assumption) (by assumption) (by assumption) (by assumption) (by assumption)).2.2.2
theorem lf_X8_sell_6 {mt : Int32} {ma : Nat} {fs : Nat → Int32} {w9 : Nat} {k9 : Nat} {h9 : Nat} {fc : Nat → Int32} {j_2 : Nat} {v_5 : Int32} {fcn_7 : Nat → Int32} {man_7 : Nat} {v_8 : Int32} {v_9 : Int32} {g_10 : Nat → Int32} {v_11 : Int32} (hM : okM fs w9 k9 h9) (hT : ¬ mt = 0 → 1 ≤ k9) (h999 : h9 ≤ 999) (hT0 : mt = 0 → fs 0 = 0 ∧ ma = 0) (hac : okA fc ma) (hma : ma ≤ 24) (c_1 : ¬ (mt = 0)) (hkn1 : 1 ≤ k9) (hw1 : 1 ≤ w9) (h01 : ¬ fs 0 = 0) (f_2_1_0 : (¬ (((nI j_2)).toInt64 < 1 ∨ 999 < ((nI j_2)).toInt64))) (q_2 : ¬ ((nI j_2) < 1 ∨ 999 < (nI j_2))) (hj_2 : j_2 ≤ 999) (e_5 : v_5 = fs 7) (c_6 : (nI j_2) ≤ v_5) (hF_7_0 : okA fcn_7 man_7) (hF_7_1 : man_7 ≤ 24) (hF_7_2 : 1 ≤ man_7) (hF_7_3 : acM fcn_7 man_7 = ntA (m38 fs) ma (acM fc ma)) (hF_7_4 : man_7 = ntN ma) (e_8 : v_8 = fs 7) (e_9 : v_9 = (v_8 - (nI j_2))) (hu_10 : g_10 = upd fs 7 v_9) (e_11 : v_11 = g_10 7) : (mt = 0 → g_10 0 = 0 ∧ man_7 = 0) := by
  have hw6 := hM.2.2.2.1
  have hk6 := hM.2.2.2.2.1
  first
  | exact hT0
  | (intro h_; exact absurd (hT0 h_).1 h01)
  | (intro h_; have h9 := (hT0 h_).2; omega)
  | exact (selM_0 (ma := ma) (A := acM fc ma) h00).1
  | exact (selM_0 (ma := ma) (A := acM fc ma) h00).2.1
  | exact (selM_0 (ma := ma) (A := acM fc ma) h00).2.2.1
  | exact (selM_0 (ma := ma) (A := acM fc ma) h00).2.2.2
  | exact (selM_1 (ma := ma) (A := acM fc ma) h01 q_2).1
  | exact (selM_1 (ma := ma) (A := acM fc ma) h01 q_2).2.1
  | exact (selM_1 (ma := ma) (A := acM fc ma) h01 q_2).2.2.1
  | exact (selM_1 (ma := ma) (A := acM fc ma) h01 q_2).2.2.2
  | exact (selM_2 (ma := ma) (A := acM fc ma) h01 q_2 e_5 c_6).1
  | exact (selM_2 (ma := ma) (A := acM fc ma) h01 q_2 e_5 c_6).2.1
  | exact (selM_2 (ma := ma) (A := acM fc ma) h01 q_2 e_5 c_6).2.2.1
  | exact (selM_2 (ma := ma) (A := acM fc ma) h01 q_2 e_5 c_6).2.2.2
  | exact (selM_d h01 q_2 e_5 c_6 (by assumption) (by assumption) (by assumption) (by assumption) (by assumption) (by assumption)).1
  | exact (selM_d h01 q_2 e_5 c_6 (by assumption) (by assumption) (by assumption) (by assumption) (by assumption) (by assumption)).2.1
  | exact (selM_d h01 q_2 e_5 c_6 (by assumption) (by assumption) (by assumption) (by assumption) (by assumption) (by assumption)).2.2.1
  | exact (selM_d h01 q_2 e_5 c_6 (by assumption) (by assumption) (by assumption) (by assumption) (by assumption) (by assumption)).2.2.2
theorem lf_X8_sell_7 {mt : Int32} {ma : Nat} {fs : Nat → Int32} {w9 : Nat} {k9 : Nat} {h9 : Nat} {fc : Nat → Int32} {j_2 : Nat} {v_5 : Int32} {fcn_7 : Nat → Int32} {man_7 : Nat} {v_8 : Int32} {v_9 : Int32} {g_10 : Nat → Int32} {v_11 : Int32} (hM : okM fs w9 k9 h9) (hT : ¬ mt = 0 → 1 ≤ k9) (h999 : h9 ≤ 999) (hT0 : mt = 0 → fs 0 = 0 ∧ ma = 0) (hac : okA fc ma) (hma : ma ≤ 24) (c_1 : ¬ (mt = 0)) (hkn1 : 1 ≤ k9) (hw1 : 1 ≤ w9) (h01 : ¬ fs 0 = 0) (f_2_1_0 : (¬ (((nI j_2)).toInt64 < 1 ∨ 999 < ((nI j_2)).toInt64))) (q_2 : ¬ ((nI j_2) < 1 ∨ 999 < (nI j_2))) (hj_2 : j_2 ≤ 999) (e_5 : v_5 = fs 7) (c_6 : (nI j_2) ≤ v_5) (hF_7_0 : okA fcn_7 man_7) (hF_7_1 : man_7 ≤ 24) (hF_7_2 : 1 ≤ man_7) (hF_7_3 : acM fcn_7 man_7 = ntA (m38 fs) ma (acM fc ma)) (hF_7_4 : man_7 = ntN ma) (e_8 : v_8 = fs 7) (e_9 : v_9 = (v_8 - (nI j_2))) (hu_10 : g_10 = upd fs 7 v_9) (e_11 : v_11 = g_10 7) : m38 g_10 = n_sell (m38 fs) (nI j_2) := by
  have hw6 := hM.2.2.2.1
  have hk6 := hM.2.2.2.2.1
  first
  | exact hT0
  | (intro h_; exact absurd (hT0 h_).1 h01)
  | (intro h_; have h9 := (hT0 h_).2; omega)
  | exact (selM_0 (ma := ma) (A := acM fc ma) h00).1
  | exact (selM_0 (ma := ma) (A := acM fc ma) h00).2.1
  | exact (selM_0 (ma := ma) (A := acM fc ma) h00).2.2.1
  | exact (selM_0 (ma := ma) (A := acM fc ma) h00).2.2.2
  | exact (selM_1 (ma := ma) (A := acM fc ma) h01 q_2).1
  | exact (selM_1 (ma := ma) (A := acM fc ma) h01 q_2).2.1
  | exact (selM_1 (ma := ma) (A := acM fc ma) h01 q_2).2.2.1
  | exact (selM_1 (ma := ma) (A := acM fc ma) h01 q_2).2.2.2
  | exact (selM_2 (ma := ma) (A := acM fc ma) h01 q_2 e_5 c_6).1
  | exact (selM_2 (ma := ma) (A := acM fc ma) h01 q_2 e_5 c_6).2.1
  | exact (selM_2 (ma := ma) (A := acM fc ma) h01 q_2 e_5 c_6).2.2.1
  | exact (selM_2 (ma := ma) (A := acM fc ma) h01 q_2 e_5 c_6).2.2.2
  | exact (selM_d h01 q_2 e_5 c_6 (by assumption) (by assumption) (by assumption) (by assumption) (by assumption) (by assumption)).1
  | exact (selM_d h01 q_2 e_5 c_6 (by assumption) (by assumption) (by assumption) (by assumption) (by assumption) (by assumption)).2.1
  | exact (selM_d h01 q_2 e_5 c_6 (by assumption) (by assumption) (by assumption) (by assumption) (by assumption) (by assumption)).2.2.1
  | exact (selM_d h01 q_2 e_5 c_6 (by assumption) (by assumption) (by assumption) (by assumption) (by assumption) (by assumption)).2.2.2
theorem lf_X8_sell_8 {mt : Int32} {ma : Nat} {fs : Nat → Int32} {w9 : Nat} {k9 : Nat} {h9 : Nat} {fc : Nat → Int32} {j_2 : Nat} {v_5 : Int32} {fcn_7 : Nat → Int32} {man_7 : Nat} {v_8 : Int32} {v_9 : Int32} {g_10 : Nat → Int32} {v_11 : Int32} (hM : okM fs w9 k9 h9) (hT : ¬ mt = 0 → 1 ≤ k9) (h999 : h9 ≤ 999) (hT0 : mt = 0 → fs 0 = 0 ∧ ma = 0) (hac : okA fc ma) (hma : ma ≤ 24) (c_1 : ¬ (mt = 0)) (hkn1 : 1 ≤ k9) (hw1 : 1 ≤ w9) (h01 : ¬ fs 0 = 0) (f_2_1_0 : (¬ (((nI j_2)).toInt64 < 1 ∨ 999 < ((nI j_2)).toInt64))) (q_2 : ¬ ((nI j_2) < 1 ∨ 999 < (nI j_2))) (hj_2 : j_2 ≤ 999) (e_5 : v_5 = fs 7) (c_6 : (nI j_2) ≤ v_5) (hF_7_0 : okA fcn_7 man_7) (hF_7_1 : man_7 ≤ 24) (hF_7_2 : 1 ≤ man_7) (hF_7_3 : acM fcn_7 man_7 = ntA (m38 fs) ma (acM fc ma)) (hF_7_4 : man_7 = ntN ma) (e_8 : v_8 = fs 7) (e_9 : v_9 = (v_8 - (nI j_2))) (hu_10 : g_10 = upd fs 7 v_9) (e_11 : v_11 = g_10 7) : man_7 = kpN (gd_sell (m38 fs) (nI j_2)) ma := by
  have hw6 := hM.2.2.2.1
  have hk6 := hM.2.2.2.2.1
  first
  | exact hT0
  | (intro h_; exact absurd (hT0 h_).1 h01)
  | (intro h_; have h9 := (hT0 h_).2; omega)
  | exact (selM_0 (ma := ma) (A := acM fc ma) h00).1
  | exact (selM_0 (ma := ma) (A := acM fc ma) h00).2.1
  | exact (selM_0 (ma := ma) (A := acM fc ma) h00).2.2.1
  | exact (selM_0 (ma := ma) (A := acM fc ma) h00).2.2.2
  | exact (selM_1 (ma := ma) (A := acM fc ma) h01 q_2).1
  | exact (selM_1 (ma := ma) (A := acM fc ma) h01 q_2).2.1
  | exact (selM_1 (ma := ma) (A := acM fc ma) h01 q_2).2.2.1
  | exact (selM_1 (ma := ma) (A := acM fc ma) h01 q_2).2.2.2
  | exact (selM_2 (ma := ma) (A := acM fc ma) h01 q_2 e_5 c_6).1
  | exact (selM_2 (ma := ma) (A := acM fc ma) h01 q_2 e_5 c_6).2.1
  | exact (selM_2 (ma := ma) (A := acM fc ma) h01 q_2 e_5 c_6).2.2.1
  | exact (selM_2 (ma := ma) (A := acM fc ma) h01 q_2 e_5 c_6).2.2.2
  | exact (selM_d h01 q_2 e_5 c_6 (by assumption) (by assumption) (by assumption) (by assumption) (by assumption) (by assumption)).1
  | exact (selM_d h01 q_2 e_5 c_6 (by assumption) (by assumption) (by assumption) (by assumption) (by assumption) (by assumption)).2.1
  | exact (selM_d h01 q_2 e_5 c_6 (by assumption) (by assumption) (by assumption) (by assumption) (by assumption) (by assumption)).2.2.1
  | exact (selM_d h01 q_2 e_5 c_6 (by assumption) (by assumption) (by assumption) (by assumption) (by assumption) (by assumption)).2.2.2
theorem lf_X8_sell_9 {mt : Int32} {ma : Nat} {fs : Nat → Int32} {w9 : Nat} {k9 : Nat} {h9 : Nat} {fc : Nat → Int32} {j_2 : Nat} {v_5 : Int32} {fcn_7 : Nat → Int32} {man_7 : Nat} {v_8 : Int32} {v_9 : Int32} {g_10 : Nat → Int32} {v_11 : Int32} (hM : okM fs w9 k9 h9) (hT : ¬ mt = 0 → 1 ≤ k9) (h999 : h9 ≤ 999) (hT0 : mt = 0 → fs 0 = 0 ∧ ma = 0) (hac : okA fc ma) (hma : ma ≤ 24) (c_1 : ¬ (mt = 0)) (hkn1 : 1 ≤ k9) (hw1 : 1 ≤ w9) (h01 : ¬ fs 0 = 0) (f_2_1_0 : (¬ (((nI j_2)).toInt64 < 1 ∨ 999 < ((nI j_2)).toInt64))) (q_2 : ¬ ((nI j_2) < 1 ∨ 999 < (nI j_2))) (hj_2 : j_2 ≤ 999) (e_5 : v_5 = fs 7) (c_6 : (nI j_2) ≤ v_5) (hF_7_0 : okA fcn_7 man_7) (hF_7_1 : man_7 ≤ 24) (hF_7_2 : 1 ≤ man_7) (hF_7_3 : acM fcn_7 man_7 = ntA (m38 fs) ma (acM fc ma)) (hF_7_4 : man_7 = ntN ma) (e_8 : v_8 = fs 7) (e_9 : v_9 = (v_8 - (nI j_2))) (hu_10 : g_10 = upd fs 7 v_9) (e_11 : v_11 = g_10 7) : acM fcn_7 man_7 = kpA (gd_sell (m38 fs) (nI j_2)) (m38 fs) ma (acM fc ma) := by
  have hw6 := hM.2.2.2.1
  have hk6 := hM.2.2.2.2.1
  first
  | exact hT0
  | (intro h_; exact absurd (hT0 h_).1 h01)
  | (intro h_; have h9 := (hT0 h_).2; omega)
  | exact (selM_0 (ma := ma) (A := acM fc ma) h00).1
  | exact (selM_0 (ma := ma) (A := acM fc ma) h00).2.1
  | exact (selM_0 (ma := ma) (A := acM fc ma) h00).2.2.1
  | exact (selM_0 (ma := ma) (A := acM fc ma) h00).2.2.2
  | exact (selM_1 (ma := ma) (A := acM fc ma) h01 q_2).1
  | exact (selM_1 (ma := ma) (A := acM fc ma) h01 q_2).2.1
  | exact (selM_1 (ma := ma) (A := acM fc ma) h01 q_2).2.2.1
  | exact (selM_1 (ma := ma) (A := acM fc ma) h01 q_2).2.2.2
  | exact (selM_2 (ma := ma) (A := acM fc ma) h01 q_2 e_5 c_6).1
  | exact (selM_2 (ma := ma) (A := acM fc ma) h01 q_2 e_5 c_6).2.1
  | exact (selM_2 (ma := ma) (A := acM fc ma) h01 q_2 e_5 c_6).2.2.1
  | exact (selM_2 (ma := ma) (A := acM fc ma) h01 q_2 e_5 c_6).2.2.2
  | exact (selM_d h01 q_2 e_5 c_6 (by assumption) (by assumption) (by assumption) (by assumption) (by assumption) (by assumption)).1
  | exact (selM_d h01 q_2 e_5 c_6 (by assumption) (by assumption) (by assumption) (by assumption) (by assumption) (by assumption)).2.1
  | exact (selM_d h01 q_2 e_5 c_6 (by assumption) (by assumption) (by assumption) (by assumption) (by assumption) (by assumption)).2.2.1
  | exact (selM_d h01 q_2 e_5 c_6 (by assumption) (by assumption) (by assumption) (by assumption) (by assumption) (by assumption)).2.2.2
theorem lf_X8_sell_10 {mt : Int32} {ma : Nat} {fs : Nat → Int32} {w9 : Nat} {k9 : Nat} {h9 : Nat} {fc : Nat → Int32} {j_2 : Nat} {v_5 : Int32} {fcn_7 : Nat → Int32} {man_7 : Nat} {v_8 : Int32} {v_9 : Int32} {g_10 : Nat → Int32} {v_11 : Int32} (hM : okM fs w9 k9 h9) (hT : ¬ mt = 0 → 1 ≤ k9) (h999 : h9 ≤ 999) (hT0 : mt = 0 → fs 0 = 0 ∧ ma = 0) (hac : okA fc ma) (hma : ma ≤ 24) (c_1 : ¬ (mt = 0)) (hkn1 : 1 ≤ k9) (hw1 : 1 ≤ w9) (h01 : ¬ fs 0 = 0) (f_2_1_0 : (¬ (((nI j_2)).toInt64 < 1 ∨ 999 < ((nI j_2)).toInt64))) (q_2 : ¬ ((nI j_2) < 1 ∨ 999 < (nI j_2))) (hj_2 : j_2 ≤ 999) (e_5 : v_5 = fs 7) (c_6 : (nI j_2) ≤ v_5) (hF_7_0 : okA fcn_7 man_7) (hF_7_1 : man_7 ≤ 24) (hF_7_2 : 1 ≤ man_7) (hF_7_3 : acM fcn_7 man_7 = ntA (m38 fs) ma (acM fc ma)) (hF_7_4 : man_7 = ntN ma) (e_8 : v_8 = fs 7) (e_9 : v_9 = (v_8 - (nI j_2))) (hu_10 : g_10 = upd fs 7 v_9) (e_11 : v_11 = g_10 7) : v_11 = (a_sell (m38 fs) (nI j_2)) := by
  have hw6 := hM.2.2.2.1
  have hk6 := hM.2.2.2.2.1
  first
  | exact hT0
  | (intro h_; exact absurd (hT0 h_).1 h01)
  | (intro h_; have h9 := (hT0 h_).2; omega)
  | exact (selM_0 (ma := ma) (A := acM fc ma) h00).1
  | exact (selM_0 (ma := ma) (A := acM fc ma) h00).2.1
  | exact (selM_0 (ma := ma) (A := acM fc ma) h00).2.2.1
  | exact (selM_0 (ma := ma) (A := acM fc ma) h00).2.2.2
  | exact (selM_1 (ma := ma) (A := acM fc ma) h01 q_2).1
  | exact (selM_1 (ma := ma) (A := acM fc ma) h01 q_2).2.1
  | exact (selM_1 (ma := ma) (A := acM fc ma) h01 q_2).2.2.1
  | exact (selM_1 (ma := ma) (A := acM fc ma) h01 q_2).2.2.2
  | exact (selM_2 (ma := ma) (A := acM fc ma) h01 q_2 e_5 c_6).1
  | exact (selM_2 (ma := ma) (A := acM fc ma) h01 q_2 e_5 c_6).2.1
  | exact (selM_2 (ma := ma) (A := acM fc ma) h01 q_2 e_5 c_6).2.2.1
  | exact (selM_2 (ma := ma) (A := acM fc ma) h01 q_2 e_5 c_6).2.2.2
  | exact (selM_d h01 q_2 e_5 c_6 (by assumption) (by assumption) (by assumption) (by assumption) (by assumption) (by assumption)).1
  | exact (selM_d h01 q_2 e_5 c_6 (by assumption) (by assumption) (by assumption) (by assumption) (by assumption) (by assumption)).2.1
  | exact (selM_d h01 q_2 e_5 c_6 (by assumption) (by assumption) (by assumption) (by assumption) (by assumption) (by assumption)).2.2.1
  | exact (selM_d h01 q_2 e_5 c_6 (by assumption) (by assumption) (by assumption) (by assumption) (by assumption) (by assumption)).2.2.2
theorem lf_X8_sell_11 {mt : Int32} {ma : Nat} {fs : Nat → Int32} {w9 : Nat} {k9 : Nat} {h9 : Nat} {fc : Nat → Int32} {j_2 : Nat} {v_5 : Int32} (hM : okM fs w9 k9 h9) (hT : ¬ mt = 0 → 1 ≤ k9) (h999 : h9 ≤ 999) (hT0 : mt = 0 → fs 0 = 0 ∧ ma = 0) (hac : okA fc ma) (hma : ma ≤ 24) (c_1 : ¬ (mt = 0)) (hkn1 : 1 ≤ k9) (hw1 : 1 ≤ w9) (h01 : ¬ fs 0 = 0) (f_2_1_0 : (¬ (((nI j_2)).toInt64 < 1 ∨ 999 < ((nI j_2)).toInt64))) (q_2 : ¬ ((nI j_2) < 1 ∨ 999 < (nI j_2))) (hj_2 : j_2 ≤ 999) (e_5 : v_5 = fs 7) (c_6 : ¬ ((nI j_2) ≤ v_5)) : (mt = 0 → fs 0 = 0 ∧ ma = 0) := by
  have hw6 := hM.2.2.2.1
  have hk6 := hM.2.2.2.2.1
  first
  | exact hT0
  | (intro h_; exact absurd (hT0 h_).1 h01)
  | (intro h_; have h9 := (hT0 h_).2; omega)
  | exact (selM_0 (ma := ma) (A := acM fc ma) h00).1
  | exact (selM_0 (ma := ma) (A := acM fc ma) h00).2.1
  | exact (selM_0 (ma := ma) (A := acM fc ma) h00).2.2.1
  | exact (selM_0 (ma := ma) (A := acM fc ma) h00).2.2.2
  | exact (selM_1 (ma := ma) (A := acM fc ma) h01 q_2).1
  | exact (selM_1 (ma := ma) (A := acM fc ma) h01 q_2).2.1
  | exact (selM_1 (ma := ma) (A := acM fc ma) h01 q_2).2.2.1
  | exact (selM_1 (ma := ma) (A := acM fc ma) h01 q_2).2.2.2
  | exact (selM_2 (ma := ma) (A := acM fc ma) h01 q_2 e_5 c_6).1
  | exact (selM_2 (ma := ma) (A := acM fc ma) h01 q_2 e_5 c_6).2.1
  | exact (selM_2 (ma := ma) (A := acM fc ma) h01 q_2 e_5 c_6).2.2.1
  | exact (selM_2 (ma := ma) (A := acM fc ma) h01 q_2 e_5 c_6).2.2.2
  | exact (selM_d h01 q_2 e_5 c_6 (by assumption) (by assumption) (by assumption) (by assumption) (by assumption) (by assumption)).1
  | exact (selM_d h01 q_2 e_5 c_6 (by assumption) (by assumption) (by assumption) (by assumption) (by assumption) (by assumption)).2.1
  | exact (selM_d h01 q_2 e_5 c_6 (by assumption) (by assumption) (by assumption) (by assumption) (by assumption) (by assumption)).2.2.1
  | exact (selM_d h01 q_2 e_5 c_6 (by assumption) (by assumption) (by assumption) (by assumption) (by assumption) (by assumption)).2.2.2
theorem lf_X8_sell_12 {mt : Int32} {ma : Nat} {fs : Nat → Int32} {w9 : Nat} {k9 : Nat} {h9 : Nat} {fc : Nat → Int32} {j_2 : Nat} {v_5 : Int32} (hM : okM fs w9 k9 h9) (hT : ¬ mt = 0 → 1 ≤ k9) (h999 : h9 ≤ 999) (hT0 : mt = 0 → fs 0 = 0 ∧ ma = 0) (hac : okA fc ma) (hma : ma ≤ 24) (c_1 : ¬ (mt = 0)) (hkn1 : 1 ≤ k9) (hw1 : 1 ≤ w9) (h01 : ¬ fs 0 = 0) (f_2_1_0 : (¬ (((nI j_2)).toInt64 < 1 ∨ 999 < ((nI j_2)).toInt64))) (q_2 : ¬ ((nI j_2) < 1 ∨ 999 < (nI j_2))) (hj_2 : j_2 ≤ 999) (e_5 : v_5 = fs 7) (c_6 : ¬ ((nI j_2) ≤ v_5)) : m38 fs = n_sell (m38 fs) (nI j_2) := by
  have hw6 := hM.2.2.2.1
  have hk6 := hM.2.2.2.2.1
  first
  | exact hT0
  | (intro h_; exact absurd (hT0 h_).1 h01)
  | (intro h_; have h9 := (hT0 h_).2; omega)
  | exact (selM_0 (ma := ma) (A := acM fc ma) h00).1
  | exact (selM_0 (ma := ma) (A := acM fc ma) h00).2.1
  | exact (selM_0 (ma := ma) (A := acM fc ma) h00).2.2.1
  | exact (selM_0 (ma := ma) (A := acM fc ma) h00).2.2.2
  | exact (selM_1 (ma := ma) (A := acM fc ma) h01 q_2).1
  | exact (selM_1 (ma := ma) (A := acM fc ma) h01 q_2).2.1
  | exact (selM_1 (ma := ma) (A := acM fc ma) h01 q_2).2.2.1
  | exact (selM_1 (ma := ma) (A := acM fc ma) h01 q_2).2.2.2
  | exact (selM_2 (ma := ma) (A := acM fc ma) h01 q_2 e_5 c_6).1
  | exact (selM_2 (ma := ma) (A := acM fc ma) h01 q_2 e_5 c_6).2.1
  | exact (selM_2 (ma := ma) (A := acM fc ma) h01 q_2 e_5 c_6).2.2.1
  | exact (selM_2 (ma := ma) (A := acM fc ma) h01 q_2 e_5 c_6).2.2.2
  | exact (selM_d h01 q_2 e_5 c_6 (by assumption) (by assumption) (by assumption) (by assumption) (by assumption) (by assumption)).1
  | exact (selM_d h01 q_2 e_5 c_6 (by assumption) (by assumption) (by assumption) (by assumption) (by assumption) (by assumption)).2.1
  | exact (selM_d h01 q_2 e_5 c_6 (by assumption) (by assumption) (by assumption) (by assumption) (by assumption) (by assumption)).2.2.1
  | exact (selM_d h01 q_2 e_5 c_6 (by assumption) (by assumption) (by assumption) (by assumption) (by assumption) (by assumption)).2.2.2
theorem lf_X8_sell_13 {mt : Int32} {ma : Nat} {fs : Nat → Int32} {w9 : Nat} {k9 : Nat} {h9 : Nat} {fc : Nat → Int32} {j_2 : Nat} {v_5 : Int32} (hM : okM fs w9 k9 h9) (hT : ¬ mt = 0 → 1 ≤ k9) (h999 : h9 ≤ 999) (hT0 : mt = 0 → fs 0 = 0 ∧ ma = 0) (hac : okA fc ma) (hma : ma ≤ 24) (c_1 : ¬ (mt = 0)) (hkn1 : 1 ≤ k9) (hw1 : 1 ≤ w9) (h01 : ¬ fs 0 = 0) (f_2_1_0 : (¬ (((nI j_2)).toInt64 < 1 ∨ 999 < ((nI j_2)).toInt64))) (q_2 : ¬ ((nI j_2) < 1 ∨ 999 < (nI j_2))) (hj_2 : j_2 ≤ 999) (e_5 : v_5 = fs 7) (c_6 : ¬ ((nI j_2) ≤ v_5)) : ma = kpN (gd_sell (m38 fs) (nI j_2)) ma := by
  have hw6 := hM.2.2.2.1
  have hk6 := hM.2.2.2.2.1
  first
  | exact hT0
  | (intro h_; exact absurd (hT0 h_).1 h01)
  | (intro h_; have h9 := (hT0 h_).2; omega)
  | exact (selM_0 (ma := ma) (A := acM fc ma) h00).1
  | exact (selM_0 (ma := ma) (A := acM fc ma) h00).2.1
  | exact (selM_0 (ma := ma) (A := acM fc ma) h00).2.2.1
  | exact (selM_0 (ma := ma) (A := acM fc ma) h00).2.2.2
  | exact (selM_1 (ma := ma) (A := acM fc ma) h01 q_2).1
  | exact (selM_1 (ma := ma) (A := acM fc ma) h01 q_2).2.1
  | exact (selM_1 (ma := ma) (A := acM fc ma) h01 q_2).2.2.1
  | exact (selM_1 (ma := ma) (A := acM fc ma) h01 q_2).2.2.2
  | exact (selM_2 (ma := ma) (A := acM fc ma) h01 q_2 e_5 c_6).1
  | exact (selM_2 (ma := ma) (A := acM fc ma) h01 q_2 e_5 c_6).2.1
  | exact (selM_2 (ma := ma) (A := acM fc ma) h01 q_2 e_5 c_6).2.2.1
  | exact (selM_2 (ma := ma) (A := acM fc ma) h01 q_2 e_5 c_6).2.2.2
  | exact (selM_d h01 q_2 e_5 c_6 (by assumption) (by assumption) (by assumption) (by assumption) (by assumption) (by assumption)).1
  | exact (selM_d h01 q_2 e_5 c_6 (by assumption) (by assumption) (by assumption) (by assumption) (by assumption) (by assumption)).2.1
  | exact (selM_d h01 q_2 e_5 c_6 (by assumption) (by assumption) (by assumption) (by assumption) (by assumption) (by assumption)).2.2.1
  | exact (selM_d h01 q_2 e_5 c_6 (by assumption) (by assumption) (by assumption) (by assumption) (by assumption) (by assumption)).2.2.2
theorem lf_X8_sell_14 {mt : Int32} {ma : Nat} {fs : Nat → Int32} {w9 : Nat} {k9 : Nat} {h9 : Nat} {fc : Nat → Int32} {j_2 : Nat} {v_5 : Int32} (hM : okM fs w9 k9 h9) (hT : ¬ mt = 0 → 1 ≤ k9) (h999 : h9 ≤ 999) (hT0 : mt = 0 → fs 0 = 0 ∧ ma = 0) (hac : okA fc ma) (hma : ma ≤ 24) (c_1 : ¬ (mt = 0)) (hkn1 : 1 ≤ k9) (hw1 : 1 ≤ w9) (h01 : ¬ fs 0 = 0) (f_2_1_0 : (¬ (((nI j_2)).toInt64 < 1 ∨ 999 < ((nI j_2)).toInt64))) (q_2 : ¬ ((nI j_2) < 1 ∨ 999 < (nI j_2))) (hj_2 : j_2 ≤ 999) (e_5 : v_5 = fs 7) (c_6 : ¬ ((nI j_2) ≤ v_5)) : acM fc ma = kpA (gd_sell (m38 fs) (nI j_2)) (m38 fs) ma (acM fc ma) := by
  have hw6 := hM.2.2.2.1
  have hk6 := hM.2.2.2.2.1
  first
  | exact hT0
  | (intro h_; exact absurd (hT0 h_).1 h01)
  | (intro h_; have h9 := (hT0 h_).2; omega)
  | exact (selM_0 (ma := ma) (A := acM fc ma) h00).1
  | exact (selM_0 (ma := ma) (A := acM fc ma) h00).2.1
  | exact (selM_0 (ma := ma) (A := acM fc ma) h00).2.2.1
  | exact (selM_0 (ma := ma) (A := acM fc ma) h00).2.2.2
  | exact (selM_1 (ma := ma) (A := acM fc ma) h01 q_2).1
  | exact (selM_1 (ma := ma) (A := acM fc ma) h01 q_2).2.1
  | exact (selM_1 (ma := ma) (A := acM fc ma) h01 q_2).2.2.1
  | exact (selM_1 (ma := ma) (A := acM fc ma) h01 q_2).2.2.2
  | exact (selM_2 (ma := ma) (A := acM fc ma) h01 q_2 e_5 c_6).1
  | exact (selM_2 (ma := ma) (A := acM fc ma) h01 q_2 e_5 c_6).2.1
  | exact (selM_2 (ma := ma) (A := acM fc ma) h01 q_2 e_5 c_6).2.2.1
  | exact (selM_2 (ma := ma) (A := acM fc ma) h01 q_2 e_5 c_6).2.2.2
  | exact (selM_d h01 q_2 e_5 c_6 (by assumption) (by assumption) (by assumption) (by assumption) (by assumption) (by assumption)).1
  | exact (selM_d h01 q_2 e_5 c_6 (by assumption) (by assumption) (by assumption) (by assumption) (by assumption) (by assumption)).2.1
  | exact (selM_d h01 q_2 e_5 c_6 (by assumption) (by assumption) (by assumption) (by assumption) (by assumption) (by assumption)).2.2.1
  | exact (selM_d h01 q_2 e_5 c_6 (by assumption) (by assumption) (by assumption) (by assumption) (by assumption) (by assumption)).2.2.2
theorem lf_X8_sell_15 {mt : Int32} {ma : Nat} {fs : Nat → Int32} {w9 : Nat} {k9 : Nat} {h9 : Nat} {fc : Nat → Int32} {j_2 : Nat} {v_5 : Int32} (hM : okM fs w9 k9 h9) (hT : ¬ mt = 0 → 1 ≤ k9) (h999 : h9 ≤ 999) (hT0 : mt = 0 → fs 0 = 0 ∧ ma = 0) (hac : okA fc ma) (hma : ma ≤ 24) (c_1 : ¬ (mt = 0)) (hkn1 : 1 ≤ k9) (hw1 : 1 ≤ w9) (h01 : ¬ fs 0 = 0) (f_2_1_0 : (¬ (((nI j_2)).toInt64 < 1 ∨ 999 < ((nI j_2)).toInt64))) (q_2 : ¬ ((nI j_2) < 1 ∨ 999 < (nI j_2))) (hj_2 : j_2 ≤ 999) (e_5 : v_5 = fs 7) (c_6 : ¬ ((nI j_2) ≤ v_5)) : (-1000002) = (a_sell (m38 fs) (nI j_2)) := by
  have hw6 := hM.2.2.2.1
  have hk6 := hM.2.2.2.2.1
  first
  | exact hT0
  | (intro h_; exact absurd (hT0 h_).1 h01)
  | (intro h_; have h9 := (hT0 h_).2; omega)
  | exact (selM_0 (ma := ma) (A := acM fc ma) h00).1
  | exact (selM_0 (ma := ma) (A := acM fc ma) h00).2.1
  | exact (selM_0 (ma := ma) (A := acM fc ma) h00).2.2.1
  | exact (selM_0 (ma := ma) (A := acM fc ma) h00).2.2.2
  | exact (selM_1 (ma := ma) (A := acM fc ma) h01 q_2).1
  | exact (selM_1 (ma := ma) (A := acM fc ma) h01 q_2).2.1
  | exact (selM_1 (ma := ma) (A := acM fc ma) h01 q_2).2.2.1
  | exact (selM_1 (ma := ma) (A := acM fc ma) h01 q_2).2.2.2
  | exact (selM_2 (ma := ma) (A := acM fc ma) h01 q_2 e_5 c_6).1
  | exact (selM_2 (ma := ma) (A := acM fc ma) h01 q_2 e_5 c_6).2.1
  | exact (selM_2 (ma := ma) (A := acM fc ma) h01 q_2 e_5 c_6).2.2.1
  | exact (selM_2 (ma := ma) (A := acM fc ma) h01 q_2 e_5 c_6).2.2.2
  | exact (selM_d h01 q_2 e_5 c_6 (by assumption) (by assumption) (by assumption) (by assumption) (by assumption) (by assumption)).1
  | exact (selM_d h01 q_2 e_5 c_6 (by assumption) (by assumption) (by assumption) (by assumption) (by assumption) (by assumption)).2.1
  | exact (selM_d h01 q_2 e_5 c_6 (by assumption) (by assumption) (by assumption) (by assumption) (by assumption) (by assumption)).2.2.1
  | exact (selM_d h01 q_2 e_5 c_6 (by assumption) (by assumption) (by assumption) (by assumption) (by assumption) (by assumption)).2.2.2
theorem lf_X8_sell_16 {mt : Int32} {ma : Nat} {fs : Nat → Int32} {w9 : Nat} {k9 : Nat} {h9 : Nat} {fc : Nat → Int32} (hM : okM fs w9 k9 h9) (hT : ¬ mt = 0 → 1 ≤ k9) (h999 : h9 ≤ 999) (hT0 : mt = 0 → fs 0 = 0 ∧ ma = 0) (hac : okA fc ma) (hma : ma ≤ 24) (c_1 : mt = 0) (h00 : fs 0 = 0) : (mt = 0 → fs 0 = 0 ∧ ma = 0) := by
  have hw6 := hM.2.2.2.1
  have hk6 := hM.2.2.2.2.1
  first
  | exact hT0
  | (intro h_; exact absurd (hT0 h_).1 h01)
  | (intro h_; have h9 := (hT0 h_).2; omega)
  | exact (selM_0 (ma := ma) (A := acM fc ma) h00).1
  | exact (selM_0 (ma := ma) (A := acM fc ma) h00).2.1
  | exact (selM_0 (ma := ma) (A := acM fc ma) h00).2.2.1
  | exact (selM_0 (ma := ma) (A := acM fc ma) h00).2.2.2
  | exact (selM_1 (ma := ma) (A := acM fc ma) h01 q_2).1
  | exact (selM_1 (ma := ma) (A := acM fc ma) h01 q_2).2.1
  | exact (selM_1 (ma := ma) (A := acM fc ma) h01 q_2).2.2.1
  | exact (selM_1 (ma := ma) (A := acM fc ma) h01 q_2).2.2.2
  | exact (selM_2 (ma := ma) (A := acM fc ma) h01 q_2 e_5 c_6).1
  | exact (selM_2 (ma := ma) (A := acM fc ma) h01 q_2 e_5 c_6).2.1
  | exact (selM_2 (ma := ma) (A := acM fc ma) h01 q_2 e_5 c_6).2.2.1
  | exact (selM_2 (ma := ma) (A := acM fc ma) h01 q_2 e_5 c_6).2.2.2
  | exact (selM_d h01 q_2 e_5 c_6 (by assumption) (by assumption) (by assumption) (by assumption) (by assumption) (by assumption)).1
  | exact (selM_d h01 q_2 e_5 c_6 (by assumption) (by assumption) (by assumption) (by assumption) (by assumption) (by assumption)).2.1
  | exact (selM_d h01 q_2 e_5 c_6 (by assumption) (by assumption) (by assumption) (by assumption) (by assumption) (by assumption)).2.2.1
  | exact (selM_d h01 q_2 e_5 c_6 (by assumption) (by assumption) (by assumption) (by assumption) (by assumption) (by assumption)).2.2.2
theorem lf_X8_sell_17 {mt : Int32} {ma : Nat} {fs : Nat → Int32} {w9 : Nat} {k9 : Nat} {h9 : Nat} {fc : Nat → Int32} {a0 : Int32} (hM : okM fs w9 k9 h9) (hT : ¬ mt = 0 → 1 ≤ k9) (h999 : h9 ≤ 999) (hT0 : mt = 0 → fs 0 = 0 ∧ ma = 0) (hac : okA fc ma) (hma : ma ≤ 24) (c_1 : mt = 0) (h00 : fs 0 = 0) : m38 fs = n_sell (m38 fs) a0 := by
  have hw6 := hM.2.2.2.1
  have hk6 := hM.2.2.2.2.1
  first
  | exact hT0
  | (intro h_; exact absurd (hT0 h_).1 h01)
  | (intro h_; have h9 := (hT0 h_).2; omega)
  | exact (selM_0 (ma := ma) (A := acM fc ma) h00).1
  | exact (selM_0 (ma := ma) (A := acM fc ma) h00).2.1
  | exact (selM_0 (ma := ma) (A := acM fc ma) h00).2.2.1
  | exact (selM_0 (ma := ma) (A := acM fc ma) h00).2.2.2
  | exact (selM_1 (ma := ma) (A := acM fc ma) h01 q_2).1
  | exact (selM_1 (ma := ma) (A := acM fc ma) h01 q_2).2.1
  | exact (selM_1 (ma := ma) (A := acM fc ma) h01 q_2).2.2.1
  | exact (selM_1 (ma := ma) (A := acM fc ma) h01 q_2).2.2.2
  | exact (selM_2 (ma := ma) (A := acM fc ma) h01 q_2 e_5 c_6).1
  | exact (selM_2 (ma := ma) (A := acM fc ma) h01 q_2 e_5 c_6).2.1
  | exact (selM_2 (ma := ma) (A := acM fc ma) h01 q_2 e_5 c_6).2.2.1
  | exact (selM_2 (ma := ma) (A := acM fc ma) h01 q_2 e_5 c_6).2.2.2
  | exact (selM_d h01 q_2 e_5 c_6 (by assumption) (by assumption) (by assumption) (by assumption) (by assumption) (by assumption)).1
  | exact (selM_d h01 q_2 e_5 c_6 (by assumption) (by assumption) (by assumption) (by assumption) (by assumption) (by assumption)).2.1
  | exact (selM_d h01 q_2 e_5 c_6 (by assumption) (by assumption) (by assumption) (by assumption) (by assumption) (by assumption)).2.2.1
  | exact (selM_d h01 q_2 e_5 c_6 (by assumption) (by assumption) (by assumption) (by assumption) (by assumption) (by assumption)).2.2.2
theorem lf_X8_sell_18 {mt : Int32} {ma : Nat} {fs : Nat → Int32} {w9 : Nat} {k9 : Nat} {h9 : Nat} {fc : Nat → Int32} {a0 : Int32} (hM : okM fs w9 k9 h9) (hT : ¬ mt = 0 → 1 ≤ k9) (h999 : h9 ≤ 999) (hT0 : mt = 0 → fs 0 = 0 ∧ ma = 0) (hac : okA fc ma) (hma : ma ≤ 24) (c_1 : mt = 0) (h00 : fs 0 = 0) : ma = kpN (gd_sell (m38 fs) a0) ma := by
  have hw6 := hM.2.2.2.1
  have hk6 := hM.2.2.2.2.1
  first
  | exact hT0
  | (intro h_; exact absurd (hT0 h_).1 h01)
  | (intro h_; have h9 := (hT0 h_).2; omega)
  | exact (selM_0 (ma := ma) (A := acM fc ma) h00).1
  | exact (selM_0 (ma := ma) (A := acM fc ma) h00).2.1
  | exact (selM_0 (ma := ma) (A := acM fc ma) h00).2.2.1
  | exact (selM_0 (ma := ma) (A := acM fc ma) h00).2.2.2
  | exact (selM_1 (ma := ma) (A := acM fc ma) h01 q_2).1
  | exact (selM_1 (ma := ma) (A := acM fc ma) h01 q_2).2.1
  | exact (selM_1 (ma := ma) (A := acM fc ma) h01 q_2).2.2.1
  | exact (selM_1 (ma := ma) (A := acM fc ma) h01 q_2).2.2.2
  | exact (selM_2 (ma := ma) (A := acM fc ma) h01 q_2 e_5 c_6).1
  | exact (selM_2 (ma := ma) (A := acM fc ma) h01 q_2 e_5 c_6).2.1
  | exact (selM_2 (ma := ma) (A := acM fc ma) h01 q_2 e_5 c_6).2.2.1
  | exact (selM_2 (ma := ma) (A := acM fc ma) h01 q_2 e_5 c_6).2.2.2
  | exact (selM_d h01 q_2 e_5 c_6 (by assumption) (by assumption) (by assumption) (by assumption) (by assumption) (by assumption)).1
  | exact (selM_d h01 q_2 e_5 c_6 (by assumption) (by assumption) (by assumption) (by assumption) (by assumption) (by assumption)).2.1
  | exact (selM_d h01 q_2 e_5 c_6 (by assumption) (by assumption) (by assumption) (by assumption) (by assumption) (by assumption)).2.2.1
  | exact (selM_d h01 q_2 e_5 c_6 (by assumption) (by assumption) (by assumption) (by assumption) (by assumption) (by assumption)).2.2.2
theorem lf_X8_sell_19 {mt : Int32} {ma : Nat} {fs : Nat → Int32} {w9 : Nat} {k9 : Nat} {h9 : Nat} {fc : Nat → Int32} {a0 : Int32} (hM : okM fs w9 k9 h9) (hT : ¬ mt = 0 → 1 ≤ k9) (h999 : h9 ≤ 999) (hT0 : mt = 0 → fs 0 = 0 ∧ ma = 0) (hac : okA fc ma) (hma : ma ≤ 24) (c_1 : mt = 0) (h00 : fs 0 = 0) : acM fc ma = kpA (gd_sell (m38 fs) a0) (m38 fs) ma (acM fc ma) := by
  have hw6 := hM.2.2.2.1
  have hk6 := hM.2.2.2.2.1
  first
  | exact hT0
  | (intro h_; exact absurd (hT0 h_).1 h01)
  | (intro h_; have h9 := (hT0 h_).2; omega)
  | exact (selM_0 (ma := ma) (A := acM fc ma) h00).1
  | exact (selM_0 (ma := ma) (A := acM fc ma) h00).2.1
  | exact (selM_0 (ma := ma) (A := acM fc ma) h00).2.2.1
  | exact (selM_0 (ma := ma) (A := acM fc ma) h00).2.2.2
  | exact (selM_1 (ma := ma) (A := acM fc ma) h01 q_2).1
  | exact (selM_1 (ma := ma) (A := acM fc ma) h01 q_2).2.1
  | exact (selM_1 (ma := ma) (A := acM fc ma) h01 q_2).2.2.1
  | exact (selM_1 (ma := ma) (A := acM fc ma) h01 q_2).2.2.2
  | exact (selM_2 (ma := ma) (A := acM fc ma) h01 q_2 e_5 c_6).1
  | exact (selM_2 (ma := ma) (A := acM fc ma) h01 q_2 e_5 c_6).2.1
  | exact (selM_2 (ma := ma) (A := acM fc ma) h01 q_2 e_5 c_6).2.2.1
  | exact (selM_2 (ma := ma) (A := acM fc ma) h01 q_2 e_5 c_6).2.2.2
  | exact (selM_d h01 q_2 e_5 c_6 (by assumption) (by assumption) (by assumption) (by assumption) (by assumption) (by assumption)).1
  | exact (selM_d h01 q_2 e_5 c_6 (by assumption) (by assumption) (by assumption) (by assumption) (by assumption) (by assumption)).2.1
  | exact (selM_d h01 q_2 e_5 c_6 (by assumption) (by assumption) (by assumption) (by assumption) (by assumption) (by assumption)).2.2.1
  | exact (selM_d h01 q_2 e_5 c_6 (by assumption) (by assumption) (by assumption) (by assumption) (by assumption) (by assumption)).2.2.2
theorem lf_X8_sell_20 {mt : Int32} {ma : Nat} {fs : Nat → Int32} {w9 : Nat} {k9 : Nat} {h9 : Nat} {fc : Nat → Int32} {a0 : Int32} (hM : okM fs w9 k9 h9) (hT : ¬ mt = 0 → 1 ≤ k9) (h999 : h9 ≤ 999) (hT0 : mt = 0 → fs 0 = 0 ∧ ma = 0) (hac : okA fc ma) (hma : ma ≤ 24) (c_1 : mt = 0) (h00 : fs 0 = 0) : (-1000002) = (a_sell (m38 fs) a0) := by
  have hw6 := hM.2.2.2.1
  have hk6 := hM.2.2.2.2.1
  first
  | exact hT0
  | (intro h_; exact absurd (hT0 h_).1 h01)
  | (intro h_; have h9 := (hT0 h_).2; omega)
  | exact (selM_0 (ma := ma) (A := acM fc ma) h00).1
  | exact (selM_0 (ma := ma) (A := acM fc ma) h00).2.1
  | exact (selM_0 (ma := ma) (A := acM fc ma) h00).2.2.1
  | exact (selM_0 (ma := ma) (A := acM fc ma) h00).2.2.2
  | exact (selM_1 (ma := ma) (A := acM fc ma) h01 q_2).1
  | exact (selM_1 (ma := ma) (A := acM fc ma) h01 q_2).2.1
  | exact (selM_1 (ma := ma) (A := acM fc ma) h01 q_2).2.2.1
  | exact (selM_1 (ma := ma) (A := acM fc ma) h01 q_2).2.2.2
  | exact (selM_2 (ma := ma) (A := acM fc ma) h01 q_2 e_5 c_6).1
  | exact (selM_2 (ma := ma) (A := acM fc ma) h01 q_2 e_5 c_6).2.1
  | exact (selM_2 (ma := ma) (A := acM fc ma) h01 q_2 e_5 c_6).2.2.1
  | exact (selM_2 (ma := ma) (A := acM fc ma) h01 q_2 e_5 c_6).2.2.2
  | exact (selM_d h01 q_2 e_5 c_6 (by assumption) (by assumption) (by assumption) (by assumption) (by assumption) (by assumption)).1
  | exact (selM_d h01 q_2 e_5 c_6 (by assumption) (by assumption) (by assumption) (by assumption) (by assumption) (by assumption)).2.1
  | exact (selM_d h01 q_2 e_5 c_6 (by assumption) (by assumption) (by assumption) (by assumption) (by assumption) (by assumption)).2.2.1
  | exact (selM_d h01 q_2 e_5 c_6 (by assumption) (by assumption) (by assumption) (by assumption) (by assumption) (by assumption)).2.2.2
set_option maxHeartbeats 4000000 in
set_option maxRecDepth 100000 in
theorem r_X8_sell (l : Launch) (dC : Nat → ClassId) (dI : Nat → Nat → Nat) (cI cZ cL cJ : ClassId) (sz : Nat) (mo : Nat) (m_la : Nat) (m_sz : Nat) (m_it : Nat) (m_st : Nat) (m_mv : Nat) (m_tp : Nat) (m_rd : Nat) (m_ac : Nat) (m_as : Nat) (m_wo : Nat) (m_ik : Nat) (m_ke : Nat) (m_tr : Nat) (ms : Int32) (mt : Int32) (ml : Int32) (mk : Int32) (mv : Int32) (mb : Int32) (mw : Int32) (mz : Nat) (mp : Nat) (ma : Nat) (mx : Nat) (fs : Nat → Int32) (w9 : Nat) (k9 : Nat) (h9 : Nat) (fc : Nat → Int32) (a0 : Int32) (hM : okM fs w9 k9 h9) (hT : ¬ mt = 0 → 1 ≤ k9) (h999 : h9 ≤ 999) (hT0 : mt = 0 → fs 0 = 0 ∧ ma = 0) (hac : okA fc ma) (hma : ma ≤ 24) : Met l yX8_sell wsX8_sell ({ frames := 1, cells := 0, slots := 0, locals := 25 }) (va_Pc [.ref mo, .int a0] (fun U => U.heap.size = sz ∧ va_P (dC, dI) vwCl [(xo_8_rrriirrriiiiiiirrirrrrri mo m_la m_sz m_it ms mt m_st m_mv m_tp (nI mz) ml (nI mp) mk mv mb mw m_rd m_ac (nI ma) m_as m_wo m_ik m_ke m_tr (nI mx)), (xI m_st cI 38 fs), (xI m_ac cI 912 fc)] U.heap ∧ va_K (dC, dI) vwCl [(cI, .int), (cZ, .boolean), (cL, .object RX3), (cJ, .array .int)] U ∧ va_D (fun _ => True) [(xo_8_rrriirrriiiiiiirrirrrrri mo m_la m_sz m_it ms mt m_st m_mv m_tp (nI mz) ml (nI mp) mk mv mb mw m_rd m_ac (nI ma) m_as m_wo m_ik m_ke m_tr (nI mx)), (xI m_st cI 38 fs), (xI m_ac cI 912 fc)])) (va_Qi (fun r (_ : Unit) => r = (a_sell (m38 fs) a0)) (fun (_ : Unit) t => ∃ (fsn : Nat → Int32) (fcn : Nat → Int32) (man : Nat) (w9n : Nat) (k9n : Nat) (h9n : Nat), va_P (dC, dI) vwCl [(xo_8_rrriirrriiiiiiirrirrrrri mo m_la m_sz m_it ms mt m_st m_mv m_tp (nI mz) ml (nI mp) mk mv mb mw m_rd m_ac (nI man) m_as m_wo m_ik m_ke m_tr (nI mx)), (xI m_st cI 38 fsn), (xI m_ac cI 912 fcn)] t.heap ∧ va_D (va_A [(xo_8_rrriirrriiiiiiirrirrrrri mo m_la m_sz m_it ms mt m_st m_mv m_tp (nI mz) ml (nI mp) mk mv mb mw m_rd m_ac (nI ma) m_as m_wo m_ik m_ke m_tr (nI mx)), (xI m_st cI 38 fs), (xI m_ac cI 912 fc)] sz) [(xo_8_rrriirrriiiiiiirrirrrrri mo m_la m_sz m_it ms mt m_st m_mv m_tp (nI mz) ml (nI mp) mk mv mb mw m_rd m_ac (nI man) m_as m_wo m_ik m_ke m_tr (nI mx)), (xI m_st cI 38 fsn), (xI m_ac cI 912 fcn)] ∧ okM fsn w9n k9n h9n ∧ (¬ mt = 0 → 1 ≤ k9n) ∧ h9n ≤ 999 ∧ okA fcn man ∧ man ≤ 24 ∧ (mt = 0 → fsn 0 = 0 ∧ man = 0) ∧ m38 fsn = n_sell (m38 fs) a0 ∧ man = kpN (gd_sell (m38 fs) a0) ma ∧ acM fcn man = kpA (gd_sell (m38 fs) a0) (m38 fs) ma (acM fc ma)) (va_A [(xo_8_rrriirrriiiiiiirrirrrrri mo m_la m_sz m_it ms mt m_st m_mv m_tp (nI mz) ml (nI mp) mk mv mb mw m_rd m_ac (nI ma) m_as m_wo m_ik m_ke m_tr (nI mx)), (xI m_st cI 38 fs), (xI m_ac cI 912 fc)] sz)) 0 0 (va_A [(xo_8_rrriirrriiiiiiirrirrrrri mo m_la m_sz m_it ms mt m_st m_mv m_tp (nI mz) ml (nI mp) mk mv mb mw m_rd m_ac (nI ma) m_as m_wo m_ik m_ke m_tr (nI mx)), (xI m_st cI 38 fs), (xI m_ac cI 912 fc)] sz) := by
  refine Met.ofW (cc := cX8_sell) (maxL := 2) (ret := (some .int)) (by decide) rfl ?_
  intro p e s m args below meth c s₁ B hml hv
  obtain ⟨rfl, hsz, hP, hK, hD0⟩ := hv
  have hx := B.exec
  have hb := B.bytes
  have hr := B.returns
  have hts := atoms_spec (ws := wsX8_sell) B.pre
  have hown : s.vm.findClass RX8 = some m.cls := findClass_of_methodNamed B.named
  have hlocks := B.notSynchronized
  subst hsz
  have hD := hD0.self (sz := s.heap.size)
  generalize hAe : va_A [(xo_8_rrriirrriiiiiiirrirrrrri mo m_la m_sz m_it ms mt m_st m_mv m_tp (nI mz) ml (nI mp) mk mv mb mw m_rd m_ac (nI ma) m_as m_wo m_ik m_ke m_tr (nI mx)), (xI m_st cI 38 fs), (xI m_ac cI 912 fc)] s.heap.size = A at hD ⊢
  have hA : ∀ q : Nat, s.heap.size ≤ q → A q := fun q h => by rw [← hAe]; exact Or.inr h
  have hS : va_S A s.heap s.heap [] := va_S.rf
  have hP : va_P (dC, dI) vwCl [(xo_8_rrriirrriiiiiiirrirrrrri mo m_la m_sz m_it ms mt m_st m_mv m_tp (nI mz) ml (nI mp) mk mv mb mw m_rd m_ac (nI ma) m_as m_wo m_ik m_ke m_tr (nI mx)), (xI m_st cI 38 fs), (xI m_ac cI 912 fc)] s.heap := hP
  have hl := lv_entry ([.ref mo, .int a0]) (n := 2) (Nat.le_of_ble_eq_true rfl)
  rw [lg_entry_eq]
  generalize (lg_sl ([.ref mo, .int a0]) ++ List.replicate (2 - (lg_sl ([.ref mo, .int a0])).length) Slot.unset).toArray = ls at hl ⊢
  have hl : lv_has ls 2 [(0, .ref mo), (1, .int a0)] := hl
  have hk6 := hM.2.2.2.2.1
  have hw6 := hM.2.2.2.1
  refine lv_aload_n hx hb dX8_sell_0 rfl (lv_at hl 0 rfl) ?_
  refine va_get (D := (dC, dI)) (ci := 8) (v := .int mt) (C := RX8) (T := TX8) (N := 24) hx hb hts i_X8_sell_X8 hown hK hP 0 rfl rfl 4 (by decide) (hts _ mx_X8_sell_1) (fun _ h9 => h9) rfl dX8_sell_1 ?_
  refine lv_if_ne (tgt := 10) hx hb dX8_sell_4 (by decide) (fun c_1 => ?_) (fun c_1 => ?_)
  · skip
    have hkn1 := hT c_1
    have hw1 := hM.2.2.2.2.2.1.mp hkn1
    have h01 : ¬ fs 0 = 0 := cell_nz hM hkn1
    refine lv_iload_n hx hb dX8_sell_10 rfl (lv_at hl 1 rfl) ?_
    refine lv_i2l hx hb dX8_sell_11 rfl ?_
    refine lv_lconst (v := 1) hx hb dX8_sell_12 (by decide) ?_
    refine lv_ldc2 (own := RX8) (v := 999) hx hb hown (hts _ mx_X8_sell_3) dX8_sell_13 ?_
    have hPc_2 := hP.sub (ws' := []) [] rfl
    refine vp_callSi (W.runS (As := [.long (a0).toInt64, .long 1, .long 999]) (rest := []) ⟨hx, hb, hml, hown, hts⟩ (r_X8_in l dC dI cI cZ cL cJ ((a0).toInt64) 1 999 ) (va_cwS 3 hts gX8_sell_X8_in rfl rfl rfl (by decide +kernel) ⟨Nat.le_of_ble_eq_true rfl, Nat.le_of_ble_eq_true rfl⟩) (psP hK hPc_2) rfl rfl hl.1 rfl (lv_room (Nat.le_of_ble_eq_true rfl)) dX8_sell_16 ⟨Nat.le_of_ble_eq_true rfl, Nat.le_of_ble_eq_true rfl⟩) (fun r_2 h_2 => ?_)
    rcases h_2 with ⟨h_2, f_2_0_0⟩ | ⟨h_2, f_2_1_0⟩
    · subst h_2
      have q_2 : (a0 < 1 ∨ 999 < a0) := (in32 (x := a0) (l := 1) (u := 999) (by decide) (by decide)).mp f_2_0_0
      refine lv_if_ne (tgt := 25) hx hb dX8_sell_19 (by decide) (fun c_ => absurd (by decide) c_) (fun _ => ?_)
      refine lv_ldc (own := RX8) (v := (-1000001)) hx hb hown (hts _ mx_X8_sell_4) dX8_sell_22 ?_
      have hX9 := cut2 (wc := [(xo_8_rrriirrriiiiiiirrirrrrri mo m_la m_sz m_it ms mt m_st m_mv m_tp (nI mz) ml (nI mp) mk mv mb mw m_rd m_ac (nI ma) m_as m_wo m_ik m_ke m_tr (nI mx)), (xI m_st cI 38 fs), (xI m_ac cI 912 fc)]) hP hD [0, 1, 2] (by decide +kernel) rfl
      exact W.iret (v := (-1000001)) hx hb hr (fun t ht hW => ⟨⟨(-1000001), (), rfl, (lf_X8_sell_5 hM hT h999 hT0 hac hma c_1 hkn1 hw1 h01 f_2_0_0 q_2), ⟨fs, fc, ma, w9, k9, h9, va_Ht ht hX9.1, hX9.2, hM, hT, (by omega), hac, (by omega), (lf_X8_sell_1 hM hT h999 hT0 hac hma c_1 hkn1 hw1 h01 f_2_0_0 q_2), (lf_X8_sell_2 hM hT h999 hT0 hac hma c_1 hkn1 hw1 h01 f_2_0_0 q_2), (lf_X8_sell_3 hM hT h999 hT0 hac hma c_1 hkn1 hw1 h01 f_2_0_0 q_2), (lf_X8_sell_4 hM hT h999 hT0 hac hma c_1 hkn1 hw1 h01 f_2_0_0 q_2)⟩⟩, hS.F ht⟩) hS.2.2 dX8_sell_24
    · subst h_2
      have q_2 : ¬ (a0 < 1 ∨ 999 < a0) := fun q_ => f_2_1_0 ((in32 (x := a0) (l := 1) (u := 999) (by decide) (by decide)).mpr q_)
      obtain ⟨j_2, hj_2, hl_2, rfl⟩ := in64 (lo := 1) (n := 999) rfl rfl (by decide) f_2_1_0
      refine lv_if_ne (tgt := 25) hx hb dX8_sell_19 (by decide) (fun _ => ?_) (fun c_ => absurd c_ (by decide))
      refine lv_aload_n hx hb dX8_sell_25 rfl (lv_at hl 0 rfl) ?_
      refine va_get (D := (dC, dI)) (ci := 8) (v := .ref m_st) (C := RX8) (T := TX8) (N := 24) hx hb hts i_X8_sell_X8 hown hK hP 0 rfl rfl 5 (by decide) (hts _ mx_X8_sell_5) (fun _ h9 => h9) rfl dX8_sell_26 ?_
      refine lv_bipush (v := 7) hx hb dX8_sell_29 (by decide) ?_
      refine va_iald hx hb hK hP 1 0 rfl rfl (by unfold vp_in; decide) dX8_sell_31 ?_
      refine lv_topi (fun v_5 e_5 => ?_)
      have e_5 : v_5 = fs 7 := e_5
      refine lv_iload_n hx hb dX8_sell_32 rfl (lv_at hl 1 rfl) ?_
      refine lv_icmp_ge (tgt := 39) hx hb dX8_sell_33 (by decide) (fun c_6 => ?_) (fun c_6 => ?_)
      · skip
        refine lv_aload_n hx hb dX8_sell_39 rfl (lv_at hl 0 rfl) ?_
        have hc_7 := cutW (wc := [(xo_8_rrriirrriiiiiiirrirrrrri mo m_la m_sz m_it ms mt m_st m_mv m_tp (nI mz) ml (nI mp) mk mv mb mw m_rd m_ac (nI ma) m_as m_wo m_ik m_ke m_tr (nI mx)), (xI m_st cI 38 fs), (xI m_ac cI 912 fc)]) hP hD hS hA [0, 1, 2] (by decide +kernel) rfl
        refine va_callv (va_runV (As := []) (rest := []) ⟨hx, hb, hml, hown, hts⟩ (r_X8_note l dC dI cI cZ cL cJ s.heap.size mo m_la m_sz m_it m_st m_mv m_tp m_rd m_ac m_as m_wo m_ik m_ke m_tr ms mt ml mk mv mb mw mz mp ma mx fs fc (hac) (by omega) (⟨w9, k9, h9, hM, hkn1, by omega⟩)) (cwV 0 hts gX8_sell_X8_note rfl rfl rfl (by decide +kernel) ⟨Nat.le_of_ble_eq_true rfl, Nat.le_of_ble_eq_true rfl⟩) (pvW 8 0 hK hP rfl rfl hc_7) rfl rfl hl.1 rfl (lv_room (Nat.le_of_ble_eq_true rfl)) dX8_sell_40 ⟨Nat.le_of_ble_eq_true rfl, Nat.le_of_ble_eq_true rfl⟩) hS (fun q _ h => hc_7.2.2 q h) hc_7.2.2 (fun u_7 t_7 H1 locs ht hvm h_7 hB hz1 hk1 hS => ?_)
        refine xl_2_7 hB (fun fcn_7 man_7 hP1 hD1 hF_7_0 hF_7_1 hF_7_2 hF_7_3 hF_7_4 => ?_)
        clear hB
        rw [ht] at hP1
        obtain ⟨hP, hD⟩ := va_join (wr := []) (w1 := [(xo_8_rrriirrriiiiiiirrirrrrri mo m_la m_sz m_it ms mt m_st m_mv m_tp (nI mz) ml (nI mp) mk mv mb mw m_rd m_ac (nI man_7) m_as m_wo m_ik m_ke m_tr (nI mx)), (xI m_st cI 38 fs), (xI m_ac cI 912 fcn_7)]) hP hD [0, 1, 2] [] rfl rfl (by decide +kernel) (by decide +kernel) hk1 hc_7.2.2 hP1 hD1
        generalize H1 = H at hP hS ⊢
        have hP : va_P (dC, dI) vwCl [(xo_8_rrriirrriiiiiiirrirrrrri mo m_la m_sz m_it ms mt m_st m_mv m_tp (nI mz) ml (nI mp) mk mv mb mw m_rd m_ac (nI man_7) m_as m_wo m_ik m_ke m_tr (nI mx)), (xI m_st cI 38 fs), (xI m_ac cI 912 fcn_7)] H := hP
        have hD := dto hP hD
        refine lv_aload_n hx hb dX8_sell_43 rfl (lv_at hl 0 rfl) ?_
        refine va_get (D := (dC, dI)) (ci := 8) (v := .ref m_st) (C := RX8) (T := TX8) (N := 24) hx hb hts i_X8_sell_X8 hown hK hP 0 rfl rfl 5 (by decide) (hts _ mx_X8_sell_5) (fun _ h9 => h9) rfl dX8_sell_44 ?_
        refine lv_bipush (v := 7) hx hb dX8_sell_47 (by decide) ?_
        refine lv_dup2_11 hx hb dX8_sell_49 rfl rfl ?_
        refine va_iald hx hb hK hP 1 0 rfl rfl (by unfold vp_in; decide) dX8_sell_50 ?_
        refine lv_topi (fun v_8 e_8 => ?_)
        have e_8 : v_8 = fs 7 := e_8
        refine lv_iload_n hx hb dX8_sell_51 rfl (lv_at hl 1 rfl) ?_
        refine lv_isub hx hb dX8_sell_52 ?_
        refine lv_topi (fun v_9 e_9 => ?_)
        refine va_iast hx hb hK hP hD hS 1 0 rfl rfl (by unfold vp_in; decide) dX8_sell_53 (fun H locs hP hD hS => ?_)
        generalize hg_10 : upd fs (7 : Int32).toNatClampNeg v_9 = g_10 at hP hD
        have hu_10 : g_10 = upd fs 7 v_9 := hg_10.symm
        have hM_10 : okM g_10 w9 k9 h9 := okM_off (i := 7) hM hg_10 (by omega) (by omega) (by omega) (by omega) (by omega)
        have hP : va_P (dC, dI) vwCl [(xo_8_rrriirrriiiiiiirrirrrrri mo m_la m_sz m_it ms mt m_st m_mv m_tp (nI mz) ml (nI mp) mk mv mb mw m_rd m_ac (nI man_7) m_as m_wo m_ik m_ke m_tr (nI mx)), (xI m_st cI 38 g_10), (xI m_ac cI 912 fcn_7)] H := hP
        have hD := dto hP hD
        refine lv_aload_n hx hb dX8_sell_54 rfl (lv_at hl 0 rfl) ?_
        refine va_get (D := (dC, dI)) (ci := 8) (v := .ref m_st) (C := RX8) (T := TX8) (N := 24) hx hb hts i_X8_sell_X8 hown hK hP 0 rfl rfl 5 (by decide) (hts _ mx_X8_sell_5) (fun _ h9 => h9) rfl dX8_sell_55 ?_
        refine lv_bipush (v := 7) hx hb dX8_sell_58 (by decide) ?_
        refine va_iald hx hb hK hP 1 0 rfl rfl (by unfold vp_in; decide) dX8_sell_60 ?_
        refine lv_topi (fun v_11 e_11 => ?_)
        have e_11 : v_11 = g_10 7 := e_11
        have hX9 := cut2 (wc := [(xo_8_rrriirrriiiiiiirrirrrrri mo m_la m_sz m_it ms mt m_st m_mv m_tp (nI mz) ml (nI mp) mk mv mb mw m_rd m_ac (nI man_7) m_as m_wo m_ik m_ke m_tr (nI mx)), (xI m_st cI 38 g_10), (xI m_ac cI 912 fcn_7)]) hP hD [0, 1, 2] (by decide +kernel) rfl
        exact W.iret (v := v_11) hx hb hr (fun t ht hW => ⟨⟨v_11, (), rfl, (lf_X8_sell_10 hM hT h999 hT0 hac hma c_1 hkn1 hw1 h01 f_2_1_0 q_2 hj_2 e_5 c_6 hF_7_0 hF_7_1 hF_7_2 hF_7_3 hF_7_4 e_8 e_9 hu_10 e_11), ⟨g_10, fcn_7, man_7, w9, k9, h9, va_Ht ht hX9.1, hX9.2, hM_10, hT, (by omega), hF_7_0, (by omega), (lf_X8_sell_6 hM hT h999 hT0 hac hma c_1 hkn1 hw1 h01 f_2_1_0 q_2 hj_2 e_5 c_6 hF_7_0 hF_7_1 hF_7_2 hF_7_3 hF_7_4 e_8 e_9 hu_10 e_11), (lf_X8_sell_7 hM hT h999 hT0 hac hma c_1 hkn1 hw1 h01 f_2_1_0 q_2 hj_2 e_5 c_6 hF_7_0 hF_7_1 hF_7_2 hF_7_3 hF_7_4 e_8 e_9 hu_10 e_11), (lf_X8_sell_8 hM hT h999 hT0 hac hma c_1 hkn1 hw1 h01 f_2_1_0 q_2 hj_2 e_5 c_6 hF_7_0 hF_7_1 hF_7_2 hF_7_3 hF_7_4 e_8 e_9 hu_10 e_11), (lf_X8_sell_9 hM hT h999 hT0 hac hma c_1 hkn1 hw1 h01 f_2_1_0 q_2 hj_2 e_5 c_6 hF_7_0 hF_7_1 hF_7_2 hF_7_3 hF_7_4 e_8 e_9 hu_10 e_11)⟩⟩, hS.F ht⟩) hS.2.2 dX8_sell_61
      · skip
        refine lv_ldc (own := RX8) (v := (-1000002)) hx hb hown (hts _ mx_X8_sell_2) dX8_sell_36 ?_
        have hX9 := cut2 (wc := [(xo_8_rrriirrriiiiiiirrirrrrri mo m_la m_sz m_it ms mt m_st m_mv m_tp (nI mz) ml (nI mp) mk mv mb mw m_rd m_ac (nI ma) m_as m_wo m_ik m_ke m_tr (nI mx)), (xI m_st cI 38 fs), (xI m_ac cI 912 fc)]) hP hD [0, 1, 2] (by decide +kernel) rfl
        exact W.iret (v := (-1000002)) hx hb hr (fun t ht hW => ⟨⟨(-1000002), (), rfl, (lf_X8_sell_15 hM hT h999 hT0 hac hma c_1 hkn1 hw1 h01 f_2_1_0 q_2 hj_2 e_5 c_6), ⟨fs, fc, ma, w9, k9, h9, va_Ht ht hX9.1, hX9.2, hM, hT, (by omega), hac, (by omega), (lf_X8_sell_11 hM hT h999 hT0 hac hma c_1 hkn1 hw1 h01 f_2_1_0 q_2 hj_2 e_5 c_6), (lf_X8_sell_12 hM hT h999 hT0 hac hma c_1 hkn1 hw1 h01 f_2_1_0 q_2 hj_2 e_5 c_6), (lf_X8_sell_13 hM hT h999 hT0 hac hma c_1 hkn1 hw1 h01 f_2_1_0 q_2 hj_2 e_5 c_6), (lf_X8_sell_14 hM hT h999 hT0 hac hma c_1 hkn1 hw1 h01 f_2_1_0 q_2 hj_2 e_5 c_6)⟩⟩, hS.F ht⟩) hS.2.2 dX8_sell_38
  · skip
    have h00 : fs 0 = 0 := (hT0 c_1).1
    refine lv_ldc (own := RX8) (v := (-1000002)) hx hb hown (hts _ mx_X8_sell_2) dX8_sell_7 ?_
    have hX9 := cut2 (wc := [(xo_8_rrriirrriiiiiiirrirrrrri mo m_la m_sz m_it ms mt m_st m_mv m_tp (nI mz) ml (nI mp) mk mv mb mw m_rd m_ac (nI ma) m_as m_wo m_ik m_ke m_tr (nI mx)), (xI m_st cI 38 fs), (xI m_ac cI 912 fc)]) hP hD [0, 1, 2] (by decide +kernel) rfl
    exact W.iret (v := (-1000002)) hx hb hr (fun t ht hW => ⟨⟨(-1000002), (), rfl, (lf_X8_sell_20 hM hT h999 hT0 hac hma c_1 h00), ⟨fs, fc, ma, w9, k9, h9, va_Ht ht hX9.1, hX9.2, hM, hT, (by omega), hac, (by omega), (lf_X8_sell_16 hM hT h999 hT0 hac hma c_1 h00), (lf_X8_sell_17 hM hT h999 hT0 hac hma c_1 h00), (lf_X8_sell_18 hM hT h999 hT0 hac hma c_1 h00), (lf_X8_sell_19 hM hT h999 hT0 hac hma c_1 h00)⟩⟩, hS.F ht⟩) hS.2.2 dX8_sell_9
theorem lf_X8_undo_1 {mt : Int32} {ma : Nat} {fs : Nat → Int32} {w9 : Nat} {k9 : Nat} {h9 : Nat} {fc : Nat → Int32} {w_8 : Nat → Int32} (hM : okM fs w9 k9 h9) (hT : ¬ mt = 0 → 1 ≤ k9) (h999 : h9 ≤ 999) (hT0 : mt = 0 → fs 0 = 0 ∧ ma = 0) (hac : okA fc ma) (hma : ma ≤ 24) (c_1 : ¬ (ma = 0)) (haf_0 : (∀ j : Nat, j < 38 → w_8 j = fc (38 * (ma - 1) + j))) : (mt = 0 → w_8 0 = 0 ∧ (ma - 1) = 0) := by
  first
  | exact hT0
  | (intro h_; have h9 := (hT0 h_).2; omega)
  | omega
  | exact acM_take
  | (unfold a_undo; grind)
  | (unfold n_undo; rw [if_neg (by omega)]; exact acM_top (by omega) haf_0)
  | (unfold n_undo; rw [if_pos (by omega)])
  | (subst c_1; exact acM_take (f := fc) (n := 0))
theorem lf_X8_undo_2 {mt : Int32} {ma : Nat} {fs : Nat → Int32} {w9 : Nat} {k9 : Nat} {h9 : Nat} {fc : Nat → Int32} {w_8 : Nat → Int32} (hM : okM fs w9 k9 h9) (hT : ¬ mt = 0 → 1 ≤ k9) (h999 : h9 ≤ 999) (hT0 : mt = 0 → fs 0 = 0 ∧ ma = 0) (hac : okA fc ma) (hma : ma ≤ 24) (c_1 : ¬ (ma = 0)) (haf_0 : (∀ j : Nat, j < 38 → w_8 j = fc (38 * (ma - 1) + j))) : m38 w_8 = n_undo (m38 fs) ma (acM fc ma) := by
  first
  | exact hT0
  | (intro h_; have h9 := (hT0 h_).2; omega)
  | omega
  | exact acM_take
  | (unfold a_undo; grind)
  | (unfold n_undo; rw [if_neg (by omega)]; exact acM_top (by omega) haf_0)
  | (unfold n_undo; rw [if_pos (by omega)])
  | (subst c_1; exact acM_take (f := fc) (n := 0))
theorem lf_X8_undo_3 {mt : Int32} {ma : Nat} {fs : Nat → Int32} {w9 : Nat} {k9 : Nat} {h9 : Nat} {fc : Nat → Int32} {w_8 : Nat → Int32} (hM : okM fs w9 k9 h9) (hT : ¬ mt = 0 → 1 ≤ k9) (h999 : h9 ≤ 999) (hT0 : mt = 0 → fs 0 = 0 ∧ ma = 0) (hac : okA fc ma) (hma : ma ≤ 24) (c_1 : ¬ (ma = 0)) (haf_0 : (∀ j : Nat, j < 38 → w_8 j = fc (38 * (ma - 1) + j))) : (ma - 1) = ma - 1 := by
  first
  | exact hT0
  | (intro h_; have h9 := (hT0 h_).2; omega)
  | omega
  | exact acM_take
  | (unfold a_undo; grind)
  | (unfold n_undo; rw [if_neg (by omega)]; exact acM_top (by omega) haf_0)
  | (unfold n_undo; rw [if_pos (by omega)])
  | (subst c_1; exact acM_take (f := fc) (n := 0))
theorem lf_X8_undo_4 {mt : Int32} {ma : Nat} {fs : Nat → Int32} {w9 : Nat} {k9 : Nat} {h9 : Nat} {fc : Nat → Int32} {w_8 : Nat → Int32} (hM : okM fs w9 k9 h9) (hT : ¬ mt = 0 → 1 ≤ k9) (h999 : h9 ≤ 999) (hT0 : mt = 0 → fs 0 = 0 ∧ ma = 0) (hac : okA fc ma) (hma : ma ≤ 24) (c_1 : ¬ (ma = 0)) (haf_0 : (∀ j : Nat, j < 38 → w_8 j = fc (38 * (ma - 1) + j))) : acM fc (ma - 1) = dpA ma (acM fc ma) := by
  first
  | exact hT0
  | (intro h_; have h9 := (hT0 h_).2; omega)
  | omega
  | exact acM_take
  | (unfold a_undo; grind)
  | (unfold n_undo; rw [if_neg (by omega)]; exact acM_top (by omega) haf_0)
  | (unfold n_undo; rw [if_pos (by omega)])
  | (subst c_1; exact acM_take (f := fc) (n := 0))
theorem lf_X8_undo_5 {mt : Int32} {ma : Nat} {fs : Nat → Int32} {w9 : Nat} {k9 : Nat} {h9 : Nat} {fc : Nat → Int32} {w_8 : Nat → Int32} (hM : okM fs w9 k9 h9) (hT : ¬ mt = 0 → 1 ≤ k9) (h999 : h9 ≤ 999) (hT0 : mt = 0 → fs 0 = 0 ∧ ma = 0) (hac : okA fc ma) (hma : ma ≤ 24) (c_1 : ¬ (ma = 0)) (haf_0 : (∀ j : Nat, j < 38 → w_8 j = fc (38 * (ma - 1) + j))) : (nI (ma - 1)) = (a_undo ma) := by
  first
  | exact hT0
  | (intro h_; have h9 := (hT0 h_).2; omega)
  | omega
  | exact acM_take
  | (unfold a_undo; grind)
  | (unfold n_undo; rw [if_neg (by omega)]; exact acM_top (by omega) haf_0)
  | (unfold n_undo; rw [if_pos (by omega)])
  | (subst c_1; exact acM_take (f := fc) (n := 0))
theorem lf_X8_undo_6 {mt : Int32} {ma : Nat} {fs : Nat → Int32} {w9 : Nat} {k9 : Nat} {h9 : Nat} {fc : Nat → Int32} (hM : okM fs w9 k9 h9) (hT : ¬ mt = 0 → 1 ≤ k9) (h999 : h9 ≤ 999) (hT0 : mt = 0 → fs 0 = 0 ∧ ma = 0) (hac : okA fc ma) (hma : ma ≤ 24) (c_1 : ma = 0) : (mt = 0 → fs 0 = 0 ∧ ma = 0) := by
  first
  | exact hT0
  | (intro h_; have h9 := (hT0 h_).2; omega)
  | omega
  | exact acM_take
  | (unfold a_undo; grind)
  | (unfold n_undo; rw [if_pos (by omega)])
  | (subst c_1; exact acM_take (f := fc) (n := 0))
theorem lf_X8_undo_7 {mt : Int32} {ma : Nat} {fs : Nat → Int32} {w9 : Nat} {k9 : Nat} {h9 : Nat} {fc : Nat → Int32} (hM : okM fs w9 k9 h9) (hT : ¬ mt = 0 → 1 ≤ k9) (h999 : h9 ≤ 999) (hT0 : mt = 0 → fs 0 = 0 ∧ ma = 0) (hac : okA fc ma) (hma : ma ≤ 24) (c_1 : ma = 0) : m38 fs = n_undo (m38 fs) ma (acM fc ma) := by
  first
  | exact hT0
  | (intro h_; have h9 := (hT0 h_).2; omega)
  | omega
  | exact acM_take
  | (unfold a_undo; grind)
  | (unfold n_undo; rw [if_pos (by omega)])
  | (subst c_1; exact acM_take (f := fc) (n := 0))
theorem lf_X8_undo_8 {mt : Int32} {ma : Nat} {fs : Nat → Int32} {w9 : Nat} {k9 : Nat} {h9 : Nat} {fc : Nat → Int32} (hM : okM fs w9 k9 h9) (hT : ¬ mt = 0 → 1 ≤ k9) (h999 : h9 ≤ 999) (hT0 : mt = 0 → fs 0 = 0 ∧ ma = 0) (hac : okA fc ma) (hma : ma ≤ 24) (c_1 : ma = 0) : ma = ma - 1 := by
  first
  | exact hT0
  | (intro h_; have h9 := (hT0 h_).2; omega)
  | omega
  | exact acM_take
  | (unfold a_undo; grind)
  | (unfold n_undo; rw [if_pos (by omega)])
  | (subst c_1; exact acM_take (f := fc) (n := 0))
theorem lf_X8_undo_9 {mt : Int32} {ma : Nat} {fs : Nat → Int32} {w9 : Nat} {k9 : Nat} {h9 : Nat} {fc : Nat → Int32} (hM : okM fs w9 k9 h9) (hT : ¬ mt = 0 → 1 ≤ k9) (h999 : h9 ≤ 999) (hT0 : mt = 0 → fs 0 = 0 ∧ ma = 0) (hac : okA fc ma) (hma : ma ≤ 24) (c_1 : ma = 0) : acM fc ma = dpA ma (acM fc ma) := by
  first
  | exact hT0
  | (intro h_; have h9 := (hT0 h_).2; omega)
  | omega
  | exact acM_take
  | (unfold a_undo; grind)
  | (unfold n_undo; rw [if_pos (by omega)])
  | (subst c_1; exact acM_take (f := fc) (n := 0))
theorem lf_X8_undo_10 {mt : Int32} {ma : Nat} {fs : Nat → Int32} {w9 : Nat} {k9 : Nat} {h9 : Nat} {fc : Nat → Int32} (hM : okM fs w9 k9 h9) (hT : ¬ mt = 0 → 1 ≤ k9) (h999 : h9 ≤ 999) (hT0 : mt = 0 → fs 0 = 0 ∧ ma = 0) (hac : okA fc ma) (hma : ma ≤ 24) (c_1 : ma = 0) : (-1000002) = (a_undo ma) := by
  first
  | exact hT0
  | (intro h_; have h9 := (hT0 h_).2; omega)
  | omega
  | exact acM_take
  | (unfold a_undo; grind)
  | (unfold n_undo; rw [if_pos (by omega)])
  | (subst c_1; exact acM_take (f := fc) (n := 0))
set_option maxHeartbeats 4000000 in
set_option maxRecDepth 100000 in
theorem r_X8_undo (l : Launch) (dC : Nat → ClassId) (dI : Nat → Nat → Nat) (cI cZ cL cJ : ClassId) (sz : Nat) (mo : Nat) (m_la : Nat) (m_sz : Nat) (m_it : Nat) (m_st : Nat) (m_mv : Nat) (m_tp : Nat) (m_rd : Nat) (m_ac : Nat) (m_as : Nat) (m_wo : Nat) (m_ik : Nat) (m_ke : Nat) (m_tr : Nat) (ms : Int32) (mt : Int32) (ml : Int32) (mk : Int32) (mv : Int32) (mb : Int32) (mw : Int32) (mz : Nat) (mp : Nat) (ma : Nat) (mx : Nat) (fs : Nat → Int32) (w9 : Nat) (k9 : Nat) (h9 : Nat) (fc : Nat → Int32) (hM : okM fs w9 k9 h9) (hT : ¬ mt = 0 → 1 ≤ k9) (h999 : h9 ≤ 999) (hT0 : mt = 0 → fs 0 = 0 ∧ ma = 0) (hac : okA fc ma) (hma : ma ≤ 24) : Met l yX8_undo wsX8_undo ({ frames := 0, cells := 0, slots := 0, locals := 0 }) (va_Pc [.ref mo] (fun U => U.heap.size = sz ∧ va_P (dC, dI) vwCl [(xo_8_rrriirrriiiiiiirrirrrrri mo m_la m_sz m_it ms mt m_st m_mv m_tp (nI mz) ml (nI mp) mk mv mb mw m_rd m_ac (nI ma) m_as m_wo m_ik m_ke m_tr (nI mx)), (xI m_st cI 38 fs), (xI m_ac cI 912 fc)] U.heap ∧ va_K (dC, dI) vwCl [(cI, .int), (cZ, .boolean), (cL, .object RX3), (cJ, .array .int)] U ∧ va_D (fun _ => True) [(xo_8_rrriirrriiiiiiirrirrrrri mo m_la m_sz m_it ms mt m_st m_mv m_tp (nI mz) ml (nI mp) mk mv mb mw m_rd m_ac (nI ma) m_as m_wo m_ik m_ke m_tr (nI mx)), (xI m_st cI 38 fs), (xI m_ac cI 912 fc)])) (va_Qi (fun r (_ : Unit) => r = (a_undo ma)) (fun (_ : Unit) t => ∃ (fsn : Nat → Int32) (fcn : Nat → Int32) (man : Nat) (w9n : Nat) (k9n : Nat) (h9n : Nat), va_P (dC, dI) vwCl [(xo_8_rrriirrriiiiiiirrirrrrri mo m_la m_sz m_it ms mt m_st m_mv m_tp (nI mz) ml (nI mp) mk mv mb mw m_rd m_ac (nI man) m_as m_wo m_ik m_ke m_tr (nI mx)), (xI m_st cI 38 fsn), (xI m_ac cI 912 fcn)] t.heap ∧ va_D (va_A [(xo_8_rrriirrriiiiiiirrirrrrri mo m_la m_sz m_it ms mt m_st m_mv m_tp (nI mz) ml (nI mp) mk mv mb mw m_rd m_ac (nI ma) m_as m_wo m_ik m_ke m_tr (nI mx)), (xI m_st cI 38 fs), (xI m_ac cI 912 fc)] sz) [(xo_8_rrriirrriiiiiiirrirrrrri mo m_la m_sz m_it ms mt m_st m_mv m_tp (nI mz) ml (nI mp) mk mv mb mw m_rd m_ac (nI man) m_as m_wo m_ik m_ke m_tr (nI mx)), (xI m_st cI 38 fsn), (xI m_ac cI 912 fcn)] ∧ okM fsn w9n k9n h9n ∧ (¬ mt = 0 → 1 ≤ k9n) ∧ h9n ≤ 999 ∧ okA fcn man ∧ man ≤ 24 ∧ (mt = 0 → fsn 0 = 0 ∧ man = 0) ∧ m38 fsn = n_undo (m38 fs) ma (acM fc ma) ∧ man = ma - 1 ∧ acM fcn man = dpA ma (acM fc ma)) (va_A [(xo_8_rrriirrriiiiiiirrirrrrri mo m_la m_sz m_it ms mt m_st m_mv m_tp (nI mz) ml (nI mp) mk mv mb mw m_rd m_ac (nI ma) m_as m_wo m_ik m_ke m_tr (nI mx)), (xI m_st cI 38 fs), (xI m_ac cI 912 fc)] sz)) 0 0 (va_A [(xo_8_rrriirrriiiiiiirrirrrrri mo m_la m_sz m_it ms mt m_st m_mv m_tp (nI mz) ml (nI mp) mk mv mb mw m_rd m_ac (nI ma) m_as m_wo m_ik m_ke m_tr (nI mx)), (xI m_st cI 38 fs), (xI m_ac cI 912 fc)] sz) := by
  refine Met.ofW (cc := cX8_undo) (maxL := 2) (ret := (some .int)) (by decide) rfl ?_
  intro p e s m args below meth c s₁ B hml hv
  obtain ⟨rfl, hsz, hP, hK, hD0⟩ := hv
  have hx := B.exec
  have hb := B.bytes
  have hr := B.returns
  have hts := atoms_spec (ws := wsX8_undo) B.pre
  have hown : s.vm.findClass RX8 = some m.cls := findClass_of_methodNamed B.named
  have hlocks := B.notSynchronized
  subst hsz
  have hD := hD0.self (sz := s.heap.size)
  generalize hAe : va_A [(xo_8_rrriirrriiiiiiirrirrrrri mo m_la m_sz m_it ms mt m_st m_mv m_tp (nI mz) ml (nI mp) mk mv mb mw m_rd m_ac (nI ma) m_as m_wo m_ik m_ke m_tr (nI mx)), (xI m_st cI 38 fs), (xI m_ac cI 912 fc)] s.heap.size = A at hD ⊢
  have hA : ∀ q : Nat, s.heap.size ≤ q → A q := fun q h => by rw [← hAe]; exact Or.inr h
  have hS : va_S A s.heap s.heap [] := va_S.rf
  have hP : va_P (dC, dI) vwCl [(xo_8_rrriirrriiiiiiirrirrrrri mo m_la m_sz m_it ms mt m_st m_mv m_tp (nI mz) ml (nI mp) mk mv mb mw m_rd m_ac (nI ma) m_as m_wo m_ik m_ke m_tr (nI mx)), (xI m_st cI 38 fs), (xI m_ac cI 912 fc)] s.heap := hP
  have hl := lv_entry ([.ref mo]) (n := 2) (Nat.le_of_ble_eq_true rfl)
  rw [lg_entry_eq]
  generalize (lg_sl ([.ref mo]) ++ List.replicate (2 - (lg_sl ([.ref mo])).length) Slot.unset).toArray = ls at hl ⊢
  have hl : lv_has ls 2 [(0, .ref mo)] := hl
  have hk6 := hM.2.2.2.2.1
  have hw6 := hM.2.2.2.1
  refine lv_aload_n hx hb dX8_undo_0 rfl (lv_at hl 0 rfl) ?_
  refine va_get (D := (dC, dI)) (ci := 8) (v := .int (nI ma)) (C := RX8) (T := TX8) (N := 24) hx hb hts i_X8_undo_X8 hown hK hP 0 rfl rfl 17 (by decide) (hts _ mx_X8_undo_1) (fun _ h9 => h9) rfl dX8_undo_1 ?_
  refine lv_if_ne (tgt := 10) hx hb dX8_undo_4 (by decide) (fun c_1 => ?_) (fun c_1 => ?_)
  · have c_1 : ¬ (ma = 0) := fun q_ => c_1 ((nI_eq (a := ma) (b := 0) (by omega) (by omega)).mpr q_)
    refine lv_aload_n hx hb dX8_undo_10 rfl (lv_at hl 0 rfl) ?_
    refine lv_dup hx hb dX8_undo_11 rfl ?_
    refine va_get (D := (dC, dI)) (ci := 8) (v := .int (nI ma)) (C := RX8) (T := TX8) (N := 24) hx hb hts i_X8_undo_X8 hown hK hP 0 rfl rfl 17 (by decide) (hts _ mx_X8_undo_1) (fun _ h9 => h9) rfl dX8_undo_12 ?_
    refine lv_iconst (v := 1) hx hb dX8_undo_15 (by decide) ?_
    refine lv_isub hx hb dX8_undo_16 ?_
    refine lv_topi (fun v_2 e_2 => ?_)
    obtain rfl : v_2 = (nI (ma - 1)) := (e_2).trans (pk_sub (a := ma) (b := 1) (by omega))
    refine va_put (D := (dC, dI)) (ci := 8) (v := .int (nI (ma - 1))) (ty := .int) (C := RX8) (T := TX8) (N := 24) hx hb hts i_X8_undo_X8 tyX8 tyX8_ok nmX8 hown hK hP hD hS 0 rfl rfl 17 (by decide) (hts _ mx_X8_undo_1) (fun _ h9 => h9) rfl (by decide +kernel) rfl rfl (Nat.le_of_ble_eq_true rfl) dX8_undo_17 (fun H locs hP hD hS => ?_)
    have hP : va_P (dC, dI) vwCl [(xo_8_rrriirrriiiiiiirrirrrrri mo m_la m_sz m_it ms mt m_st m_mv m_tp (nI mz) ml (nI mp) mk mv mb mw m_rd m_ac (nI (ma - 1)) m_as m_wo m_ik m_ke m_tr (nI mx)), (xI m_st cI 38 fs), (xI m_ac cI 912 fc)] H := hP
    have hD := dto hP hD
    refine lv_iconst (v := 0) hx hb dX8_undo_20 (by decide) ?_
    refine lv_istore_n (lv' := [(1, .int 0), (0, .ref mo)]) hx hb dX8_undo_21 rfl hl (by decide) rfl (fun ls hl => ?_)
    refine lp_go (σ := (Nat → Int32)) (fun ii (st : (Nat → Int32)) H locs ls => match st with | w_8 => lv_has ls 2 [(1, .int (nI ii)), (0, .ref mo)] ∧ va_P (dC, dI) vwCl [(xo_8_rrriirrriiiiiiirrirrrrri mo m_la m_sz m_it ms mt m_st m_mv m_tp (nI mz) ml (nI mp) mk mv mb mw m_rd m_ac (nI (ma - 1)) m_as m_wo m_ik m_ke m_tr (nI mx)), (xI m_st cI 38 w_8), (xI m_ac cI 912 fc)] H ∧ va_D A [(xo_8_rrriirrriiiiiiirrirrrrri mo m_la m_sz m_it ms mt m_st m_mv m_tp (nI mz) ml (nI mp) mk mv mb mw m_rd m_ac (nI (ma - 1)) m_as m_wo m_ik m_ke m_tr (nI mx)), (xI m_st cI 38 w_8), (xI m_ac cI 912 fc)] ∧ va_S A s.heap H locs ∧ (∀ j : Nat, j < ii → w_8 j = fc (38 * (ma - 1) + j))) 38 ?_ ?_ 0 (by omega) (fs) ⟨lv_sub hl [0, 1] rfl, hP.sub (ws' := [(xo_8_rrriirrriiiiiiirrirrrrri mo m_la m_sz m_it ms mt m_st m_mv m_tp (nI mz) ml (nI mp) mk mv mb mw m_rd m_ac (nI (ma - 1)) m_as m_wo m_ik m_ke m_tr (nI mx)), (xI m_st cI 38 fs), (xI m_ac cI 912 fc)]) [0, 1, 2] rfl, hD.sub (ws' := [(xo_8_rrriirrriiiiiiirrirrrrri mo m_la m_sz m_it ms mt m_st m_mv m_tp (nI mz) ml (nI mp) mk mv mb mw m_rd m_ac (nI (ma - 1)) m_as m_wo m_ik m_ke m_tr (nI mx)), (xI m_st cI 38 fs), (xI m_ac cI 912 fc)]) [0, 1, 2] (by decide +kernel) rfl, hS, (fun j h_ => absurd h_ (Nat.not_lt_zero j))⟩
    · rintro ii w_8 H locs ls hii ⟨hl, hP, hD, hS, haf_0⟩ ih
      refine lv_iload_n hx hb dX8_undo_22 rfl (lv_at hl 0 rfl) ?_
      refine lv_bipush (v := 38) hx hb dX8_undo_23 (by decide) ?_
      refine lv_icmp_ge (tgt := 54) hx hb dX8_undo_25 (by decide) (fun c_ => absurd c_ (fun q_ => absurd ((nI_leI (a := 38) (b := ii) (by omega) (by omega)).mp q_) (by omega))) (fun _ => ?_)
      refine lv_aload_n hx hb dX8_undo_28 rfl (lv_at hl 1 rfl) ?_
      refine va_get (D := (dC, dI)) (ci := 8) (v := .ref m_st) (C := RX8) (T := TX8) (N := 24) hx hb hts i_X8_undo_X8 hown hK hP 0 rfl rfl 5 (by decide) (hts _ mx_X8_undo_3) (fun _ h9 => h9) rfl dX8_undo_29 ?_
      refine lv_iload_n hx hb dX8_undo_32 rfl (lv_at hl 0 rfl) ?_
      refine lv_aload_n hx hb dX8_undo_33 rfl (lv_at hl 1 rfl) ?_
      refine va_get (D := (dC, dI)) (ci := 8) (v := .ref m_ac) (C := RX8) (T := TX8) (N := 24) hx hb hts i_X8_undo_X8 hown hK hP 0 rfl rfl 16 (by decide) (hts _ mx_X8_undo_4) (fun _ h9 => h9) rfl dX8_undo_34 ?_
      refine lv_bipush (v := 38) hx hb dX8_undo_37 (by decide) ?_
      refine lv_aload_n hx hb dX8_undo_39 rfl (lv_at hl 1 rfl) ?_
      refine va_get (D := (dC, dI)) (ci := 8) (v := .int (nI (ma - 1))) (C := RX8) (T := TX8) (N := 24) hx hb hts i_X8_undo_X8 hown hK hP 0 rfl rfl 17 (by decide) (hts _ mx_X8_undo_1) (fun _ h9 => h9) rfl dX8_undo_40 ?_
      refine lv_imul hx hb dX8_undo_43 ?_
      refine lv_topi (fun v_16 e_16 => ?_)
      obtain rfl : v_16 = (nI (38 * (ma - 1))) := (e_16).trans (pk_mul 38 (ma - 1))
      refine lv_iload_n hx hb dX8_undo_44 rfl (lv_at hl 0 rfl) ?_
      refine lv_iadd hx hb dX8_undo_45 ?_
      refine lv_topi (fun v_17 e_17 => ?_)
      obtain rfl : v_17 = (nI ((38 * (ma - 1)) + ii)) := (e_17).trans (nI_add (38 * (ma - 1)) ii)
      refine va_iald hx hb hK hP 2 0 rfl rfl (vp_in_nI (by omega) (by omega)) dX8_undo_46 ?_
      refine lv_topi (fun v_18 e_18 => ?_)
      have e_18 : v_18 = fc ((38 * (ma - 1)) + ii) := e_18.trans (congrArg fc (nI_clamp (by omega)))
      refine va_iast hx hb hK hP hD hS 1 0 rfl rfl (vp_in_nI (by omega) (by omega)) dX8_undo_47 (fun H locs hP hD hS => ?_)
      generalize hg_19 : upd w_8 ((nI ii) : Int32).toNatClampNeg v_18 = g_19 at hP hD
      have hu_19 : g_19 = upd w_8 ii v_18 := (by rw [← hg_19, nI_clamp (by omega)])
      have hP : va_P (dC, dI) vwCl [(xo_8_rrriirrriiiiiiirrirrrrri mo m_la m_sz m_it ms mt m_st m_mv m_tp (nI mz) ml (nI mp) mk mv mb mw m_rd m_ac (nI (ma - 1)) m_as m_wo m_ik m_ke m_tr (nI mx)), (xI m_st cI 38 g_19), (xI m_ac cI 912 fc)] H := hP
      have hD := dto hP hD
      refine lv_iinc (v := (nI (ii + 1))) (lv' := [(1, .int (nI (ii + 1))), (0, .ref mo)]) hx hb dX8_undo_48 hl (k := 0) rfl (nI_add ii 1) (by decide) rfl (fun ls hl => ?_)
      refine lv_goto (tgt := 22) hx hb dX8_undo_51 (by decide) ?_
      exact ih (g_19) _ _ _ ⟨lv_sub hl [0, 1] rfl, hP.sub (ws' := [(xo_8_rrriirrriiiiiiirrirrrrri mo m_la m_sz m_it ms mt m_st m_mv m_tp (nI mz) ml (nI mp) mk mv mb mw m_rd m_ac (nI (ma - 1)) m_as m_wo m_ik m_ke m_tr (nI mx)), (xI m_st cI 38 g_19), (xI m_ac cI 912 fc)]) [0, 1, 2] rfl, hD.sub (ws' := [(xo_8_rrriirrriiiiiiirrirrrrri mo m_la m_sz m_it ms mt m_st m_mv m_tp (nI mz) ml (nI mp) mk mv mb mw m_rd m_ac (nI (ma - 1)) m_as m_wo m_ik m_ke m_tr (nI mx)), (xI m_st cI 38 g_19), (xI m_ac cI 912 fc)]) [0, 1, 2] (by decide +kernel) rfl, hS, (cp_s (a := 38 * (ma - 1)) haf_0 (by omega) (e_18.trans (congrArg fc (nI_clamp (by omega)).symm)) hg_19)⟩
    · rintro w_8 H locs ls ⟨hl, hP, hD, hS, haf_0⟩
      refine lv_iload_n hx hb dX8_undo_22 rfl (lv_at hl 0 rfl) ?_
      refine lv_bipush (v := 38) hx hb dX8_undo_23 (by decide) ?_
      refine lv_icmp_ge (tgt := 54) hx hb dX8_undo_25 (by decide) (fun _ => ?_) (fun c_ => absurd ((nI_leI (a := 38) (b := 38) (by omega) (by omega)).mpr (by omega)) c_)
      obtain ⟨uw, uk, uh, uM, uk1, uh9⟩ := okK_eq (hac (ma - 1) (by omega)) haf_0
      have hac2 : okA fc (ma - 1) := okA_le hac (by omega)
      refine lv_aload_n hx hb dX8_undo_54 rfl (lv_at hl 1 rfl) ?_
      refine va_get (D := (dC, dI)) (ci := 8) (v := .int (nI (ma - 1))) (C := RX8) (T := TX8) (N := 24) hx hb hts i_X8_undo_X8 hown hK hP 0 rfl rfl 17 (by decide) (hts _ mx_X8_undo_1) (fun _ h9 => h9) rfl dX8_undo_55 ?_
      have hX9 := cut2 (wc := [(xo_8_rrriirrriiiiiiirrirrrrri mo m_la m_sz m_it ms mt m_st m_mv m_tp (nI mz) ml (nI mp) mk mv mb mw m_rd m_ac (nI (ma - 1)) m_as m_wo m_ik m_ke m_tr (nI mx)), (xI m_st cI 38 w_8), (xI m_ac cI 912 fc)]) hP hD [0, 1, 2] (by decide +kernel) rfl
      exact W.iret (v := (nI (ma - 1))) hx hb hr (fun t ht hW => ⟨⟨(nI (ma - 1)), (), rfl, (lf_X8_undo_5 hM hT h999 hT0 hac hma c_1 haf_0), ⟨w_8, fc, (ma - 1), uw, uk, uh, va_Ht ht hX9.1, hX9.2, uM, (fun _ => uk1), (by omega), hac2, (by omega), (lf_X8_undo_1 hM hT h999 hT0 hac hma c_1 haf_0), (lf_X8_undo_2 hM hT h999 hT0 hac hma c_1 haf_0), (lf_X8_undo_3 hM hT h999 hT0 hac hma c_1 haf_0), (lf_X8_undo_4 hM hT h999 hT0 hac hma c_1 haf_0)⟩⟩, hS.F ht⟩) hS.2.2 dX8_undo_58
  · have c_1 : ma = 0 := (nI_eq (a := ma) (b := 0) (by omega) (by omega)).mp c_1
    refine lv_ldc (own := RX8) (v := (-1000002)) hx hb hown (hts _ mx_X8_undo_2) dX8_undo_7 ?_
    have hX9 := cut2 (wc := [(xo_8_rrriirrriiiiiiirrirrrrri mo m_la m_sz m_it ms mt m_st m_mv m_tp (nI mz) ml (nI mp) mk mv mb mw m_rd m_ac (nI ma) m_as m_wo m_ik m_ke m_tr (nI mx)), (xI m_st cI 38 fs), (xI m_ac cI 912 fc)]) hP hD [0, 1, 2] (by decide +kernel) rfl
    exact W.iret (v := (-1000002)) hx hb hr (fun t ht hW => ⟨⟨(-1000002), (), rfl, (lf_X8_undo_10 hM hT h999 hT0 hac hma c_1), ⟨fs, fc, ma, w9, k9, h9, va_Ht ht hX9.1, hX9.2, hM, hT, (by omega), hac, (by omega), (lf_X8_undo_6 hM hT h999 hT0 hac hma c_1), (lf_X8_undo_7 hM hT h999 hT0 hac hma c_1), (lf_X8_undo_8 hM hT h999 hT0 hac hma c_1), (lf_X8_undo_9 hM hT h999 hT0 hac hma c_1)⟩⟩, hS.F ht⟩) hS.2.2 dX8_undo_9
theorem lf_X8_hours_1 {mt : Int32} {ma : Nat} {fs : Nat → Int32} {w9 : Nat} {k9 : Nat} {h9 : Nat} {fc : Nat → Int32} {a0 : Int32} (hM : okM fs w9 k9 h9) (hT : ¬ mt = 0 → 1 ≤ k9) (h999 : h9 ≤ 999) (hT0 : mt = 0 → fs 0 = 0 ∧ ma = 0) (hac : okA fc ma) (hma : ma ≤ 24) (c_1 : ¬ (mt = 0)) (hkn1 : 1 ≤ k9) (hw1 : 1 ≤ w9) (h01 : ¬ fs 0 = 0) (f_2_0_0 : ((a0).toInt64 < 1 ∨ 24 < (a0).toInt64)) (q_2 : (a0 < 1 ∨ 24 < a0)) : (mt = 0 → fs 0 = 0 ∧ ma = 0) := by
  have hw6 := hM.2.2.2.1
  have hk6 := hM.2.2.2.2.1
  first
  | exact hT0
  | (intro h_; exact absurd (hT0 h_).1 h01)
  | (intro h_; have h9 := (hT0 h_).2; omega)
  | exact (hrsM_0 (r := m38 fs) (An := ma) (Ac := acM fc ma) h00).1
  | exact (hrsM_0 (r := m38 fs) (An := ma) (Ac := acM fc ma) h00).2.1
  | exact (hrsM_0 (r := m38 fs) (An := ma) (Ac := acM fc ma) h00).2.2.1
  | exact (hrsM_0 (r := m38 fs) (An := ma) (Ac := acM fc ma) h00).2.2.2
  | exact (hrsM_1 (r := m38 fs) (An := ma) (Ac := acM fc ma) h01 q_2).1
  | exact (hrsM_1 (r := m38 fs) (An := ma) (Ac := acM fc ma) h01 q_2).2.1
  | exact (hrsM_1 (r := m38 fs) (An := ma) (Ac := acM fc ma) h01 q_2).2.2.1
  | exact (hrsM_1 (r := m38 fs) (An := ma) (Ac := acM fc ma) h01 q_2).2.2.2
  | exact (hrsM_2 (r := m38 fs) (An := ma) (Ac := acM fc ma) (h := h9) (j := j_2) (fun q => q_2 (Or.inl q)) h01 hj_2 hM.2.2.1 h999 c_7).1
  | exact (hrsM_2 (r := m38 fs) (An := ma) (Ac := acM fc ma) (h := h9) (j := j_2) (fun q => q_2 (Or.inl q)) h01 hj_2 hM.2.2.1 h999 c_7).2.1
  | exact (hrsM_2 (r := m38 fs) (An := ma) (Ac := acM fc ma) (h := h9) (j := j_2) (fun q => q_2 (Or.inl q)) h01 hj_2 hM.2.2.1 h999 c_7).2.2.1
  | exact (hrsM_2 (r := m38 fs) (An := ma) (Ac := acM fc ma) (h := h9) (j := j_2) (fun q => q_2 (Or.inl q)) h01 hj_2 hM.2.2.1 h999 c_7).2.2.2
  | exact (hrs_pos (r := m38 fs) (An := ma) (Ac := acM fc ma) (h := h9) (j := j_2) (fun q => q_2 (Or.inl q)) h01 hj_2 hM.2.2.1 c_7 haf_1).1
  | exact (hrs_pos (r := m38 fs) (An := ma) (Ac := acM fc ma) (h := h9) (j := j_2) (fun q => q_2 (Or.inl q)) h01 hj_2 hM.2.2.1 c_7 haf_1).2.1
  | exact (hrs_pos (r := m38 fs) (An := ma) (Ac := acM fc ma) (h := h9) (j := j_2) (fun q => q_2 (Or.inl q)) h01 hj_2 hM.2.2.1 c_7 haf_1).2.2.1
  | exact (hrs_pos (r := m38 fs) (An := ma) (Ac := acM fc ma) (h := h9) (j := j_2) (fun q => q_2 (Or.inl q)) h01 hj_2 hM.2.2.1 c_7 haf_1).2.2.2
  | exact e_24.trans (hrs_pos (r := m38 fs) (An := ma) (Ac := acM fc ma) (h := h9) (j := j_2) (fun q => q_2 (Or.inl q)) h01 hj_2 hM.2.2.1 c_7 haf_1).2.2.2
theorem lf_X8_hours_2 {mt : Int32} {ma : Nat} {fs : Nat → Int32} {w9 : Nat} {k9 : Nat} {h9 : Nat} {fc : Nat → Int32} {a0 : Int32} (hM : okM fs w9 k9 h9) (hT : ¬ mt = 0 → 1 ≤ k9) (h999 : h9 ≤ 999) (hT0 : mt = 0 → fs 0 = 0 ∧ ma = 0) (hac : okA fc ma) (hma : ma ≤ 24) (c_1 : ¬ (mt = 0)) (hkn1 : 1 ≤ k9) (hw1 : 1 ≤ w9) (h01 : ¬ fs 0 = 0) (f_2_0_0 : ((a0).toInt64 < 1 ∨ 24 < (a0).toInt64)) (q_2 : (a0 < 1 ∨ 24 < a0)) : m38 fs = (s_hrs (m38 fs) ma (acM fc ma) a0).1 := by
  have hw6 := hM.2.2.2.1
  have hk6 := hM.2.2.2.2.1
  first
  | exact hT0
  | (intro h_; exact absurd (hT0 h_).1 h01)
  | (intro h_; have h9 := (hT0 h_).2; omega)
  | exact (hrsM_0 (r := m38 fs) (An := ma) (Ac := acM fc ma) h00).1
  | exact (hrsM_0 (r := m38 fs) (An := ma) (Ac := acM fc ma) h00).2.1
  | exact (hrsM_0 (r := m38 fs) (An := ma) (Ac := acM fc ma) h00).2.2.1
  | exact (hrsM_0 (r := m38 fs) (An := ma) (Ac := acM fc ma) h00).2.2.2
  | exact (hrsM_1 (r := m38 fs) (An := ma) (Ac := acM fc ma) h01 q_2).1
  | exact (hrsM_1 (r := m38 fs) (An := ma) (Ac := acM fc ma) h01 q_2).2.1
  | exact (hrsM_1 (r := m38 fs) (An := ma) (Ac := acM fc ma) h01 q_2).2.2.1
  | exact (hrsM_1 (r := m38 fs) (An := ma) (Ac := acM fc ma) h01 q_2).2.2.2
  | exact (hrsM_2 (r := m38 fs) (An := ma) (Ac := acM fc ma) (h := h9) (j := j_2) (fun q => q_2 (Or.inl q)) h01 hj_2 hM.2.2.1 h999 c_7).1
  | exact (hrsM_2 (r := m38 fs) (An := ma) (Ac := acM fc ma) (h := h9) (j := j_2) (fun q => q_2 (Or.inl q)) h01 hj_2 hM.2.2.1 h999 c_7).2.1
  | exact (hrsM_2 (r := m38 fs) (An := ma) (Ac := acM fc ma) (h := h9) (j := j_2) (fun q => q_2 (Or.inl q)) h01 hj_2 hM.2.2.1 h999 c_7).2.2.1
  | exact (hrsM_2 (r := m38 fs) (An := ma) (Ac := acM fc ma) (h := h9) (j := j_2) (fun q => q_2 (Or.inl q)) h01 hj_2 hM.2.2.1 h999 c_7).2.2.2
  | exact (hrs_pos (r := m38 fs) (An := ma) (Ac := acM fc ma) (h := h9) (j := j_2) (fun q => q_2 (Or.inl q)) h01 hj_2 hM.2.2.1 c_7 haf_1).1
  | exact (hrs_pos (r := m38 fs) (An := ma) (Ac := acM fc ma) (h := h9) (j := j_2) (fun q => q_2 (Or.inl q)) h01 hj_2 hM.2.2.1 c_7 haf_1).2.1
  | exact (hrs_pos (r := m38 fs) (An := ma) (Ac := acM fc ma) (h := h9) (j := j_2) (fun q => q_2 (Or.inl q)) h01 hj_2 hM.2.2.1 c_7 haf_1).2.2.1
  | exact (hrs_pos (r := m38 fs) (An := ma) (Ac := acM fc ma) (h := h9) (j := j_2) (fun q => q_2 (Or.inl q)) h01 hj_2 hM.2.2.1 c_7 haf_1).2.2.2
  | exact e_24.trans (hrs_pos (r := m38 fs) (An := ma) (Ac := acM fc ma) (h := h9) (j := j_2) (fun q => q_2 (Or.inl q)) h01 hj_2 hM.2.2.1 c_7 haf_1).2.2.2
theorem lf_X8_hours_3 {mt : Int32} {ma : Nat} {fs : Nat → Int32} {w9 : Nat} {k9 : Nat} {h9 : Nat} {fc : Nat → Int32} {a0 : Int32} (hM : okM fs w9 k9 h9) (hT : ¬ mt = 0 → 1 ≤ k9) (h999 : h9 ≤ 999) (hT0 : mt = 0 → fs 0 = 0 ∧ ma = 0) (hac : okA fc ma) (hma : ma ≤ 24) (c_1 : ¬ (mt = 0)) (hkn1 : 1 ≤ k9) (hw1 : 1 ≤ w9) (h01 : ¬ fs 0 = 0) (f_2_0_0 : ((a0).toInt64 < 1 ∨ 24 < (a0).toInt64)) (q_2 : (a0 < 1 ∨ 24 < a0)) : ma = (s_hrs (m38 fs) ma (acM fc ma) a0).2.1 := by
  have hw6 := hM.2.2.2.1
  have hk6 := hM.2.2.2.2.1
  first
  | exact hT0
  | (intro h_; exact absurd (hT0 h_).1 h01)
  | (intro h_; have h9 := (hT0 h_).2; omega)
  | exact (hrsM_0 (r := m38 fs) (An := ma) (Ac := acM fc ma) h00).1
  | exact (hrsM_0 (r := m38 fs) (An := ma) (Ac := acM fc ma) h00).2.1
  | exact (hrsM_0 (r := m38 fs) (An := ma) (Ac := acM fc ma) h00).2.2.1
  | exact (hrsM_0 (r := m38 fs) (An := ma) (Ac := acM fc ma) h00).2.2.2
  | exact (hrsM_1 (r := m38 fs) (An := ma) (Ac := acM fc ma) h01 q_2).1
  | exact (hrsM_1 (r := m38 fs) (An := ma) (Ac := acM fc ma) h01 q_2).2.1
  | exact (hrsM_1 (r := m38 fs) (An := ma) (Ac := acM fc ma) h01 q_2).2.2.1
  | exact (hrsM_1 (r := m38 fs) (An := ma) (Ac := acM fc ma) h01 q_2).2.2.2
  | exact (hrsM_2 (r := m38 fs) (An := ma) (Ac := acM fc ma) (h := h9) (j := j_2) (fun q => q_2 (Or.inl q)) h01 hj_2 hM.2.2.1 h999 c_7).1
  | exact (hrsM_2 (r := m38 fs) (An := ma) (Ac := acM fc ma) (h := h9) (j := j_2) (fun q => q_2 (Or.inl q)) h01 hj_2 hM.2.2.1 h999 c_7).2.1
  | exact (hrsM_2 (r := m38 fs) (An := ma) (Ac := acM fc ma) (h := h9) (j := j_2) (fun q => q_2 (Or.inl q)) h01 hj_2 hM.2.2.1 h999 c_7).2.2.1
  | exact (hrsM_2 (r := m38 fs) (An := ma) (Ac := acM fc ma) (h := h9) (j := j_2) (fun q => q_2 (Or.inl q)) h01 hj_2 hM.2.2.1 h999 c_7).2.2.2
  | exact (hrs_pos (r := m38 fs) (An := ma) (Ac := acM fc ma) (h := h9) (j := j_2) (fun q => q_2 (Or.inl q)) h01 hj_2 hM.2.2.1 c_7 haf_1).1
  | exact (hrs_pos (r := m38 fs) (An := ma) (Ac := acM fc ma) (h := h9) (j := j_2) (fun q => q_2 (Or.inl q)) h01 hj_2 hM.2.2.1 c_7 haf_1).2.1
  | exact (hrs_pos (r := m38 fs) (An := ma) (Ac := acM fc ma) (h := h9) (j := j_2) (fun q => q_2 (Or.inl q)) h01 hj_2 hM.2.2.1 c_7 haf_1).2.2.1
  | exact (hrs_pos (r := m38 fs) (An := ma) (Ac := acM fc ma) (h := h9) (j := j_2) (fun q => q_2 (Or.inl q)) h01 hj_2 hM.2.2.1 c_7 haf_1).2.2.2
  | exact e_24.trans (hrs_pos (r := m38 fs) (An := ma) (Ac := acM fc ma) (h := h9) (j := j_2) (fun q => q_2 (Or.inl q)) h01 hj_2 hM.2.2.1 c_7 haf_1).2.2.2
theorem lf_X8_hours_4 {mt : Int32} {ma : Nat} {fs : Nat → Int32} {w9 : Nat} {k9 : Nat} {h9 : Nat} {fc : Nat → Int32} {a0 : Int32} (hM : okM fs w9 k9 h9) (hT : ¬ mt = 0 → 1 ≤ k9) (h999 : h9 ≤ 999) (hT0 : mt = 0 → fs 0 = 0 ∧ ma = 0) (hac : okA fc ma) (hma : ma ≤ 24) (c_1 : ¬ (mt = 0)) (hkn1 : 1 ≤ k9) (hw1 : 1 ≤ w9) (h01 : ¬ fs 0 = 0) (f_2_0_0 : ((a0).toInt64 < 1 ∨ 24 < (a0).toInt64)) (q_2 : (a0 < 1 ∨ 24 < a0)) : acM fc ma = (s_hrs (m38 fs) ma (acM fc ma) a0).2.2 := by
  have hw6 := hM.2.2.2.1
  have hk6 := hM.2.2.2.2.1
  first
  | exact hT0
  | (intro h_; exact absurd (hT0 h_).1 h01)
  | (intro h_; have h9 := (hT0 h_).2; omega)
  | exact (hrsM_0 (r := m38 fs) (An := ma) (Ac := acM fc ma) h00).1
  | exact (hrsM_0 (r := m38 fs) (An := ma) (Ac := acM fc ma) h00).2.1
  | exact (hrsM_0 (r := m38 fs) (An := ma) (Ac := acM fc ma) h00).2.2.1
  | exact (hrsM_0 (r := m38 fs) (An := ma) (Ac := acM fc ma) h00).2.2.2
  | exact (hrsM_1 (r := m38 fs) (An := ma) (Ac := acM fc ma) h01 q_2).1
  | exact (hrsM_1 (r := m38 fs) (An := ma) (Ac := acM fc ma) h01 q_2).2.1
  | exact (hrsM_1 (r := m38 fs) (An := ma) (Ac := acM fc ma) h01 q_2).2.2.1
  | exact (hrsM_1 (r := m38 fs) (An := ma) (Ac := acM fc ma) h01 q_2).2.2.2
  | exact (hrsM_2 (r := m38 fs) (An := ma) (Ac := acM fc ma) (h := h9) (j := j_2) (fun q => q_2 (Or.inl q)) h01 hj_2 hM.2.2.1 h999 c_7).1
  | exact (hrsM_2 (r := m38 fs) (An := ma) (Ac := acM fc ma) (h := h9) (j := j_2) (fun q => q_2 (Or.inl q)) h01 hj_2 hM.2.2.1 h999 c_7).2.1
  | exact (hrsM_2 (r := m38 fs) (An := ma) (Ac := acM fc ma) (h := h9) (j := j_2) (fun q => q_2 (Or.inl q)) h01 hj_2 hM.2.2.1 h999 c_7).2.2.1
  | exact (hrsM_2 (r := m38 fs) (An := ma) (Ac := acM fc ma) (h := h9) (j := j_2) (fun q => q_2 (Or.inl q)) h01 hj_2 hM.2.2.1 h999 c_7).2.2.2
  | exact (hrs_pos (r := m38 fs) (An := ma) (Ac := acM fc ma) (h := h9) (j := j_2) (fun q => q_2 (Or.inl q)) h01 hj_2 hM.2.2.1 c_7 haf_1).1
  | exact (hrs_pos (r := m38 fs) (An := ma) (Ac := acM fc ma) (h := h9) (j := j_2) (fun q => q_2 (Or.inl q)) h01 hj_2 hM.2.2.1 c_7 haf_1).2.1
  | exact (hrs_pos (r := m38 fs) (An := ma) (Ac := acM fc ma) (h := h9) (j := j_2) (fun q => q_2 (Or.inl q)) h01 hj_2 hM.2.2.1 c_7 haf_1).2.2.1
  | exact (hrs_pos (r := m38 fs) (An := ma) (Ac := acM fc ma) (h := h9) (j := j_2) (fun q => q_2 (Or.inl q)) h01 hj_2 hM.2.2.1 c_7 haf_1).2.2.2
  | exact e_24.trans (hrs_pos (r := m38 fs) (An := ma) (Ac := acM fc ma) (h := h9) (j := j_2) (fun q => q_2 (Or.inl q)) h01 hj_2 hM.2.2.1 c_7 haf_1).2.2.2
theorem lf_X8_hours_5 {mt : Int32} {ma : Nat} {fs : Nat → Int32} {w9 : Nat} {k9 : Nat} {h9 : Nat} {fc : Nat → Int32} {a0 : Int32} (hM : okM fs w9 k9 h9) (hT : ¬ mt = 0 → 1 ≤ k9) (h999 : h9 ≤ 999) (hT0 : mt = 0 → fs 0 = 0 ∧ ma = 0) (hac : okA fc ma) (hma : ma ≤ 24) (c_1 : ¬ (mt = 0)) (hkn1 : 1 ≤ k9) (hw1 : 1 ≤ w9) (h01 : ¬ fs 0 = 0) (f_2_0_0 : ((a0).toInt64 < 1 ∨ 24 < (a0).toInt64)) (q_2 : (a0 < 1 ∨ 24 < a0)) : (-1000001) = (a_hrs (m38 fs) a0) := by
  have hw6 := hM.2.2.2.1
  have hk6 := hM.2.2.2.2.1
  first
  | exact hT0
  | (intro h_; exact absurd (hT0 h_).1 h01)
  | (intro h_; have h9 := (hT0 h_).2; omega)
  | exact (hrsM_0 (r := m38 fs) (An := ma) (Ac := acM fc ma) h00).1
  | exact (hrsM_0 (r := m38 fs) (An := ma) (Ac := acM fc ma) h00).2.1
  | exact (hrsM_0 (r := m38 fs) (An := ma) (Ac := acM fc ma) h00).2.2.1
  | exact (hrsM_0 (r := m38 fs) (An := ma) (Ac := acM fc ma) h00).2.2.2
  | exact (hrsM_1 (r := m38 fs) (An := ma) (Ac := acM fc ma) h01 q_2).1
  | exact (hrsM_1 (r := m38 fs) (An := ma) (Ac := acM fc ma) h01 q_2).2.1
  | exact (hrsM_1 (r := m38 fs) (An := ma) (Ac := acM fc ma) h01 q_2).2.2.1
  | exact (hrsM_1 (r := m38 fs) (An := ma) (Ac := acM fc ma) h01 q_2).2.2.2
  | exact (hrsM_2 (r := m38 fs) (An := ma) (Ac := acM fc ma) (h := h9) (j := j_2) (fun q => q_2 (Or.inl q)) h01 hj_2 hM.2.2.1 h999 c_7).1
  | exact (hrsM_2 (r := m38 fs) (An := ma) (Ac := acM fc ma) (h := h9) (j := j_2) (fun q => q_2 (Or.inl q)) h01 hj_2 hM.2.2.1 h999 c_7).2.1
  | exact (hrsM_2 (r := m38 fs) (An := ma) (Ac := acM fc ma) (h := h9) (j := j_2) (fun q => q_2 (Or.inl q)) h01 hj_2 hM.2.2.1 h999 c_7).2.2.1
  | exact (hrsM_2 (r := m38 fs) (An := ma) (Ac := acM fc ma) (h := h9) (j := j_2) (fun q => q_2 (Or.inl q)) h01 hj_2 hM.2.2.1 h999 c_7).2.2.2
  | exact (hrs_pos (r := m38 fs) (An := ma) (Ac := acM fc ma) (h := h9) (j := j_2) (fun q => q_2 (Or.inl q)) h01 hj_2 hM.2.2.1 c_7 haf_1).1
  | exact (hrs_pos (r := m38 fs) (An := ma) (Ac := acM fc ma) (h := h9) (j := j_2) (fun q => q_2 (Or.inl q)) h01 hj_2 hM.2.2.1 c_7 haf_1).2.1
  | exact (hrs_pos (r := m38 fs) (An := ma) (Ac := acM fc ma) (h := h9) (j := j_2) (fun q => q_2 (Or.inl q)) h01 hj_2 hM.2.2.1 c_7 haf_1).2.2.1
  | exact (hrs_pos (r := m38 fs) (An := ma) (Ac := acM fc ma) (h := h9) (j := j_2) (fun q => q_2 (Or.inl q)) h01 hj_2 hM.2.2.1 c_7 haf_1).2.2.2
  | exact e_24.trans (hrs_pos (r := m38 fs) (An := ma) (Ac := acM fc ma) (h := h9) (j := j_2) (fun q => q_2 (Or.inl q)) h01 hj_2 hM.2.2.1 c_7 haf_1).2.2.2
theorem lf_X8_hours_6 {mt : Int32} {ma : Nat} {fs : Nat → Int32} {w9 : Nat} {k9 : Nat} {h9 : Nat} {fc : Nat → Int32} {j_2 : Nat} {w_11 : Nat} {w_12 : Nat → Int32} {w_13 : Nat → Int32} {ii : Nat} {fcn_21 : Nat → Int32} {man_21 : Nat} {fsn_22 : Nat → Int32} (hM : okM fs w9 k9 h9) (hT : ¬ mt = 0 → 1 ≤ k9) (h999 : h9 ≤ 999) (hT0 : mt = 0 → fs 0 = 0 ∧ ma = 0) (hac : okA fc ma) (hma : ma ≤ 24) (c_1 : ¬ (mt = 0)) (hkn1 : 1 ≤ k9) (hw1 : 1 ≤ w9) (h01 : ¬ fs 0 = 0) (f_2_1_0 : (¬ (((nI j_2)).toInt64 < 1 ∨ 24 < ((nI j_2)).toInt64))) (q_2 : ¬ ((nI j_2) < 1 ∨ 24 < (nI j_2))) (hj_2 : j_2 ≤ 24) (c_7 : (h9 + j_2) ≤ 999) (hii : ii < j_2) (haf_0 : okA w_13 w_11) (haf_1 : (hrI ii (m38 fs) ma (acM fc ma) = (m38 w_12, w_11, acM w_13 w_11))) (hnb_w_11 : w_11 ≤ 24) (hMl : okM w_12 w9 k9 (h9 + ii)) (hF_21_0 : okA fcn_21 man_21) (hF_21_1 : man_21 ≤ 24) (hF_21_2 : 1 ≤ man_21) (hF_21_3 : acM fcn_21 man_21 = ntA (m38 w_12) w_11 (acM w_13 w_11)) (hF_21_4 : man_21 = ntN w_11) (hF_22_0 : okM fsn_22 w9 k9 ((h9 + ii) + 1)) (hF_22_1 : fsn_22 = mH w_12) : hrI (ii + 1) (m38 fs) ma (acM fc ma) = (m38 fsn_22, man_21, acM fcn_21 man_21) := by
  have h8 := mH_c hMl.1 hMl.2.2.2.1 hw1 hMl.2.1 hMl.2.2.2.2.1
  exact hr_stepM haf_1 (by assumption) (by assumption) (by assumption) h8
theorem lf_X8_hours_7 {mt : Int32} {ma : Nat} {fs : Nat → Int32} {w9 : Nat} {k9 : Nat} {h9 : Nat} {fc : Nat → Int32} {j_2 : Nat} {w_11 : Nat} {w_12 : Nat → Int32} {w_13 : Nat → Int32} {v_24 : Int32} (hM : okM fs w9 k9 h9) (hT : ¬ mt = 0 → 1 ≤ k9) (h999 : h9 ≤ 999) (hT0 : mt = 0 → fs 0 = 0 ∧ ma = 0) (hac : okA fc ma) (hma : ma ≤ 24) (c_1 : ¬ (mt = 0)) (hkn1 : 1 ≤ k9) (hw1 : 1 ≤ w9) (h01 : ¬ fs 0 = 0) (f_2_1_0 : (¬ (((nI j_2)).toInt64 < 1 ∨ 24 < ((nI j_2)).toInt64))) (q_2 : ¬ ((nI j_2) < 1 ∨ 24 < (nI j_2))) (hj_2 : j_2 ≤ 24) (c_7 : (h9 + j_2) ≤ 999) (haf_0 : okA w_13 w_11) (haf_1 : (hrI j_2 (m38 fs) ma (acM fc ma) = (m38 w_12, w_11, acM w_13 w_11))) (hnb_w_11 : w_11 ≤ 24) (hMl : okM w_12 w9 k9 (h9 + j_2)) (e_24 : v_24 = w_12 7) : (mt = 0 → w_12 0 = 0 ∧ w_11 = 0) := by
  have hw6 := hM.2.2.2.1
  have hk6 := hM.2.2.2.2.1
  first
  | exact hT0
  | (intro h_; exact absurd (hT0 h_).1 h01)
  | (intro h_; have h9 := (hT0 h_).2; omega)
  | exact (hrsM_0 (r := m38 fs) (An := ma) (Ac := acM fc ma) h00).1
  | exact (hrsM_0 (r := m38 fs) (An := ma) (Ac := acM fc ma) h00).2.1
  | exact (hrsM_0 (r := m38 fs) (An := ma) (Ac := acM fc ma) h00).2.2.1
  | exact (hrsM_0 (r := m38 fs) (An := ma) (Ac := acM fc ma) h00).2.2.2
  | exact (hrsM_1 (r := m38 fs) (An := ma) (Ac := acM fc ma) h01 q_2).1
  | exact (hrsM_1 (r := m38 fs) (An := ma) (Ac := acM fc ma) h01 q_2).2.1
  | exact (hrsM_1 (r := m38 fs) (An := ma) (Ac := acM fc ma) h01 q_2).2.2.1
  | exact (hrsM_1 (r := m38 fs) (An := ma) (Ac := acM fc ma) h01 q_2).2.2.2
  | exact (hrsM_2 (r := m38 fs) (An := ma) (Ac := acM fc ma) (h := h9) (j := j_2) (fun q => q_2 (Or.inl q)) h01 hj_2 hM.2.2.1 h999 c_7).1
  | exact (hrsM_2 (r := m38 fs) (An := ma) (Ac := acM fc ma) (h := h9) (j := j_2) (fun q => q_2 (Or.inl q)) h01 hj_2 hM.2.2.1 h999 c_7).2.1
  | exact (hrsM_2 (r := m38 fs) (An := ma) (Ac := acM fc ma) (h := h9) (j := j_2) (fun q => q_2 (Or.inl q)) h01 hj_2 hM.2.2.1 h999 c_7).2.2.1
  | exact (hrsM_2 (r := m38 fs) (An := ma) (Ac := acM fc ma) (h := h9) (j := j_2) (fun q => q_2 (Or.inl q)) h01 hj_2 hM.2.2.1 h999 c_7).2.2.2
  | exact (hrs_pos (r := m38 fs) (An := ma) (Ac := acM fc ma) (h := h9) (j := j_2) (fun q => q_2 (Or.inl q)) h01 hj_2 hM.2.2.1 c_7 haf_1).1
  | exact (hrs_pos (r := m38 fs) (An := ma) (Ac := acM fc ma) (h := h9) (j := j_2) (fun q => q_2 (Or.inl q)) h01 hj_2 hM.2.2.1 c_7 haf_1).2.1
  | exact (hrs_pos (r := m38 fs) (An := ma) (Ac := acM fc ma) (h := h9) (j := j_2) (fun q => q_2 (Or.inl q)) h01 hj_2 hM.2.2.1 c_7 haf_1).2.2.1
  | exact (hrs_pos (r := m38 fs) (An := ma) (Ac := acM fc ma) (h := h9) (j := j_2) (fun q => q_2 (Or.inl q)) h01 hj_2 hM.2.2.1 c_7 haf_1).2.2.2
  | exact e_24.trans (hrs_pos (r := m38 fs) (An := ma) (Ac := acM fc ma) (h := h9) (j := j_2) (fun q => q_2 (Or.inl q)) h01 hj_2 hM.2.2.1 c_7 haf_1).2.2.2
theorem lf_X8_hours_8 {mt : Int32} {ma : Nat} {fs : Nat → Int32} {w9 : Nat} {k9 : Nat} {h9 : Nat} {fc : Nat → Int32} {j_2 : Nat} {w_11 : Nat} {w_12 : Nat → Int32} {w_13 : Nat → Int32} {v_24 : Int32} (hM : okM fs w9 k9 h9) (hT : ¬ mt = 0 → 1 ≤ k9) (h999 : h9 ≤ 999) (hT0 : mt = 0 → fs 0 = 0 ∧ ma = 0) (hac : okA fc ma) (hma : ma ≤ 24) (c_1 : ¬ (mt = 0)) (hkn1 : 1 ≤ k9) (hw1 : 1 ≤ w9) (h01 : ¬ fs 0 = 0) (f_2_1_0 : (¬ (((nI j_2)).toInt64 < 1 ∨ 24 < ((nI j_2)).toInt64))) (q_2 : ¬ ((nI j_2) < 1 ∨ 24 < (nI j_2))) (hj_2 : j_2 ≤ 24) (c_7 : (h9 + j_2) ≤ 999) (haf_0 : okA w_13 w_11) (haf_1 : (hrI j_2 (m38 fs) ma (acM fc ma) = (m38 w_12, w_11, acM w_13 w_11))) (hnb_w_11 : w_11 ≤ 24) (hMl : okM w_12 w9 k9 (h9 + j_2)) (e_24 : v_24 = w_12 7) : m38 w_12 = (s_hrs (m38 fs) ma (acM fc ma) (nI j_2)).1 := by
  have hw6 := hM.2.2.2.1
  have hk6 := hM.2.2.2.2.1
  first
  | exact hT0
  | (intro h_; exact absurd (hT0 h_).1 h01)
  | (intro h_; have h9 := (hT0 h_).2; omega)
  | exact (hrsM_0 (r := m38 fs) (An := ma) (Ac := acM fc ma) h00).1
  | exact (hrsM_0 (r := m38 fs) (An := ma) (Ac := acM fc ma) h00).2.1
  | exact (hrsM_0 (r := m38 fs) (An := ma) (Ac := acM fc ma) h00).2.2.1
  | exact (hrsM_0 (r := m38 fs) (An := ma) (Ac := acM fc ma) h00).2.2.2
  | exact (hrsM_1 (r := m38 fs) (An := ma) (Ac := acM fc ma) h01 q_2).1
  | exact (hrsM_1 (r := m38 fs) (An := ma) (Ac := acM fc ma) h01 q_2).2.1
  | exact (hrsM_1 (r := m38 fs) (An := ma) (Ac := acM fc ma) h01 q_2).2.2.1
  | exact (hrsM_1 (r := m38 fs) (An := ma) (Ac := acM fc ma) h01 q_2).2.2.2
  | exact (hrsM_2 (r := m38 fs) (An := ma) (Ac := acM fc ma) (h := h9) (j := j_2) (fun q => q_2 (Or.inl q)) h01 hj_2 hM.2.2.1 h999 c_7).1
  | exact (hrsM_2 (r := m38 fs) (An := ma) (Ac := acM fc ma) (h := h9) (j := j_2) (fun q => q_2 (Or.inl q)) h01 hj_2 hM.2.2.1 h999 c_7).2.1
  | exact (hrsM_2 (r := m38 fs) (An := ma) (Ac := acM fc ma) (h := h9) (j := j_2) (fun q => q_2 (Or.inl q)) h01 hj_2 hM.2.2.1 h999 c_7).2.2.1
  | exact (hrsM_2 (r := m38 fs) (An := ma) (Ac := acM fc ma) (h := h9) (j := j_2) (fun q => q_2 (Or.inl q)) h01 hj_2 hM.2.2.1 h999 c_7).2.2.2
  | exact (hrs_pos (r := m38 fs) (An := ma) (Ac := acM fc ma) (h := h9) (j := j_2) (fun q => q_2 (Or.inl q)) h01 hj_2 hM.2.2.1 c_7 haf_1).1
  | exact (hrs_pos (r := m38 fs) (An := ma) (Ac := acM fc ma) (h := h9) (j := j_2) (fun q => q_2 (Or.inl q)) h01 hj_2 hM.2.2.1 c_7 haf_1).2.1
  | exact (hrs_pos (r := m38 fs) (An := ma) (Ac := acM fc ma) (h := h9) (j := j_2) (fun q => q_2 (Or.inl q)) h01 hj_2 hM.2.2.1 c_7 haf_1).2.2.1
  | exact (hrs_pos (r := m38 fs) (An := ma) (Ac := acM fc ma) (h := h9) (j := j_2) (fun q => q_2 (Or.inl q)) h01 hj_2 hM.2.2.1 c_7 haf_1).2.2.2
  | exact e_24.trans (hrs_pos (r := m38 fs) (An := ma) (Ac := acM fc ma) (h := h9) (j := j_2) (fun q => q_2 (Or.inl q)) h01 hj_2 hM.2.2.1 c_7 haf_1).2.2.2
theorem lf_X8_hours_9 {mt : Int32} {ma : Nat} {fs : Nat → Int32} {w9 : Nat} {k9 : Nat} {h9 : Nat} {fc : Nat → Int32} {j_2 : Nat} {w_11 : Nat} {w_12 : Nat → Int32} {w_13 : Nat → Int32} {v_24 : Int32} (hM : okM fs w9 k9 h9) (hT : ¬ mt = 0 → 1 ≤ k9) (h999 : h9 ≤ 999) (hT0 : mt = 0 → fs 0 = 0 ∧ ma = 0) (hac : okA fc ma) (hma : ma ≤ 24) (c_1 : ¬ (mt = 0)) (hkn1 : 1 ≤ k9) (hw1 : 1 ≤ w9) (h01 : ¬ fs 0 = 0) (f_2_1_0 : (¬ (((nI j_2)).toInt64 < 1 ∨ 24 < ((nI j_2)).toInt64))) (q_2 : ¬ ((nI j_2) < 1 ∨ 24 < (nI j_2))) (hj_2 : j_2 ≤ 24) (c_7 : (h9 + j_2) ≤ 999) (haf_0 : okA w_13 w_11) (haf_1 : (hrI j_2 (m38 fs) ma (acM fc ma) = (m38 w_12, w_11, acM w_13 w_11))) (hnb_w_11 : w_11 ≤ 24) (hMl : okM w_12 w9 k9 (h9 + j_2)) (e_24 : v_24 = w_12 7) : w_11 = (s_hrs (m38 fs) ma (acM fc ma) (nI j_2)).2.1 := by
  have hw6 := hM.2.2.2.1
  have hk6 := hM.2.2.2.2.1
  first
  | exact hT0
  | (intro h_; exact absurd (hT0 h_).1 h01)
  | (intro h_; have h9 := (hT0 h_).2; omega)
  | exact (hrsM_0 (r := m38 fs) (An := ma) (Ac := acM fc ma) h00).1
  | exact (hrsM_0 (r := m38 fs) (An := ma) (Ac := acM fc ma) h00).2.1
  | exact (hrsM_0 (r := m38 fs) (An := ma) (Ac := acM fc ma) h00).2.2.1
  | exact (hrsM_0 (r := m38 fs) (An := ma) (Ac := acM fc ma) h00).2.2.2
  | exact (hrsM_1 (r := m38 fs) (An := ma) (Ac := acM fc ma) h01 q_2).1
  | exact (hrsM_1 (r := m38 fs) (An := ma) (Ac := acM fc ma) h01 q_2).2.1
  | exact (hrsM_1 (r := m38 fs) (An := ma) (Ac := acM fc ma) h01 q_2).2.2.1
  | exact (hrsM_1 (r := m38 fs) (An := ma) (Ac := acM fc ma) h01 q_2).2.2.2
  | exact (hrsM_2 (r := m38 fs) (An := ma) (Ac := acM fc ma) (h := h9) (j := j_2) (fun q => q_2 (Or.inl q)) h01 hj_2 hM.2.2.1 h999 c_7).1
  | exact (hrsM_2 (r := m38 fs) (An := ma) (Ac := acM fc ma) (h := h9) (j := j_2) (fun q => q_2 (Or.inl q)) h01 hj_2 hM.2.2.1 h999 c_7).2.1
  | exact (hrsM_2 (r := m38 fs) (An := ma) (Ac := acM fc ma) (h := h9) (j := j_2) (fun q => q_2 (Or.inl q)) h01 hj_2 hM.2.2.1 h999 c_7).2.2.1
  | exact (hrsM_2 (r := m38 fs) (An := ma) (Ac := acM fc ma) (h := h9) (j := j_2) (fun q => q_2 (Or.inl q)) h01 hj_2 hM.2.2.1 h999 c_7).2.2.2
  | exact (hrs_pos (r := m38 fs) (An := ma) (Ac := acM fc ma) (h := h9) (j := j_2) (fun q => q_2 (Or.inl q)) h01 hj_2 hM.2.2.1 c_7 haf_1).1
  | exact (hrs_pos (r := m38 fs) (An := ma) (Ac := acM fc ma) (h := h9) (j := j_2) (fun q => q_2 (Or.inl q)) h01 hj_2 hM.2.2.1 c_7 haf_1).2.1
  | exact (hrs_pos (r := m38 fs) (An := ma) (Ac := acM fc ma) (h := h9) (j := j_2) (fun q => q_2 (Or.inl q)) h01 hj_2 hM.2.2.1 c_7 haf_1).2.2.1
  | exact (hrs_pos (r := m38 fs) (An := ma) (Ac := acM fc ma) (h := h9) (j := j_2) (fun q => q_2 (Or.inl q)) h01 hj_2 hM.2.2.1 c_7 haf_1).2.2.2
  | exact e_24.trans (hrs_pos (r := m38 fs) (An := ma) (Ac := acM fc ma) (h := h9) (j := j_2) (fun q => q_2 (Or.inl q)) h01 hj_2 hM.2.2.1 c_7 haf_1).2.2.2
theorem lf_X8_hours_10 {mt : Int32} {ma : Nat} {fs : Nat → Int32} {w9 : Nat} {k9 : Nat} {h9 : Nat} {fc : Nat → Int32} {j_2 : Nat} {w_11 : Nat} {w_12 : Nat → Int32} {w_13 : Nat → Int32} {v_24 : Int32} (hM : okM fs w9 k9 h9) (hT : ¬ mt = 0 → 1 ≤ k9) (h999 : h9 ≤ 999) (hT0 : mt = 0 → fs 0 = 0 ∧ ma = 0) (hac : okA fc ma) (hma : ma ≤ 24) (c_1 : ¬ (mt = 0)) (hkn1 : 1 ≤ k9) (hw1 : 1 ≤ w9) (h01 : ¬ fs 0 = 0) (f_2_1_0 : (¬ (((nI j_2)).toInt64 < 1 ∨ 24 < ((nI j_2)).toInt64))) (q_2 : ¬ ((nI j_2) < 1 ∨ 24 < (nI j_2))) (hj_2 : j_2 ≤ 24) (c_7 : (h9 + j_2) ≤ 999) (haf_0 : okA w_13 w_11) (haf_1 : (hrI j_2 (m38 fs) ma (acM fc ma) = (m38 w_12, w_11, acM w_13 w_11))) (hnb_w_11 : w_11 ≤ 24) (hMl : okM w_12 w9 k9 (h9 + j_2)) (e_24 : v_24 = w_12 7) : acM w_13 w_11 = (s_hrs (m38 fs) ma (acM fc ma) (nI j_2)).2.2 := by
  have hw6 := hM.2.2.2.1
  have hk6 := hM.2.2.2.2.1
  first
  | exact hT0
  | (intro h_; exact absurd (hT0 h_).1 h01)
  | (intro h_; have h9 := (hT0 h_).2; omega)
  | exact (hrsM_0 (r := m38 fs) (An := ma) (Ac := acM fc ma) h00).1
  | exact (hrsM_0 (r := m38 fs) (An := ma) (Ac := acM fc ma) h00).2.1
  | exact (hrsM_0 (r := m38 fs) (An := ma) (Ac := acM fc ma) h00).2.2.1
  | exact (hrsM_0 (r := m38 fs) (An := ma) (Ac := acM fc ma) h00).2.2.2
  | exact (hrsM_1 (r := m38 fs) (An := ma) (Ac := acM fc ma) h01 q_2).1
  | exact (hrsM_1 (r := m38 fs) (An := ma) (Ac := acM fc ma) h01 q_2).2.1
  | exact (hrsM_1 (r := m38 fs) (An := ma) (Ac := acM fc ma) h01 q_2).2.2.1
  | exact (hrsM_1 (r := m38 fs) (An := ma) (Ac := acM fc ma) h01 q_2).2.2.2
  | exact (hrsM_2 (r := m38 fs) (An := ma) (Ac := acM fc ma) (h := h9) (j := j_2) (fun q => q_2 (Or.inl q)) h01 hj_2 hM.2.2.1 h999 c_7).1
  | exact (hrsM_2 (r := m38 fs) (An := ma) (Ac := acM fc ma) (h := h9) (j := j_2) (fun q => q_2 (Or.inl q)) h01 hj_2 hM.2.2.1 h999 c_7).2.1
  | exact (hrsM_2 (r := m38 fs) (An := ma) (Ac := acM fc ma) (h := h9) (j := j_2) (fun q => q_2 (Or.inl q)) h01 hj_2 hM.2.2.1 h999 c_7).2.2.1
  | exact (hrsM_2 (r := m38 fs) (An := ma) (Ac := acM fc ma) (h := h9) (j := j_2) (fun q => q_2 (Or.inl q)) h01 hj_2 hM.2.2.1 h999 c_7).2.2.2
  | exact (hrs_pos (r := m38 fs) (An := ma) (Ac := acM fc ma) (h := h9) (j := j_2) (fun q => q_2 (Or.inl q)) h01 hj_2 hM.2.2.1 c_7 haf_1).1
  | exact (hrs_pos (r := m38 fs) (An := ma) (Ac := acM fc ma) (h := h9) (j := j_2) (fun q => q_2 (Or.inl q)) h01 hj_2 hM.2.2.1 c_7 haf_1).2.1
  | exact (hrs_pos (r := m38 fs) (An := ma) (Ac := acM fc ma) (h := h9) (j := j_2) (fun q => q_2 (Or.inl q)) h01 hj_2 hM.2.2.1 c_7 haf_1).2.2.1
  | exact (hrs_pos (r := m38 fs) (An := ma) (Ac := acM fc ma) (h := h9) (j := j_2) (fun q => q_2 (Or.inl q)) h01 hj_2 hM.2.2.1 c_7 haf_1).2.2.2
  | exact e_24.trans (hrs_pos (r := m38 fs) (An := ma) (Ac := acM fc ma) (h := h9) (j := j_2) (fun q => q_2 (Or.inl q)) h01 hj_2 hM.2.2.1 c_7 haf_1).2.2.2
theorem lf_X8_hours_11 {mt : Int32} {ma : Nat} {fs : Nat → Int32} {w9 : Nat} {k9 : Nat} {h9 : Nat} {fc : Nat → Int32} {j_2 : Nat} {w_11 : Nat} {w_12 : Nat → Int32} {w_13 : Nat → Int32} {v_24 : Int32} (hM : okM fs w9 k9 h9) (hT : ¬ mt = 0 → 1 ≤ k9) (h999 : h9 ≤ 999) (hT0 : mt = 0 → fs 0 = 0 ∧ ma = 0) (hac : okA fc ma) (hma : ma ≤ 24) (c_1 : ¬ (mt = 0)) (hkn1 : 1 ≤ k9) (hw1 : 1 ≤ w9) (h01 : ¬ fs 0 = 0) (f_2_1_0 : (¬ (((nI j_2)).toInt64 < 1 ∨ 24 < ((nI j_2)).toInt64))) (q_2 : ¬ ((nI j_2) < 1 ∨ 24 < (nI j_2))) (hj_2 : j_2 ≤ 24) (c_7 : (h9 + j_2) ≤ 999) (haf_0 : okA w_13 w_11) (haf_1 : (hrI j_2 (m38 fs) ma (acM fc ma) = (m38 w_12, w_11, acM w_13 w_11))) (hnb_w_11 : w_11 ≤ 24) (hMl : okM w_12 w9 k9 (h9 + j_2)) (e_24 : v_24 = w_12 7) : v_24 = (a_hrs (m38 fs) (nI j_2)) := by
  have hw6 := hM.2.2.2.1
  have hk6 := hM.2.2.2.2.1
  first
  | exact hT0
  | (intro h_; exact absurd (hT0 h_).1 h01)
  | (intro h_; have h9 := (hT0 h_).2; omega)
  | exact (hrsM_0 (r := m38 fs) (An := ma) (Ac := acM fc ma) h00).1
  | exact (hrsM_0 (r := m38 fs) (An := ma) (Ac := acM fc ma) h00).2.1
  | exact (hrsM_0 (r := m38 fs) (An := ma) (Ac := acM fc ma) h00).2.2.1
  | exact (hrsM_0 (r := m38 fs) (An := ma) (Ac := acM fc ma) h00).2.2.2
  | exact (hrsM_1 (r := m38 fs) (An := ma) (Ac := acM fc ma) h01 q_2).1
  | exact (hrsM_1 (r := m38 fs) (An := ma) (Ac := acM fc ma) h01 q_2).2.1
  | exact (hrsM_1 (r := m38 fs) (An := ma) (Ac := acM fc ma) h01 q_2).2.2.1
  | exact (hrsM_1 (r := m38 fs) (An := ma) (Ac := acM fc ma) h01 q_2).2.2.2
  | exact (hrsM_2 (r := m38 fs) (An := ma) (Ac := acM fc ma) (h := h9) (j := j_2) (fun q => q_2 (Or.inl q)) h01 hj_2 hM.2.2.1 h999 c_7).1
  | exact (hrsM_2 (r := m38 fs) (An := ma) (Ac := acM fc ma) (h := h9) (j := j_2) (fun q => q_2 (Or.inl q)) h01 hj_2 hM.2.2.1 h999 c_7).2.1
  | exact (hrsM_2 (r := m38 fs) (An := ma) (Ac := acM fc ma) (h := h9) (j := j_2) (fun q => q_2 (Or.inl q)) h01 hj_2 hM.2.2.1 h999 c_7).2.2.1
  | exact (hrsM_2 (r := m38 fs) (An := ma) (Ac := acM fc ma) (h := h9) (j := j_2) (fun q => q_2 (Or.inl q)) h01 hj_2 hM.2.2.1 h999 c_7).2.2.2
  | exact (hrs_pos (r := m38 fs) (An := ma) (Ac := acM fc ma) (h := h9) (j := j_2) (fun q => q_2 (Or.inl q)) h01 hj_2 hM.2.2.1 c_7 haf_1).1
  | exact (hrs_pos (r := m38 fs) (An := ma) (Ac := acM fc ma) (h := h9) (j := j_2) (fun q => q_2 (Or.inl q)) h01 hj_2 hM.2.2.1 c_7 haf_1).2.1
  | exact (hrs_pos (r := m38 fs) (An := ma) (Ac := acM fc ma) (h := h9) (j := j_2) (fun q => q_2 (Or.inl q)) h01 hj_2 hM.2.2.1 c_7 haf_1).2.2.1
  | exact (hrs_pos (r := m38 fs) (An := ma) (Ac := acM fc ma) (h := h9) (j := j_2) (fun q => q_2 (Or.inl q)) h01 hj_2 hM.2.2.1 c_7 haf_1).2.2.2
  | exact e_24.trans (hrs_pos (r := m38 fs) (An := ma) (Ac := acM fc ma) (h := h9) (j := j_2) (fun q => q_2 (Or.inl q)) h01 hj_2 hM.2.2.1 c_7 haf_1).2.2.2
theorem lf_X8_hours_12 {mt : Int32} {ma : Nat} {fs : Nat → Int32} {w9 : Nat} {k9 : Nat} {h9 : Nat} {fc : Nat → Int32} {j_2 : Nat} (hM : okM fs w9 k9 h9) (hT : ¬ mt = 0 → 1 ≤ k9) (h999 : h9 ≤ 999) (hT0 : mt = 0 → fs 0 = 0 ∧ ma = 0) (hac : okA fc ma) (hma : ma ≤ 24) (c_1 : ¬ (mt = 0)) (hkn1 : 1 ≤ k9) (hw1 : 1 ≤ w9) (h01 : ¬ fs 0 = 0) (f_2_1_0 : (¬ (((nI j_2)).toInt64 < 1 ∨ 24 < ((nI j_2)).toInt64))) (q_2 : ¬ ((nI j_2) < 1 ∨ 24 < (nI j_2))) (hj_2 : j_2 ≤ 24) (c_7 : ¬ ((h9 + j_2) ≤ 999)) : (mt = 0 → fs 0 = 0 ∧ ma = 0) := by
  have hw6 := hM.2.2.2.1
  have hk6 := hM.2.2.2.2.1
  first
  | exact hT0
  | (intro h_; exact absurd (hT0 h_).1 h01)
  | (intro h_; have h9 := (hT0 h_).2; omega)
  | exact (hrsM_0 (r := m38 fs) (An := ma) (Ac := acM fc ma) h00).1
  | exact (hrsM_0 (r := m38 fs) (An := ma) (Ac := acM fc ma) h00).2.1
  | exact (hrsM_0 (r := m38 fs) (An := ma) (Ac := acM fc ma) h00).2.2.1
  | exact (hrsM_0 (r := m38 fs) (An := ma) (Ac := acM fc ma) h00).2.2.2
  | exact (hrsM_1 (r := m38 fs) (An := ma) (Ac := acM fc ma) h01 q_2).1
  | exact (hrsM_1 (r := m38 fs) (An := ma) (Ac := acM fc ma) h01 q_2).2.1
  | exact (hrsM_1 (r := m38 fs) (An := ma) (Ac := acM fc ma) h01 q_2).2.2.1
  | exact (hrsM_1 (r := m38 fs) (An := ma) (Ac := acM fc ma) h01 q_2).2.2.2
  | exact (hrsM_2 (r := m38 fs) (An := ma) (Ac := acM fc ma) (h := h9) (j := j_2) (fun q => q_2 (Or.inl q)) h01 hj_2 hM.2.2.1 h999 c_7).1
  | exact (hrsM_2 (r := m38 fs) (An := ma) (Ac := acM fc ma) (h := h9) (j := j_2) (fun q => q_2 (Or.inl q)) h01 hj_2 hM.2.2.1 h999 c_7).2.1
  | exact (hrsM_2 (r := m38 fs) (An := ma) (Ac := acM fc ma) (h := h9) (j := j_2) (fun q => q_2 (Or.inl q)) h01 hj_2 hM.2.2.1 h999 c_7).2.2.1
  | exact (hrsM_2 (r := m38 fs) (An := ma) (Ac := acM fc ma) (h := h9) (j := j_2) (fun q => q_2 (Or.inl q)) h01 hj_2 hM.2.2.1 h999 c_7).2.2.2
  | exact (hrs_pos (r := m38 fs) (An := ma) (Ac := acM fc ma) (h := h9) (j := j_2) (fun q => q_2 (Or.inl q)) h01 hj_2 hM.2.2.1 c_7 haf_1).1
  | exact (hrs_pos (r := m38 fs) (An := ma) (Ac := acM fc ma) (h := h9) (j := j_2) (fun q => q_2 (Or.inl q)) h01 hj_2 hM.2.2.1 c_7 haf_1).2.1
  | exact (hrs_pos (r := m38 fs) (An := ma) (Ac := acM fc ma) (h := h9) (j := j_2) (fun q => q_2 (Or.inl q)) h01 hj_2 hM.2.2.1 c_7 haf_1).2.2.1
  | exact (hrs_pos (r := m38 fs) (An := ma) (Ac := acM fc ma) (h := h9) (j := j_2) (fun q => q_2 (Or.inl q)) h01 hj_2 hM.2.2.1 c_7 haf_1).2.2.2
  | exact e_24.trans (hrs_pos (r := m38 fs) (An := ma) (Ac := acM fc ma) (h := h9) (j := j_2) (fun q => q_2 (Or.inl q)) h01 hj_2 hM.2.2.1 c_7 haf_1).2.2.2
theorem lf_X8_hours_13 {mt : Int32} {ma : Nat} {fs : Nat → Int32} {w9 : Nat} {k9 : Nat} {h9 : Nat} {fc : Nat → Int32} {j_2 : Nat} (hM : okM fs w9 k9 h9) (hT : ¬ mt = 0 → 1 ≤ k9) (h999 : h9 ≤ 999) (hT0 : mt = 0 → fs 0 = 0 ∧ ma = 0) (hac : okA fc ma) (hma : ma ≤ 24) (c_1 : ¬ (mt = 0)) (hkn1 : 1 ≤ k9) (hw1 : 1 ≤ w9) (h01 : ¬ fs 0 = 0) (f_2_1_0 : (¬ (((nI j_2)).toInt64 < 1 ∨ 24 < ((nI j_2)).toInt64))) (q_2 : ¬ ((nI j_2) < 1 ∨ 24 < (nI j_2))) (hj_2 : j_2 ≤ 24) (c_7 : ¬ ((h9 + j_2) ≤ 999)) : m38 fs = (s_hrs (m38 fs) ma (acM fc ma) (nI j_2)).1 := by
  have hw6 := hM.2.2.2.1
  have hk6 := hM.2.2.2.2.1
  first
  | exact hT0
  | (intro h_; exact absurd (hT0 h_).1 h01)
  | (intro h_; have h9 := (hT0 h_).2; omega)
  | exact (hrsM_0 (r := m38 fs) (An := ma) (Ac := acM fc ma) h00).1
  | exact (hrsM_0 (r := m38 fs) (An := ma) (Ac := acM fc ma) h00).2.1
  | exact (hrsM_0 (r := m38 fs) (An := ma) (Ac := acM fc ma) h00).2.2.1
  | exact (hrsM_0 (r := m38 fs) (An := ma) (Ac := acM fc ma) h00).2.2.2
  | exact (hrsM_1 (r := m38 fs) (An := ma) (Ac := acM fc ma) h01 q_2).1
  | exact (hrsM_1 (r := m38 fs) (An := ma) (Ac := acM fc ma) h01 q_2).2.1
  | exact (hrsM_1 (r := m38 fs) (An := ma) (Ac := acM fc ma) h01 q_2).2.2.1
  | exact (hrsM_1 (r := m38 fs) (An := ma) (Ac := acM fc ma) h01 q_2).2.2.2
  | exact (hrsM_2 (r := m38 fs) (An := ma) (Ac := acM fc ma) (h := h9) (j := j_2) (fun q => q_2 (Or.inl q)) h01 hj_2 hM.2.2.1 h999 c_7).1
  | exact (hrsM_2 (r := m38 fs) (An := ma) (Ac := acM fc ma) (h := h9) (j := j_2) (fun q => q_2 (Or.inl q)) h01 hj_2 hM.2.2.1 h999 c_7).2.1
  | exact (hrsM_2 (r := m38 fs) (An := ma) (Ac := acM fc ma) (h := h9) (j := j_2) (fun q => q_2 (Or.inl q)) h01 hj_2 hM.2.2.1 h999 c_7).2.2.1
  | exact (hrsM_2 (r := m38 fs) (An := ma) (Ac := acM fc ma) (h := h9) (j := j_2) (fun q => q_2 (Or.inl q)) h01 hj_2 hM.2.2.1 h999 c_7).2.2.2
  | exact (hrs_pos (r := m38 fs) (An := ma) (Ac := acM fc ma) (h := h9) (j := j_2) (fun q => q_2 (Or.inl q)) h01 hj_2 hM.2.2.1 c_7 haf_1).1
  | exact (hrs_pos (r := m38 fs) (An := ma) (Ac := acM fc ma) (h := h9) (j := j_2) (fun q => q_2 (Or.inl q)) h01 hj_2 hM.2.2.1 c_7 haf_1).2.1
  | exact (hrs_pos (r := m38 fs) (An := ma) (Ac := acM fc ma) (h := h9) (j := j_2) (fun q => q_2 (Or.inl q)) h01 hj_2 hM.2.2.1 c_7 haf_1).2.2.1
  | exact (hrs_pos (r := m38 fs) (An := ma) (Ac := acM fc ma) (h := h9) (j := j_2) (fun q => q_2 (Or.inl q)) h01 hj_2 hM.2.2.1 c_7 haf_1).2.2.2
  | exact e_24.trans (hrs_pos (r := m38 fs) (An := ma) (Ac := acM fc ma) (h := h9) (j := j_2) (fun q => q_2 (Or.inl q)) h01 hj_2 hM.2.2.1 c_7 haf_1).2.2.2
theorem lf_X8_hours_14 {mt : Int32} {ma : Nat} {fs : Nat → Int32} {w9 : Nat} {k9 : Nat} {h9 : Nat} {fc : Nat → Int32} {j_2 : Nat} (hM : okM fs w9 k9 h9) (hT : ¬ mt = 0 → 1 ≤ k9) (h999 : h9 ≤ 999) (hT0 : mt = 0 → fs 0 = 0 ∧ ma = 0) (hac : okA fc ma) (hma : ma ≤ 24) (c_1 : ¬ (mt = 0)) (hkn1 : 1 ≤ k9) (hw1 : 1 ≤ w9) (h01 : ¬ fs 0 = 0) (f_2_1_0 : (¬ (((nI j_2)).toInt64 < 1 ∨ 24 < ((nI j_2)).toInt64))) (q_2 : ¬ ((nI j_2) < 1 ∨ 24 < (nI j_2))) (hj_2 : j_2 ≤ 24) (c_7 : ¬ ((h9 + j_2) ≤ 999)) : ma = (s_hrs (m38 fs) ma (acM fc ma) (nI j_2)).2.1 := by
  have hw6 := hM.2.2.2.1
  have hk6 := hM.2.2.2.2.1
  first
  | exact hT0
  | (intro h_; exact absurd (hT0 h_).1 h01)
  | (intro h_; have h9 := (hT0 h_).2; omega)
  | exact (hrsM_0 (r := m38 fs) (An := ma) (Ac := acM fc ma) h00).1
  | exact (hrsM_0 (r := m38 fs) (An := ma) (Ac := acM fc ma) h00).2.1
  | exact (hrsM_0 (r := m38 fs) (An := ma) (Ac := acM fc ma) h00).2.2.1
  | exact (hrsM_0 (r := m38 fs) (An := ma) (Ac := acM fc ma) h00).2.2.2
  | exact (hrsM_1 (r := m38 fs) (An := ma) (Ac := acM fc ma) h01 q_2).1
  | exact (hrsM_1 (r := m38 fs) (An := ma) (Ac := acM fc ma) h01 q_2).2.1
  | exact (hrsM_1 (r := m38 fs) (An := ma) (Ac := acM fc ma) h01 q_2).2.2.1
  | exact (hrsM_1 (r := m38 fs) (An := ma) (Ac := acM fc ma) h01 q_2).2.2.2
  | exact (hrsM_2 (r := m38 fs) (An := ma) (Ac := acM fc ma) (h := h9) (j := j_2) (fun q => q_2 (Or.inl q)) h01 hj_2 hM.2.2.1 h999 c_7).1
  | exact (hrsM_2 (r := m38 fs) (An := ma) (Ac := acM fc ma) (h := h9) (j := j_2) (fun q => q_2 (Or.inl q)) h01 hj_2 hM.2.2.1 h999 c_7).2.1
  | exact (hrsM_2 (r := m38 fs) (An := ma) (Ac := acM fc ma) (h := h9) (j := j_2) (fun q => q_2 (Or.inl q)) h01 hj_2 hM.2.2.1 h999 c_7).2.2.1
  | exact (hrsM_2 (r := m38 fs) (An := ma) (Ac := acM fc ma) (h := h9) (j := j_2) (fun q => q_2 (Or.inl q)) h01 hj_2 hM.2.2.1 h999 c_7).2.2.2
  | exact (hrs_pos (r := m38 fs) (An := ma) (Ac := acM fc ma) (h := h9) (j := j_2) (fun q => q_2 (Or.inl q)) h01 hj_2 hM.2.2.1 c_7 haf_1).1
  | exact (hrs_pos (r := m38 fs) (An := ma) (Ac := acM fc ma) (h := h9) (j := j_2) (fun q => q_2 (Or.inl q)) h01 hj_2 hM.2.2.1 c_7 haf_1).2.1
  | exact (hrs_pos (r := m38 fs) (An := ma) (Ac := acM fc ma) (h := h9) (j := j_2) (fun q => q_2 (Or.inl q)) h01 hj_2 hM.2.2.1 c_7 haf_1).2.2.1
  | exact (hrs_pos (r := m38 fs) (An := ma) (Ac := acM fc ma) (h := h9) (j := j_2) (fun q => q_2 (Or.inl q)) h01 hj_2 hM.2.2.1 c_7 haf_1).2.2.2
  | exact e_24.trans (hrs_pos (r := m38 fs) (An := ma) (Ac := acM fc ma) (h := h9) (j := j_2) (fun q => q_2 (Or.inl q)) h01 hj_2 hM.2.2.1 c_7 haf_1).2.2.2
theorem lf_X8_hours_15 {mt : Int32} {ma : Nat} {fs : Nat → Int32} {w9 : Nat} {k9 : Nat} {h9 : Nat} {fc : Nat → Int32} {j_2 : Nat} (hM : okM fs w9 k9 h9) (hT : ¬ mt = 0 → 1 ≤ k9) (h999 : h9 ≤ 999) (hT0 : mt = 0 → fs 0 = 0 ∧ ma = 0) (hac : okA fc ma) (hma : ma ≤ 24) (c_1 : ¬ (mt = 0)) (hkn1 : 1 ≤ k9) (hw1 : 1 ≤ w9) (h01 : ¬ fs 0 = 0) (f_2_1_0 : (¬ (((nI j_2)).toInt64 < 1 ∨ 24 < ((nI j_2)).toInt64))) (q_2 : ¬ ((nI j_2) < 1 ∨ 24 < (nI j_2))) (hj_2 : j_2 ≤ 24) (c_7 : ¬ ((h9 + j_2) ≤ 999)) : acM fc ma = (s_hrs (m38 fs) ma (acM fc ma) (nI j_2)).2.2 := by
  have hw6 := hM.2.2.2.1
  have hk6 := hM.2.2.2.2.1
  first
  | exact hT0
  | (intro h_; exact absurd (hT0 h_).1 h01)
  | (intro h_; have h9 := (hT0 h_).2; omega)
  | exact (hrsM_0 (r := m38 fs) (An := ma) (Ac := acM fc ma) h00).1
  | exact (hrsM_0 (r := m38 fs) (An := ma) (Ac := acM fc ma) h00).2.1
  | exact (hrsM_0 (r := m38 fs) (An := ma) (Ac := acM fc ma) h00).2.2.1
  | exact (hrsM_0 (r := m38 fs) (An := ma) (Ac := acM fc ma) h00).2.2.2
  | exact (hrsM_1 (r := m38 fs) (An := ma) (Ac := acM fc ma) h01 q_2).1
  | exact (hrsM_1 (r := m38 fs) (An := ma) (Ac := acM fc ma) h01 q_2).2.1
  | exact (hrsM_1 (r := m38 fs) (An := ma) (Ac := acM fc ma) h01 q_2).2.2.1
  | exact (hrsM_1 (r := m38 fs) (An := ma) (Ac := acM fc ma) h01 q_2).2.2.2
  | exact (hrsM_2 (r := m38 fs) (An := ma) (Ac := acM fc ma) (h := h9) (j := j_2) (fun q => q_2 (Or.inl q)) h01 hj_2 hM.2.2.1 h999 c_7).1
  | exact (hrsM_2 (r := m38 fs) (An := ma) (Ac := acM fc ma) (h := h9) (j := j_2) (fun q => q_2 (Or.inl q)) h01 hj_2 hM.2.2.1 h999 c_7).2.1
  | exact (hrsM_2 (r := m38 fs) (An := ma) (Ac := acM fc ma) (h := h9) (j := j_2) (fun q => q_2 (Or.inl q)) h01 hj_2 hM.2.2.1 h999 c_7).2.2.1
  | exact (hrsM_2 (r := m38 fs) (An := ma) (Ac := acM fc ma) (h := h9) (j := j_2) (fun q => q_2 (Or.inl q)) h01 hj_2 hM.2.2.1 h999 c_7).2.2.2
  | exact (hrs_pos (r := m38 fs) (An := ma) (Ac := acM fc ma) (h := h9) (j := j_2) (fun q => q_2 (Or.inl q)) h01 hj_2 hM.2.2.1 c_7 haf_1).1
  | exact (hrs_pos (r := m38 fs) (An := ma) (Ac := acM fc ma) (h := h9) (j := j_2) (fun q => q_2 (Or.inl q)) h01 hj_2 hM.2.2.1 c_7 haf_1).2.1
  | exact (hrs_pos (r := m38 fs) (An := ma) (Ac := acM fc ma) (h := h9) (j := j_2) (fun q => q_2 (Or.inl q)) h01 hj_2 hM.2.2.1 c_7 haf_1).2.2.1
  | exact (hrs_pos (r := m38 fs) (An := ma) (Ac := acM fc ma) (h := h9) (j := j_2) (fun q => q_2 (Or.inl q)) h01 hj_2 hM.2.2.1 c_7 haf_1).2.2.2
  | exact e_24.trans (hrs_pos (r := m38 fs) (An := ma) (Ac := acM fc ma) (h := h9) (j := j_2) (fun q => q_2 (Or.inl q)) h01 hj_2 hM.2.2.1 c_7 haf_1).2.2.2
theorem lf_X8_hours_16 {mt : Int32} {ma : Nat} {fs : Nat → Int32} {w9 : Nat} {k9 : Nat} {h9 : Nat} {fc : Nat → Int32} {j_2 : Nat} (hM : okM fs w9 k9 h9) (hT : ¬ mt = 0 → 1 ≤ k9) (h999 : h9 ≤ 999) (hT0 : mt = 0 → fs 0 = 0 ∧ ma = 0) (hac : okA fc ma) (hma : ma ≤ 24) (c_1 : ¬ (mt = 0)) (hkn1 : 1 ≤ k9) (hw1 : 1 ≤ w9) (h01 : ¬ fs 0 = 0) (f_2_1_0 : (¬ (((nI j_2)).toInt64 < 1 ∨ 24 < ((nI j_2)).toInt64))) (q_2 : ¬ ((nI j_2) < 1 ∨ 24 < (nI j_2))) (hj_2 : j_2 ≤ 24) (c_7 : ¬ ((h9 + j_2) ≤ 999)) : (-1000003) = (a_hrs (m38 fs) (nI j_2)) := by
  have hw6 := hM.2.2.2.1
  have hk6 := hM.2.2.2.2.1
  first
  | exact hT0
  | (intro h_; exact absurd (hT0 h_).1 h01)
  | (intro h_; have h9 := (hT0 h_).2; omega)
  | exact (hrsM_0 (r := m38 fs) (An := ma) (Ac := acM fc ma) h00).1
  | exact (hrsM_0 (r := m38 fs) (An := ma) (Ac := acM fc ma) h00).2.1
  | exact (hrsM_0 (r := m38 fs) (An := ma) (Ac := acM fc ma) h00).2.2.1
  | exact (hrsM_0 (r := m38 fs) (An := ma) (Ac := acM fc ma) h00).2.2.2
  | exact (hrsM_1 (r := m38 fs) (An := ma) (Ac := acM fc ma) h01 q_2).1
  | exact (hrsM_1 (r := m38 fs) (An := ma) (Ac := acM fc ma) h01 q_2).2.1
  | exact (hrsM_1 (r := m38 fs) (An := ma) (Ac := acM fc ma) h01 q_2).2.2.1
  | exact (hrsM_1 (r := m38 fs) (An := ma) (Ac := acM fc ma) h01 q_2).2.2.2
  | exact (hrsM_2 (r := m38 fs) (An := ma) (Ac := acM fc ma) (h := h9) (j := j_2) (fun q => q_2 (Or.inl q)) h01 hj_2 hM.2.2.1 h999 c_7).1
  | exact (hrsM_2 (r := m38 fs) (An := ma) (Ac := acM fc ma) (h := h9) (j := j_2) (fun q => q_2 (Or.inl q)) h01 hj_2 hM.2.2.1 h999 c_7).2.1
  | exact (hrsM_2 (r := m38 fs) (An := ma) (Ac := acM fc ma) (h := h9) (j := j_2) (fun q => q_2 (Or.inl q)) h01 hj_2 hM.2.2.1 h999 c_7).2.2.1
  | exact (hrsM_2 (r := m38 fs) (An := ma) (Ac := acM fc ma) (h := h9) (j := j_2) (fun q => q_2 (Or.inl q)) h01 hj_2 hM.2.2.1 h999 c_7).2.2.2
  | exact (hrs_pos (r := m38 fs) (An := ma) (Ac := acM fc ma) (h := h9) (j := j_2) (fun q => q_2 (Or.inl q)) h01 hj_2 hM.2.2.1 c_7 haf_1).1
  | exact (hrs_pos (r := m38 fs) (An := ma) (Ac := acM fc ma) (h := h9) (j := j_2) (fun q => q_2 (Or.inl q)) h01 hj_2 hM.2.2.1 c_7 haf_1).2.1
  | exact (hrs_pos (r := m38 fs) (An := ma) (Ac := acM fc ma) (h := h9) (j := j_2) (fun q => q_2 (Or.inl q)) h01 hj_2 hM.2.2.1 c_7 haf_1).2.2.1
  | exact (hrs_pos (r := m38 fs) (An := ma) (Ac := acM fc ma) (h := h9) (j := j_2) (fun q => q_2 (Or.inl q)) h01 hj_2 hM.2.2.1 c_7 haf_1).2.2.2
  | exact e_24.trans (hrs_pos (r := m38 fs) (An := ma) (Ac := acM fc ma) (h := h9) (j := j_2) (fun q => q_2 (Or.inl q)) h01 hj_2 hM.2.2.1 c_7 haf_1).2.2.2
theorem lf_X8_hours_17 {mt : Int32} {ma : Nat} {fs : Nat → Int32} {w9 : Nat} {k9 : Nat} {h9 : Nat} {fc : Nat → Int32} (hM : okM fs w9 k9 h9) (hT : ¬ mt = 0 → 1 ≤ k9) (h999 : h9 ≤ 999) (hT0 : mt = 0 → fs 0 = 0 ∧ ma = 0) (hac : okA fc ma) (hma : ma ≤ 24) (c_1 : mt = 0) (h00 : fs 0 = 0) : (mt = 0 → fs 0 = 0 ∧ ma = 0) := by
  have hw6 := hM.2.2.2.1
  have hk6 := hM.2.2.2.2.1
  first
  | exact hT0
  | (intro h_; exact absurd (hT0 h_).1 h01)
  | (intro h_; have h9 := (hT0 h_).2; omega)
  | exact (hrsM_0 (r := m38 fs) (An := ma) (Ac := acM fc ma) h00).1
  | exact (hrsM_0 (r := m38 fs) (An := ma) (Ac := acM fc ma) h00).2.1
  | exact (hrsM_0 (r := m38 fs) (An := ma) (Ac := acM fc ma) h00).2.2.1
  | exact (hrsM_0 (r := m38 fs) (An := ma) (Ac := acM fc ma) h00).2.2.2
  | exact (hrsM_1 (r := m38 fs) (An := ma) (Ac := acM fc ma) h01 q_2).1
  | exact (hrsM_1 (r := m38 fs) (An := ma) (Ac := acM fc ma) h01 q_2).2.1
  | exact (hrsM_1 (r := m38 fs) (An := ma) (Ac := acM fc ma) h01 q_2).2.2.1
  | exact (hrsM_1 (r := m38 fs) (An := ma) (Ac := acM fc ma) h01 q_2).2.2.2
  | exact (hrsM_2 (r := m38 fs) (An := ma) (Ac := acM fc ma) (h := h9) (j := j_2) (fun q => q_2 (Or.inl q)) h01 hj_2 hM.2.2.1 h999 c_7).1
  | exact (hrsM_2 (r := m38 fs) (An := ma) (Ac := acM fc ma) (h := h9) (j := j_2) (fun q => q_2 (Or.inl q)) h01 hj_2 hM.2.2.1 h999 c_7).2.1
  | exact (hrsM_2 (r := m38 fs) (An := ma) (Ac := acM fc ma) (h := h9) (j := j_2) (fun q => q_2 (Or.inl q)) h01 hj_2 hM.2.2.1 h999 c_7).2.2.1
  | exact (hrsM_2 (r := m38 fs) (An := ma) (Ac := acM fc ma) (h := h9) (j := j_2) (fun q => q_2 (Or.inl q)) h01 hj_2 hM.2.2.1 h999 c_7).2.2.2
  | exact (hrs_pos (r := m38 fs) (An := ma) (Ac := acM fc ma) (h := h9) (j := j_2) (fun q => q_2 (Or.inl q)) h01 hj_2 hM.2.2.1 c_7 haf_1).1
  | exact (hrs_pos (r := m38 fs) (An := ma) (Ac := acM fc ma) (h := h9) (j := j_2) (fun q => q_2 (Or.inl q)) h01 hj_2 hM.2.2.1 c_7 haf_1).2.1
  | exact (hrs_pos (r := m38 fs) (An := ma) (Ac := acM fc ma) (h := h9) (j := j_2) (fun q => q_2 (Or.inl q)) h01 hj_2 hM.2.2.1 c_7 haf_1).2.2.1
  | exact (hrs_pos (r := m38 fs) (An := ma) (Ac := acM fc ma) (h := h9) (j := j_2) (fun q => q_2 (Or.inl q)) h01 hj_2 hM.2.2.1 c_7 haf_1).2.2.2
  | exact e_24.trans (hrs_pos (r := m38 fs) (An := ma) (Ac := acM fc ma) (h := h9) (j := j_2) (fun q => q_2 (Or.inl q)) h01 hj_2 hM.2.2.1 c_7 haf_1).2.2.2
theorem lf_X8_hours_18 {mt : Int32} {ma : Nat} {fs : Nat → Int32} {w9 : Nat} {k9 : Nat} {h9 : Nat} {fc : Nat → Int32} {a0 : Int32} (hM : okM fs w9 k9 h9) (hT : ¬ mt = 0 → 1 ≤ k9) (h999 : h9 ≤ 999) (hT0 : mt = 0 → fs 0 = 0 ∧ ma = 0) (hac : okA fc ma) (hma : ma ≤ 24) (c_1 : mt = 0) (h00 : fs 0 = 0) : m38 fs = (s_hrs (m38 fs) ma (acM fc ma) a0).1 := by
  have hw6 := hM.2.2.2.1
  have hk6 := hM.2.2.2.2.1
  first
  | exact hT0
  | (intro h_; exact absurd (hT0 h_).1 h01)
  | (intro h_; have h9 := (hT0 h_).2; omega)
  | exact (hrsM_0 (r := m38 fs) (An := ma) (Ac := acM fc ma) h00).1
  | exact (hrsM_0 (r := m38 fs) (An := ma) (Ac := acM fc ma) h00).2.1
  | exact (hrsM_0 (r := m38 fs) (An := ma) (Ac := acM fc ma) h00).2.2.1
  | exact (hrsM_0 (r := m38 fs) (An := ma) (Ac := acM fc ma) h00).2.2.2
  | exact (hrsM_1 (r := m38 fs) (An := ma) (Ac := acM fc ma) h01 q_2).1
  | exact (hrsM_1 (r := m38 fs) (An := ma) (Ac := acM fc ma) h01 q_2).2.1
  | exact (hrsM_1 (r := m38 fs) (An := ma) (Ac := acM fc ma) h01 q_2).2.2.1
  | exact (hrsM_1 (r := m38 fs) (An := ma) (Ac := acM fc ma) h01 q_2).2.2.2
  | exact (hrsM_2 (r := m38 fs) (An := ma) (Ac := acM fc ma) (h := h9) (j := j_2) (fun q => q_2 (Or.inl q)) h01 hj_2 hM.2.2.1 h999 c_7).1
  | exact (hrsM_2 (r := m38 fs) (An := ma) (Ac := acM fc ma) (h := h9) (j := j_2) (fun q => q_2 (Or.inl q)) h01 hj_2 hM.2.2.1 h999 c_7).2.1
  | exact (hrsM_2 (r := m38 fs) (An := ma) (Ac := acM fc ma) (h := h9) (j := j_2) (fun q => q_2 (Or.inl q)) h01 hj_2 hM.2.2.1 h999 c_7).2.2.1
  | exact (hrsM_2 (r := m38 fs) (An := ma) (Ac := acM fc ma) (h := h9) (j := j_2) (fun q => q_2 (Or.inl q)) h01 hj_2 hM.2.2.1 h999 c_7).2.2.2
  | exact (hrs_pos (r := m38 fs) (An := ma) (Ac := acM fc ma) (h := h9) (j := j_2) (fun q => q_2 (Or.inl q)) h01 hj_2 hM.2.2.1 c_7 haf_1).1
  | exact (hrs_pos (r := m38 fs) (An := ma) (Ac := acM fc ma) (h := h9) (j := j_2) (fun q => q_2 (Or.inl q)) h01 hj_2 hM.2.2.1 c_7 haf_1).2.1
  | exact (hrs_pos (r := m38 fs) (An := ma) (Ac := acM fc ma) (h := h9) (j := j_2) (fun q => q_2 (Or.inl q)) h01 hj_2 hM.2.2.1 c_7 haf_1).2.2.1
  | exact (hrs_pos (r := m38 fs) (An := ma) (Ac := acM fc ma) (h := h9) (j := j_2) (fun q => q_2 (Or.inl q)) h01 hj_2 hM.2.2.1 c_7 haf_1).2.2.2
  | exact e_24.trans (hrs_pos (r := m38 fs) (An := ma) (Ac := acM fc ma) (h := h9) (j := j_2) (fun q => q_2 (Or.inl q)) h01 hj_2 hM.2.2.1 c_7 haf_1).2.2.2
theorem lf_X8_hours_19 {mt : Int32} {ma : Nat} {fs : Nat → Int32} {w9 : Nat} {k9 : Nat} {h9 : Nat} {fc : Nat → Int32} {a0 : Int32} (hM : okM fs w9 k9 h9) (hT : ¬ mt = 0 → 1 ≤ k9) (h999 : h9 ≤ 999) (hT0 : mt = 0 → fs 0 = 0 ∧ ma = 0) (hac : okA fc ma) (hma : ma ≤ 24) (c_1 : mt = 0) (h00 : fs 0 = 0) : ma = (s_hrs (m38 fs) ma (acM fc ma) a0).2.1 := by
  have hw6 := hM.2.2.2.1
  have hk6 := hM.2.2.2.2.1
  first
  | exact hT0
  | (intro h_; exact absurd (hT0 h_).1 h01)
  | (intro h_; have h9 := (hT0 h_).2; omega)
  | exact (hrsM_0 (r := m38 fs) (An := ma) (Ac := acM fc ma) h00).1
  | exact (hrsM_0 (r := m38 fs) (An := ma) (Ac := acM fc ma) h00).2.1
  | exact (hrsM_0 (r := m38 fs) (An := ma) (Ac := acM fc ma) h00).2.2.1
  | exact (hrsM_0 (r := m38 fs) (An := ma) (Ac := acM fc ma) h00).2.2.2
  | exact (hrsM_1 (r := m38 fs) (An := ma) (Ac := acM fc ma) h01 q_2).1
  | exact (hrsM_1 (r := m38 fs) (An := ma) (Ac := acM fc ma) h01 q_2).2.1
  | exact (hrsM_1 (r := m38 fs) (An := ma) (Ac := acM fc ma) h01 q_2).2.2.1
  | exact (hrsM_1 (r := m38 fs) (An := ma) (Ac := acM fc ma) h01 q_2).2.2.2
  | exact (hrsM_2 (r := m38 fs) (An := ma) (Ac := acM fc ma) (h := h9) (j := j_2) (fun q => q_2 (Or.inl q)) h01 hj_2 hM.2.2.1 h999 c_7).1
  | exact (hrsM_2 (r := m38 fs) (An := ma) (Ac := acM fc ma) (h := h9) (j := j_2) (fun q => q_2 (Or.inl q)) h01 hj_2 hM.2.2.1 h999 c_7).2.1
  | exact (hrsM_2 (r := m38 fs) (An := ma) (Ac := acM fc ma) (h := h9) (j := j_2) (fun q => q_2 (Or.inl q)) h01 hj_2 hM.2.2.1 h999 c_7).2.2.1
  | exact (hrsM_2 (r := m38 fs) (An := ma) (Ac := acM fc ma) (h := h9) (j := j_2) (fun q => q_2 (Or.inl q)) h01 hj_2 hM.2.2.1 h999 c_7).2.2.2
  | exact (hrs_pos (r := m38 fs) (An := ma) (Ac := acM fc ma) (h := h9) (j := j_2) (fun q => q_2 (Or.inl q)) h01 hj_2 hM.2.2.1 c_7 haf_1).1
  | exact (hrs_pos (r := m38 fs) (An := ma) (Ac := acM fc ma) (h := h9) (j := j_2) (fun q => q_2 (Or.inl q)) h01 hj_2 hM.2.2.1 c_7 haf_1).2.1
  | exact (hrs_pos (r := m38 fs) (An := ma) (Ac := acM fc ma) (h := h9) (j := j_2) (fun q => q_2 (Or.inl q)) h01 hj_2 hM.2.2.1 c_7 haf_1).2.2.1
  | exact (hrs_pos (r := m38 fs) (An := ma) (Ac := acM fc ma) (h := h9) (j := j_2) (fun q => q_2 (Or.inl q)) h01 hj_2 hM.2.2.1 c_7 haf_1).2.2.2
  | exact e_24.trans (hrs_pos (r := m38 fs) (An := ma) (Ac := acM fc ma) (h := h9) (j := j_2) (fun q => q_2 (Or.inl q)) h01 hj_2 hM.2.2.1 c_7 haf_1).2.2.2
theorem lf_X8_hours_20 {mt : Int32} {ma : Nat} {fs : Nat → Int32} {w9 : Nat} {k9 : Nat} {h9 : Nat} {fc : Nat → Int32} {a0 : Int32} (hM : okM fs w9 k9 h9) (hT : ¬ mt = 0 → 1 ≤ k9) (h999 : h9 ≤ 999) (hT0 : mt = 0 → fs 0 = 0 ∧ ma = 0) (hac : okA fc ma) (hma : ma ≤ 24) (c_1 : mt = 0) (h00 : fs 0 = 0) : acM fc ma = (s_hrs (m38 fs) ma (acM fc ma) a0).2.2 := by
  have hw6 := hM.2.2.2.1
  have hk6 := hM.2.2.2.2.1
  first
  | exact hT0
  | (intro h_; exact absurd (hT0 h_).1 h01)
  | (intro h_; have h9 := (hT0 h_).2; omega)
  | exact (hrsM_0 (r := m38 fs) (An := ma) (Ac := acM fc ma) h00).1
  | exact (hrsM_0 (r := m38 fs) (An := ma) (Ac := acM fc ma) h00).2.1
  | exact (hrsM_0 (r := m38 fs) (An := ma) (Ac := acM fc ma) h00).2.2.1
  | exact (hrsM_0 (r := m38 fs) (An := ma) (Ac := acM fc ma) h00).2.2.2
  | exact (hrsM_1 (r := m38 fs) (An := ma) (Ac := acM fc ma) h01 q_2).1
  | exact (hrsM_1 (r := m38 fs) (An := ma) (Ac := acM fc ma) h01 q_2).2.1
  | exact (hrsM_1 (r := m38 fs) (An := ma) (Ac := acM fc ma) h01 q_2).2.2.1
  | exact (hrsM_1 (r := m38 fs) (An := ma) (Ac := acM fc ma) h01 q_2).2.2.2
  | exact (hrsM_2 (r := m38 fs) (An := ma) (Ac := acM fc ma) (h := h9) (j := j_2) (fun q => q_2 (Or.inl q)) h01 hj_2 hM.2.2.1 h999 c_7).1
  | exact (hrsM_2 (r := m38 fs) (An := ma) (Ac := acM fc ma) (h := h9) (j := j_2) (fun q => q_2 (Or.inl q)) h01 hj_2 hM.2.2.1 h999 c_7).2.1
  | exact (hrsM_2 (r := m38 fs) (An := ma) (Ac := acM fc ma) (h := h9) (j := j_2) (fun q => q_2 (Or.inl q)) h01 hj_2 hM.2.2.1 h999 c_7).2.2.1
  | exact (hrsM_2 (r := m38 fs) (An := ma) (Ac := acM fc ma) (h := h9) (j := j_2) (fun q => q_2 (Or.inl q)) h01 hj_2 hM.2.2.1 h999 c_7).2.2.2
  | exact (hrs_pos (r := m38 fs) (An := ma) (Ac := acM fc ma) (h := h9) (j := j_2) (fun q => q_2 (Or.inl q)) h01 hj_2 hM.2.2.1 c_7 haf_1).1
  | exact (hrs_pos (r := m38 fs) (An := ma) (Ac := acM fc ma) (h := h9) (j := j_2) (fun q => q_2 (Or.inl q)) h01 hj_2 hM.2.2.1 c_7 haf_1).2.1
  | exact (hrs_pos (r := m38 fs) (An := ma) (Ac := acM fc ma) (h := h9) (j := j_2) (fun q => q_2 (Or.inl q)) h01 hj_2 hM.2.2.1 c_7 haf_1).2.2.1
  | exact (hrs_pos (r := m38 fs) (An := ma) (Ac := acM fc ma) (h := h9) (j := j_2) (fun q => q_2 (Or.inl q)) h01 hj_2 hM.2.2.1 c_7 haf_1).2.2.2
  | exact e_24.trans (hrs_pos (r := m38 fs) (An := ma) (Ac := acM fc ma) (h := h9) (j := j_2) (fun q => q_2 (Or.inl q)) h01 hj_2 hM.2.2.1 c_7 haf_1).2.2.2
theorem lf_X8_hours_21 {mt : Int32} {ma : Nat} {fs : Nat → Int32} {w9 : Nat} {k9 : Nat} {h9 : Nat} {fc : Nat → Int32} {a0 : Int32} (hM : okM fs w9 k9 h9) (hT : ¬ mt = 0 → 1 ≤ k9) (h999 : h9 ≤ 999) (hT0 : mt = 0 → fs 0 = 0 ∧ ma = 0) (hac : okA fc ma) (hma : ma ≤ 24) (c_1 : mt = 0) (h00 : fs 0 = 0) : (-1000002) = (a_hrs (m38 fs) a0) := by
  have hw6 := hM.2.2.2.1
  have hk6 := hM.2.2.2.2.1
  first
  | exact hT0
  | (intro h_; exact absurd (hT0 h_).1 h01)
  | (intro h_; have h9 := (hT0 h_).2; omega)
  | exact (hrsM_0 (r := m38 fs) (An := ma) (Ac := acM fc ma) h00).1
  | exact (hrsM_0 (r := m38 fs) (An := ma) (Ac := acM fc ma) h00).2.1
  | exact (hrsM_0 (r := m38 fs) (An := ma) (Ac := acM fc ma) h00).2.2.1
  | exact (hrsM_0 (r := m38 fs) (An := ma) (Ac := acM fc ma) h00).2.2.2
  | exact (hrsM_1 (r := m38 fs) (An := ma) (Ac := acM fc ma) h01 q_2).1
  | exact (hrsM_1 (r := m38 fs) (An := ma) (Ac := acM fc ma) h01 q_2).2.1
  | exact (hrsM_1 (r := m38 fs) (An := ma) (Ac := acM fc ma) h01 q_2).2.2.1
  | exact (hrsM_1 (r := m38 fs) (An := ma) (Ac := acM fc ma) h01 q_2).2.2.2
  | exact (hrsM_2 (r := m38 fs) (An := ma) (Ac := acM fc ma) (h := h9) (j := j_2) (fun q => q_2 (Or.inl q)) h01 hj_2 hM.2.2.1 h999 c_7).1
  | exact (hrsM_2 (r := m38 fs) (An := ma) (Ac := acM fc ma) (h := h9) (j := j_2) (fun q => q_2 (Or.inl q)) h01 hj_2 hM.2.2.1 h999 c_7).2.1
  | exact (hrsM_2 (r := m38 fs) (An := ma) (Ac := acM fc ma) (h := h9) (j := j_2) (fun q => q_2 (Or.inl q)) h01 hj_2 hM.2.2.1 h999 c_7).2.2.1
  | exact (hrsM_2 (r := m38 fs) (An := ma) (Ac := acM fc ma) (h := h9) (j := j_2) (fun q => q_2 (Or.inl q)) h01 hj_2 hM.2.2.1 h999 c_7).2.2.2
  | exact (hrs_pos (r := m38 fs) (An := ma) (Ac := acM fc ma) (h := h9) (j := j_2) (fun q => q_2 (Or.inl q)) h01 hj_2 hM.2.2.1 c_7 haf_1).1
  | exact (hrs_pos (r := m38 fs) (An := ma) (Ac := acM fc ma) (h := h9) (j := j_2) (fun q => q_2 (Or.inl q)) h01 hj_2 hM.2.2.1 c_7 haf_1).2.1
  | exact (hrs_pos (r := m38 fs) (An := ma) (Ac := acM fc ma) (h := h9) (j := j_2) (fun q => q_2 (Or.inl q)) h01 hj_2 hM.2.2.1 c_7 haf_1).2.2.1
  | exact (hrs_pos (r := m38 fs) (An := ma) (Ac := acM fc ma) (h := h9) (j := j_2) (fun q => q_2 (Or.inl q)) h01 hj_2 hM.2.2.1 c_7 haf_1).2.2.2
  | exact e_24.trans (hrs_pos (r := m38 fs) (An := ma) (Ac := acM fc ma) (h := h9) (j := j_2) (fun q => q_2 (Or.inl q)) h01 hj_2 hM.2.2.1 c_7 haf_1).2.2.2
set_option maxHeartbeats 4000000 in
set_option maxRecDepth 100000 in
theorem r_X8_hours (l : Launch) (dC : Nat → ClassId) (dI : Nat → Nat → Nat) (cI cZ cL cJ : ClassId) (sz : Nat) (mo : Nat) (m_la : Nat) (m_sz : Nat) (m_it : Nat) (m_st : Nat) (m_mv : Nat) (m_tp : Nat) (m_rd : Nat) (m_ac : Nat) (m_as : Nat) (m_wo : Nat) (m_ik : Nat) (m_ke : Nat) (m_tr : Nat) (ms : Int32) (mt : Int32) (ml : Int32) (mk : Int32) (mv : Int32) (mb : Int32) (mw : Int32) (mz : Nat) (mp : Nat) (ma : Nat) (mx : Nat) (fs : Nat → Int32) (w9 : Nat) (k9 : Nat) (h9 : Nat) (fc : Nat → Int32) (a0 : Int32) (hM : okM fs w9 k9 h9) (hT : ¬ mt = 0 → 1 ≤ k9) (h999 : h9 ≤ 999) (hT0 : mt = 0 → fs 0 = 0 ∧ ma = 0) (hac : okA fc ma) (hma : ma ≤ 24) : Met l yX8_hours wsX8_hours ({ frames := 4, cells := 0, slots := 0, locals := 95 }) (va_Pc [.ref mo, .int a0] (fun U => U.heap.size = sz ∧ va_P (dC, dI) vwCl [(xo_8_rrriirrriiiiiiirrirrrrri mo m_la m_sz m_it ms mt m_st m_mv m_tp (nI mz) ml (nI mp) mk mv mb mw m_rd m_ac (nI ma) m_as m_wo m_ik m_ke m_tr (nI mx)), (xI m_st cI 38 fs), (xI m_ac cI 912 fc)] U.heap ∧ va_K (dC, dI) vwCl [(cI, .int), (cZ, .boolean), (cL, .object RX3), (cJ, .array .int)] U ∧ va_D (fun _ => True) [(xo_8_rrriirrriiiiiiirrirrrrri mo m_la m_sz m_it ms mt m_st m_mv m_tp (nI mz) ml (nI mp) mk mv mb mw m_rd m_ac (nI ma) m_as m_wo m_ik m_ke m_tr (nI mx)), (xI m_st cI 38 fs), (xI m_ac cI 912 fc)])) (va_Qi (fun r (_ : Unit) => r = (a_hrs (m38 fs) a0)) (fun (_ : Unit) t => ∃ (fsn : Nat → Int32) (fcn : Nat → Int32) (man : Nat) (w9n : Nat) (k9n : Nat) (h9n : Nat), va_P (dC, dI) vwCl [(xo_8_rrriirrriiiiiiirrirrrrri mo m_la m_sz m_it ms mt m_st m_mv m_tp (nI mz) ml (nI mp) mk mv mb mw m_rd m_ac (nI man) m_as m_wo m_ik m_ke m_tr (nI mx)), (xI m_st cI 38 fsn), (xI m_ac cI 912 fcn)] t.heap ∧ va_D (va_A [(xo_8_rrriirrriiiiiiirrirrrrri mo m_la m_sz m_it ms mt m_st m_mv m_tp (nI mz) ml (nI mp) mk mv mb mw m_rd m_ac (nI ma) m_as m_wo m_ik m_ke m_tr (nI mx)), (xI m_st cI 38 fs), (xI m_ac cI 912 fc)] sz) [(xo_8_rrriirrriiiiiiirrirrrrri mo m_la m_sz m_it ms mt m_st m_mv m_tp (nI mz) ml (nI mp) mk mv mb mw m_rd m_ac (nI man) m_as m_wo m_ik m_ke m_tr (nI mx)), (xI m_st cI 38 fsn), (xI m_ac cI 912 fcn)] ∧ okM fsn w9n k9n h9n ∧ (¬ mt = 0 → 1 ≤ k9n) ∧ h9n ≤ 999 ∧ okA fcn man ∧ man ≤ 24 ∧ (mt = 0 → fsn 0 = 0 ∧ man = 0) ∧ m38 fsn = (s_hrs (m38 fs) ma (acM fc ma) a0).1 ∧ man = (s_hrs (m38 fs) ma (acM fc ma) a0).2.1 ∧ acM fcn man = (s_hrs (m38 fs) ma (acM fc ma) a0).2.2) (va_A [(xo_8_rrriirrriiiiiiirrirrrrri mo m_la m_sz m_it ms mt m_st m_mv m_tp (nI mz) ml (nI mp) mk mv mb mw m_rd m_ac (nI ma) m_as m_wo m_ik m_ke m_tr (nI mx)), (xI m_st cI 38 fs), (xI m_ac cI 912 fc)] sz)) 0 0 (va_A [(xo_8_rrriirrriiiiiiirrirrrrri mo m_la m_sz m_it ms mt m_st m_mv m_tp (nI mz) ml (nI mp) mk mv mb mw m_rd m_ac (nI ma) m_as m_wo m_ik m_ke m_tr (nI mx)), (xI m_st cI 38 fs), (xI m_ac cI 912 fc)] sz) := by
  refine Met.ofW (cc := cX8_hours) (maxL := 3) (ret := (some .int)) (by decide) rfl ?_
  intro p e s m args below meth c s₁ B hml hv
  obtain ⟨rfl, hsz, hP, hK, hD0⟩ := hv
  have hx := B.exec
  have hb := B.bytes
  have hr := B.returns
  have hts := atoms_spec (ws := wsX8_hours) B.pre
  have hown : s.vm.findClass RX8 = some m.cls := findClass_of_methodNamed B.named
  have hlocks := B.notSynchronized
  subst hsz
  have hD := hD0.self (sz := s.heap.size)
  generalize hAe : va_A [(xo_8_rrriirrriiiiiiirrirrrrri mo m_la m_sz m_it ms mt m_st m_mv m_tp (nI mz) ml (nI mp) mk mv mb mw m_rd m_ac (nI ma) m_as m_wo m_ik m_ke m_tr (nI mx)), (xI m_st cI 38 fs), (xI m_ac cI 912 fc)] s.heap.size = A at hD ⊢
  have hA : ∀ q : Nat, s.heap.size ≤ q → A q := fun q h => by rw [← hAe]; exact Or.inr h
  have hS : va_S A s.heap s.heap [] := va_S.rf
  have hP : va_P (dC, dI) vwCl [(xo_8_rrriirrriiiiiiirrirrrrri mo m_la m_sz m_it ms mt m_st m_mv m_tp (nI mz) ml (nI mp) mk mv mb mw m_rd m_ac (nI ma) m_as m_wo m_ik m_ke m_tr (nI mx)), (xI m_st cI 38 fs), (xI m_ac cI 912 fc)] s.heap := hP
  have hl := lv_entry ([.ref mo, .int a0]) (n := 3) (Nat.le_of_ble_eq_true rfl)
  rw [lg_entry_eq]
  generalize (lg_sl ([.ref mo, .int a0]) ++ List.replicate (3 - (lg_sl ([.ref mo, .int a0])).length) Slot.unset).toArray = ls at hl ⊢
  have hl : lv_has ls 3 [(0, .ref mo), (1, .int a0)] := hl
  have hk6 := hM.2.2.2.2.1
  have hw6 := hM.2.2.2.1
  refine lv_aload_n hx hb dX8_hours_0 rfl (lv_at hl 0 rfl) ?_
  refine va_get (D := (dC, dI)) (ci := 8) (v := .int mt) (C := RX8) (T := TX8) (N := 24) hx hb hts i_X8_hours_X8 hown hK hP 0 rfl rfl 4 (by decide) (hts _ mx_X8_hours_1) (fun _ h9 => h9) rfl dX8_hours_1 ?_
  refine lv_if_ne (tgt := 10) hx hb dX8_hours_4 (by decide) (fun c_1 => ?_) (fun c_1 => ?_)
  · skip
    have hkn1 := hT c_1
    have hw1 := hM.2.2.2.2.2.1.mp hkn1
    have h01 : ¬ fs 0 = 0 := cell_nz hM hkn1
    refine lv_iload_n hx hb dX8_hours_10 rfl (lv_at hl 1 rfl) ?_
    refine lv_i2l hx hb dX8_hours_11 rfl ?_
    refine lv_lconst (v := 1) hx hb dX8_hours_12 (by decide) ?_
    refine lv_ldc2 (own := RX8) (v := 24) hx hb hown (hts _ mx_X8_hours_3) dX8_hours_13 ?_
    have hPc_2 := hP.sub (ws' := []) [] rfl
    refine vp_callSi (W.runS (As := [.long (a0).toInt64, .long 1, .long 24]) (rest := []) ⟨hx, hb, hml, hown, hts⟩ (r_X8_in l dC dI cI cZ cL cJ ((a0).toInt64) 1 24 ) (va_cwS 3 hts gX8_hours_X8_in rfl rfl rfl (by decide +kernel) ⟨Nat.le_of_ble_eq_true rfl, Nat.le_of_ble_eq_true rfl⟩) (psP hK hPc_2) rfl rfl hl.1 rfl (lv_room (Nat.le_of_ble_eq_true rfl)) dX8_hours_16 ⟨Nat.le_of_ble_eq_true rfl, Nat.le_of_ble_eq_true rfl⟩) (fun r_2 h_2 => ?_)
    rcases h_2 with ⟨h_2, f_2_0_0⟩ | ⟨h_2, f_2_1_0⟩
    · subst h_2
      have q_2 : (a0 < 1 ∨ 24 < a0) := (in32 (x := a0) (l := 1) (u := 24) (by decide) (by decide)).mp f_2_0_0
      refine lv_if_ne (tgt := 25) hx hb dX8_hours_19 (by decide) (fun c_ => absurd (by decide) c_) (fun _ => ?_)
      refine lv_ldc (own := RX8) (v := (-1000001)) hx hb hown (hts _ mx_X8_hours_4) dX8_hours_22 ?_
      have hX9 := cut2 (wc := [(xo_8_rrriirrriiiiiiirrirrrrri mo m_la m_sz m_it ms mt m_st m_mv m_tp (nI mz) ml (nI mp) mk mv mb mw m_rd m_ac (nI ma) m_as m_wo m_ik m_ke m_tr (nI mx)), (xI m_st cI 38 fs), (xI m_ac cI 912 fc)]) hP hD [0, 1, 2] (by decide +kernel) rfl
      exact W.iret (v := (-1000001)) hx hb hr (fun t ht hW => ⟨⟨(-1000001), (), rfl, (lf_X8_hours_5 hM hT h999 hT0 hac hma c_1 hkn1 hw1 h01 f_2_0_0 q_2), ⟨fs, fc, ma, w9, k9, h9, va_Ht ht hX9.1, hX9.2, hM, hT, (by omega), hac, (by omega), (lf_X8_hours_1 hM hT h999 hT0 hac hma c_1 hkn1 hw1 h01 f_2_0_0 q_2), (lf_X8_hours_2 hM hT h999 hT0 hac hma c_1 hkn1 hw1 h01 f_2_0_0 q_2), (lf_X8_hours_3 hM hT h999 hT0 hac hma c_1 hkn1 hw1 h01 f_2_0_0 q_2), (lf_X8_hours_4 hM hT h999 hT0 hac hma c_1 hkn1 hw1 h01 f_2_0_0 q_2)⟩⟩, hS.F ht⟩) hS.2.2 dX8_hours_24
    · subst h_2
      have q_2 : ¬ (a0 < 1 ∨ 24 < a0) := fun q_ => f_2_1_0 ((in32 (x := a0) (l := 1) (u := 24) (by decide) (by decide)).mpr q_)
      obtain ⟨j_2, hj_2, hl_2, rfl⟩ := in64 (lo := 1) (n := 24) rfl rfl (by decide) f_2_1_0
      refine lv_if_ne (tgt := 25) hx hb dX8_hours_19 (by decide) (fun _ => ?_) (fun c_ => absurd c_ (by decide))
      refine lv_aload_n hx hb dX8_hours_25 rfl (lv_at hl 0 rfl) ?_
      refine va_get (D := (dC, dI)) (ci := 8) (v := .ref m_st) (C := RX8) (T := TX8) (N := 24) hx hb hts i_X8_hours_X8 hown hK hP 0 rfl rfl 5 (by decide) (hts _ mx_X8_hours_5) (fun _ h9 => h9) rfl dX8_hours_26 ?_
      refine lv_iconst (v := 5) hx hb dX8_hours_29 (by decide) ?_
      refine va_iald hx hb hK hP 1 0 rfl rfl (by unfold vp_in; decide) dX8_hours_30 ?_
      refine lv_topi (fun v_5 e_5 => ?_)
      obtain rfl : v_5 = (nI h9) := (e_5).trans hM.2.2.1
      refine lv_iload_n hx hb dX8_hours_31 rfl (lv_at hl 1 rfl) ?_
      refine lv_iadd hx hb dX8_hours_32 ?_
      refine lv_topi (fun v_6 e_6 => ?_)
      obtain rfl : v_6 = (nI (h9 + j_2)) := (e_6).trans (nI_add h9 j_2)
      refine lv_sipush (v := 999) hx hb dX8_hours_33 (by decide) ?_
      refine lv_icmp_le (tgt := 42) hx hb dX8_hours_36 (by decide) (fun c_7 => ?_) (fun c_7 => ?_)
      · have c_7 : (h9 + j_2) ≤ 999 := (nI_leI (a := (h9 + j_2)) (b := 999) (by omega) (by omega)).mp c_7
        refine lv_iconst (v := 0) hx hb dX8_hours_42 (by decide) ?_
        refine lv_istore_n (lv' := [(2, .int 0), (0, .ref mo), (1, .int (nI j_2))]) hx hb dX8_hours_43 rfl hl (by decide) rfl (fun ls hl => ?_)
        refine lp_go (σ := (Nat) × (Nat → Int32) × (Nat → Int32)) (fun ii (st : (Nat) × (Nat → Int32) × (Nat → Int32)) H locs ls => match st with | (w_11, w_12, w_13) => lv_has ls 3 [(2, .int (nI ii)), (0, .ref mo), (1, .int (nI j_2))] ∧ va_P (dC, dI) vwCl [(xo_8_rrriirrriiiiiiirrirrrrri mo m_la m_sz m_it ms mt m_st m_mv m_tp (nI mz) ml (nI mp) mk mv mb mw m_rd m_ac (nI w_11) m_as m_wo m_ik m_ke m_tr (nI mx)), (xI m_st cI 38 w_12), (xI m_ac cI 912 w_13)] H ∧ va_D A [(xo_8_rrriirrriiiiiiirrirrrrri mo m_la m_sz m_it ms mt m_st m_mv m_tp (nI mz) ml (nI mp) mk mv mb mw m_rd m_ac (nI w_11) m_as m_wo m_ik m_ke m_tr (nI mx)), (xI m_st cI 38 w_12), (xI m_ac cI 912 w_13)] ∧ va_S A s.heap H locs ∧ okM w_12 w9 k9 (h9 + ii) ∧ okA w_13 w_11 ∧ (hrI ii (m38 fs) ma (acM fc ma) = (m38 w_12, w_11, acM w_13 w_11)) ∧ w_11 ≤ 24) j_2 ?_ ?_ 0 (by omega) (ma, fs, fc) ⟨lv_sub hl [0, 1, 2] rfl, hP.sub (ws' := [(xo_8_rrriirrriiiiiiirrirrrrri mo m_la m_sz m_it ms mt m_st m_mv m_tp (nI mz) ml (nI mp) mk mv mb mw m_rd m_ac (nI ma) m_as m_wo m_ik m_ke m_tr (nI mx)), (xI m_st cI 38 fs), (xI m_ac cI 912 fc)]) [0, 1, 2] rfl, hD.sub (ws' := [(xo_8_rrriirrriiiiiiirrirrrrri mo m_la m_sz m_it ms mt m_st m_mv m_tp (nI mz) ml (nI mp) mk mv mb mw m_rd m_ac (nI ma) m_as m_wo m_ik m_ke m_tr (nI mx)), (xI m_st cI 38 fs), (xI m_ac cI 912 fc)]) [0, 1, 2] (by decide +kernel) rfl, hS, hM, hac, rfl, (by omega)⟩
        · rintro ii ⟨w_11, w_12, w_13⟩ H locs ls hii ⟨hl, hP, hD, hS, hMl, haf_0, haf_1, hnb_w_11⟩ ih
          refine lv_iload_n hx hb dX8_hours_44 rfl (lv_at hl 0 rfl) ?_
          refine lv_iload_n hx hb dX8_hours_45 rfl (lv_at hl 2 rfl) ?_
          refine lv_icmp_ge (tgt := 64) hx hb dX8_hours_46 (by decide) (fun c_ => absurd c_ (fun q_ => absurd ((nI_leI (a := j_2) (b := ii) (by omega) (by omega)).mp q_) (by omega))) (fun _ => ?_)
          refine lv_aload_n hx hb dX8_hours_49 rfl (lv_at hl 1 rfl) ?_
          have hc_21 := cutW (wc := [(xo_8_rrriirrriiiiiiirrirrrrri mo m_la m_sz m_it ms mt m_st m_mv m_tp (nI mz) ml (nI mp) mk mv mb mw m_rd m_ac (nI w_11) m_as m_wo m_ik m_ke m_tr (nI mx)), (xI m_st cI 38 w_12), (xI m_ac cI 912 w_13)]) hP hD hS hA [0, 1, 2] (by decide +kernel) rfl
          refine va_callv (va_runV (As := []) (rest := []) ⟨hx, hb, hml, hown, hts⟩ (r_X8_note l dC dI cI cZ cL cJ H.size mo m_la m_sz m_it m_st m_mv m_tp m_rd m_ac m_as m_wo m_ik m_ke m_tr ms mt ml mk mv mb mw mz mp w_11 mx w_12 w_13 (haf_0) (by omega) (⟨w9, k9, (h9 + ii), hMl, hkn1, by omega⟩)) (cwV 0 hts gX8_hours_X8_note rfl rfl rfl (by decide +kernel) ⟨Nat.le_of_ble_eq_true rfl, Nat.le_of_ble_eq_true rfl⟩) (pvW 8 0 hK hP rfl rfl hc_21) rfl rfl hl.1 rfl (lv_room (Nat.le_of_ble_eq_true rfl)) dX8_hours_50 ⟨Nat.le_of_ble_eq_true rfl, Nat.le_of_ble_eq_true rfl⟩) hS (fun q _ h => hc_21.2.2 q h) hc_21.2.2 (fun u_21 t_21 H1 locs ht hvm h_21 hB hz1 hk1 hS => ?_)
          refine xl_2_7 hB (fun fcn_21 man_21 hP1 hD1 hF_21_0 hF_21_1 hF_21_2 hF_21_3 hF_21_4 => ?_)
          clear hB
          rw [ht] at hP1
          obtain ⟨hP, hD⟩ := va_join (wr := []) (w1 := [(xo_8_rrriirrriiiiiiirrirrrrri mo m_la m_sz m_it ms mt m_st m_mv m_tp (nI mz) ml (nI mp) mk mv mb mw m_rd m_ac (nI man_21) m_as m_wo m_ik m_ke m_tr (nI mx)), (xI m_st cI 38 w_12), (xI m_ac cI 912 fcn_21)]) hP hD [0, 1, 2] [] rfl rfl (by decide +kernel) (by decide +kernel) hk1 hc_21.2.2 hP1 hD1
          generalize H1 = H at hP hS ⊢
          have hP : va_P (dC, dI) vwCl [(xo_8_rrriirrriiiiiiirrirrrrri mo m_la m_sz m_it ms mt m_st m_mv m_tp (nI mz) ml (nI mp) mk mv mb mw m_rd m_ac (nI man_21) m_as m_wo m_ik m_ke m_tr (nI mx)), (xI m_st cI 38 w_12), (xI m_ac cI 912 fcn_21)] H := hP
          have hD := dto hP hD
          refine lv_aload_n hx hb dX8_hours_53 rfl (lv_at hl 1 rfl) ?_
          have hc_22 := cutW (wc := [(xo_8_rrriirrriiiiiiirrirrrrri mo m_la m_sz m_it ms mt m_st m_mv m_tp (nI mz) ml (nI mp) mk mv mb mw m_rd m_ac (nI man_21) m_as m_wo m_ik m_ke m_tr (nI mx)), (xI m_st cI 38 w_12)]) hP hD hS hA [0, 1] (by decide +kernel) rfl
          refine va_calli (va_runV (As := []) (rest := []) ⟨hx, hb, hml, hown, hts⟩ (r_X8_oneHour l dC dI cI cZ cL cJ H.size mo m_la m_sz m_it m_st m_mv m_tp m_rd m_ac m_as m_wo m_ik m_ke m_tr ms mt ml mk mv mb mw mz mp man_21 mx w_12 w9 k9 (h9 + ii) (hMl) (by omega) (by omega)) (cwV 0 hts gX8_hours_X8_oneHour rfl rfl rfl (by decide +kernel) ⟨Nat.le_of_ble_eq_true rfl, Nat.le_of_ble_eq_true rfl⟩) (pvW 8 0 hK hP rfl rfl hc_22) rfl rfl hl.1 rfl (lv_room (Nat.le_of_ble_eq_true rfl)) dX8_hours_54 ⟨Nat.le_of_ble_eq_true rfl, Nat.le_of_ble_eq_true rfl⟩) hS (fun q _ h => hc_22.2.2 q h) hc_22.2.2 (fun r_22 u_22 t_22 H1 locs ht hvm h_22 hB hz1 hk1 hS => ?_)
          refine xl_1_4 hB (fun fsn_22 hP1 hD1 hF_22_0 hF_22_1 => ?_)
          clear hB
          rw [ht] at hP1
          obtain ⟨hP, hD⟩ := va_join (wr := [(xI m_ac cI 912 fcn_21)]) (w1 := [(xo_8_rrriirrriiiiiiirrirrrrri mo m_la m_sz m_it ms mt m_st m_mv m_tp (nI mz) ml (nI mp) mk mv mb mw m_rd m_ac (nI man_21) m_as m_wo m_ik m_ke m_tr (nI mx)), (xI m_st cI 38 fsn_22)]) hP hD [0, 1] [2] rfl rfl (by decide +kernel) (by decide +kernel) hk1 hc_22.2.2 hP1 hD1
          generalize H1 = H at hP hS ⊢
          have hP : va_P (dC, dI) vwCl [(xI m_ac cI 912 fcn_21), (xo_8_rrriirrriiiiiiirrirrrrri mo m_la m_sz m_it ms mt m_st m_mv m_tp (nI mz) ml (nI mp) mk mv mb mw m_rd m_ac (nI man_21) m_as m_wo m_ik m_ke m_tr (nI mx)), (xI m_st cI 38 fsn_22)] H := hP
          have hD := dto hP hD
          refine lv_pop hx hb dX8_hours_57 rfl ?_
          refine lv_iinc (v := (nI (ii + 1))) (lv' := [(2, .int (nI (ii + 1))), (0, .ref mo), (1, .int (nI j_2))]) hx hb dX8_hours_58 hl (k := 0) rfl (nI_add ii 1) (by decide) rfl (fun ls hl => ?_)
          refine lv_goto (tgt := 44) hx hb dX8_hours_61 (by decide) ?_
          exact ih (man_21, fsn_22, fcn_21) _ _ _ ⟨lv_sub hl [0, 1, 2] rfl, hP.sub (ws' := [(xo_8_rrriirrriiiiiiirrirrrrri mo m_la m_sz m_it ms mt m_st m_mv m_tp (nI mz) ml (nI mp) mk mv mb mw m_rd m_ac (nI man_21) m_as m_wo m_ik m_ke m_tr (nI mx)), (xI m_st cI 38 fsn_22), (xI m_ac cI 912 fcn_21)]) [1, 2, 0] rfl, hD.sub (ws' := [(xo_8_rrriirrriiiiiiirrirrrrri mo m_la m_sz m_it ms mt m_st m_mv m_tp (nI mz) ml (nI mp) mk mv mb mw m_rd m_ac (nI man_21) m_as m_wo m_ik m_ke m_tr (nI mx)), (xI m_st cI 38 fsn_22), (xI m_ac cI 912 fcn_21)]) [1, 2, 0] (by decide +kernel) rfl, hS, hF_22_0, hF_21_0, (lf_X8_hours_6 hM hT h999 hT0 hac hma c_1 hkn1 hw1 h01 f_2_1_0 q_2 hj_2 c_7 hii haf_0 haf_1 hnb_w_11 hMl hF_21_0 hF_21_1 hF_21_2 hF_21_3 hF_21_4 hF_22_0 hF_22_1), (by omega)⟩
        · rintro ⟨w_11, w_12, w_13⟩ H locs ls ⟨hl, hP, hD, hS, hMl, haf_0, haf_1, hnb_w_11⟩
          refine lv_iload_n hx hb dX8_hours_44 rfl (lv_at hl 0 rfl) ?_
          refine lv_iload_n hx hb dX8_hours_45 rfl (lv_at hl 2 rfl) ?_
          refine lv_icmp_ge (tgt := 64) hx hb dX8_hours_46 (by decide) (fun _ => ?_) (fun c_ => absurd ((nI_leI (a := j_2) (b := j_2) (by omega) (by omega)).mpr (by omega)) c_)
          refine lv_aload_n hx hb dX8_hours_64 rfl (lv_at hl 1 rfl) ?_
          refine va_get (D := (dC, dI)) (ci := 8) (v := .ref m_st) (C := RX8) (T := TX8) (N := 24) hx hb hts i_X8_hours_X8 hown hK hP 0 rfl rfl 5 (by decide) (hts _ mx_X8_hours_5) (fun _ h9 => h9) rfl dX8_hours_65 ?_
          refine lv_bipush (v := 7) hx hb dX8_hours_68 (by decide) ?_
          refine va_iald hx hb hK hP 1 0 rfl rfl (by unfold vp_in; decide) dX8_hours_70 ?_
          refine lv_topi (fun v_24 e_24 => ?_)
          have e_24 : v_24 = w_12 7 := e_24
          have hX9 := cut2 (wc := [(xo_8_rrriirrriiiiiiirrirrrrri mo m_la m_sz m_it ms mt m_st m_mv m_tp (nI mz) ml (nI mp) mk mv mb mw m_rd m_ac (nI w_11) m_as m_wo m_ik m_ke m_tr (nI mx)), (xI m_st cI 38 w_12), (xI m_ac cI 912 w_13)]) hP hD [0, 1, 2] (by decide +kernel) rfl
          exact W.iret (v := v_24) hx hb hr (fun t ht hW => ⟨⟨v_24, (), rfl, (lf_X8_hours_11 hM hT h999 hT0 hac hma c_1 hkn1 hw1 h01 f_2_1_0 q_2 hj_2 c_7 haf_0 haf_1 hnb_w_11 hMl e_24), ⟨w_12, w_13, w_11, w9, k9, (h9 + j_2), va_Ht ht hX9.1, hX9.2, hMl, hT, (by omega), haf_0, (by omega), (lf_X8_hours_7 hM hT h999 hT0 hac hma c_1 hkn1 hw1 h01 f_2_1_0 q_2 hj_2 c_7 haf_0 haf_1 hnb_w_11 hMl e_24), (lf_X8_hours_8 hM hT h999 hT0 hac hma c_1 hkn1 hw1 h01 f_2_1_0 q_2 hj_2 c_7 haf_0 haf_1 hnb_w_11 hMl e_24), (lf_X8_hours_9 hM hT h999 hT0 hac hma c_1 hkn1 hw1 h01 f_2_1_0 q_2 hj_2 c_7 haf_0 haf_1 hnb_w_11 hMl e_24), (lf_X8_hours_10 hM hT h999 hT0 hac hma c_1 hkn1 hw1 h01 f_2_1_0 q_2 hj_2 c_7 haf_0 haf_1 hnb_w_11 hMl e_24)⟩⟩, hS.F ht⟩) hS.2.2 dX8_hours_71
      · have c_7 : ¬ ((h9 + j_2) ≤ 999) := fun q_ => c_7 ((nI_leI (a := (h9 + j_2)) (b := 999) (by omega) (by omega)).mpr q_)
        refine lv_ldc (own := RX8) (v := (-1000003)) hx hb hown (hts _ mx_X8_hours_6) dX8_hours_39 ?_
        have hX9 := cut2 (wc := [(xo_8_rrriirrriiiiiiirrirrrrri mo m_la m_sz m_it ms mt m_st m_mv m_tp (nI mz) ml (nI mp) mk mv mb mw m_rd m_ac (nI ma) m_as m_wo m_ik m_ke m_tr (nI mx)), (xI m_st cI 38 fs), (xI m_ac cI 912 fc)]) hP hD [0, 1, 2] (by decide +kernel) rfl
        exact W.iret (v := (-1000003)) hx hb hr (fun t ht hW => ⟨⟨(-1000003), (), rfl, (lf_X8_hours_16 hM hT h999 hT0 hac hma c_1 hkn1 hw1 h01 f_2_1_0 q_2 hj_2 c_7), ⟨fs, fc, ma, w9, k9, h9, va_Ht ht hX9.1, hX9.2, hM, hT, (by omega), hac, (by omega), (lf_X8_hours_12 hM hT h999 hT0 hac hma c_1 hkn1 hw1 h01 f_2_1_0 q_2 hj_2 c_7), (lf_X8_hours_13 hM hT h999 hT0 hac hma c_1 hkn1 hw1 h01 f_2_1_0 q_2 hj_2 c_7), (lf_X8_hours_14 hM hT h999 hT0 hac hma c_1 hkn1 hw1 h01 f_2_1_0 q_2 hj_2 c_7), (lf_X8_hours_15 hM hT h999 hT0 hac hma c_1 hkn1 hw1 h01 f_2_1_0 q_2 hj_2 c_7)⟩⟩, hS.F ht⟩) hS.2.2 dX8_hours_41
  · skip
    have h00 : fs 0 = 0 := (hT0 c_1).1
    refine lv_ldc (own := RX8) (v := (-1000002)) hx hb hown (hts _ mx_X8_hours_2) dX8_hours_7 ?_
    have hX9 := cut2 (wc := [(xo_8_rrriirrriiiiiiirrirrrrri mo m_la m_sz m_it ms mt m_st m_mv m_tp (nI mz) ml (nI mp) mk mv mb mw m_rd m_ac (nI ma) m_as m_wo m_ik m_ke m_tr (nI mx)), (xI m_st cI 38 fs), (xI m_ac cI 912 fc)]) hP hD [0, 1, 2] (by decide +kernel) rfl
    exact W.iret (v := (-1000002)) hx hb hr (fun t ht hW => ⟨⟨(-1000002), (), rfl, (lf_X8_hours_21 hM hT h999 hT0 hac hma c_1 h00), ⟨fs, fc, ma, w9, k9, h9, va_Ht ht hX9.1, hX9.2, hM, hT, (by omega), hac, (by omega), (lf_X8_hours_17 hM hT h999 hT0 hac hma c_1 h00), (lf_X8_hours_18 hM hT h999 hT0 hac hma c_1 h00), (lf_X8_hours_19 hM hT h999 hT0 hac hma c_1 h00), (lf_X8_hours_20 hM hT h999 hT0 hac hma c_1 h00)⟩⟩, hS.F ht⟩) hS.2.2 dX8_hours_9
