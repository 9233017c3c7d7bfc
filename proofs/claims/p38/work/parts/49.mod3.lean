set_option maxHeartbeats 4000000 in
set_option maxRecDepth 100000 in
theorem r_X8_note (l : Launch) (dC : Nat → ClassId) (dI : Nat → Nat → Nat) (cI cZ cL cJ : ClassId) (sz : Nat) (mo : Nat) (m_la : Nat) (m_sz : Nat) (m_it : Nat) (m_st : Nat) (m_mv : Nat) (m_tp : Nat) (m_rd : Nat) (m_ac : Nat) (m_as : Nat) (m_wo : Nat) (m_ik : Nat) (m_ke : Nat) (m_tr : Nat) (ms : Int32) (mt : Int32) (ml : Int32) (mk : Int32) (mv : Int32) (mb : Int32) (mw : Int32) (mz : Nat) (mp : Nat) (ma : Nat) (mx : Nat) (fs : Nat → Int32) (fc : Nat → Int32) (hac : okA fc ma) (hma : ma ≤ 24) (hKs : okK fs) : Met l yX8_note wsX8_note ({ frames := 0, cells := 0, slots := 0, locals := 0 }) (va_Pc [.ref mo] (fun U => U.heap.size = sz ∧ va_P (dC, dI) vwCl [(xo_8_rrriirrriiiiiiirrirrrrri mo m_la m_sz m_it ms mt m_st m_mv m_tp (nI mz) ml (nI mp) mk mv mb mw m_rd m_ac (nI ma) m_as m_wo m_ik m_ke m_tr (nI mx)), (xI m_st cI 38 fs), (xI m_ac cI 912 fc)] U.heap ∧ va_K (dC, dI) vwCl [(cI, .int), (cZ, .boolean), (cL, .object RX3), (cJ, .array .int)] U ∧ va_D (fun _ => True) [(xo_8_rrriirrriiiiiiirrirrrrri mo m_la m_sz m_it ms mt m_st m_mv m_tp (nI mz) ml (nI mp) mk mv mb mw m_rd m_ac (nI ma) m_as m_wo m_ik m_ke m_tr (nI mx)), (xI m_st cI 38 fs), (xI m_ac cI 912 fc)])) (va_Qv (fun (_ : Unit) => True) (fun (_ : Unit) t => ∃ (fcn : Nat → Int32) (man : Nat), va_P (dC, dI) vwCl [(xo_8_rrriirrriiiiiiirrirrrrri mo m_la m_sz m_it ms mt m_st m_mv m_tp (nI mz) ml (nI mp) mk mv mb mw m_rd m_ac (nI man) m_as m_wo m_ik m_ke m_tr (nI mx)), (xI m_st cI 38 fs), (xI m_ac cI 912 fcn)] t.heap ∧ va_D (va_A [(xo_8_rrriirrriiiiiiirrirrrrri mo m_la m_sz m_it ms mt m_st m_mv m_tp (nI mz) ml (nI mp) mk mv mb mw m_rd m_ac (nI ma) m_as m_wo m_ik m_ke m_tr (nI mx)), (xI m_st cI 38 fs), (xI m_ac cI 912 fc)] sz) [(xo_8_rrriirrriiiiiiirrirrrrri mo m_la m_sz m_it ms mt m_st m_mv m_tp (nI mz) ml (nI mp) mk mv mb mw m_rd m_ac (nI man) m_as m_wo m_ik m_ke m_tr (nI mx)), (xI m_st cI 38 fs), (xI m_ac cI 912 fcn)] ∧ okA fcn man ∧ man ≤ 24 ∧ 1 ≤ man ∧ acM fcn man = ntA (m38 fs) ma (acM fc ma) ∧ man = ntN ma) (va_A [(xo_8_rrriirrriiiiiiirrirrrrri mo m_la m_sz m_it ms mt m_st m_mv m_tp (nI mz) ml (nI mp) mk mv mb mw m_rd m_ac (nI ma) m_as m_wo m_ik m_ke m_tr (nI mx)), (xI m_st cI 38 fs), (xI m_ac cI 912 fc)] sz)) 0 0 (va_A [(xo_8_rrriirrriiiiiiirrirrrrri mo m_la m_sz m_it ms mt m_st m_mv m_tp (nI mz) ml (nI mp) mk mv mb mw m_rd m_ac (nI ma) m_as m_wo m_ik m_ke m_tr (nI mx)), (xI m_st cI 38 fs), (xI m_ac cI 912 fc)] sz) := by
  refine Met.ofW (cc := cX8_note) (maxL := 2) (ret := none) (by decide) rfl ?_
  intro p e s m args below meth c s₁ B hml hv
  obtain ⟨rfl, hsz, hP, hK, hD0⟩ := hv
  have hx := B.exec
  have hb := B.bytes
  have hr := B.returns
  have hts := atoms_spec (ws := wsX8_note) B.pre
  have hown : s.vm.findClass RX8 = some m.cls := findClass_of_methodNamed B.named
  have hlocks := B.notSynchronized
  subst hsz
  have hD := hD0.self (sz := s.heap.size)
  generalize hAe : va_A [(xo_8_rrriirrriiiiiiirrirrrrri mo m_la m_sz m_it ms mt m_st m_mv m_tp (nI mz) ml (nI mp) mk mv mb mw m_rd m_ac (nI ma) m_as m_wo m_ik m_ke m_tr (nI mx)), (xI m_st cI 38 fs), (xI m_ac cI 912 fc)] s.heap.size = A at hD ⊢
  have hA : ∀ q : Nat, s.heap.size ≤ q → A q := fun q h => by rw [← hAe]; exact Or.inr h
  have hS : va_S A s.heap s.heap [] := va_S.rf
  have hP : va_P (dC, dI) vwCl [(xo_8_rrriirrriiiiiiirrirrrrri mo m_la m_sz m_it ms mt m_st m_mv m_tp (nI mz) ml (nI mp) mk mv mb mw m_rd m_ac (nI ma) m_as m_wo m_ik m_ke m_tr (nI mx)), (xI m_st cI 38 fs), (xI m_ac cI 912 fc)] s.heap := hP
  have hl := lv_entry ([.ref mo]) (n := 2) (Nat.le_of_ble_eq_true rfl)
  rw [lg_entry_eq]
  generalize (lg_sl ([.ref mo]) ++ List.replicate (2 - (lg_sl ([.ref mo])).length) Slot.unset).toArray = ls at hl ⊢
  have hl : lv_has ls 2 [(0, .ref mo)] := hl
  refine lv_aload_n hx hb dX8_note_0 rfl (lv_at hl 0 rfl) ?_
  refine va_get (D := (dC, dI)) (ci := 8) (v := .int (nI ma)) (C := RX8) (T := TX8) (N := 24) hx hb hts i_X8_note_X8 hown hK hP 0 rfl rfl 17 (by decide) (hts _ mx_X8_note_1) (fun _ h9 => h9) rfl dX8_note_1 ?_
  refine lv_bipush (v := 24) hx hb dX8_note_4 (by decide) ?_
  refine lv_icmp_ne (tgt := 49) hx hb dX8_note_6 (by decide) (fun c_1 => ?_) (fun c_1 => ?_)
  · have c_1 : ¬ (ma = 24) := fun q_ => c_1 ((nI_eq (a := ma) (b := 24) (by omega) (by omega)).mpr q_)
    refine lv_iconst (v := 0) hx hb dX8_note_49 (by decide) ?_
    refine lv_istore_n (lv' := [(1, .int 0), (0, .ref mo)]) hx hb dX8_note_50 rfl hl (by decide) rfl (fun ls hl => ?_)
    refine lp_go (σ := (Nat → Int32)) (fun ii (st : (Nat → Int32)) H locs ls => match st with | w_7 => lv_has ls 2 [(1, .int (nI ii)), (0, .ref mo)] ∧ va_P (dC, dI) vwCl [(xo_8_rrriirrriiiiiiirrirrrrri mo m_la m_sz m_it ms mt m_st m_mv m_tp (nI mz) ml (nI mp) mk mv mb mw m_rd m_ac (nI ma) m_as m_wo m_ik m_ke m_tr (nI mx)), (xI m_st cI 38 fs), (xI m_ac cI 912 w_7)] H ∧ va_D A [(xo_8_rrriirrriiiiiiirrirrrrri mo m_la m_sz m_it ms mt m_st m_mv m_tp (nI mz) ml (nI mp) mk mv mb mw m_rd m_ac (nI ma) m_as m_wo m_ik m_ke m_tr (nI mx)), (xI m_st cI 38 fs), (xI m_ac cI 912 w_7)] ∧ va_S A s.heap H locs ∧ (∀ j : Nat, j < ii → w_7 (38 * ma + j) = fs j) ∧ (∀ j : Nat, j < 38 * ma ∨ 38 * ma + 38 ≤ j → w_7 j = fc j)) 38 ?_ ?_ 0 (by omega) (fc) ⟨lv_sub hl [0, 1] rfl, hP.sub (ws' := [(xo_8_rrriirrriiiiiiirrirrrrri mo m_la m_sz m_it ms mt m_st m_mv m_tp (nI mz) ml (nI mp) mk mv mb mw m_rd m_ac (nI ma) m_as m_wo m_ik m_ke m_tr (nI mx)), (xI m_st cI 38 fs), (xI m_ac cI 912 fc)]) [0, 1, 2] rfl, hD.sub (ws' := [(xo_8_rrriirrriiiiiiirrirrrrri mo m_la m_sz m_it ms mt m_st m_mv m_tp (nI mz) ml (nI mp) mk mv mb mw m_rd m_ac (nI ma) m_as m_wo m_ik m_ke m_tr (nI mx)), (xI m_st cI 38 fs), (xI m_ac cI 912 fc)]) [0, 1, 2] (by decide +kernel) rfl, hS, (fun j h_ => absurd h_ (Nat.not_lt_zero j)), (fun j _ => rfl)⟩
    · rintro ii w_7 H locs ls hii ⟨hl, hP, hD, hS, haf_0, haf_1⟩ ih
      refine lv_iload_n hx hb dX8_note_51 rfl (lv_at hl 0 rfl) ?_
      refine lv_bipush (v := 38) hx hb dX8_note_52 (by decide) ?_
      refine lv_icmp_ge (tgt := 83) hx hb dX8_note_54 (by decide) (fun c_ => absurd c_ (fun q_ => absurd ((nI_leI (a := 38) (b := ii) (by omega) (by omega)).mp q_) (by omega))) (fun _ => ?_)
      refine lv_aload_n hx hb dX8_note_57 rfl (lv_at hl 1 rfl) ?_
      refine va_get (D := (dC, dI)) (ci := 8) (v := .ref m_ac) (C := RX8) (T := TX8) (N := 24) hx hb hts i_X8_note_X8 hown hK hP 0 rfl rfl 16 (by decide) (hts _ mx_X8_note_2) (fun _ h9 => h9) rfl dX8_note_58 ?_
      refine lv_bipush (v := 38) hx hb dX8_note_61 (by decide) ?_
      refine lv_aload_n hx hb dX8_note_63 rfl (lv_at hl 1 rfl) ?_
      refine va_get (D := (dC, dI)) (ci := 8) (v := .int (nI ma)) (C := RX8) (T := TX8) (N := 24) hx hb hts i_X8_note_X8 hown hK hP 0 rfl rfl 17 (by decide) (hts _ mx_X8_note_1) (fun _ h9 => h9) rfl dX8_note_64 ?_
      refine lv_imul hx hb dX8_note_67 ?_
      refine lv_topi (fun v_15 e_15 => ?_)
      obtain rfl : v_15 = (nI (38 * ma)) := (e_15).trans (pk_mul 38 ma)
      refine lv_iload_n hx hb dX8_note_68 rfl (lv_at hl 0 rfl) ?_
      refine lv_iadd hx hb dX8_note_69 ?_
      refine lv_topi (fun v_16 e_16 => ?_)
      obtain rfl : v_16 = (nI ((38 * ma) + ii)) := (e_16).trans (nI_add (38 * ma) ii)
      refine lv_aload_n hx hb dX8_note_70 rfl (lv_at hl 1 rfl) ?_
      refine va_get (D := (dC, dI)) (ci := 8) (v := .ref m_st) (C := RX8) (T := TX8) (N := 24) hx hb hts i_X8_note_X8 hown hK hP 0 rfl rfl 5 (by decide) (hts _ mx_X8_note_3) (fun _ h9 => h9) rfl dX8_note_71 ?_
      refine lv_iload_n hx hb dX8_note_74 rfl (lv_at hl 0 rfl) ?_
      refine va_iald hx hb hK hP 1 0 rfl rfl (vp_in_nI (by omega) (by omega)) dX8_note_75 ?_
      refine lv_topi (fun v_17 e_17 => ?_)
      refine va_iast hx hb hK hP hD hS 2 0 rfl rfl (vp_in_nI (by omega) (by omega)) dX8_note_76 (fun H locs hP hD hS => ?_)
      generalize hg_18 : upd w_7 ((nI ((38 * ma) + ii)) : Int32).toNatClampNeg v_17 = g_18 at hP hD
      have hP : va_P (dC, dI) vwCl [(xo_8_rrriirrriiiiiiirrirrrrri mo m_la m_sz m_it ms mt m_st m_mv m_tp (nI mz) ml (nI mp) mk mv mb mw m_rd m_ac (nI ma) m_as m_wo m_ik m_ke m_tr (nI mx)), (xI m_st cI 38 fs), (xI m_ac cI 912 g_18)] H := hP
      have hD := dto hP hD
      refine lv_iinc (v := (nI (ii + 1))) (lv' := [(1, .int (nI (ii + 1))), (0, .ref mo)]) hx hb dX8_note_77 hl (k := 0) rfl (nI_add ii 1) (by decide) rfl (fun ls hl => ?_)
      refine lv_goto (tgt := 51) hx hb dX8_note_80 (by decide) ?_
      exact ih (g_18) _ _ _ ⟨lv_sub hl [0, 1] rfl, hP.sub (ws' := [(xo_8_rrriirrriiiiiiirrirrrrri mo m_la m_sz m_it ms mt m_st m_mv m_tp (nI mz) ml (nI mp) mk mv mb mw m_rd m_ac (nI ma) m_as m_wo m_ik m_ke m_tr (nI mx)), (xI m_st cI 38 fs), (xI m_ac cI 912 g_18)]) [0, 1, 2] rfl, hD.sub (ws' := [(xo_8_rrriirrriiiiiiirrirrrrri mo m_la m_sz m_it ms mt m_st m_mv m_tp (nI mz) ml (nI mp) mk mv mb mw m_rd m_ac (nI ma) m_as m_wo m_ik m_ke m_tr (nI mx)), (xI m_st cI 38 fs), (xI m_ac cI 912 g_18)]) [0, 1, 2] (by decide +kernel) rfl, hS, (cp_d (a := 38 * ma) haf_0 (by omega) e_17 hg_18), (cp_do (a := 38 * ma) (n := 38) haf_1 (by omega) (by omega) hg_18)⟩
    · rintro w_7 H locs ls ⟨hl, hP, hD, hS, haf_0, haf_1⟩
      refine lv_iload_n hx hb dX8_note_51 rfl (lv_at hl 0 rfl) ?_
      refine lv_bipush (v := 38) hx hb dX8_note_52 (by decide) ?_
      refine lv_icmp_ge (tgt := 83) hx hb dX8_note_54 (by decide) (fun _ => ?_) (fun c_ => absurd ((nI_leI (a := 38) (b := 38) (by omega) (by omega)).mpr (by omega)) c_)
      have hpu := okA_push (n := ma) hac hKs haf_0 haf_1
      refine lv_aload_n hx hb dX8_note_83 rfl (lv_at hl 1 rfl) ?_
      refine lv_dup hx hb dX8_note_84 rfl ?_
      refine va_get (D := (dC, dI)) (ci := 8) (v := .int (nI ma)) (C := RX8) (T := TX8) (N := 24) hx hb hts i_X8_note_X8 hown hK hP 0 rfl rfl 17 (by decide) (hts _ mx_X8_note_1) (fun _ h9 => h9) rfl dX8_note_85 ?_
      refine lv_iconst (v := 1) hx hb dX8_note_88 (by decide) ?_
      refine lv_iadd hx hb dX8_note_89 ?_
      refine lv_topi (fun v_20 e_20 => ?_)
      obtain rfl : v_20 = (nI (ma + 1)) := (e_20).trans (nI_add ma 1)
      refine va_put (D := (dC, dI)) (ci := 8) (v := .int (nI (ma + 1))) (ty := .int) (C := RX8) (T := TX8) (N := 24) hx hb hts i_X8_note_X8 tyX8 tyX8_ok nmX8 hown hK hP hD hS 0 rfl rfl 17 (by decide) (hts _ mx_X8_note_1) (fun _ h9 => h9) rfl (by decide +kernel) rfl rfl (Nat.le_of_ble_eq_true rfl) dX8_note_90 (fun H locs hP hD hS => ?_)
      have hP : va_P (dC, dI) vwCl [(xo_8_rrriirrriiiiiiirrirrrrri mo m_la m_sz m_it ms mt m_st m_mv m_tp (nI mz) ml (nI mp) mk mv mb mw m_rd m_ac (nI (ma + 1)) m_as m_wo m_ik m_ke m_tr (nI mx)), (xI m_st cI 38 fs), (xI m_ac cI 912 w_7)] H := hP
      have hD := dto hP hD
      have hX9 := cut2 (wc := [(xo_8_rrriirrriiiiiiirrirrrrri mo m_la m_sz m_it ms mt m_st m_mv m_tp (nI mz) ml (nI mp) mk mv mb mw m_rd m_ac (nI (ma + 1)) m_as m_wo m_ik m_ke m_tr (nI mx)), (xI m_st cI 38 fs), (xI m_ac cI 912 w_7)]) hP hD [0, 1, 2] (by decide +kernel) rfl
      exact W.vret hx hb hr (fun t ht hW => ⟨⟨(), rfl, trivial, ⟨w_7, (ma + 1), va_Ht ht hX9.1, hX9.2, hpu, (by omega), (by omega), (acM_push (by omega) haf_0 haf_1), (by unfold ntN; split <;> omega)⟩⟩, hS.F ht⟩) hS.2.2 dX8_note_93
  · have c_1 : ma = 24 := (nI_eq (a := ma) (b := 24) (by omega) (by omega)).mp c_1
    have e24_ : ma = 24 := by omega
    have hac24 : okA fc 24 := e24_ ▸ hac
    refine lv_iconst (v := 0) hx hb dX8_note_9 (by decide) ?_
    refine lv_istore_n (lv' := [(1, .int 0), (0, .ref mo)]) hx hb dX8_note_10 rfl hl (by decide) rfl (fun ls hl => ?_)
    refine lp_go (σ := (Nat → Int32)) (fun ii (st : (Nat → Int32)) H locs ls => match st with | w_25 => lv_has ls 2 [(1, .int (nI ii)), (0, .ref mo)] ∧ va_P (dC, dI) vwCl [(xo_8_rrriirrriiiiiiirrirrrrri mo m_la m_sz m_it ms mt m_st m_mv m_tp (nI mz) ml (nI mp) mk mv mb mw m_rd m_ac (nI ma) m_as m_wo m_ik m_ke m_tr (nI mx)), (xI m_st cI 38 fs), (xI m_ac cI 912 w_25)] H ∧ va_D A [(xo_8_rrriirrriiiiiiirrirrrrri mo m_la m_sz m_it ms mt m_st m_mv m_tp (nI mz) ml (nI mp) mk mv mb mw m_rd m_ac (nI ma) m_as m_wo m_ik m_ke m_tr (nI mx)), (xI m_st cI 38 fs), (xI m_ac cI 912 w_25)] ∧ va_S A s.heap H locs ∧ ((∀ j : Nat, j < ii → w_25 j = fc (j + 38)) ∧ ∀ j : Nat, ii ≤ j → w_25 j = fc j)) 874 ?_ ?_ 0 (by omega) (fc) ⟨lv_sub hl [0, 1] rfl, hP.sub (ws' := [(xo_8_rrriirrriiiiiiirrirrrrri mo m_la m_sz m_it ms mt m_st m_mv m_tp (nI mz) ml (nI mp) mk mv mb mw m_rd m_ac (nI ma) m_as m_wo m_ik m_ke m_tr (nI mx)), (xI m_st cI 38 fs), (xI m_ac cI 912 fc)]) [0, 1, 2] rfl, hD.sub (ws' := [(xo_8_rrriirrriiiiiiirrirrrrri mo m_la m_sz m_it ms mt m_st m_mv m_tp (nI mz) ml (nI mp) mk mv mb mw m_rd m_ac (nI ma) m_as m_wo m_ik m_ke m_tr (nI mx)), (xI m_st cI 38 fs), (xI m_ac cI 912 fc)]) [0, 1, 2] (by decide +kernel) rfl, hS, ⟨fun j h_ => absurd h_ (Nat.not_lt_zero j), fun j _ => rfl⟩⟩
    · rintro ii w_25 H locs ls hii ⟨hl, hP, hD, hS, haf_0⟩ ih
      refine lv_iload_n hx hb dX8_note_11 rfl (lv_at hl 0 rfl) ?_
      refine lv_sipush (v := 874) hx hb dX8_note_12 (by decide) ?_
      refine lv_icmp_ge (tgt := 39) hx hb dX8_note_15 (by decide) (fun c_ => absurd c_ (fun q_ => absurd ((nI_leI (a := 874) (b := ii) (by omega) (by omega)).mp q_) (by omega))) (fun _ => ?_)
      refine lv_aload_n hx hb dX8_note_18 rfl (lv_at hl 1 rfl) ?_
      refine va_get (D := (dC, dI)) (ci := 8) (v := .ref m_ac) (C := RX8) (T := TX8) (N := 24) hx hb hts i_X8_note_X8 hown hK hP 0 rfl rfl 16 (by decide) (hts _ mx_X8_note_2) (fun _ h9 => h9) rfl dX8_note_19 ?_
      refine lv_iload_n hx hb dX8_note_22 rfl (lv_at hl 0 rfl) ?_
      refine lv_aload_n hx hb dX8_note_23 rfl (lv_at hl 1 rfl) ?_
      refine va_get (D := (dC, dI)) (ci := 8) (v := .ref m_ac) (C := RX8) (T := TX8) (N := 24) hx hb hts i_X8_note_X8 hown hK hP 0 rfl rfl 16 (by decide) (hts _ mx_X8_note_2) (fun _ h9 => h9) rfl dX8_note_24 ?_
      refine lv_iload_n hx hb dX8_note_27 rfl (lv_at hl 0 rfl) ?_
      refine lv_bipush (v := 38) hx hb dX8_note_28 (by decide) ?_
      refine lv_iadd hx hb dX8_note_30 ?_
      refine lv_topi (fun v_32 e_32 => ?_)
      obtain rfl : v_32 = (nI (ii + 38)) := (e_32).trans (nI_add ii 38)
      refine va_iald hx hb hK hP 2 0 rfl rfl (vp_in_nI (by omega) (by omega)) dX8_note_31 ?_
      refine lv_topi (fun v_33 e_33 => ?_)
      refine va_iast hx hb hK hP hD hS 2 0 rfl rfl (vp_in_nI (by omega) (by omega)) dX8_note_32 (fun H locs hP hD hS => ?_)
      generalize hg_34 : upd w_25 ((nI ii) : Int32).toNatClampNeg v_33 = g_34 at hP hD
      have hP : va_P (dC, dI) vwCl [(xo_8_rrriirrriiiiiiirrirrrrri mo m_la m_sz m_it ms mt m_st m_mv m_tp (nI mz) ml (nI mp) mk mv mb mw m_rd m_ac (nI ma) m_as m_wo m_ik m_ke m_tr (nI mx)), (xI m_st cI 38 fs), (xI m_ac cI 912 g_34)] H := hP
      have hD := dto hP hD
      refine lv_iinc (v := (nI (ii + 1))) (lv' := [(1, .int (nI (ii + 1))), (0, .ref mo)]) hx hb dX8_note_33 hl (k := 0) rfl (nI_add ii 1) (by decide) rfl (fun ls hl => ?_)
      refine lv_goto (tgt := 11) hx hb dX8_note_36 (by decide) ?_
      exact ih (g_34) _ _ _ ⟨lv_sub hl [0, 1] rfl, hP.sub (ws' := [(xo_8_rrriirrriiiiiiirrirrrrri mo m_la m_sz m_it ms mt m_st m_mv m_tp (nI mz) ml (nI mp) mk mv mb mw m_rd m_ac (nI ma) m_as m_wo m_ik m_ke m_tr (nI mx)), (xI m_st cI 38 fs), (xI m_ac cI 912 g_34)]) [0, 1, 2] rfl, hD.sub (ws' := [(xo_8_rrriirrriiiiiiirrirrrrri mo m_la m_sz m_it ms mt m_st m_mv m_tp (nI mz) ml (nI mp) mk mv mb mw m_rd m_ac (nI ma) m_as m_wo m_ik m_ke m_tr (nI mx)), (xI m_st cI 38 fs), (xI m_ac cI 912 g_34)]) [0, 1, 2] (by decide +kernel) rfl, hS, (cp_sh haf_0 (by omega) e_33 hg_34)⟩
    · rintro w_25 H locs ls ⟨hl, hP, hD, hS, haf_0⟩
      refine lv_iload_n hx hb dX8_note_11 rfl (lv_at hl 0 rfl) ?_
      refine lv_sipush (v := 874) hx hb dX8_note_12 (by decide) ?_
      refine lv_icmp_ge (tgt := 39) hx hb dX8_note_15 (by decide) (fun _ => ?_) (fun c_ => absurd ((nI_leI (a := 874) (b := 874) (by omega) (by omega)).mpr (by omega)) c_)
      have hsh := okA_sh hac24 haf_0 (by assumption)
      have haf_s := haf_0
      refine lv_aload_n hx hb dX8_note_39 rfl (lv_at hl 1 rfl) ?_
      refine lv_dup hx hb dX8_note_40 rfl ?_
      refine va_get (D := (dC, dI)) (ci := 8) (v := .int (nI ma)) (C := RX8) (T := TX8) (N := 24) hx hb hts i_X8_note_X8 hown hK hP 0 rfl rfl 17 (by decide) (hts _ mx_X8_note_1) (fun _ h9 => h9) rfl dX8_note_41 ?_
      refine lv_iconst (v := 1) hx hb dX8_note_44 (by decide) ?_
      refine lv_isub hx hb dX8_note_45 ?_
      refine lv_topi (fun v_36 e_36 => ?_)
      obtain rfl : v_36 = (nI (ma - 1)) := (e_36).trans (pk_sub (a := ma) (b := 1) (by omega))
      refine va_put (D := (dC, dI)) (ci := 8) (v := .int (nI (ma - 1))) (ty := .int) (C := RX8) (T := TX8) (N := 24) hx hb hts i_X8_note_X8 tyX8 tyX8_ok nmX8 hown hK hP hD hS 0 rfl rfl 17 (by decide) (hts _ mx_X8_note_1) (fun _ h9 => h9) rfl (by decide +kernel) rfl rfl (Nat.le_of_ble_eq_true rfl) dX8_note_46 (fun H locs hP hD hS => ?_)
      have hP : va_P (dC, dI) vwCl [(xo_8_rrriirrriiiiiiirrirrrrri mo m_la m_sz m_it ms mt m_st m_mv m_tp (nI mz) ml (nI mp) mk mv mb mw m_rd m_ac (nI (ma - 1)) m_as m_wo m_ik m_ke m_tr (nI mx)), (xI m_st cI 38 fs), (xI m_ac cI 912 w_25)] H := hP
      have hD := dto hP hD
      refine lv_iconst (v := 0) hx hb dX8_note_49 (by decide) ?_
      refine lv_istore_n (lv' := [(1, .int 0), (0, .ref mo)]) hx hb dX8_note_50 rfl hl (by decide) rfl (fun ls hl => ?_)
      refine lp_go (σ := (Nat → Int32)) (fun ii (st : (Nat → Int32)) H locs ls => match st with | w_42 => lv_has ls 2 [(1, .int (nI ii)), (0, .ref mo)] ∧ va_P (dC, dI) vwCl [(xo_8_rrriirrriiiiiiirrirrrrri mo m_la m_sz m_it ms mt m_st m_mv m_tp (nI mz) ml (nI mp) mk mv mb mw m_rd m_ac (nI (ma - 1)) m_as m_wo m_ik m_ke m_tr (nI mx)), (xI m_st cI 38 fs), (xI m_ac cI 912 w_42)] H ∧ va_D A [(xo_8_rrriirrriiiiiiirrirrrrri mo m_la m_sz m_it ms mt m_st m_mv m_tp (nI mz) ml (nI mp) mk mv mb mw m_rd m_ac (nI (ma - 1)) m_as m_wo m_ik m_ke m_tr (nI mx)), (xI m_st cI 38 fs), (xI m_ac cI 912 w_42)] ∧ va_S A s.heap H locs ∧ (∀ j : Nat, j < ii → w_42 (38 * (ma - 1) + j) = fs j) ∧ (∀ j : Nat, j < 38 * (ma - 1) ∨ 38 * (ma - 1) + 38 ≤ j → w_42 j = w_25 j)) 38 ?_ ?_ 0 (by omega) (w_25) ⟨lv_sub hl [0, 1] rfl, hP.sub (ws' := [(xo_8_rrriirrriiiiiiirrirrrrri mo m_la m_sz m_it ms mt m_st m_mv m_tp (nI mz) ml (nI mp) mk mv mb mw m_rd m_ac (nI (ma - 1)) m_as m_wo m_ik m_ke m_tr (nI mx)), (xI m_st cI 38 fs), (xI m_ac cI 912 w_25)]) [0, 1, 2] rfl, hD.sub (ws' := [(xo_8_rrriirrriiiiiiirrirrrrri mo m_la m_sz m_it ms mt m_st m_mv m_tp (nI mz) ml (nI mp) mk mv mb mw m_rd m_ac (nI (ma - 1)) m_as m_wo m_ik m_ke m_tr (nI mx)), (xI m_st cI 38 fs), (xI m_ac cI 912 w_25)]) [0, 1, 2] (by decide +kernel) rfl, hS, (fun j h_ => absurd h_ (Nat.not_lt_zero j)), (fun j _ => rfl)⟩
      · rintro ii w_42 H locs ls hii ⟨hl, hP, hD, hS, haf_0, haf_1⟩ ih
        refine lv_iload_n hx hb dX8_note_51 rfl (lv_at hl 0 rfl) ?_
        refine lv_bipush (v := 38) hx hb dX8_note_52 (by decide) ?_
        refine lv_icmp_ge (tgt := 83) hx hb dX8_note_54 (by decide) (fun c_ => absurd c_ (fun q_ => absurd ((nI_leI (a := 38) (b := ii) (by omega) (by omega)).mp q_) (by omega))) (fun _ => ?_)
        refine lv_aload_n hx hb dX8_note_57 rfl (lv_at hl 1 rfl) ?_
        refine va_get (D := (dC, dI)) (ci := 8) (v := .ref m_ac) (C := RX8) (T := TX8) (N := 24) hx hb hts i_X8_note_X8 hown hK hP 0 rfl rfl 16 (by decide) (hts _ mx_X8_note_2) (fun _ h9 => h9) rfl dX8_note_58 ?_
        refine lv_bipush (v := 38) hx hb dX8_note_61 (by decide) ?_
        refine lv_aload_n hx hb dX8_note_63 rfl (lv_at hl 1 rfl) ?_
        refine va_get (D := (dC, dI)) (ci := 8) (v := .int (nI (ma - 1))) (C := RX8) (T := TX8) (N := 24) hx hb hts i_X8_note_X8 hown hK hP 0 rfl rfl 17 (by decide) (hts _ mx_X8_note_1) (fun _ h9 => h9) rfl dX8_note_64 ?_
        refine lv_imul hx hb dX8_note_67 ?_
        refine lv_topi (fun v_50 e_50 => ?_)
        obtain rfl : v_50 = (nI (38 * (ma - 1))) := (e_50).trans (pk_mul 38 (ma - 1))
        refine lv_iload_n hx hb dX8_note_68 rfl (lv_at hl 0 rfl) ?_
        refine lv_iadd hx hb dX8_note_69 ?_
        refine lv_topi (fun v_51 e_51 => ?_)
        obtain rfl : v_51 = (nI ((38 * (ma - 1)) + ii)) := (e_51).trans (nI_add (38 * (ma - 1)) ii)
        refine lv_aload_n hx hb dX8_note_70 rfl (lv_at hl 1 rfl) ?_
        refine va_get (D := (dC, dI)) (ci := 8) (v := .ref m_st) (C := RX8) (T := TX8) (N := 24) hx hb hts i_X8_note_X8 hown hK hP 0 rfl rfl 5 (by decide) (hts _ mx_X8_note_3) (fun _ h9 => h9) rfl dX8_note_71 ?_
        refine lv_iload_n hx hb dX8_note_74 rfl (lv_at hl 0 rfl) ?_
        refine va_iald hx hb hK hP 1 0 rfl rfl (vp_in_nI (by omega) (by omega)) dX8_note_75 ?_
        refine lv_topi (fun v_52 e_52 => ?_)
        refine va_iast hx hb hK hP hD hS 2 0 rfl rfl (vp_in_nI (by omega) (by omega)) dX8_note_76 (fun H locs hP hD hS => ?_)
        generalize hg_53 : upd w_42 ((nI ((38 * (ma - 1)) + ii)) : Int32).toNatClampNeg v_52 = g_53 at hP hD
        have hP : va_P (dC, dI) vwCl [(xo_8_rrriirrriiiiiiirrirrrrri mo m_la m_sz m_it ms mt m_st m_mv m_tp (nI mz) ml (nI mp) mk mv mb mw m_rd m_ac (nI (ma - 1)) m_as m_wo m_ik m_ke m_tr (nI mx)), (xI m_st cI 38 fs), (xI m_ac cI 912 g_53)] H := hP
        have hD := dto hP hD
        refine lv_iinc (v := (nI (ii + 1))) (lv' := [(1, .int (nI (ii + 1))), (0, .ref mo)]) hx hb dX8_note_77 hl (k := 0) rfl (nI_add ii 1) (by decide) rfl (fun ls hl => ?_)
        refine lv_goto (tgt := 51) hx hb dX8_note_80 (by decide) ?_
        exact ih (g_53) _ _ _ ⟨lv_sub hl [0, 1] rfl, hP.sub (ws' := [(xo_8_rrriirrriiiiiiirrirrrrri mo m_la m_sz m_it ms mt m_st m_mv m_tp (nI mz) ml (nI mp) mk mv mb mw m_rd m_ac (nI (ma - 1)) m_as m_wo m_ik m_ke m_tr (nI mx)), (xI m_st cI 38 fs), (xI m_ac cI 912 g_53)]) [0, 1, 2] rfl, hD.sub (ws' := [(xo_8_rrriirrriiiiiiirrirrrrri mo m_la m_sz m_it ms mt m_st m_mv m_tp (nI mz) ml (nI mp) mk mv mb mw m_rd m_ac (nI (ma - 1)) m_as m_wo m_ik m_ke m_tr (nI mx)), (xI m_st cI 38 fs), (xI m_ac cI 912 g_53)]) [0, 1, 2] (by decide +kernel) rfl, hS, (cp_d (a := 38 * (ma - 1)) haf_0 (by omega) e_52 hg_53), (cp_do (a := 38 * (ma - 1)) (n := 38) haf_1 (by omega) (by omega) hg_53)⟩
      · rintro w_42 H locs ls ⟨hl, hP, hD, hS, haf_0, haf_1⟩
        refine lv_iload_n hx hb dX8_note_51 rfl (lv_at hl 0 rfl) ?_
        refine lv_bipush (v := 38) hx hb dX8_note_52 (by decide) ?_
        refine lv_icmp_ge (tgt := 83) hx hb dX8_note_54 (by decide) (fun _ => ?_) (fun c_ => absurd ((nI_leI (a := 38) (b := 38) (by omega) (by omega)).mpr (by omega)) c_)
        have hpu := okA_push (n := (ma - 1)) hsh hKs haf_0 haf_1
        refine lv_aload_n hx hb dX8_note_83 rfl (lv_at hl 1 rfl) ?_
        refine lv_dup hx hb dX8_note_84 rfl ?_
        refine va_get (D := (dC, dI)) (ci := 8) (v := .int (nI (ma - 1))) (C := RX8) (T := TX8) (N := 24) hx hb hts i_X8_note_X8 hown hK hP 0 rfl rfl 17 (by decide) (hts _ mx_X8_note_1) (fun _ h9 => h9) rfl dX8_note_85 ?_
        refine lv_iconst (v := 1) hx hb dX8_note_88 (by decide) ?_
        refine lv_iadd hx hb dX8_note_89 ?_
        refine lv_topi (fun v_55 e_55 => ?_)
        obtain rfl : v_55 = (nI ((ma - 1) + 1)) := (e_55).trans (nI_add (ma - 1) 1)
        refine va_put (D := (dC, dI)) (ci := 8) (v := .int (nI ((ma - 1) + 1))) (ty := .int) (C := RX8) (T := TX8) (N := 24) hx hb hts i_X8_note_X8 tyX8 tyX8_ok nmX8 hown hK hP hD hS 0 rfl rfl 17 (by decide) (hts _ mx_X8_note_1) (fun _ h9 => h9) rfl (by decide +kernel) rfl rfl (Nat.le_of_ble_eq_true rfl) dX8_note_90 (fun H locs hP hD hS => ?_)
        have hP : va_P (dC, dI) vwCl [(xo_8_rrriirrriiiiiiirrirrrrri mo m_la m_sz m_it ms mt m_st m_mv m_tp (nI mz) ml (nI mp) mk mv mb mw m_rd m_ac (nI ((ma - 1) + 1)) m_as m_wo m_ik m_ke m_tr (nI mx)), (xI m_st cI 38 fs), (xI m_ac cI 912 w_42)] H := hP
        have hD := dto hP hD
        have hX9 := cut2 (wc := [(xo_8_rrriirrriiiiiiirrirrrrri mo m_la m_sz m_it ms mt m_st m_mv m_tp (nI mz) ml (nI mp) mk mv mb mw m_rd m_ac (nI ((ma - 1) + 1)) m_as m_wo m_ik m_ke m_tr (nI mx)), (xI m_st cI 38 fs), (xI m_ac cI 912 w_42)]) hP hD [0, 1, 2] (by decide +kernel) rfl
        exact W.vret hx hb hr (fun t ht hW => ⟨⟨(), rfl, trivial, ⟨w_42, ((ma - 1) + 1), va_Ht ht hX9.1, hX9.2, hpu, (by omega), (by omega), (by subst e24_; exact acM_shift haf_s haf_0 haf_1), (by unfold ntN; split <;> omega)⟩⟩, hS.F ht⟩) hS.2.2 dX8_note_93
theorem lf_X8_cap_1 {mt : Int32} {ma : Nat} {fs : Nat → Int32} {w9 : Nat} {k9 : Nat} {h9 : Nat} {fc : Nat → Int32} {fcn_2 : Nat → Int32} {man_2 : Nat} {v_3 : Int32} {v_4 : Int32} {g_5 : Nat → Int32} {v_6 : Int32} (hM : okM fs w9 k9 h9) (hT : ¬ mt = 0 → 1 ≤ k9) (h999 : h9 ≤ 999) (hT0 : mt = 0 → fs 0 = 0 ∧ ma = 0) (hac : okA fc ma) (hma : ma ≤ 24) (c_1 : ¬ (mt = 0)) (hkn1 : 1 ≤ k9) (hw1 : 1 ≤ w9) (h01 : ¬ fs 0 = 0) (hF_2_0 : okA fcn_2 man_2) (hF_2_1 : man_2 ≤ 24) (hF_2_2 : 1 ≤ man_2) (hF_2_3 : acM fcn_2 man_2 = ntA (m38 fs) ma (acM fc ma)) (hF_2_4 : man_2 = ntN ma) (e_3 : v_3 = fs 6) (e_4 : v_4 = (1 - v_3)) (hu_5 : g_5 = upd fs 6 v_4) (e_6 : v_6 = g_5 6) : (mt = 0 → g_5 0 = 0 ∧ man_2 = 0) := by
  have hw6 := hM.2.2.2.1
  have hk6 := hM.2.2.2.2.1
  first
  | exact hT0
  | (intro h_; exact absurd (hT0 h_).1 h01)
  | (intro h_; have h9 := (hT0 h_).2; omega)
  | exact (capM_n (ma := ma) (A := acM fc ma) h00).1
  | exact (capM_n (ma := ma) (A := acM fc ma) h00).2.1
  | exact (capM_n (ma := ma) (A := acM fc ma) h00).2.2.1
  | exact (capM_n (ma := ma) (A := acM fc ma) h00).2.2.2
  | exact (capM_d h01 (by assumption) (by assumption) (by assumption) (by assumption) (by assumption) (by assumption)).1
  | exact (capM_d h01 (by assumption) (by assumption) (by assumption) (by assumption) (by assumption) (by assumption)).2.1
  | exact (capM_d h01 (by assumption) (by assumption) (by assumption) (by assumption) (by assumption) (by assumption)).2.2.1
  | exact (capM_d h01 (by assumption) (by assumption) (by assumption) (by assumption) (by assumption) (by assumption)).2.2.2
theorem lf_X8_cap_2 {mt : Int32} {ma : Nat} {fs : Nat → Int32} {w9 : Nat} {k9 : Nat} {h9 : Nat} {fc : Nat → Int32} {fcn_2 : Nat → Int32} {man_2 : Nat} {v_3 : Int32} {v_4 : Int32} {g_5 : Nat → Int32} {v_6 : Int32} (hM : okM fs w9 k9 h9) (hT : ¬ mt = 0 → 1 ≤ k9) (h999 : h9 ≤ 999) (hT0 : mt = 0 → fs 0 = 0 ∧ ma = 0) (hac : okA fc ma) (hma : ma ≤ 24) (c_1 : ¬ (mt = 0)) (hkn1 : 1 ≤ k9) (hw1 : 1 ≤ w9) (h01 : ¬ fs 0 = 0) (hF_2_0 : okA fcn_2 man_2) (hF_2_1 : man_2 ≤ 24) (hF_2_2 : 1 ≤ man_2) (hF_2_3 : acM fcn_2 man_2 = ntA (m38 fs) ma (acM fc ma)) (hF_2_4 : man_2 = ntN ma) (e_3 : v_3 = fs 6) (e_4 : v_4 = (1 - v_3)) (hu_5 : g_5 = upd fs 6 v_4) (e_6 : v_6 = g_5 6) : m38 g_5 = n_cap (m38 fs) := by
  have hw6 := hM.2.2.2.1
  have hk6 := hM.2.2.2.2.1
  first
  | exact hT0
  | (intro h_; exact absurd (hT0 h_).1 h01)
  | (intro h_; have h9 := (hT0 h_).2; omega)
  | exact (capM_n (ma := ma) (A := acM fc ma) h00).1
  | exact (capM_n (ma := ma) (A := acM fc ma) h00).2.1
  | exact (capM_n (ma := ma) (A := acM fc ma) h00).2.2.1
  | exact (capM_n (ma := ma) (A := acM fc ma) h00).2.2.2
  | exact (capM_d h01 (by assumption) (by assumption) (by assumption) (by assumption) (by assumption) (by assumption)).1
  | exact (capM_d h01 (by assumption) (by assumption) (by assumption) (by assumption) (by assumption) (by assumption)).2.1
  | exact (capM_d h01 (by assumption) (by assumption) (by assumption) (by assumption) (by assumption) (by assumption)).2.2.1
  | exact (capM_d h01 (by assumption) (by assumption) (by assumption) (by assumption) (by assumption) (by assumption)).2.2.2
theorem lf_X8_cap_3 {mt : Int32} {ma : Nat} {fs : Nat → Int32} {w9 : Nat} {k9 : Nat} {h9 : Nat} {fc : Nat → Int32} {fcn_2 : Nat → Int32} {man_2 : Nat} {v_3 : Int32} {v_4 : Int32} {g_5 : Nat → Int32} {v_6 : Int32} (hM : okM fs w9 k9 h9) (hT : ¬ mt = 0 → 1 ≤ k9) (h999 : h9 ≤ 999) (hT0 : mt = 0 → fs 0 = 0 ∧ ma = 0) (hac : okA fc ma) (hma : ma ≤ 24) (c_1 : ¬ (mt = 0)) (hkn1 : 1 ≤ k9) (hw1 : 1 ≤ w9) (h01 : ¬ fs 0 = 0) (hF_2_0 : okA fcn_2 man_2) (hF_2_1 : man_2 ≤ 24) (hF_2_2 : 1 ≤ man_2) (hF_2_3 : acM fcn_2 man_2 = ntA (m38 fs) ma (acM fc ma)) (hF_2_4 : man_2 = ntN ma) (e_3 : v_3 = fs 6) (e_4 : v_4 = (1 - v_3)) (hu_5 : g_5 = upd fs 6 v_4) (e_6 : v_6 = g_5 6) : man_2 = kpN (gd_cap (m38 fs)) ma := by
  have hw6 := hM.2.2.2.1
  have hk6 := hM.2.2.2.2.1
  first
  | exact hT0
  | (intro h_; exact absurd (hT0 h_).1 h01)
  | (intro h_; have h9 := (hT0 h_).2; omega)
  | exact (capM_n (ma := ma) (A := acM fc ma) h00).1
  | exact (capM_n (ma := ma) (A := acM fc ma) h00).2.1
  | exact (capM_n (ma := ma) (A := acM fc ma) h00).2.2.1
  | exact (capM_n (ma := ma) (A := acM fc ma) h00).2.2.2
  | exact (capM_d h01 (by assumption) (by assumption) (by assumption) (by assumption) (by assumption) (by assumption)).1
  | exact (capM_d h01 (by assumption) (by assumption) (by assumption) (by assumption) (by assumption) (by assumption)).2.1
  | exact (capM_d h01 (by assumption) (by assumption) (by assumption) (by assumption) (by assumption) (by assumption)).2.2.1
  | exact (capM_d h01 (by assumption) (by assumption) (by assumption) (by assumption) (by assumption) (by assumption)).2.2.2
theorem lf_X8_cap_4 {mt : Int32} {ma : Nat} {fs : Nat → Int32} {w9 : Nat} {k9 : Nat} {h9 : Nat} {fc : Nat → Int32} {fcn_2 : Nat → Int32} {man_2 : Nat} {v_3 : Int32} {v_4 : Int32} {g_5 : Nat → Int32} {v_6 : Int32} (hM : okM fs w9 k9 h9) (hT : ¬ mt = 0 → 1 ≤ k9) (h999 : h9 ≤ 999) (hT0 : mt = 0 → fs 0 = 0 ∧ ma = 0) (hac : okA fc ma) (hma : ma ≤ 24) (c_1 : ¬ (mt = 0)) (hkn1 : 1 ≤ k9) (hw1 : 1 ≤ w9) (h01 : ¬ fs 0 = 0) (hF_2_0 : okA fcn_2 man_2) (hF_2_1 : man_2 ≤ 24) (hF_2_2 : 1 ≤ man_2) (hF_2_3 : acM fcn_2 man_2 = ntA (m38 fs) ma (acM fc ma)) (hF_2_4 : man_2 = ntN ma) (e_3 : v_3 = fs 6) (e_4 : v_4 = (1 - v_3)) (hu_5 : g_5 = upd fs 6 v_4) (e_6 : v_6 = g_5 6) : acM fcn_2 man_2 = kpA (gd_cap (m38 fs)) (m38 fs) ma (acM fc ma) := by
  have hw6 := hM.2.2.2.1
  have hk6 := hM.2.2.2.2.1
  first
  | exact hT0
  | (intro h_; exact absurd (hT0 h_).1 h01)
  | (intro h_; have h9 := (hT0 h_).2; omega)
  | exact (capM_n (ma := ma) (A := acM fc ma) h00).1
  | exact (capM_n (ma := ma) (A := acM fc ma) h00).2.1
  | exact (capM_n (ma := ma) (A := acM fc ma) h00).2.2.1
  | exact (capM_n (ma := ma) (A := acM fc ma) h00).2.2.2
  | exact (capM_d h01 (by assumption) (by assumption) (by assumption) (by assumption) (by assumption) (by assumption)).1
  | exact (capM_d h01 (by assumption) (by assumption) (by assumption) (by assumption) (by assumption) (by assumption)).2.1
  | exact (capM_d h01 (by assumption) (by assumption) (by assumption) (by assumption) (by assumption) (by assumption)).2.2.1
  | exact (capM_d h01 (by assumption) (by assumption) (by assumption) (by assumption) (by assumption) (by assumption)).2.2.2
theorem lf_X8_cap_5 {mt : Int32} {ma : Nat} {fs : Nat → Int32} {w9 : Nat} {k9 : Nat} {h9 : Nat} {fc : Nat → Int32} {fcn_2 : Nat → Int32} {man_2 : Nat} {v_3 : Int32} {v_4 : Int32} {g_5 : Nat → Int32} {v_6 : Int32} (hM : okM fs w9 k9 h9) (hT : ¬ mt = 0 → 1 ≤ k9) (h999 : h9 ≤ 999) (hT0 : mt = 0 → fs 0 = 0 ∧ ma = 0) (hac : okA fc ma) (hma : ma ≤ 24) (c_1 : ¬ (mt = 0)) (hkn1 : 1 ≤ k9) (hw1 : 1 ≤ w9) (h01 : ¬ fs 0 = 0) (hF_2_0 : okA fcn_2 man_2) (hF_2_1 : man_2 ≤ 24) (hF_2_2 : 1 ≤ man_2) (hF_2_3 : acM fcn_2 man_2 = ntA (m38 fs) ma (acM fc ma)) (hF_2_4 : man_2 = ntN ma) (e_3 : v_3 = fs 6) (e_4 : v_4 = (1 - v_3)) (hu_5 : g_5 = upd fs 6 v_4) (e_6 : v_6 = g_5 6) : v_6 = (a_cap (m38 fs)) := by
  have hw6 := hM.2.2.2.1
  have hk6 := hM.2.2.2.2.1
  first
  | exact hT0
  | (intro h_; exact absurd (hT0 h_).1 h01)
  | (intro h_; have h9 := (hT0 h_).2; omega)
  | exact (capM_n (ma := ma) (A := acM fc ma) h00).1
  | exact (capM_n (ma := ma) (A := acM fc ma) h00).2.1
  | exact (capM_n (ma := ma) (A := acM fc ma) h00).2.2.1
  | exact (capM_n (ma := ma) (A := acM fc ma) h00).2.2.2
  | exact (capM_d h01 (by assumption) (by assumption) (by assumption) (by assumption) (by assumption) (by assumption)).1
  | exact (capM_d h01 (by assumption) (by assumption) (by assumption) (by assumption) (by assumption) (by assumption)).2.1
  | exact (capM_d h01 (by assumption) (by assumption) (by assumption) (by assumption) (by assumption) (by assumption)).2.2.1
  | exact (capM_d h01 (by assumption) (by assumption) (by assumption) (by assumption) (by assumption) (by assumption)).2.2.2
theorem lf_X8_cap_6 {mt : Int32} {ma : Nat} {fs : Nat → Int32} {w9 : Nat} {k9 : Nat} {h9 : Nat} {fc : Nat → Int32} (hM : okM fs w9 k9 h9) (hT : ¬ mt = 0 → 1 ≤ k9) (h999 : h9 ≤ 999) (hT0 : mt = 0 → fs 0 = 0 ∧ ma = 0) (hac : okA fc ma) (hma : ma ≤ 24) (c_1 : mt = 0) (h00 : fs 0 = 0) : (mt = 0 → fs 0 = 0 ∧ ma = 0) := by
  have hw6 := hM.2.2.2.1
  have hk6 := hM.2.2.2.2.1
  first
  | exact hT0
  | (intro h_; exact absurd (hT0 h_).1 h01)
  | (intro h_; have h9 := (hT0 h_).2; omega)
  | exact (capM_n (ma := ma) (A := acM fc ma) h00).1
  | exact (capM_n (ma := ma) (A := acM fc ma) h00).2.1
  | exact (capM_n (ma := ma) (A := acM fc ma) h00).2.2.1
  | exact (capM_n (ma := ma) (A := acM fc ma) h00).2.2.2
  | exact (capM_d h01 (by assumption) (by assumption) (by assumption) (by assumption) (by assumption) (by assumption)).1
  | exact (capM_d h01 (by assumption) (by assumption) (by assumption) (by assumption) (by assumption) (by assumption)).2.1
  | exact (capM_d h01 (by assumption) (by assumption) (by assumption) (by assumption) (by assumption) (by assumption)).2.2.1
  | exact (capM_d h01 (by assumption) (by assumption) (by assumption) (by assumption) (by assumption) (by assumption)).2.2.2
theorem lf_X8_cap_7 {mt : Int32} {ma : Nat} {fs : Nat → Int32} {w9 : Nat} {k9 : Nat} {h9 : Nat} {fc : Nat → Int32} (hM : okM fs w9 k9 h9) (hT : ¬ mt = 0 → 1 ≤ k9) (h999 : h9 ≤ 999) (hT0 : mt = 0 → fs 0 = 0 ∧ ma = 0) (hac : okA fc ma) (hma : ma ≤ 24) (c_1 : mt = 0) (h00 : fs 0 = 0) : m38 fs = n_cap (m38 fs) := by
  have hw6 := hM.2.2.2.1
  have hk6 := hM.2.2.2.2.1
  first
  | exact hT0
  | (intro h_; exact absurd (hT0 h_).1 h01)
  | (intro h_; have h9 := (hT0 h_).2; omega)
  | exact (capM_n (ma := ma) (A := acM fc ma) h00).1
  | exact (capM_n (ma := ma) (A := acM fc ma) h00).2.1
  | exact (capM_n (ma := ma) (A := acM fc ma) h00).2.2.1
  | exact (capM_n (ma := ma) (A := acM fc ma) h00).2.2.2
  | exact (capM_d h01 (by assumption) (by assumption) (by assumption) (by assumption) (by assumption) (by assumption)).1
  | exact (capM_d h01 (by assumption) (by assumption) (by assumption) (by assumption) (by assumption) (by assumption)).2.1
  | exact (capM_d h01 (by assumption) (by assumption) (by assumption) (by assumption) (by assumption) (by assumption)).2.2.1
  | exact (capM_d h01 (by assumption) (by assumption) (by assumption) (by assumption) (by assumption) (by assumption)).2.2.2
theorem lf_X8_cap_8 {mt : Int32} {ma : Nat} {fs : Nat → Int32} {w9 : Nat} {k9 : Nat} {h9 : Nat} {fc : Nat → Int32} (hM : okM fs w9 k9 h9) (hT : ¬ mt = 0 → 1 ≤ k9) (h999 : h9 ≤ 999) (hT0 : mt = 0 → fs 0 = 0 ∧ ma = 0) (hac : okA fc ma) (hma : ma ≤ 24) (c_1 : mt = 0) (h00 : fs 0 = 0) : ma = kpN (gd_cap (m38 fs)) ma := by
  have hw6 := hM.2.2.2.1
  have hk6 := hM.2.2.2.2.1
  first
  | exact hT0
  | (intro h_; exact absurd (hT0 h_).1 h01)
  | (intro h_; have h9 := (hT0 h_).2; omega)
  | exact (capM_n (ma := ma) (A := acM fc ma) h00).1
  | exact (capM_n (ma := ma) (A := acM fc ma) h00).2.1
  | exact (capM_n (ma := ma) (A := acM fc ma) h00).2.2.1
  | exact (capM_n (ma := ma) (A := acM fc ma) h00).2.2.2
  | exact (capM_d h01 (by assumption) (by assumption) (by assumption) (by assumption) (by assumption) (by assumption)).1
  | exact (capM_d h01 (by assumption) (by assumption) (by assumption) (by assumption) (by assumption) (by assumption)).2.1
  | exact (capM_d h01 (by assumption) (by assumption) (by assumption) (by assumption) (by assumption) (by assumption)).2.2.1
  | exact (capM_d h01 (by assumption) (by assumption) (by assumption) (by assumption) (by assumption) (by assumption)).2.2.2
theorem lf_X8_cap_9 {mt : Int32} {ma : Nat} {fs : Nat → Int32} {w9 : Nat} {k9 : Nat} {h9 : Nat} {fc : Nat → Int32} (hM : okM fs w9 k9 h9) (hT : ¬ mt = 0 → 1 ≤ k9) (h999 : h9 ≤ 999) (hT0 : mt = 0 → fs 0 = 0 ∧ ma = 0) (hac : okA fc ma) (hma : ma ≤ 24) (c_1 : mt = 0) (h00 : fs 0 = 0) : acM fc ma = kpA (gd_cap (m38 fs)) (m38 fs) ma (acM fc ma) := by
  have hw6 := hM.2.2.2.1
  have hk6 := hM.2.2.2.2.1
  first
  | exact hT0
  | (intro h_; exact absurd (hT0 h_).1 h01)
  | (intro h_; have h9 := (hT0 h_).2; omega)
  | exact (capM_n (ma := ma) (A := acM fc ma) h00).1
  | exact (capM_n (ma := ma) (A := acM fc ma) h00).2.1
  | exact (capM_n (ma := ma) (A := acM fc ma) h00).2.2.1
  | exact (capM_n (ma := ma) (A := acM fc ma) h00).2.2.2
  | exact (capM_d h01 (by assumption) (by assumption) (by assumption) (by assumption) (by assumption) (by assumption)).1
  | exact (capM_d h01 (by assumption) (by assumption) (by assumption) (by assumption) (by assumption) (by assumption)).2.1
  | exact (capM_d h01 (by assumption) (by assumption) (by assumption) (by assumption) (by assumption) (by assumption)).2.2.1
  | exact (capM_d h01 (by assumption) (by assumption) (by assumption) (by assumption) (by assumption) (by assumption)).2.2.2
theorem lf_X8_cap_10 {mt : Int32} {ma : Nat} {fs : Nat → Int32} {w9 : Nat} {k9 : Nat} {h9 : Nat} {fc : Nat → Int32} (hM : okM fs w9 k9 h9) (hT : ¬ mt = 0 → 1 ≤ k9) (h999 : h9 ≤ 999) (hT0 : mt = 0 → fs 0 = 0 ∧ ma = 0) (hac : okA fc ma) (hma : ma ≤ 24) (c_1 : mt = 0) (h00 : fs 0 = 0) : (-1000002) = (a_cap (m38 fs)) := by
  have hw6 := hM.2.2.2.1
  have hk6 := hM.2.2.2.2.1
  first
  | exact hT0
  | (intro h_; exact absurd (hT0 h_).1 h01)
  | (intro h_; have h9 := (hT0 h_).2; omega)
  | exact (capM_n (ma := ma) (A := acM fc ma) h00).1
  | exact (capM_n (ma := ma) (A := acM fc ma) h00).2.1
  | exact (capM_n (ma := ma) (A := acM fc ma) h00).2.2.1
  | exact (capM_n (ma := ma) (A := acM fc ma) h00).2.2.2
  | exact (capM_d h01 (by assumption) (by assumption) (by assumption) (by assumption) (by assumption) (by assumption)).1
  | exact (capM_d h01 (by assumption) (by assumption) (by assumption) (by assumption) (by assumption) (by assumption)).2.1
  | exact (capM_d h01 (by assumption) (by assumption) (by assumption) (by assumption) (by assumption) (by assumption)).2.2.1
  | exact (capM_d h01 (by assumption) (by assumption) (by assumption) (by assumption) (by assumption) (by assumption)).2.2.2
set_option maxHeartbeats 4000000 in
set_option maxRecDepth 100000 in
theorem r_X8_cap (l : Launch) (dC : Nat → ClassId) (dI : Nat → Nat → Nat) (cI cZ cL cJ : ClassId) (sz : Nat) (mo : Nat) (m_la : Nat) (m_sz : Nat) (m_it : Nat) (m_st : Nat) (m_mv : Nat) (m_tp : Nat) (m_rd : Nat) (m_ac : Nat) (m_as : Nat) (m_wo : Nat) (m_ik : Nat) (m_ke : Nat) (m_tr : Nat) (ms : Int32) (mt : Int32) (ml : Int32) (mk : Int32) (mv : Int32) (mb : Int32) (mw : Int32) (mz : Nat) (mp : Nat) (ma : Nat) (mx : Nat) (fs : Nat → Int32) (w9 : Nat) (k9 : Nat) (h9 : Nat) (fc : Nat → Int32) (hM : okM fs w9 k9 h9) (hT : ¬ mt = 0 → 1 ≤ k9) (h999 : h9 ≤ 999) (hT0 : mt = 0 → fs 0 = 0 ∧ ma = 0) (hac : okA fc ma) (hma : ma ≤ 24) : Met l yX8_cap wsX8_cap ({ frames := 1, cells := 0, slots := 0, locals := 21 }) (va_Pc [.ref mo] (fun U => U.heap.size = sz ∧ va_P (dC, dI) vwCl [(xo_8_rrriirrriiiiiiirrirrrrri mo m_la m_sz m_it ms mt m_st m_mv m_tp (nI mz) ml (nI mp) mk mv mb mw m_rd m_ac (nI ma) m_as m_wo m_ik m_ke m_tr (nI mx)), (xI m_st cI 38 fs), (xI m_ac cI 912 fc)] U.heap ∧ va_K (dC, dI) vwCl [(cI, .int), (cZ, .boolean), (cL, .object RX3), (cJ, .array .int)] U ∧ va_D (fun _ => True) [(xo_8_rrriirrriiiiiiirrirrrrri mo m_la m_sz m_it ms mt m_st m_mv m_tp (nI mz) ml (nI mp) mk mv mb mw m_rd m_ac (nI ma) m_as m_wo m_ik m_ke m_tr (nI mx)), (xI m_st cI 38 fs), (xI m_ac cI 912 fc)])) (va_Qi (fun r (_ : Unit) => r = (a_cap (m38 fs))) (fun (_ : Unit) t => ∃ (fsn : Nat → Int32) (fcn : Nat → Int32) (man : Nat) (w9n : Nat) (k9n : Nat) (h9n : Nat), va_P (dC, dI) vwCl [(xo_8_rrriirrriiiiiiirrirrrrri mo m_la m_sz m_it ms mt m_st m_mv m_tp (nI mz) ml (nI mp) mk mv mb mw m_rd m_ac (nI man) m_as m_wo m_ik m_ke m_tr (nI mx)), (xI m_st cI 38 fsn), (xI m_ac cI 912 fcn)] t.heap ∧ va_D (va_A [(xo_8_rrriirrriiiiiiirrirrrrri mo m_la m_sz m_it ms mt m_st m_mv m_tp (nI mz) ml (nI mp) mk mv mb mw m_rd m_ac (nI ma) m_as m_wo m_ik m_ke m_tr (nI mx)), (xI m_st cI 38 fs), (xI m_ac cI 912 fc)] sz) [(xo_8_rrriirrriiiiiiirrirrrrri mo m_la m_sz m_it ms mt m_st m_mv m_tp (nI mz) ml (nI mp) mk mv mb mw m_rd m_ac (nI man) m_as m_wo m_ik m_ke m_tr (nI mx)), (xI m_st cI 38 fsn), (xI m_ac cI 912 fcn)] ∧ okM fsn w9n k9n h9n ∧ (¬ mt = 0 → 1 ≤ k9n) ∧ h9n ≤ 999 ∧ okA fcn man ∧ man ≤ 24 ∧ (mt = 0 → fsn 0 = 0 ∧ man = 0) ∧ m38 fsn = n_cap (m38 fs) ∧ man = kpN (gd_cap (m38 fs)) ma ∧ acM fcn man = kpA (gd_cap (m38 fs)) (m38 fs) ma (acM fc ma)) (va_A [(xo_8_rrriirrriiiiiiirrirrrrri mo m_la m_sz m_it ms mt m_st m_mv m_tp (nI mz) ml (nI mp) mk mv mb mw m_rd m_ac (nI ma) m_as m_wo m_ik m_ke m_tr (nI mx)), (xI m_st cI 38 fs), (xI m_ac cI 912 fc)] sz)) 0 0 (va_A [(xo_8_rrriirrriiiiiiirrirrrrri mo m_la m_sz m_it ms mt m_st m_mv m_tp (nI mz) ml (nI mp) mk mv mb mw m_rd m_ac (nI ma) m_as m_wo m_ik m_ke m_tr (nI mx)), (xI m_st cI 38 fs), (xI m_ac cI 912 fc)] sz) := by
  refine Met.ofW (cc := cX8_cap) (maxL := 1) (ret := (some .int)) (by decide) rfl ?_
  intro p e s m args below meth c s₁ B hml hv
  obtain ⟨rfl, hsz, hP, hK, hD0⟩ := hv
  have hx := B.exec
  have hb := B.bytes
  have hr := B.returns
  have hts := atoms_spec (ws := wsX8_cap) B.pre
  have hown : s.vm.findClass RX8 = some m.cls := findClass_of_methodNamed B.named
  have hlocks := B.notSynchronized
  subst hsz
  have hD := hD0.self (sz := s.heap.size)
  generalize hAe : va_A [(xo_8_rrriirrriiiiiiirrirrrrri mo m_la m_sz m_it ms mt m_st m_mv m_tp (nI mz) ml (nI mp) mk mv mb mw m_rd m_ac (nI ma) m_as m_wo m_ik m_ke m_tr (nI mx)), (xI m_st cI 38 fs), (xI m_ac cI 912 fc)] s.heap.size = A at hD ⊢
  have hA : ∀ q : Nat, s.heap.size ≤ q → A q := fun q h => by rw [← hAe]; exact Or.inr h
  have hS : va_S A s.heap s.heap [] := va_S.rf
  have hP : va_P (dC, dI) vwCl [(xo_8_rrriirrriiiiiiirrirrrrri mo m_la m_sz m_it ms mt m_st m_mv m_tp (nI mz) ml (nI mp) mk mv mb mw m_rd m_ac (nI ma) m_as m_wo m_ik m_ke m_tr (nI mx)), (xI m_st cI 38 fs), (xI m_ac cI 912 fc)] s.heap := hP
  have hl := lv_entry ([.ref mo]) (n := 1) (Nat.le_of_ble_eq_true rfl)
  rw [lg_entry_eq]
  generalize (lg_sl ([.ref mo]) ++ List.replicate (1 - (lg_sl ([.ref mo])).length) Slot.unset).toArray = ls at hl ⊢
  have hl : lv_has ls 1 [(0, .ref mo)] := hl
  have hk6 := hM.2.2.2.2.1
  have hw6 := hM.2.2.2.1
  refine lv_aload_n hx hb dX8_cap_0 rfl (lv_at hl 0 rfl) ?_
  refine va_get (D := (dC, dI)) (ci := 8) (v := .int mt) (C := RX8) (T := TX8) (N := 24) hx hb hts i_X8_cap_X8 hown hK hP 0 rfl rfl 4 (by decide) (hts _ mx_X8_cap_1) (fun _ h9 => h9) rfl dX8_cap_1 ?_
  refine lv_if_ne (tgt := 10) hx hb dX8_cap_4 (by decide) (fun c_1 => ?_) (fun c_1 => ?_)
  · skip
    have hkn1 := hT c_1
    have hw1 := hM.2.2.2.2.2.1.mp hkn1
    have h01 : ¬ fs 0 = 0 := cell_nz hM hkn1
    refine lv_aload_n hx hb dX8_cap_10 rfl (lv_at hl 0 rfl) ?_
    have hc_2 := cutW (wc := [(xo_8_rrriirrriiiiiiirrirrrrri mo m_la m_sz m_it ms mt m_st m_mv m_tp (nI mz) ml (nI mp) mk mv mb mw m_rd m_ac (nI ma) m_as m_wo m_ik m_ke m_tr (nI mx)), (xI m_st cI 38 fs), (xI m_ac cI 912 fc)]) hP hD hS hA [0, 1, 2] (by decide +kernel) rfl
    refine va_callv (va_runV (As := []) (rest := []) ⟨hx, hb, hml, hown, hts⟩ (r_X8_note l dC dI cI cZ cL cJ s.heap.size mo m_la m_sz m_it m_st m_mv m_tp m_rd m_ac m_as m_wo m_ik m_ke m_tr ms mt ml mk mv mb mw mz mp ma mx fs fc (hac) (by omega) (⟨w9, k9, h9, hM, hkn1, by omega⟩)) (cwV 0 hts gX8_cap_X8_note rfl rfl rfl (by decide +kernel) ⟨Nat.le_of_ble_eq_true rfl, Nat.le_of_ble_eq_true rfl⟩) (pvW 8 0 hK hP rfl rfl hc_2) rfl rfl hl.1 rfl (lv_room (Nat.le_of_ble_eq_true rfl)) dX8_cap_11 ⟨Nat.le_of_ble_eq_true rfl, Nat.le_of_ble_eq_true rfl⟩) hS (fun q _ h => hc_2.2.2 q h) hc_2.2.2 (fun u_2 t_2 H1 locs ht hvm h_2 hB hz1 hk1 hS => ?_)
    refine xl_2_7 hB (fun fcn_2 man_2 hP1 hD1 hF_2_0 hF_2_1 hF_2_2 hF_2_3 hF_2_4 => ?_)
    clear hB
    rw [ht] at hP1
    obtain ⟨hP, hD⟩ := va_join (wr := []) (w1 := [(xo_8_rrriirrriiiiiiirrirrrrri mo m_la m_sz m_it ms mt m_st m_mv m_tp (nI mz) ml (nI mp) mk mv mb mw m_rd m_ac (nI man_2) m_as m_wo m_ik m_ke m_tr (nI mx)), (xI m_st cI 38 fs), (xI m_ac cI 912 fcn_2)]) hP hD [0, 1, 2] [] rfl rfl (by decide +kernel) (by decide +kernel) hk1 hc_2.2.2 hP1 hD1
    generalize H1 = H at hP hS ⊢
    have hP : va_P (dC, dI) vwCl [(xo_8_rrriirrriiiiiiirrirrrrri mo m_la m_sz m_it ms mt m_st m_mv m_tp (nI mz) ml (nI mp) mk mv mb mw m_rd m_ac (nI man_2) m_as m_wo m_ik m_ke m_tr (nI mx)), (xI m_st cI 38 fs), (xI m_ac cI 912 fcn_2)] H := hP
    have hD := dto hP hD
    refine lv_aload_n hx hb dX8_cap_14 rfl (lv_at hl 0 rfl) ?_
    refine va_get (D := (dC, dI)) (ci := 8) (v := .ref m_st) (C := RX8) (T := TX8) (N := 24) hx hb hts i_X8_cap_X8 hown hK hP 0 rfl rfl 5 (by decide) (hts _ mx_X8_cap_3) (fun _ h9 => h9) rfl dX8_cap_15 ?_
    refine lv_bipush (v := 6) hx hb dX8_cap_18 (by decide) ?_
    refine lv_iconst (v := 1) hx hb dX8_cap_20 (by decide) ?_
    refine lv_aload_n hx hb dX8_cap_21 rfl (lv_at hl 0 rfl) ?_
    refine va_get (D := (dC, dI)) (ci := 8) (v := .ref m_st) (C := RX8) (T := TX8) (N := 24) hx hb hts i_X8_cap_X8 hown hK hP 0 rfl rfl 5 (by decide) (hts _ mx_X8_cap_3) (fun _ h9 => h9) rfl dX8_cap_22 ?_
    refine lv_bipush (v := 6) hx hb dX8_cap_25 (by decide) ?_
    refine va_iald hx hb hK hP 1 0 rfl rfl (by unfold vp_in; decide) dX8_cap_27 ?_
    refine lv_topi (fun v_3 e_3 => ?_)
    have e_3 : v_3 = fs 6 := e_3
    refine lv_isub hx hb dX8_cap_28 ?_
    refine lv_topi (fun v_4 e_4 => ?_)
    refine va_iast hx hb hK hP hD hS 1 0 rfl rfl (by unfold vp_in; decide) dX8_cap_29 (fun H locs hP hD hS => ?_)
    generalize hg_5 : upd fs (6 : Int32).toNatClampNeg v_4 = g_5 at hP hD
    have hu_5 : g_5 = upd fs 6 v_4 := hg_5.symm
    have hM_5 : okM g_5 w9 k9 h9 := okM_off (i := 6) hM hg_5 (by omega) (by omega) (by omega) (by omega) (by omega)
    have hP : va_P (dC, dI) vwCl [(xo_8_rrriirrriiiiiiirrirrrrri mo m_la m_sz m_it ms mt m_st m_mv m_tp (nI mz) ml (nI mp) mk mv mb mw m_rd m_ac (nI man_2) m_as m_wo m_ik m_ke m_tr (nI mx)), (xI m_st cI 38 g_5), (xI m_ac cI 912 fcn_2)] H := hP
    have hD := dto hP hD
    refine lv_aload_n hx hb dX8_cap_30 rfl (lv_at hl 0 rfl) ?_
    refine va_get (D := (dC, dI)) (ci := 8) (v := .ref m_st) (C := RX8) (T := TX8) (N := 24) hx hb hts i_X8_cap_X8 hown hK hP 0 rfl rfl 5 (by decide) (hts _ mx_X8_cap_3) (fun _ h9 => h9) rfl dX8_cap_31 ?_
    refine lv_bipush (v := 6) hx hb dX8_cap_34 (by decide) ?_
    refine va_iald hx hb hK hP 1 0 rfl rfl (by unfold vp_in; decide) dX8_cap_36 ?_
    refine lv_topi (fun v_6 e_6 => ?_)
    have e_6 : v_6 = g_5 6 := e_6
    have hX9 := cut2 (wc := [(xo_8_rrriirrriiiiiiirrirrrrri mo m_la m_sz m_it ms mt m_st m_mv m_tp (nI mz) ml (nI mp) mk mv mb mw m_rd m_ac (nI man_2) m_as m_wo m_ik m_ke m_tr (nI mx)), (xI m_st cI 38 g_5), (xI m_ac cI 912 fcn_2)]) hP hD [0, 1, 2] (by decide +kernel) rfl
    exact W.iret (v := v_6) hx hb hr (fun t ht hW => ⟨⟨v_6, (), rfl, (lf_X8_cap_5 hM hT h999 hT0 hac hma c_1 hkn1 hw1 h01 hF_2_0 hF_2_1 hF_2_2 hF_2_3 hF_2_4 e_3 e_4 hu_5 e_6), ⟨g_5, fcn_2, man_2, w9, k9, h9, va_Ht ht hX9.1, hX9.2, hM_5, hT, (by omega), hF_2_0, (by omega), (lf_X8_cap_1 hM hT h999 hT0 hac hma c_1 hkn1 hw1 h01 hF_2_0 hF_2_1 hF_2_2 hF_2_3 hF_2_4 e_3 e_4 hu_5 e_6), (lf_X8_cap_2 hM hT h999 hT0 hac hma c_1 hkn1 hw1 h01 hF_2_0 hF_2_1 hF_2_2 hF_2_3 hF_2_4 e_3 e_4 hu_5 e_6), (lf_X8_cap_3 hM hT h999 hT0 hac hma c_1 hkn1 hw1 h01 hF_2_0 hF_2_1 hF_2_2 hF_2_3 hF_2_4 e_3 e_4 hu_5 e_6), (lf_X8_cap_4 hM hT h999 hT0 hac hma c_1 hkn1 hw1 h01 hF_2_0 hF_2_1 hF_2_2 hF_2_3 hF_2_4 e_3 e_4 hu_5 e_6)⟩⟩, hS.F ht⟩) hS.2.2 dX8_cap_37
  · skip
    have h00 : fs 0 = 0 := (hT0 c_1).1
    refine lv_ldc (own := RX8) (v := (-1000002)) hx hb hown (hts _ mx_X8_cap_2) dX8_cap_7 ?_
    have hX9 := cut2 (wc := [(xo_8_rrriirrriiiiiiirrirrrrri mo m_la m_sz m_it ms mt m_st m_mv m_tp (nI mz) ml (nI mp) mk mv mb mw m_rd m_ac (nI ma) m_as m_wo m_ik m_ke m_tr (nI mx)), (xI m_st cI 38 fs), (xI m_ac cI 912 fc)]) hP hD [0, 1, 2] (by decide +kernel) rfl
    exact W.iret (v := (-1000002)) hx hb hr (fun t ht hW => ⟨⟨(-1000002), (), rfl, (lf_X8_cap_10 hM hT h999 hT0 hac hma c_1 h00), ⟨fs, fc, ma, w9, k9, h9, va_Ht ht hX9.1, hX9.2, hM, hT, (by omega), hac, (by omega), (lf_X8_cap_6 hM hT h999 hT0 hac hma c_1 h00), (lf_X8_cap_7 hM hT h999 hT0 hac hma c_1 h00), (lf_X8_cap_8 hM hT h999 hT0 hac hma c_1 h00), (lf_X8_cap_9 hM hT h999 hT0 hac hma c_1 h00)⟩⟩, hS.F ht⟩) hS.2.2 dX8_cap_9
theorem lf_X8_wind_1 {mt : Int32} {ma : Nat} {fs : Nat → Int32} {w9 : Nat} {k9 : Nat} {h9 : Nat} {fc : Nat → Int32} {a0 : Int32} {v_2 : Int32} (hM : okM fs w9 k9 h9) (hT : ¬ mt = 0 → 1 ≤ k9) (h999 : h9 ≤ 999) (hT0 : mt = 0 → fs 0 = 0 ∧ ma = 0) (hac : okA fc ma) (hma : ma ≤ 24) (e_2 : v_2 = ((nI w9) - 1)) (f_3_0_0 : ((a0).toInt64 < 0 ∨ (v_2).toInt64 < (a0).toInt64)) (q_3 : (a0 < 0 ∨ v_2 < a0)) : (mt = 0 → fs 0 = 0 ∧ ma = 0) := by
  have hw6 := hM.2.2.2.1
  have hk6 := hM.2.2.2.2.1
  first
  | exact hT0
  | (intro h_; exact absurd (hT0 h_).1 h01)
  | (intro h_; have h9 := (hT0 h_).2; omega)
  | exact (windM_n (ma := ma) (A := acM fc ma) (windM_g hM.1 (Or.inl (sB_no e_2 (by omega) q_3)))).1
  | exact (windM_n (ma := ma) (A := acM fc ma) (windM_g hM.1 (Or.inl (sB_no e_2 (by omega) q_3)))).2.1
  | exact (windM_n (ma := ma) (A := acM fc ma) (windM_g hM.1 (Or.inl (sB_no e_2 (by omega) q_3)))).2.2.1
  | exact (windM_n (ma := ma) (A := acM fc ma) (windM_g hM.1 (Or.inl (sB_no e_2 (by omega) q_3)))).2.2.2
  | exact (windM_n (ma := ma) (A := acM fc ma) (windM_g hM.1 (Or.inr q_6))).1
  | exact (windM_n (ma := ma) (A := acM fc ma) (windM_g hM.1 (Or.inr q_6))).2.1
  | exact (windM_n (ma := ma) (A := acM fc ma) (windM_g hM.1 (Or.inr q_6))).2.2.1
  | exact (windM_n (ma := ma) (A := acM fc ma) (windM_g hM.1 (Or.inr q_6))).2.2.2
  | exact (windM_d hM.1 hw6 hj_3 q_6 (by assumption) (by assumption) (by assumption) (by assumption)).1
  | exact (windM_d hM.1 hw6 hj_3 q_6 (by assumption) (by assumption) (by assumption) (by assumption)).2.1
  | exact (windM_d hM.1 hw6 hj_3 q_6 (by assumption) (by assumption) (by assumption) (by assumption)).2.2.1
  | exact (windM_d hM.1 hw6 hj_3 q_6 (by assumption) (by assumption) (by assumption) (by assumption)).2.2.2
theorem lf_X8_wind_2 {mt : Int32} {ma : Nat} {fs : Nat → Int32} {w9 : Nat} {k9 : Nat} {h9 : Nat} {fc : Nat → Int32} {a0 : Int32} {a1 : Int32} {v_2 : Int32} (hM : okM fs w9 k9 h9) (hT : ¬ mt = 0 → 1 ≤ k9) (h999 : h9 ≤ 999) (hT0 : mt = 0 → fs 0 = 0 ∧ ma = 0) (hac : okA fc ma) (hma : ma ≤ 24) (e_2 : v_2 = ((nI w9) - 1)) (f_3_0_0 : ((a0).toInt64 < 0 ∨ (v_2).toInt64 < (a0).toInt64)) (q_3 : (a0 < 0 ∨ v_2 < a0)) : m38 fs = n_wind (m38 fs) a0 a1 := by
  have hw6 := hM.2.2.2.1
  have hk6 := hM.2.2.2.2.1
  first
  | exact hT0
  | (intro h_; exact absurd (hT0 h_).1 h01)
  | (intro h_; have h9 := (hT0 h_).2; omega)
  | exact (windM_n (ma := ma) (A := acM fc ma) (windM_g hM.1 (Or.inl (sB_no e_2 (by omega) q_3)))).1
  | exact (windM_n (ma := ma) (A := acM fc ma) (windM_g hM.1 (Or.inl (sB_no e_2 (by omega) q_3)))).2.1
  | exact (windM_n (ma := ma) (A := acM fc ma) (windM_g hM.1 (Or.inl (sB_no e_2 (by omega) q_3)))).2.2.1
  | exact (windM_n (ma := ma) (A := acM fc ma) (windM_g hM.1 (Or.inl (sB_no e_2 (by omega) q_3)))).2.2.2
  | exact (windM_n (ma := ma) (A := acM fc ma) (windM_g hM.1 (Or.inr q_6))).1
  | exact (windM_n (ma := ma) (A := acM fc ma) (windM_g hM.1 (Or.inr q_6))).2.1
  | exact (windM_n (ma := ma) (A := acM fc ma) (windM_g hM.1 (Or.inr q_6))).2.2.1
  | exact (windM_n (ma := ma) (A := acM fc ma) (windM_g hM.1 (Or.inr q_6))).2.2.2
  | exact (windM_d hM.1 hw6 hj_3 q_6 (by assumption) (by assumption) (by assumption) (by assumption)).1
  | exact (windM_d hM.1 hw6 hj_3 q_6 (by assumption) (by assumption) (by assumption) (by assumption)).2.1
  | exact (windM_d hM.1 hw6 hj_3 q_6 (by assumption) (by assumption) (by assumption) (by assumption)).2.2.1
  | exact (windM_d hM.1 hw6 hj_3 q_6 (by assumption) (by assumption) (by assumption) (by assumption)).2.2.2
theorem lf_X8_wind_3 {mt : Int32} {ma : Nat} {fs : Nat → Int32} {w9 : Nat} {k9 : Nat} {h9 : Nat} {fc : Nat → Int32} {a0 : Int32} {a1 : Int32} {v_2 : Int32} (hM : okM fs w9 k9 h9) (hT : ¬ mt = 0 → 1 ≤ k9) (h999 : h9 ≤ 999) (hT0 : mt = 0 → fs 0 = 0 ∧ ma = 0) (hac : okA fc ma) (hma : ma ≤ 24) (e_2 : v_2 = ((nI w9) - 1)) (f_3_0_0 : ((a0).toInt64 < 0 ∨ (v_2).toInt64 < (a0).toInt64)) (q_3 : (a0 < 0 ∨ v_2 < a0)) : ma = kpN (gd_wind (m38 fs) a0 a1) ma := by
  have hw6 := hM.2.2.2.1
  have hk6 := hM.2.2.2.2.1
  first
  | exact hT0
  | (intro h_; exact absurd (hT0 h_).1 h01)
  | (intro h_; have h9 := (hT0 h_).2; omega)
  | exact (windM_n (ma := ma) (A := acM fc ma) (windM_g hM.1 (Or.inl (sB_no e_2 (by omega) q_3)))).1
  | exact (windM_n (ma := ma) (A := acM fc ma) (windM_g hM.1 (Or.inl (sB_no e_2 (by omega) q_3)))).2.1
  | exact (windM_n (ma := ma) (A := acM fc ma) (windM_g hM.1 (Or.inl (sB_no e_2 (by omega) q_3)))).2.2.1
  | exact (windM_n (ma := ma) (A := acM fc ma) (windM_g hM.1 (Or.inl (sB_no e_2 (by omega) q_3)))).2.2.2
  | exact (windM_n (ma := ma) (A := acM fc ma) (windM_g hM.1 (Or.inr q_6))).1
  | exact (windM_n (ma := ma) (A := acM fc ma) (windM_g hM.1 (Or.inr q_6))).2.1
  | exact (windM_n (ma := ma) (A := acM fc ma) (windM_g hM.1 (Or.inr q_6))).2.2.1
  | exact (windM_n (ma := ma) (A := acM fc ma) (windM_g hM.1 (Or.inr q_6))).2.2.2
  | exact (windM_d hM.1 hw6 hj_3 q_6 (by assumption) (by assumption) (by assumption) (by assumption)).1
  | exact (windM_d hM.1 hw6 hj_3 q_6 (by assumption) (by assumption) (by assumption) (by assumption)).2.1
  | exact (windM_d hM.1 hw6 hj_3 q_6 (by assumption) (by assumption) (by assumption) (by assumption)).2.2.1
  | exact (windM_d hM.1 hw6 hj_3 q_6 (by assumption) (by assumption) (by assumption) (by assumption)).2.2.2
theorem lf_X8_wind_4 {mt : Int32} {ma : Nat} {fs : Nat → Int32} {w9 : Nat} {k9 : Nat} {h9 : Nat} {fc : Nat → Int32} {a0 : Int32} {a1 : Int32} {v_2 : Int32} (hM : okM fs w9 k9 h9) (hT : ¬ mt = 0 → 1 ≤ k9) (h999 : h9 ≤ 999) (hT0 : mt = 0 → fs 0 = 0 ∧ ma = 0) (hac : okA fc ma) (hma : ma ≤ 24) (e_2 : v_2 = ((nI w9) - 1)) (f_3_0_0 : ((a0).toInt64 < 0 ∨ (v_2).toInt64 < (a0).toInt64)) (q_3 : (a0 < 0 ∨ v_2 < a0)) : acM fc ma = kpA (gd_wind (m38 fs) a0 a1) (m38 fs) ma (acM fc ma) := by
  have hw6 := hM.2.2.2.1
  have hk6 := hM.2.2.2.2.1
  first
  | exact hT0
  | (intro h_; exact absurd (hT0 h_).1 h01)
  | (intro h_; have h9 := (hT0 h_).2; omega)
  | exact (windM_n (ma := ma) (A := acM fc ma) (windM_g hM.1 (Or.inl (sB_no e_2 (by omega) q_3)))).1
  | exact (windM_n (ma := ma) (A := acM fc ma) (windM_g hM.1 (Or.inl (sB_no e_2 (by omega) q_3)))).2.1
  | exact (windM_n (ma := ma) (A := acM fc ma) (windM_g hM.1 (Or.inl (sB_no e_2 (by omega) q_3)))).2.2.1
  | exact (windM_n (ma := ma) (A := acM fc ma) (windM_g hM.1 (Or.inl (sB_no e_2 (by omega) q_3)))).2.2.2
  | exact (windM_n (ma := ma) (A := acM fc ma) (windM_g hM.1 (Or.inr q_6))).1
  | exact (windM_n (ma := ma) (A := acM fc ma) (windM_g hM.1 (Or.inr q_6))).2.1
  | exact (windM_n (ma := ma) (A := acM fc ma) (windM_g hM.1 (Or.inr q_6))).2.2.1
  | exact (windM_n (ma := ma) (A := acM fc ma) (windM_g hM.1 (Or.inr q_6))).2.2.2
  | exact (windM_d hM.1 hw6 hj_3 q_6 (by assumption) (by assumption) (by assumption) (by assumption)).1
  | exact (windM_d hM.1 hw6 hj_3 q_6 (by assumption) (by assumption) (by assumption) (by assumption)).2.1
  | exact (windM_d hM.1 hw6 hj_3 q_6 (by assumption) (by assumption) (by assumption) (by assumption)).2.2.1
  | exact (windM_d hM.1 hw6 hj_3 q_6 (by assumption) (by assumption) (by assumption) (by assumption)).2.2.2
theorem lf_X8_wind_5 {mt : Int32} {ma : Nat} {fs : Nat → Int32} {w9 : Nat} {k9 : Nat} {h9 : Nat} {fc : Nat → Int32} {a0 : Int32} {a1 : Int32} {v_2 : Int32} (hM : okM fs w9 k9 h9) (hT : ¬ mt = 0 → 1 ≤ k9) (h999 : h9 ≤ 999) (hT0 : mt = 0 → fs 0 = 0 ∧ ma = 0) (hac : okA fc ma) (hma : ma ≤ 24) (e_2 : v_2 = ((nI w9) - 1)) (f_3_0_0 : ((a0).toInt64 < 0 ∨ (v_2).toInt64 < (a0).toInt64)) (q_3 : (a0 < 0 ∨ v_2 < a0)) : (-1000001) = (a_wind (m38 fs) a0 a1) := by
  have hw6 := hM.2.2.2.1
  have hk6 := hM.2.2.2.2.1
  first
  | exact hT0
  | (intro h_; exact absurd (hT0 h_).1 h01)
  | (intro h_; have h9 := (hT0 h_).2; omega)
  | exact (windM_n (ma := ma) (A := acM fc ma) (windM_g hM.1 (Or.inl (sB_no e_2 (by omega) q_3)))).1
  | exact (windM_n (ma := ma) (A := acM fc ma) (windM_g hM.1 (Or.inl (sB_no e_2 (by omega) q_3)))).2.1
  | exact (windM_n (ma := ma) (A := acM fc ma) (windM_g hM.1 (Or.inl (sB_no e_2 (by omega) q_3)))).2.2.1
  | exact (windM_n (ma := ma) (A := acM fc ma) (windM_g hM.1 (Or.inl (sB_no e_2 (by omega) q_3)))).2.2.2
  | exact (windM_n (ma := ma) (A := acM fc ma) (windM_g hM.1 (Or.inr q_6))).1
  | exact (windM_n (ma := ma) (A := acM fc ma) (windM_g hM.1 (Or.inr q_6))).2.1
  | exact (windM_n (ma := ma) (A := acM fc ma) (windM_g hM.1 (Or.inr q_6))).2.2.1
  | exact (windM_n (ma := ma) (A := acM fc ma) (windM_g hM.1 (Or.inr q_6))).2.2.2
  | exact (windM_d hM.1 hw6 hj_3 q_6 (by assumption) (by assumption) (by assumption) (by assumption)).1
  | exact (windM_d hM.1 hw6 hj_3 q_6 (by assumption) (by assumption) (by assumption) (by assumption)).2.1
  | exact (windM_d hM.1 hw6 hj_3 q_6 (by assumption) (by assumption) (by assumption) (by assumption)).2.2.1
  | exact (windM_d hM.1 hw6 hj_3 q_6 (by assumption) (by assumption) (by assumption) (by assumption)).2.2.2
theorem lf_X8_wind_6 {mt : Int32} {ma : Nat} {fs : Nat → Int32} {w9 : Nat} {k9 : Nat} {h9 : Nat} {fc : Nat → Int32} {a1 : Int32} {v_2 : Int32} {j_3 : Nat} (hM : okM fs w9 k9 h9) (hT : ¬ mt = 0 → 1 ≤ k9) (h999 : h9 ≤ 999) (hT0 : mt = 0 → fs 0 = 0 ∧ ma = 0) (hac : okA fc ma) (hma : ma ≤ 24) (e_2 : v_2 = ((nI w9) - 1)) (f_3_1_0 : (¬ (((nI j_3)).toInt64 < 0 ∨ (v_2).toInt64 < ((nI j_3)).toInt64))) (q_3 : ¬ ((nI j_3) < 0 ∨ v_2 < (nI j_3))) (hj_3 : j_3 < w9) (hkn1 : 1 ≤ k9) (hw1 : 1 ≤ w9) (h01 : ¬ fs 0 = 0) (f_6_0_0 : ((a1).toInt64 < 0 ∨ 4 < (a1).toInt64)) (q_6 : (a1 < 0 ∨ 4 < a1)) : (mt = 0 → fs 0 = 0 ∧ ma = 0) := by
  have hw6 := hM.2.2.2.1
  have hk6 := hM.2.2.2.2.1
  first
  | exact hT0
  | (intro h_; exact absurd (hT0 h_).1 h01)
  | (intro h_; have h9 := (hT0 h_).2; omega)
  | exact (windM_n (ma := ma) (A := acM fc ma) (windM_g hM.1 (Or.inl (sB_no e_2 (by omega) q_3)))).1
  | exact (windM_n (ma := ma) (A := acM fc ma) (windM_g hM.1 (Or.inl (sB_no e_2 (by omega) q_3)))).2.1
  | exact (windM_n (ma := ma) (A := acM fc ma) (windM_g hM.1 (Or.inl (sB_no e_2 (by omega) q_3)))).2.2.1
  | exact (windM_n (ma := ma) (A := acM fc ma) (windM_g hM.1 (Or.inl (sB_no e_2 (by omega) q_3)))).2.2.2
  | exact (windM_n (ma := ma) (A := acM fc ma) (windM_g hM.1 (Or.inr q_6))).1
  | exact (windM_n (ma := ma) (A := acM fc ma) (windM_g hM.1 (Or.inr q_6))).2.1
  | exact (windM_n (ma := ma) (A := acM fc ma) (windM_g hM.1 (Or.inr q_6))).2.2.1
  | exact (windM_n (ma := ma) (A := acM fc ma) (windM_g hM.1 (Or.inr q_6))).2.2.2
  | exact (windM_d hM.1 hw6 hj_3 q_6 (by assumption) (by assumption) (by assumption) (by assumption)).1
  | exact (windM_d hM.1 hw6 hj_3 q_6 (by assumption) (by assumption) (by assumption) (by assumption)).2.1
  | exact (windM_d hM.1 hw6 hj_3 q_6 (by assumption) (by assumption) (by assumption) (by assumption)).2.2.1
  | exact (windM_d hM.1 hw6 hj_3 q_6 (by assumption) (by assumption) (by assumption) (by assumption)).2.2.2
theorem lf_X8_wind_7 {mt : Int32} {ma : Nat} {fs : Nat → Int32} {w9 : Nat} {k9 : Nat} {h9 : Nat} {fc : Nat → Int32} {a1 : Int32} {v_2 : Int32} {j_3 : Nat} (hM : okM fs w9 k9 h9) (hT : ¬ mt = 0 → 1 ≤ k9) (h999 : h9 ≤ 999) (hT0 : mt = 0 → fs 0 = 0 ∧ ma = 0) (hac : okA fc ma) (hma : ma ≤ 24) (e_2 : v_2 = ((nI w9) - 1)) (f_3_1_0 : (¬ (((nI j_3)).toInt64 < 0 ∨ (v_2).toInt64 < ((nI j_3)).toInt64))) (q_3 : ¬ ((nI j_3) < 0 ∨ v_2 < (nI j_3))) (hj_3 : j_3 < w9) (hkn1 : 1 ≤ k9) (hw1 : 1 ≤ w9) (h01 : ¬ fs 0 = 0) (f_6_0_0 : ((a1).toInt64 < 0 ∨ 4 < (a1).toInt64)) (q_6 : (a1 < 0 ∨ 4 < a1)) : m38 fs = n_wind (m38 fs) (nI j_3) a1 := by
  have hw6 := hM.2.2.2.1
  have hk6 := hM.2.2.2.2.1
  first
  | exact hT0
  | (intro h_; exact absurd (hT0 h_).1 h01)
  | (intro h_; have h9 := (hT0 h_).2; omega)
  | exact (windM_n (ma := ma) (A := acM fc ma) (windM_g hM.1 (Or.inl (sB_no e_2 (by omega) q_3)))).1
  | exact (windM_n (ma := ma) (A := acM fc ma) (windM_g hM.1 (Or.inl (sB_no e_2 (by omega) q_3)))).2.1
  | exact (windM_n (ma := ma) (A := acM fc ma) (windM_g hM.1 (Or.inl (sB_no e_2 (by omega) q_3)))).2.2.1
  | exact (windM_n (ma := ma) (A := acM fc ma) (windM_g hM.1 (Or.inl (sB_no e_2 (by omega) q_3)))).2.2.2
  | exact (windM_n (ma := ma) (A := acM fc ma) (windM_g hM.1 (Or.inr q_6))).1
  | exact (windM_n (ma := ma) (A := acM fc ma) (windM_g hM.1 (Or.inr q_6))).2.1
  | exact (windM_n (ma := ma) (A := acM fc ma) (windM_g hM.1 (Or.inr q_6))).2.2.1
  | exact (windM_n (ma := ma) (A := acM fc ma) (windM_g hM.1 (Or.inr q_6))).2.2.2
  | exact (windM_d hM.1 hw6 hj_3 q_6 (by assumption) (by assumption) (by assumption) (by assumption)).1
  | exact (windM_d hM.1 hw6 hj_3 q_6 (by assumption) (by assumption) (by assumption) (by assumption)).2.1
  | exact (windM_d hM.1 hw6 hj_3 q_6 (by assumption) (by assumption) (by assumption) (by assumption)).2.2.1
  | exact (windM_d hM.1 hw6 hj_3 q_6 (by assumption) (by assumption) (by assumption) (by assumption)).2.2.2
theorem lf_X8_wind_8 {mt : Int32} {ma : Nat} {fs : Nat → Int32} {w9 : Nat} {k9 : Nat} {h9 : Nat} {fc : Nat → Int32} {a1 : Int32} {v_2 : Int32} {j_3 : Nat} (hM : okM fs w9 k9 h9) (hT : ¬ mt = 0 → 1 ≤ k9) (h999 : h9 ≤ 999) (hT0 : mt = 0 → fs 0 = 0 ∧ ma = 0) (hac : okA fc ma) (hma : ma ≤ 24) (e_2 : v_2 = ((nI w9) - 1)) (f_3_1_0 : (¬ (((nI j_3)).toInt64 < 0 ∨ (v_2).toInt64 < ((nI j_3)).toInt64))) (q_3 : ¬ ((nI j_3) < 0 ∨ v_2 < (nI j_3))) (hj_3 : j_3 < w9) (hkn1 : 1 ≤ k9) (hw1 : 1 ≤ w9) (h01 : ¬ fs 0 = 0) (f_6_0_0 : ((a1).toInt64 < 0 ∨ 4 < (a1).toInt64)) (q_6 : (a1 < 0 ∨ 4 < a1)) : ma = kpN (gd_wind (m38 fs) (nI j_3) a1) ma := by
  have hw6 := hM.2.2.2.1
  have hk6 := hM.2.2.2.2.1
  first
  | exact hT0
  | (intro h_; exact absurd (hT0 h_).1 h01)
  | (intro h_; have h9 := (hT0 h_).2; omega)
  | exact (windM_n (ma := ma) (A := acM fc ma) (windM_g hM.1 (Or.inl (sB_no e_2 (by omega) q_3)))).1
  | exact (windM_n (ma := ma) (A := acM fc ma) (windM_g hM.1 (Or.inl (sB_no e_2 (by omega) q_3)))).2.1
  | exact (windM_n (ma := ma) (A := acM fc ma) (windM_g hM.1 (Or.inl (sB_no e_2 (by omega) q_3)))).2.2.1
  | exact (windM_n (ma := ma) (A := acM fc ma) (windM_g hM.1 (Or.inl (sB_no e_2 (by omega) q_3)))).2.2.2
  | exact (windM_n (ma := ma) (A := acM fc ma) (windM_g hM.1 (Or.inr q_6))).1
  | exact (windM_n (ma := ma) (A := acM fc ma) (windM_g hM.1 (Or.inr q_6))).2.1
  | exact (windM_n (ma := ma) (A := acM fc ma) (windM_g hM.1 (Or.inr q_6))).2.2.1
  | exact (windM_n (ma := ma) (A := acM fc ma) (windM_g hM.1 (Or.inr q_6))).2.2.2
  | exact (windM_d hM.1 hw6 hj_3 q_6 (by assumption) (by assumption) (by assumption) (by assumption)).1
  | exact (windM_d hM.1 hw6 hj_3 q_6 (by assumption) (by assumption) (by assumption) (by assumption)).2.1
  | exact (windM_d hM.1 hw6 hj_3 q_6 (by assumption) (by assumption) (by assumption) (by assumption)).2.2.1
  | exact (windM_d hM.1 hw6 hj_3 q_6 (by assumption) (by assumption) (by assumption) (by assumption)).2.2.2
theorem lf_X8_wind_9 {mt : Int32} {ma : Nat} {fs : Nat → Int32} {w9 : Nat} {k9 : Nat} {h9 : Nat} {fc : Nat → Int32} {a1 : Int32} {v_2 : Int32} {j_3 : Nat} (hM : okM fs w9 k9 h9) (hT : ¬ mt = 0 → 1 ≤ k9) (h999 : h9 ≤ 999) (hT0 : mt = 0 → fs 0 = 0 ∧ ma = 0) (hac : okA fc ma) (hma : ma ≤ 24) (e_2 : v_2 = ((nI w9) - 1)) (f_3_1_0 : (¬ (((nI j_3)).toInt64 < 0 ∨ (v_2).toInt64 < ((nI j_3)).toInt64))) (q_3 : ¬ ((nI j_3) < 0 ∨ v_2 < (nI j_3))) (hj_3 : j_3 < w9) (hkn1 : 1 ≤ k9) (hw1 : 1 ≤ w9) (h01 : ¬ fs 0 = 0) (f_6_0_0 : ((a1).toInt64 < 0 ∨ 4 < (a1).toInt64)) (q_6 : (a1 < 0 ∨ 4 < a1)) : acM fc ma = kpA (gd_wind (m38 fs) (nI j_3) a1) (m38 fs) ma (acM fc ma) := by
  have hw6 := hM.2.2.2.1
  have hk6 := hM.2.2.2.2.1
  first
  | exact hT0
  | (intro h_; exact absurd (hT0 h_).1 h01)
  | (intro h_; have h9 := (hT0 h_).2; omega)
  | exact (windM_n (ma := ma) (A := acM fc ma) (windM_g hM.1 (Or.inl (sB_no e_2 (by omega) q_3)))).1
  | exact (windM_n (ma := ma) (A := acM fc ma) (windM_g hM.1 (Or.inl (sB_no e_2 (by omega) q_3)))).2.1
  | exact (windM_n (ma := ma) (A := acM fc ma) (windM_g hM.1 (Or.inl (sB_no e_2 (by omega) q_3)))).2.2.1
  | exact (windM_n (ma := ma) (A := acM fc ma) (windM_g hM.1 (Or.inl (sB_no e_2 (by omega) q_3)))).2.2.2
  | exact (windM_n (ma := ma) (A := acM fc ma) (windM_g hM.1 (Or.inr q_6))).1
  | exact (windM_n (ma := ma) (A := acM fc ma) (windM_g hM.1 (Or.inr q_6))).2.1
  | exact (windM_n (ma := ma) (A := acM fc ma) (windM_g hM.1 (Or.inr q_6))).2.2.1
  | exact (windM_n (ma := ma) (A := acM fc ma) (windM_g hM.1 (Or.inr q_6))).2.2.2
  | exact (windM_d hM.1 hw6 hj_3 q_6 (by assumption) (by assumption) (by assumption) (by assumption)).1
  | exact (windM_d hM.1 hw6 hj_3 q_6 (by assumption) (by assumption) (by assumption) (by assumption)).2.1
  | exact (windM_d hM.1 hw6 hj_3 q_6 (by assumption) (by assumption) (by assumption) (by assumption)).2.2.1
  | exact (windM_d hM.1 hw6 hj_3 q_6 (by assumption) (by assumption) (by assumption) (by assumption)).2.2.2
theorem lf_X8_wind_10 {mt : Int32} {ma : Nat} {fs : Nat → Int32} {w9 : Nat} {k9 : Nat} {h9 : Nat} {fc : Nat → Int32} {a1 : Int32} {v_2 : Int32} {j_3 : Nat} (hM : okM fs w9 k9 h9) (hT : ¬ mt = 0 → 1 ≤ k9) (h999 : h9 ≤ 999) (hT0 : mt = 0 → fs 0 = 0 ∧ ma = 0) (hac : okA fc ma) (hma : ma ≤ 24) (e_2 : v_2 = ((nI w9) - 1)) (f_3_1_0 : (¬ (((nI j_3)).toInt64 < 0 ∨ (v_2).toInt64 < ((nI j_3)).toInt64))) (q_3 : ¬ ((nI j_3) < 0 ∨ v_2 < (nI j_3))) (hj_3 : j_3 < w9) (hkn1 : 1 ≤ k9) (hw1 : 1 ≤ w9) (h01 : ¬ fs 0 = 0) (f_6_0_0 : ((a1).toInt64 < 0 ∨ 4 < (a1).toInt64)) (q_6 : (a1 < 0 ∨ 4 < a1)) : (-1000001) = (a_wind (m38 fs) (nI j_3) a1) := by
  have hw6 := hM.2.2.2.1
  have hk6 := hM.2.2.2.2.1
  first
  | exact hT0
  | (intro h_; exact absurd (hT0 h_).1 h01)
  | (intro h_; have h9 := (hT0 h_).2; omega)
  | exact (windM_n (ma := ma) (A := acM fc ma) (windM_g hM.1 (Or.inl (sB_no e_2 (by omega) q_3)))).1
  | exact (windM_n (ma := ma) (A := acM fc ma) (windM_g hM.1 (Or.inl (sB_no e_2 (by omega) q_3)))).2.1
  | exact (windM_n (ma := ma) (A := acM fc ma) (windM_g hM.1 (Or.inl (sB_no e_2 (by omega) q_3)))).2.2.1
  | exact (windM_n (ma := ma) (A := acM fc ma) (windM_g hM.1 (Or.inl (sB_no e_2 (by omega) q_3)))).2.2.2
  | exact (windM_n (ma := ma) (A := acM fc ma) (windM_g hM.1 (Or.inr q_6))).1
  | exact (windM_n (ma := ma) (A := acM fc ma) (windM_g hM.1 (Or.inr q_6))).2.1
  | exact (windM_n (ma := ma) (A := acM fc ma) (windM_g hM.1 (Or.inr q_6))).2.2.1
  | exact (windM_n (ma := ma) (A := acM fc ma) (windM_g hM.1 (Or.inr q_6))).2.2.2
  | exact (windM_d hM.1 hw6 hj_3 q_6 (by assumption) (by assumption) (by assumption) (by assumption)).1
  | exact (windM_d hM.1 hw6 hj_3 q_6 (by assumption) (by assumption) (by assumption) (by assumption)).2.1
  | exact (windM_d hM.1 hw6 hj_3 q_6 (by assumption) (by assumption) (by assumption) (by assumption)).2.2.1
  | exact (windM_d hM.1 hw6 hj_3 q_6 (by assumption) (by assumption) (by assumption) (by assumption)).2.2.2
theorem lf_X8_wind_11 {mt : Int32} {ma : Nat} {fs : Nat → Int32} {w9 : Nat} {k9 : Nat} {h9 : Nat} {fc : Nat → Int32} {v_2 : Int32} {j_3 : Nat} {j_6 : Nat} {fcn_9 : Nat → Int32} {man_9 : Nat} {v_11 : Int32} {g_13 : Nat → Int32} (hM : okM fs w9 k9 h9) (hT : ¬ mt = 0 → 1 ≤ k9) (h999 : h9 ≤ 999) (hT0 : mt = 0 → fs 0 = 0 ∧ ma = 0) (hac : okA fc ma) (hma : ma ≤ 24) (e_2 : v_2 = ((nI w9) - 1)) (f_3_1_0 : (¬ (((nI j_3)).toInt64 < 0 ∨ (v_2).toInt64 < ((nI j_3)).toInt64))) (q_3 : ¬ ((nI j_3) < 0 ∨ v_2 < (nI j_3))) (hj_3 : j_3 < w9) (hkn1 : 1 ≤ k9) (hw1 : 1 ≤ w9) (h01 : ¬ fs 0 = 0) (f_6_1_0 : (¬ (((nI j_6)).toInt64 < 0 ∨ 4 < ((nI j_6)).toInt64))) (q_6 : ¬ ((nI j_6) < 0 ∨ 4 < (nI j_6))) (hj_6 : j_6 ≤ 4) (hF_9_0 : okA fcn_9 man_9) (hF_9_1 : man_9 ≤ 24) (hF_9_2 : 1 ≤ man_9) (hF_9_3 : acM fcn_9 man_9 = ntA (m38 fs) ma (acM fc ma)) (hF_9_4 : man_9 = ntN ma) (e_11 : v_11 = fs (8 + j_3)) (hu_13 : g_13 = upd fs (8 + j_3) (nI j_6)) : (mt = 0 → g_13 0 = 0 ∧ man_9 = 0) := by
  have hw6 := hM.2.2.2.1
  have hk6 := hM.2.2.2.2.1
  first
  | exact hT0
  | (intro h_; exact absurd (hT0 h_).1 h01)
  | (intro h_; have h9 := (hT0 h_).2; omega)
  | exact (windM_n (ma := ma) (A := acM fc ma) (windM_g hM.1 (Or.inl (sB_no e_2 (by omega) q_3)))).1
  | exact (windM_n (ma := ma) (A := acM fc ma) (windM_g hM.1 (Or.inl (sB_no e_2 (by omega) q_3)))).2.1
  | exact (windM_n (ma := ma) (A := acM fc ma) (windM_g hM.1 (Or.inl (sB_no e_2 (by omega) q_3)))).2.2.1
  | exact (windM_n (ma := ma) (A := acM fc ma) (windM_g hM.1 (Or.inl (sB_no e_2 (by omega) q_3)))).2.2.2
  | exact (windM_n (ma := ma) (A := acM fc ma) (windM_g hM.1 (Or.inr q_6))).1
  | exact (windM_n (ma := ma) (A := acM fc ma) (windM_g hM.1 (Or.inr q_6))).2.1
  | exact (windM_n (ma := ma) (A := acM fc ma) (windM_g hM.1 (Or.inr q_6))).2.2.1
  | exact (windM_n (ma := ma) (A := acM fc ma) (windM_g hM.1 (Or.inr q_6))).2.2.2
  | exact (windM_d hM.1 hw6 hj_3 q_6 (by assumption) (by assumption) (by assumption) (by assumption)).1
  | exact (windM_d hM.1 hw6 hj_3 q_6 (by assumption) (by assumption) (by assumption) (by assumption)).2.1
  | exact (windM_d hM.1 hw6 hj_3 q_6 (by assumption) (by assumption) (by assumption) (by assumption)).2.2.1
  | exact (windM_d hM.1 hw6 hj_3 q_6 (by assumption) (by assumption) (by assumption) (by assumption)).2.2.2
theorem lf_X8_wind_12 {mt : Int32} {ma : Nat} {fs : Nat → Int32} {w9 : Nat} {k9 : Nat} {h9 : Nat} {fc : Nat → Int32} {v_2 : Int32} {j_3 : Nat} {j_6 : Nat} {fcn_9 : Nat → Int32} {man_9 : Nat} {v_11 : Int32} {g_13 : Nat → Int32} (hM : okM fs w9 k9 h9) (hT : ¬ mt = 0 → 1 ≤ k9) (h999 : h9 ≤ 999) (hT0 : mt = 0 → fs 0 = 0 ∧ ma = 0) (hac : okA fc ma) (hma : ma ≤ 24) (e_2 : v_2 = ((nI w9) - 1)) (f_3_1_0 : (¬ (((nI j_3)).toInt64 < 0 ∨ (v_2).toInt64 < ((nI j_3)).toInt64))) (q_3 : ¬ ((nI j_3) < 0 ∨ v_2 < (nI j_3))) (hj_3 : j_3 < w9) (hkn1 : 1 ≤ k9) (hw1 : 1 ≤ w9) (h01 : ¬ fs 0 = 0) (f_6_1_0 : (¬ (((nI j_6)).toInt64 < 0 ∨ 4 < ((nI j_6)).toInt64))) (q_6 : ¬ ((nI j_6) < 0 ∨ 4 < (nI j_6))) (hj_6 : j_6 ≤ 4) (hF_9_0 : okA fcn_9 man_9) (hF_9_1 : man_9 ≤ 24) (hF_9_2 : 1 ≤ man_9) (hF_9_3 : acM fcn_9 man_9 = ntA (m38 fs) ma (acM fc ma)) (hF_9_4 : man_9 = ntN ma) (e_11 : v_11 = fs (8 + j_3)) (hu_13 : g_13 = upd fs (8 + j_3) (nI j_6)) : m38 g_13 = n_wind (m38 fs) (nI j_3) (nI j_6) := by
  have hw6 := hM.2.2.2.1
  have hk6 := hM.2.2.2.2.1
  first
  | exact hT0
  | (intro h_; exact absurd (hT0 h_).1 h01)
  | (intro h_; have h9 := (hT0 h_).2; omega)
  | exact (windM_n (ma := ma) (A := acM fc ma) (windM_g hM.1 (Or.inl (sB_no e_2 (by omega) q_3)))).1
  | exact (windM_n (ma := ma) (A := acM fc ma) (windM_g hM.1 (Or.inl (sB_no e_2 (by omega) q_3)))).2.1
  | exact (windM_n (ma := ma) (A := acM fc ma) (windM_g hM.1 (Or.inl (sB_no e_2 (by omega) q_3)))).2.2.1
  | exact (windM_n (ma := ma) (A := acM fc ma) (windM_g hM.1 (Or.inl (sB_no e_2 (by omega) q_3)))).2.2.2
  | exact (windM_n (ma := ma) (A := acM fc ma) (windM_g hM.1 (Or.inr q_6))).1
  | exact (windM_n (ma := ma) (A := acM fc ma) (windM_g hM.1 (Or.inr q_6))).2.1
  | exact (windM_n (ma := ma) (A := acM fc ma) (windM_g hM.1 (Or.inr q_6))).2.2.1
  | exact (windM_n (ma := ma) (A := acM fc ma) (windM_g hM.1 (Or.inr q_6))).2.2.2
  | exact (windM_d hM.1 hw6 hj_3 q_6 (by assumption) (by assumption) (by assumption) (by assumption)).1
  | exact (windM_d hM.1 hw6 hj_3 q_6 (by assumption) (by assumption) (by assumption) (by assumption)).2.1
  | exact (windM_d hM.1 hw6 hj_3 q_6 (by assumption) (by assumption) (by assumption) (by assumption)).2.2.1
  | exact (windM_d hM.1 hw6 hj_3 q_6 (by assumption) (by assumption) (by assumption) (by assumption)).2.2.2
theorem lf_X8_wind_13 {mt : Int32} {ma : Nat} {fs : Nat → Int32} {w9 : Nat} {k9 : Nat} {h9 : Nat} {fc : Nat → Int32} {v_2 : Int32} {j_3 : Nat} {j_6 : Nat} {fcn_9 : Nat → Int32} {man_9 : Nat} {v_11 : Int32} {g_13 : Nat → Int32} (hM : okM fs w9 k9 h9) (hT : ¬ mt = 0 → 1 ≤ k9) (h999 : h9 ≤ 999) (hT0 : mt = 0 → fs 0 = 0 ∧ ma = 0) (hac : okA fc ma) (hma : ma ≤ 24) (e_2 : v_2 = ((nI w9) - 1)) (f_3_1_0 : (¬ (((nI j_3)).toInt64 < 0 ∨ (v_2).toInt64 < ((nI j_3)).toInt64))) (q_3 : ¬ ((nI j_3) < 0 ∨ v_2 < (nI j_3))) (hj_3 : j_3 < w9) (hkn1 : 1 ≤ k9) (hw1 : 1 ≤ w9) (h01 : ¬ fs 0 = 0) (f_6_1_0 : (¬ (((nI j_6)).toInt64 < 0 ∨ 4 < ((nI j_6)).toInt64))) (q_6 : ¬ ((nI j_6) < 0 ∨ 4 < (nI j_6))) (hj_6 : j_6 ≤ 4) (hF_9_0 : okA fcn_9 man_9) (hF_9_1 : man_9 ≤ 24) (hF_9_2 : 1 ≤ man_9) (hF_9_3 : acM fcn_9 man_9 = ntA (m38 fs) ma (acM fc ma)) (hF_9_4 : man_9 = ntN ma) (e_11 : v_11 = fs (8 + j_3)) (hu_13 : g_13 = upd fs (8 + j_3) (nI j_6)) : man_9 = kpN (gd_wind (m38 fs) (nI j_3) (nI j_6)) ma := by
  have hw6 := hM.2.2.2.1
  have hk6 := hM.2.2.2.2.1
  first
  | exact hT0
  | (intro h_; exact absurd (hT0 h_).1 h01)
  | (intro h_; have h9 := (hT0 h_).2; omega)
  | exact (windM_n (ma := ma) (A := acM fc ma) (windM_g hM.1 (Or.inl (sB_no e_2 (by omega) q_3)))).1
  | exact (windM_n (ma := ma) (A := acM fc ma) (windM_g hM.1 (Or.inl (sB_no e_2 (by omega) q_3)))).2.1
  | exact (windM_n (ma := ma) (A := acM fc ma) (windM_g hM.1 (Or.inl (sB_no e_2 (by omega) q_3)))).2.2.1
  | exact (windM_n (ma := ma) (A := acM fc ma) (windM_g hM.1 (Or.inl (sB_no e_2 (by omega) q_3)))).2.2.2
  | exact (windM_n (ma := ma) (A := acM fc ma) (windM_g hM.1 (Or.inr q_6))).1
  | exact (windM_n (ma := ma) (A := acM fc ma) (windM_g hM.1 (Or.inr q_6))).2.1
  | exact (windM_n (ma := ma) (A := acM fc ma) (windM_g hM.1 (Or.inr q_6))).2.2.1
  | exact (windM_n (ma := ma) (A := acM fc ma) (windM_g hM.1 (Or.inr q_6))).2.2.2
  | exact (windM_d hM.1 hw6 hj_3 q_6 (by assumption) (by assumption) (by assumption) (by assumption)).1
  | exact (windM_d hM.1 hw6 hj_3 q_6 (by assumption) (by assumption) (by assumption) (by assumption)).2.1
  | exact (windM_d hM.1 hw6 hj_3 q_6 (by assumption) (by assumption) (by assumption) (by assumption)).2.2.1
  | exact (windM_d hM.1 hw6 hj_3 q_6 (by assumption) (by assumption) (by assumption) (by assumption)).2.2.2
theorem lf_X8_wind_14 {mt : Int32} {ma : Nat} {fs : Nat → Int32} {w9 : Nat} {k9 : Nat} {h9 : Nat} {fc : Nat → Int32} {v_2 : Int32} {j_3 : Nat} {j_6 : Nat} {fcn_9 : Nat → Int32} {man_9 : Nat} {v_11 : Int32} {g_13 : Nat → Int32} (hM : okM fs w9 k9 h9) (hT : ¬ mt = 0 → 1 ≤ k9) (h999 : h9 ≤ 999) (hT0 : mt = 0 → fs 0 = 0 ∧ ma = 0) (hac : okA fc ma) (hma : ma ≤ 24) (e_2 : v_2 = ((nI w9) - 1)) (f_3_1_0 : (¬ (((nI j_3)).toInt64 < 0 ∨ (v_2).toInt64 < ((nI j_3)).toInt64))) (q_3 : ¬ ((nI j_3) < 0 ∨ v_2 < (nI j_3))) (hj_3 : j_3 < w9) (hkn1 : 1 ≤ k9) (hw1 : 1 ≤ w9) (h01 : ¬ fs 0 = 0) (f_6_1_0 : (¬ (((nI j_6)).toInt64 < 0 ∨ 4 < ((nI j_6)).toInt64))) (q_6 : ¬ ((nI j_6) < 0 ∨ 4 < (nI j_6))) (hj_6 : j_6 ≤ 4) (hF_9_0 : okA fcn_9 man_9) (hF_9_1 : man_9 ≤ 24) (hF_9_2 : 1 ≤ man_9) (hF_9_3 : acM fcn_9 man_9 = ntA (m38 fs) ma (acM fc ma)) (hF_9_4 : man_9 = ntN ma) (e_11 : v_11 = fs (8 + j_3)) (hu_13 : g_13 = upd fs (8 + j_3) (nI j_6)) : acM fcn_9 man_9 = kpA (gd_wind (m38 fs) (nI j_3) (nI j_6)) (m38 fs) ma (acM fc ma) := by
  have hw6 := hM.2.2.2.1
  have hk6 := hM.2.2.2.2.1
  first
  | exact hT0
  | (intro h_; exact absurd (hT0 h_).1 h01)
  | (intro h_; have h9 := (hT0 h_).2; omega)
  | exact (windM_n (ma := ma) (A := acM fc ma) (windM_g hM.1 (Or.inl (sB_no e_2 (by omega) q_3)))).1
  | exact (windM_n (ma := ma) (A := acM fc ma) (windM_g hM.1 (Or.inl (sB_no e_2 (by omega) q_3)))).2.1
  | exact (windM_n (ma := ma) (A := acM fc ma) (windM_g hM.1 (Or.inl (sB_no e_2 (by omega) q_3)))).2.2.1
  | exact (windM_n (ma := ma) (A := acM fc ma) (windM_g hM.1 (Or.inl (sB_no e_2 (by omega) q_3)))).2.2.2
  | exact (windM_n (ma := ma) (A := acM fc ma) (windM_g hM.1 (Or.inr q_6))).1
  | exact (windM_n (ma := ma) (A := acM fc ma) (windM_g hM.1 (Or.inr q_6))).2.1
  | exact (windM_n (ma := ma) (A := acM fc ma) (windM_g hM.1 (Or.inr q_6))).2.2.1
  | exact (windM_n (ma := ma) (A := acM fc ma) (windM_g hM.1 (Or.inr q_6))).2.2.2
  | exact (windM_d hM.1 hw6 hj_3 q_6 (by assumption) (by assumption) (by assumption) (by assumption)).1
  | exact (windM_d hM.1 hw6 hj_3 q_6 (by assumption) (by assumption) (by assumption) (by assumption)).2.1
  | exact (windM_d hM.1 hw6 hj_3 q_6 (by assumption) (by assumption) (by assumption) (by assumption)).2.2.1
  | exact (windM_d hM.1 hw6 hj_3 q_6 (by assumption) (by assumption) (by assumption) (by assumption)).2.2.2
theorem lf_X8_wind_15 {mt : Int32} {ma : Nat} {fs : Nat → Int32} {w9 : Nat} {k9 : Nat} {h9 : Nat} {fc : Nat → Int32} {v_2 : Int32} {j_3 : Nat} {j_6 : Nat} {fcn_9 : Nat → Int32} {man_9 : Nat} {v_11 : Int32} {g_13 : Nat → Int32} (hM : okM fs w9 k9 h9) (hT : ¬ mt = 0 → 1 ≤ k9) (h999 : h9 ≤ 999) (hT0 : mt = 0 → fs 0 = 0 ∧ ma = 0) (hac : okA fc ma) (hma : ma ≤ 24) (e_2 : v_2 = ((nI w9) - 1)) (f_3_1_0 : (¬ (((nI j_3)).toInt64 < 0 ∨ (v_2).toInt64 < ((nI j_3)).toInt64))) (q_3 : ¬ ((nI j_3) < 0 ∨ v_2 < (nI j_3))) (hj_3 : j_3 < w9) (hkn1 : 1 ≤ k9) (hw1 : 1 ≤ w9) (h01 : ¬ fs 0 = 0) (f_6_1_0 : (¬ (((nI j_6)).toInt64 < 0 ∨ 4 < ((nI j_6)).toInt64))) (q_6 : ¬ ((nI j_6) < 0 ∨ 4 < (nI j_6))) (hj_6 : j_6 ≤ 4) (hF_9_0 : okA fcn_9 man_9) (hF_9_1 : man_9 ≤ 24) (hF_9_2 : 1 ≤ man_9) (hF_9_3 : acM fcn_9 man_9 = ntA (m38 fs) ma (acM fc ma)) (hF_9_4 : man_9 = ntN ma) (e_11 : v_11 = fs (8 + j_3)) (hu_13 : g_13 = upd fs (8 + j_3) (nI j_6)) : v_11 = (a_wind (m38 fs) (nI j_3) (nI j_6)) := by
  have hw6 := hM.2.2.2.1
  have hk6 := hM.2.2.2.2.1
  first
  | exact hT0
  | (intro h_; exact absurd (hT0 h_).1 h01)
  | (intro h_; have h9 := (hT0 h_).2; omega)
  | exact (windM_n (ma := ma) (A := acM fc ma) (windM_g hM.1 (Or.inl (sB_no e_2 (by omega) q_3)))).1
  | exact (windM_n (ma := ma) (A := acM fc ma) (windM_g hM.1 (Or.inl (sB_no e_2 (by omega) q_3)))).2.1
  | exact (windM_n (ma := ma) (A := acM fc ma) (windM_g hM.1 (Or.inl (sB_no e_2 (by omega) q_3)))).2.2.1
  | exact (windM_n (ma := ma) (A := acM fc ma) (windM_g hM.1 (Or.inl (sB_no e_2 (by omega) q_3)))).2.2.2
  | exact (windM_n (ma := ma) (A := acM fc ma) (windM_g hM.1 (Or.inr q_6))).1
  | exact (windM_n (ma := ma) (A := acM fc ma) (windM_g hM.1 (Or.inr q_6))).2.1
  | exact (windM_n (ma := ma) (A := acM fc ma) (windM_g hM.1 (Or.inr q_6))).2.2.1
  | exact (windM_n (ma := ma) (A := acM fc ma) (windM_g hM.1 (Or.inr q_6))).2.2.2
  | exact (windM_d hM.1 hw6 hj_3 q_6 (by assumption) (by assumption) (by assumption) (by assumption)).1
  | exact (windM_d hM.1 hw6 hj_3 q_6 (by assumption) (by assumption) (by assumption) (by assumption)).2.1
  | exact (windM_d hM.1 hw6 hj_3 q_6 (by assumption) (by assumption) (by assumption) (by assumption)).2.2.1
  | exact (windM_d hM.1 hw6 hj_3 q_6 (by assumption) (by assumption) (by assumption) (by assumption)).2.2.2
set_option maxHeartbeats 4000000 in
set_option maxRecDepth 100000 in
theorem r_X8_wind (l : Launch) (dC : Nat → ClassId) (dI : Nat → Nat → Nat) (cI cZ cL cJ : ClassId) (sz : Nat) (mo : Nat) (m_la : Nat) (m_sz : Nat) (m_it : Nat) (m_st : Nat) (m_mv : Nat) (m_tp : Nat) (m_rd : Nat) (m_ac : Nat) (m_as : Nat) (m_wo : Nat) (m_ik : Nat) (m_ke : Nat) (m_tr : Nat) (ms : Int32) (mt : Int32) (ml : Int32) (mk : Int32) (mv : Int32) (mb : Int32) (mw : Int32) (mz : Nat) (mp : Nat) (ma : Nat) (mx : Nat) (fs : Nat → Int32) (w9 : Nat) (k9 : Nat) (h9 : Nat) (fc : Nat → Int32) (a0 : Int32) (a1 : Int32) (hM : okM fs w9 k9 h9) (hT : ¬ mt = 0 → 1 ≤ k9) (h999 : h9 ≤ 999) (hT0 : mt = 0 → fs 0 = 0 ∧ ma = 0) (hac : okA fc ma) (hma : ma ≤ 24) : Met l yX8_wind wsX8_wind ({ frames := 1, cells := 0, slots := 0, locals := 25 }) (va_Pc [.ref mo, .int a0, .int a1] (fun U => U.heap.size = sz ∧ va_P (dC, dI) vwCl [(xo_8_rrriirrriiiiiiirrirrrrri mo m_la m_sz m_it ms mt m_st m_mv m_tp (nI mz) ml (nI mp) mk mv mb mw m_rd m_ac (nI ma) m_as m_wo m_ik m_ke m_tr (nI mx)), (xI m_st cI 38 fs), (xI m_ac cI 912 fc)] U.heap ∧ va_K (dC, dI) vwCl [(cI, .int), (cZ, .boolean), (cL, .object RX3), (cJ, .array .int)] U ∧ va_D (fun _ => True) [(xo_8_rrriirrriiiiiiirrirrrrri mo m_la m_sz m_it ms mt m_st m_mv m_tp (nI mz) ml (nI mp) mk mv mb mw m_rd m_ac (nI ma) m_as m_wo m_ik m_ke m_tr (nI mx)), (xI m_st cI 38 fs), (xI m_ac cI 912 fc)])) (va_Qi (fun r (_ : Unit) => r = (a_wind (m38 fs) a0 a1)) (fun (_ : Unit) t => ∃ (fsn : Nat → Int32) (fcn : Nat → Int32) (man : Nat) (w9n : Nat) (k9n : Nat) (h9n : Nat), va_P (dC, dI) vwCl [(xo_8_rrriirrriiiiiiirrirrrrri mo m_la m_sz m_it ms mt m_st m_mv m_tp (nI mz) ml (nI mp) mk mv mb mw m_rd m_ac (nI man) m_as m_wo m_ik m_ke m_tr (nI mx)), (xI m_st cI 38 fsn), (xI m_ac cI 912 fcn)] t.heap ∧ va_D (va_A [(xo_8_rrriirrriiiiiiirrirrrrri mo m_la m_sz m_it ms mt m_st m_mv m_tp (nI mz) ml (nI mp) mk mv mb mw m_rd m_ac (nI ma) m_as m_wo m_ik m_ke m_tr (nI mx)), (xI m_st cI 38 fs), (xI m_ac cI 912 fc)] sz) [(xo_8_rrriirrriiiiiiirrirrrrri mo m_la m_sz m_it ms mt m_st m_mv m_tp (nI mz) ml (nI mp) mk mv mb mw m_rd m_ac (nI man) m_as m_wo m_ik m_ke m_tr (nI mx)), (xI m_st cI 38 fsn), (xI m_ac cI 912 fcn)] ∧ okM fsn w9n k9n h9n ∧ (¬ mt = 0 → 1 ≤ k9n) ∧ h9n ≤ 999 ∧ okA fcn man ∧ man ≤ 24 ∧ (mt = 0 → fsn 0 = 0 ∧ man = 0) ∧ m38 fsn = n_wind (m38 fs) a0 a1 ∧ man = kpN (gd_wind (m38 fs) a0 a1) ma ∧ acM fcn man = kpA (gd_wind (m38 fs) a0 a1) (m38 fs) ma (acM fc ma)) (va_A [(xo_8_rrriirrriiiiiiirrirrrrri mo m_la m_sz m_it ms mt m_st m_mv m_tp (nI mz) ml (nI mp) mk mv mb mw m_rd m_ac (nI ma) m_as m_wo m_ik m_ke m_tr (nI mx)), (xI m_st cI 38 fs), (xI m_ac cI 912 fc)] sz)) 0 0 (va_A [(xo_8_rrriirrriiiiiiirrirrrrri mo m_la m_sz m_it ms mt m_st m_mv m_tp (nI mz) ml (nI mp) mk mv mb mw m_rd m_ac (nI ma) m_as m_wo m_ik m_ke m_tr (nI mx)), (xI m_st cI 38 fs), (xI m_ac cI 912 fc)] sz) := by
  refine Met.ofW (cc := cX8_wind) (maxL := 4) (ret := (some .int)) (by decide) rfl ?_
  intro p e s m args below meth c s₁ B hml hv
  obtain ⟨rfl, hsz, hP, hK, hD0⟩ := hv
  have hx := B.exec
  have hb := B.bytes
  have hr := B.returns
  have hts := atoms_spec (ws := wsX8_wind) B.pre
  have hown : s.vm.findClass RX8 = some m.cls := findClass_of_methodNamed B.named
  have hlocks := B.notSynchronized
  subst hsz
  have hD := hD0.self (sz := s.heap.size)
  generalize hAe : va_A [(xo_8_rrriirrriiiiiiirrirrrrri mo m_la m_sz m_it ms mt m_st m_mv m_tp (nI mz) ml (nI mp) mk mv mb mw m_rd m_ac (nI ma) m_as m_wo m_ik m_ke m_tr (nI mx)), (xI m_st cI 38 fs), (xI m_ac cI 912 fc)] s.heap.size = A at hD ⊢
  have hA : ∀ q : Nat, s.heap.size ≤ q → A q := fun q h => by rw [← hAe]; exact Or.inr h
  have hS : va_S A s.heap s.heap [] := va_S.rf
  have hP : va_P (dC, dI) vwCl [(xo_8_rrriirrriiiiiiirrirrrrri mo m_la m_sz m_it ms mt m_st m_mv m_tp (nI mz) ml (nI mp) mk mv mb mw m_rd m_ac (nI ma) m_as m_wo m_ik m_ke m_tr (nI mx)), (xI m_st cI 38 fs), (xI m_ac cI 912 fc)] s.heap := hP
  have hl := lv_entry ([.ref mo, .int a0, .int a1]) (n := 4) (Nat.le_of_ble_eq_true rfl)
  rw [lg_entry_eq]
  generalize (lg_sl ([.ref mo, .int a0, .int a1]) ++ List.replicate (4 - (lg_sl ([.ref mo, .int a0, .int a1])).length) Slot.unset).toArray = ls at hl ⊢
  have hl : lv_has ls 4 [(0, .ref mo), (1, .int a0), (2, .int a1)] := hl
  have hk6 := hM.2.2.2.2.1
  have hw6 := hM.2.2.2.1
  refine lv_iload_n hx hb dX8_wind_0 rfl (lv_at hl 1 rfl) ?_
  refine lv_i2l hx hb dX8_wind_1 rfl ?_
  refine lv_lconst (v := 0) hx hb dX8_wind_2 (by decide) ?_
  refine lv_aload_n hx hb dX8_wind_3 rfl (lv_at hl 0 rfl) ?_
  refine va_get (D := (dC, dI)) (ci := 8) (v := .ref m_st) (C := RX8) (T := TX8) (N := 24) hx hb hts i_X8_wind_X8 hown hK hP 0 rfl rfl 5 (by decide) (hts _ mx_X8_wind_1) (fun _ h9 => h9) rfl dX8_wind_4 ?_
  refine lv_iconst (v := 3) hx hb dX8_wind_7 (by decide) ?_
  refine va_iald hx hb hK hP 1 0 rfl rfl (by unfold vp_in; decide) dX8_wind_8 ?_
  refine lv_topi (fun v_1 e_1 => ?_)
  obtain rfl : v_1 = (nI w9) := (e_1).trans hM.1
  refine lv_iconst (v := 1) hx hb dX8_wind_9 (by decide) ?_
  refine lv_isub hx hb dX8_wind_10 ?_
  refine lv_topi (fun v_2 e_2 => ?_)
  refine lv_i2l hx hb dX8_wind_11 rfl ?_
  have hPc_3 := hP.sub (ws' := []) [] rfl
  refine vp_callSi (W.runS (As := [.long (a0).toInt64, .long 0, .long (v_2).toInt64]) (rest := []) ⟨hx, hb, hml, hown, hts⟩ (r_X8_in l dC dI cI cZ cL cJ ((a0).toInt64) 0 ((v_2).toInt64) ) (va_cwS 3 hts gX8_wind_X8_in rfl rfl rfl (by decide +kernel) ⟨Nat.le_of_ble_eq_true rfl, Nat.le_of_ble_eq_true rfl⟩) (psP hK hPc_3) rfl rfl hl.1 rfl (lv_room (Nat.le_of_ble_eq_true rfl)) dX8_wind_12 ⟨Nat.le_of_ble_eq_true rfl, Nat.le_of_ble_eq_true rfl⟩) (fun r_3 h_3 => ?_)
  rcases h_3 with ⟨h_3, f_3_0_0⟩ | ⟨h_3, f_3_1_0⟩
  · subst h_3
    have q_3 : (a0 < 0 ∨ v_2 < a0) := (in32 (x := a0) (l := 0) (u := v_2) (by decide) rfl).mp f_3_0_0
    refine lv_if_eq (tgt := 30) hx hb dX8_wind_15 (by decide) (fun _ => ?_) (fun c_ => absurd (by decide) c_)
    refine lv_ldc (own := RX8) (v := (-1000001)) hx hb hown (hts _ mx_X8_wind_3) dX8_wind_30 ?_
    have hX9 := cut2 (wc := [(xo_8_rrriirrriiiiiiirrirrrrri mo m_la m_sz m_it ms mt m_st m_mv m_tp (nI mz) ml (nI mp) mk mv mb mw m_rd m_ac (nI ma) m_as m_wo m_ik m_ke m_tr (nI mx)), (xI m_st cI 38 fs), (xI m_ac cI 912 fc)]) hP hD [0, 1, 2] (by decide +kernel) rfl
    exact W.iret (v := (-1000001)) hx hb hr (fun t ht hW => ⟨⟨(-1000001), (), rfl, (lf_X8_wind_5 hM hT h999 hT0 hac hma e_2 f_3_0_0 q_3), ⟨fs, fc, ma, w9, k9, h9, va_Ht ht hX9.1, hX9.2, hM, hT, (by omega), hac, (by omega), (lf_X8_wind_1 hM hT h999 hT0 hac hma e_2 f_3_0_0 q_3), (lf_X8_wind_2 hM hT h999 hT0 hac hma e_2 f_3_0_0 q_3), (lf_X8_wind_3 hM hT h999 hT0 hac hma e_2 f_3_0_0 q_3), (lf_X8_wind_4 hM hT h999 hT0 hac hma e_2 f_3_0_0 q_3)⟩⟩, hS.F ht⟩) hS.2.2 dX8_wind_32
  · subst h_3
    have q_3 : ¬ (a0 < 0 ∨ v_2 < a0) := fun q_ => f_3_1_0 ((in32 (x := a0) (l := 0) (u := v_2) (by decide) rfl).mpr q_)
    obtain ⟨j_3, hj_3, rfl⟩ := vp_in_of (snd_in (k := w9) (by omega) e_2 f_3_1_0) (by omega)
    have hw1 : 1 ≤ w9 := by omega
    have hkn1 := hM.2.2.2.2.2.1.mpr hw1
    have h01 : ¬ fs 0 = 0 := cell_nz hM hkn1
    refine lv_if_eq (tgt := 30) hx hb dX8_wind_15 (by decide) (fun c_ => absurd c_ (by decide)) (fun _ => ?_)
    refine lv_iload_n hx hb dX8_wind_18 rfl (lv_at hl 2 rfl) ?_
    refine lv_i2l hx hb dX8_wind_19 rfl ?_
    refine lv_lconst (v := 0) hx hb dX8_wind_20 (by decide) ?_
    refine lv_ldc2 (own := RX8) (v := 4) hx hb hown (hts _ mx_X8_wind_2) dX8_wind_21 ?_
    have hPc_6 := hP.sub (ws' := []) [] rfl
    refine vp_callSi (W.runS (As := [.long (a1).toInt64, .long 0, .long 4]) (rest := []) ⟨hx, hb, hml, hown, hts⟩ (r_X8_in l dC dI cI cZ cL cJ ((a1).toInt64) 0 4 ) (va_cwS 3 hts gX8_wind_X8_in rfl rfl rfl (by decide +kernel) ⟨Nat.le_of_ble_eq_true rfl, Nat.le_of_ble_eq_true rfl⟩) (psP hK hPc_6) rfl rfl hl.1 rfl (lv_room (Nat.le_of_ble_eq_true rfl)) dX8_wind_24 ⟨Nat.le_of_ble_eq_true rfl, Nat.le_of_ble_eq_true rfl⟩) (fun r_6 h_6 => ?_)
    rcases h_6 with ⟨h_6, f_6_0_0⟩ | ⟨h_6, f_6_1_0⟩
    · subst h_6
      have q_6 : (a1 < 0 ∨ 4 < a1) := (in32 (x := a1) (l := 0) (u := 4) (by decide) (by decide)).mp f_6_0_0
      refine lv_if_ne (tgt := 33) hx hb dX8_wind_27 (by decide) (fun c_ => absurd (by decide) c_) (fun _ => ?_)
      refine lv_ldc (own := RX8) (v := (-1000001)) hx hb hown (hts _ mx_X8_wind_3) dX8_wind_30 ?_
      have hX9 := cut2 (wc := [(xo_8_rrriirrriiiiiiirrirrrrri mo m_la m_sz m_it ms mt m_st m_mv m_tp (nI mz) ml (nI mp) mk mv mb mw m_rd m_ac (nI ma) m_as m_wo m_ik m_ke m_tr (nI mx)), (xI m_st cI 38 fs), (xI m_ac cI 912 fc)]) hP hD [0, 1, 2] (by decide +kernel) rfl
      exact W.iret (v := (-1000001)) hx hb hr (fun t ht hW => ⟨⟨(-1000001), (), rfl, (lf_X8_wind_10 hM hT h999 hT0 hac hma e_2 f_3_1_0 q_3 hj_3 hkn1 hw1 h01 f_6_0_0 q_6), ⟨fs, fc, ma, w9, k9, h9, va_Ht ht hX9.1, hX9.2, hM, hT, (by omega), hac, (by omega), (lf_X8_wind_6 hM hT h999 hT0 hac hma e_2 f_3_1_0 q_3 hj_3 hkn1 hw1 h01 f_6_0_0 q_6), (lf_X8_wind_7 hM hT h999 hT0 hac hma e_2 f_3_1_0 q_3 hj_3 hkn1 hw1 h01 f_6_0_0 q_6), (lf_X8_wind_8 hM hT h999 hT0 hac hma e_2 f_3_1_0 q_3 hj_3 hkn1 hw1 h01 f_6_0_0 q_6), (lf_X8_wind_9 hM hT h999 hT0 hac hma e_2 f_3_1_0 q_3 hj_3 hkn1 hw1 h01 f_6_0_0 q_6)⟩⟩, hS.F ht⟩) hS.2.2 dX8_wind_32
    · subst h_6
      have q_6 : ¬ (a1 < 0 ∨ 4 < a1) := fun q_ => f_6_1_0 ((in32 (x := a1) (l := 0) (u := 4) (by decide) (by decide)).mpr q_)
      obtain ⟨j_6, hj_6, hl_6, rfl⟩ := in64 (lo := 0) (n := 4) rfl rfl (by decide) f_6_1_0
      refine lv_if_ne (tgt := 33) hx hb dX8_wind_27 (by decide) (fun _ => ?_) (fun c_ => absurd c_ (by decide))
      refine lv_aload_n hx hb dX8_wind_33 rfl (lv_at hl 0 rfl) ?_
      have hc_9 := cutW (wc := [(xo_8_rrriirrriiiiiiirrirrrrri mo m_la m_sz m_it ms mt m_st m_mv m_tp (nI mz) ml (nI mp) mk mv mb mw m_rd m_ac (nI ma) m_as m_wo m_ik m_ke m_tr (nI mx)), (xI m_st cI 38 fs), (xI m_ac cI 912 fc)]) hP hD hS hA [0, 1, 2] (by decide +kernel) rfl
      refine va_callv (va_runV (As := []) (rest := []) ⟨hx, hb, hml, hown, hts⟩ (r_X8_note l dC dI cI cZ cL cJ s.heap.size mo m_la m_sz m_it m_st m_mv m_tp m_rd m_ac m_as m_wo m_ik m_ke m_tr ms mt ml mk mv mb mw mz mp ma mx fs fc (hac) (by omega) (⟨w9, k9, h9, hM, hkn1, by omega⟩)) (cwV 0 hts gX8_wind_X8_note rfl rfl rfl (by decide +kernel) ⟨Nat.le_of_ble_eq_true rfl, Nat.le_of_ble_eq_true rfl⟩) (pvW 8 0 hK hP rfl rfl hc_9) rfl rfl hl.1 rfl (lv_room (Nat.le_of_ble_eq_true rfl)) dX8_wind_34 ⟨Nat.le_of_ble_eq_true rfl, Nat.le_of_ble_eq_true rfl⟩) hS (fun q _ h => hc_9.2.2 q h) hc_9.2.2 (fun u_9 t_9 H1 locs ht hvm h_9 hB hz1 hk1 hS => ?_)
      refine xl_2_7 hB (fun fcn_9 man_9 hP1 hD1 hF_9_0 hF_9_1 hF_9_2 hF_9_3 hF_9_4 => ?_)
      clear hB
      rw [ht] at hP1
      obtain ⟨hP, hD⟩ := va_join (wr := []) (w1 := [(xo_8_rrriirrriiiiiiirrirrrrri mo m_la m_sz m_it ms mt m_st m_mv m_tp (nI mz) ml (nI mp) mk mv mb mw m_rd m_ac (nI man_9) m_as m_wo m_ik m_ke m_tr (nI mx)), (xI m_st cI 38 fs), (xI m_ac cI 912 fcn_9)]) hP hD [0, 1, 2] [] rfl rfl (by decide +kernel) (by decide +kernel) hk1 hc_9.2.2 hP1 hD1
      generalize H1 = H at hP hS ⊢
      have hP : va_P (dC, dI) vwCl [(xo_8_rrriirrriiiiiiirrirrrrri mo m_la m_sz m_it ms mt m_st m_mv m_tp (nI mz) ml (nI mp) mk mv mb mw m_rd m_ac (nI man_9) m_as m_wo m_ik m_ke m_tr (nI mx)), (xI m_st cI 38 fs), (xI m_ac cI 912 fcn_9)] H := hP
      have hD := dto hP hD
      refine lv_aload_n hx hb dX8_wind_37 rfl (lv_at hl 0 rfl) ?_
      refine va_get (D := (dC, dI)) (ci := 8) (v := .ref m_st) (C := RX8) (T := TX8) (N := 24) hx hb hts i_X8_wind_X8 hown hK hP 0 rfl rfl 5 (by decide) (hts _ mx_X8_wind_1) (fun _ h9 => h9) rfl dX8_wind_38 ?_
      refine lv_bipush (v := 8) hx hb dX8_wind_41 (by decide) ?_
      refine lv_iload_n hx hb dX8_wind_43 rfl (lv_at hl 1 rfl) ?_
      refine lv_iadd hx hb dX8_wind_44 ?_
      refine lv_topi (fun v_10 e_10 => ?_)
      obtain rfl : v_10 = (nI (8 + j_3)) := (e_10).trans (nI_add 8 j_3)
      refine va_iald hx hb hK hP 1 0 rfl rfl (vp_in_nI (by omega) (by omega)) dX8_wind_45 ?_
      refine lv_topi (fun v_11 e_11 => ?_)
      have e_11 : v_11 = fs (8 + j_3) := e_11.trans (congrArg fs (nI_clamp (by omega)))
      refine lv_istore_n (lv' := [(3, .int v_11), (0, .ref mo), (1, .int (nI j_3)), (2, .int (nI j_6))]) hx hb dX8_wind_46 rfl hl (by decide) rfl (fun ls hl => ?_)
      refine lv_aload_n hx hb dX8_wind_47 rfl (lv_at hl 1 rfl) ?_
      refine va_get (D := (dC, dI)) (ci := 8) (v := .ref m_st) (C := RX8) (T := TX8) (N := 24) hx hb hts i_X8_wind_X8 hown hK hP 0 rfl rfl 5 (by decide) (hts _ mx_X8_wind_1) (fun _ h9 => h9) rfl dX8_wind_48 ?_
      refine lv_bipush (v := 8) hx hb dX8_wind_51 (by decide) ?_
      refine lv_iload_n hx hb dX8_wind_53 rfl (lv_at hl 2 rfl) ?_
      refine lv_iadd hx hb dX8_wind_54 ?_
      refine lv_topi (fun v_12 e_12 => ?_)
      obtain rfl : v_12 = (nI (8 + j_3)) := (e_12).trans (nI_add 8 j_3)
      refine lv_iload_n hx hb dX8_wind_55 rfl (lv_at hl 3 rfl) ?_
      refine va_iast hx hb hK hP hD hS 1 0 rfl rfl (vp_in_nI (by omega) (by omega)) dX8_wind_56 (fun H locs hP hD hS => ?_)
      generalize hg_13 : upd fs ((nI (8 + j_3)) : Int32).toNatClampNeg (nI j_6) = g_13 at hP hD
      have hu_13 : g_13 = upd fs (8 + j_3) (nI j_6) := (by rw [← hg_13, nI_clamp (by omega)])
      have hM_13 : okM g_13 w9 k9 h9 := okM_off (i := (8 + j_3)) hM hg_13 (by omega) (by omega) (by omega) (by omega) (by omega)
      have hP : va_P (dC, dI) vwCl [(xo_8_rrriirrriiiiiiirrirrrrri mo m_la m_sz m_it ms mt m_st m_mv m_tp (nI mz) ml (nI mp) mk mv mb mw m_rd m_ac (nI man_9) m_as m_wo m_ik m_ke m_tr (nI mx)), (xI m_st cI 38 g_13), (xI m_ac cI 912 fcn_9)] H := hP
      have hD := dto hP hD
      refine lv_iload_n hx hb dX8_wind_57 rfl (lv_at hl 0 rfl) ?_
      have hX9 := cut2 (wc := [(xo_8_rrriirrriiiiiiirrirrrrri mo m_la m_sz m_it ms mt m_st m_mv m_tp (nI mz) ml (nI mp) mk mv mb mw m_rd m_ac (nI man_9) m_as m_wo m_ik m_ke m_tr (nI mx)), (xI m_st cI 38 g_13), (xI m_ac cI 912 fcn_9)]) hP hD [0, 1, 2] (by decide +kernel) rfl
      exact W.iret (v := v_11) hx hb hr (fun t ht hW => ⟨⟨v_11, (), rfl, (lf_X8_wind_15 hM hT h999 hT0 hac hma e_2 f_3_1_0 q_3 hj_3 hkn1 hw1 h01 f_6_1_0 q_6 hj_6 hF_9_0 hF_9_1 hF_9_2 hF_9_3 hF_9_4 e_11 hu_13), ⟨g_13, fcn_9, man_9, w9, k9, h9, va_Ht ht hX9.1, hX9.2, hM_13, hT, (by omega), hF_9_0, (by omega), (lf_X8_wind_11 hM hT h999 hT0 hac hma e_2 f_3_1_0 q_3 hj_3 hkn1 hw1 h01 f_6_1_0 q_6 hj_6 hF_9_0 hF_9_1 hF_9_2 hF_9_3 hF_9_4 e_11 hu_13), (lf_X8_wind_12 hM hT h999 hT0 hac hma e_2 f_3_1_0 q_3 hj_3 hkn1 hw1 h01 f_6_1_0 q_6 hj_6 hF_9_0 hF_9_1 hF_9_2 hF_9_3 hF_9_4 e_11 hu_13), (lf_X8_wind_13 hM hT h999 hT0 hac hma e_2 f_3_1_0 q_3 hj_3 hkn1 hw1 h01 f_6_1_0 q_6 hj_6 hF_9_0 hF_9_1 hF_9_2 hF_9_3 hF_9_4 e_11 hu_13), (lf_X8_wind_14 hM hT h999 hT0 hac hma e_2 f_3_1_0 q_3 hj_3 hkn1 hw1 h01 f_6_1_0 q_6 hj_6 hF_9_0 hF_9_1 hF_9_2 hF_9_3 hF_9_4 e_11 hu_13)⟩⟩, hS.F ht⟩) hS.2.2 dX8_wind_58
theorem lf_X8_loose_1 {mt : Int32} {ma : Nat} {fs : Nat → Int32} {w9 : Nat} {k9 : Nat} {h9 : Nat} {fc : Nat → Int32} {a0 : Int32} (hM : okM fs w9 k9 h9) (hT : ¬ mt = 0 → 1 ≤ k9) (h999 : h9 ≤ 999) (hT0 : mt = 0 → fs 0 = 0 ∧ ma = 0) (hac : okA fc ma) (hma : ma ≤ 24) (f_1_0_0 : ¬ sB (nI k9) a0) : (mt = 0 → fs 0 = 0 ∧ ma = 0) := by
  have hw6 := hM.2.2.2.1
  have hk6 := hM.2.2.2.2.1
  first
  | exact hT0
  | (intro h_; exact absurd (hT0 h_).1 h01)
  | (intro h_; have h9 := (hT0 h_).2; omega)
  | exact (looM_n (ma := ma) (A := acM fc ma) (looM_g hM (Or.inl f_1_0_0))).1
  | exact (looM_n (ma := ma) (A := acM fc ma) (looM_g hM (Or.inl f_1_0_0))).2.1
  | exact (looM_n (ma := ma) (A := acM fc ma) (looM_g hM (Or.inl f_1_0_0))).2.2.1
  | exact (looM_n (ma := ma) (A := acM fc ma) (looM_g hM (Or.inl f_1_0_0))).2.2.2
  | exact (looM_n (ma := ma) (A := acM fc ma) (looM_g hM (Or.inr (Or.inl f_5_0_0)))).1
  | exact (looM_n (ma := ma) (A := acM fc ma) (looM_g hM (Or.inr (Or.inl f_5_0_0)))).2.1
  | exact (looM_n (ma := ma) (A := acM fc ma) (looM_g hM (Or.inr (Or.inl f_5_0_0)))).2.2.1
  | exact (looM_n (ma := ma) (A := acM fc ma) (looM_g hM (Or.inr (Or.inl f_5_0_0)))).2.2.2
  | exact (looM_n (ma := ma) (A := acM fc ma) (looM_g hM (Or.inr (Or.inr q_8)))).1
  | exact (looM_n (ma := ma) (A := acM fc ma) (looM_g hM (Or.inr (Or.inr q_8)))).2.1
  | exact (looM_n (ma := ma) (A := acM fc ma) (looM_g hM (Or.inr (Or.inr q_8)))).2.2.1
  | exact (looM_n (ma := ma) (A := acM fc ma) (looM_g hM (Or.inr (Or.inr q_8)))).2.2.2
  | exact (looM_s (ma := ma) (A := acM fc ma) hM hj_1 f_5_1_0 q_8 e_12 c_13).1
  | exact (looM_s (ma := ma) (A := acM fc ma) hM hj_1 f_5_1_0 q_8 e_12 c_13).2.1
  | exact (looM_s (ma := ma) (A := acM fc ma) hM hj_1 f_5_1_0 q_8 e_12 c_13).2.2.1
  | exact (looM_s (ma := ma) (A := acM fc ma) hM hj_1 f_5_1_0 q_8 e_12 c_13).2.2.2
  | exact (looM_d hM hj_1 f_5_1_0 q_8 e_12 c_13 (by assumption) (by assumption) (by assumption) (by assumption) (by assumption)).1
  | exact (looM_d hM hj_1 f_5_1_0 q_8 e_12 c_13 (by assumption) (by assumption) (by assumption) (by assumption) (by assumption)).2.1
  | exact (looM_d hM hj_1 f_5_1_0 q_8 e_12 c_13 (by assumption) (by assumption) (by assumption) (by assumption) (by assumption)).2.2.1
  | exact (looM_d hM hj_1 f_5_1_0 q_8 e_12 c_13 (by assumption) (by assumption) (by assumption) (by assumption) (by assumption)).2.2.2
theorem lf_X8_loose_2 {mt : Int32} {ma : Nat} {fs : Nat → Int32} {w9 : Nat} {k9 : Nat} {h9 : Nat} {fc : Nat → Int32} {a0 : Int32} {a1 : Int32} {a2 : Int32} (hM : okM fs w9 k9 h9) (hT : ¬ mt = 0 → 1 ≤ k9) (h999 : h9 ≤ 999) (hT0 : mt = 0 → fs 0 = 0 ∧ ma = 0) (hac : okA fc ma) (hma : ma ≤ 24) (f_1_0_0 : ¬ sB (nI k9) a0) : m38 fs = n_loose (m38 fs) a0 a1 a2 := by
  have hw6 := hM.2.2.2.1
  have hk6 := hM.2.2.2.2.1
  first
  | exact hT0
  | (intro h_; exact absurd (hT0 h_).1 h01)
  | (intro h_; have h9 := (hT0 h_).2; omega)
  | exact (looM_n (ma := ma) (A := acM fc ma) (looM_g hM (Or.inl f_1_0_0))).1
  | exact (looM_n (ma := ma) (A := acM fc ma) (looM_g hM (Or.inl f_1_0_0))).2.1
  | exact (looM_n (ma := ma) (A := acM fc ma) (looM_g hM (Or.inl f_1_0_0))).2.2.1
  | exact (looM_n (ma := ma) (A := acM fc ma) (looM_g hM (Or.inl f_1_0_0))).2.2.2
  | exact (looM_n (ma := ma) (A := acM fc ma) (looM_g hM (Or.inr (Or.inl f_5_0_0)))).1
  | exact (looM_n (ma := ma) (A := acM fc ma) (looM_g hM (Or.inr (Or.inl f_5_0_0)))).2.1
  | exact (looM_n (ma := ma) (A := acM fc ma) (looM_g hM (Or.inr (Or.inl f_5_0_0)))).2.2.1
  | exact (looM_n (ma := ma) (A := acM fc ma) (looM_g hM (Or.inr (Or.inl f_5_0_0)))).2.2.2
  | exact (looM_n (ma := ma) (A := acM fc ma) (looM_g hM (Or.inr (Or.inr q_8)))).1
  | exact (looM_n (ma := ma) (A := acM fc ma) (looM_g hM (Or.inr (Or.inr q_8)))).2.1
  | exact (looM_n (ma := ma) (A := acM fc ma) (looM_g hM (Or.inr (Or.inr q_8)))).2.2.1
  | exact (looM_n (ma := ma) (A := acM fc ma) (looM_g hM (Or.inr (Or.inr q_8)))).2.2.2
  | exact (looM_s (ma := ma) (A := acM fc ma) hM hj_1 f_5_1_0 q_8 e_12 c_13).1
  | exact (looM_s (ma := ma) (A := acM fc ma) hM hj_1 f_5_1_0 q_8 e_12 c_13).2.1
  | exact (looM_s (ma := ma) (A := acM fc ma) hM hj_1 f_5_1_0 q_8 e_12 c_13).2.2.1
  | exact (looM_s (ma := ma) (A := acM fc ma) hM hj_1 f_5_1_0 q_8 e_12 c_13).2.2.2
  | exact (looM_d hM hj_1 f_5_1_0 q_8 e_12 c_13 (by assumption) (by assumption) (by assumption) (by assumption) (by assumption)).1
  | exact (looM_d hM hj_1 f_5_1_0 q_8 e_12 c_13 (by assumption) (by assumption) (by assumption) (by assumption) (by assumption)).2.1
  | exact (looM_d hM hj_1 f_5_1_0 q_8 e_12 c_13 (by assumption) (by assumption) (by assumption) (by assumption) (by assumption)).2.2.1
  | exact (looM_d hM hj_1 f_5_1_0 q_8 e_12 c_13 (by assumption) (by assumption) (by assumption) (by assumption) (by assumption)).2.2.2
theorem lf_X8_loose_3 {mt : Int32} {ma : Nat} {fs : Nat → Int32} {w9 : Nat} {k9 : Nat} {h9 : Nat} {fc : Nat → Int32} {a0 : Int32} {a1 : Int32} {a2 : Int32} (hM : okM fs w9 k9 h9) (hT : ¬ mt = 0 → 1 ≤ k9) (h999 : h9 ≤ 999) (hT0 : mt = 0 → fs 0 = 0 ∧ ma = 0) (hac : okA fc ma) (hma : ma ≤ 24) (f_1_0_0 : ¬ sB (nI k9) a0) : ma = kpN (gd_loose (m38 fs) a0 a1 a2) ma := by
  have hw6 := hM.2.2.2.1
  have hk6 := hM.2.2.2.2.1
  first
  | exact hT0
  | (intro h_; exact absurd (hT0 h_).1 h01)
  | (intro h_; have h9 := (hT0 h_).2; omega)
  | exact (looM_n (ma := ma) (A := acM fc ma) (looM_g hM (Or.inl f_1_0_0))).1
  | exact (looM_n (ma := ma) (A := acM fc ma) (looM_g hM (Or.inl f_1_0_0))).2.1
  | exact (looM_n (ma := ma) (A := acM fc ma) (looM_g hM (Or.inl f_1_0_0))).2.2.1
  | exact (looM_n (ma := ma) (A := acM fc ma) (looM_g hM (Or.inl f_1_0_0))).2.2.2
  | exact (looM_n (ma := ma) (A := acM fc ma) (looM_g hM (Or.inr (Or.inl f_5_0_0)))).1
  | exact (looM_n (ma := ma) (A := acM fc ma) (looM_g hM (Or.inr (Or.inl f_5_0_0)))).2.1
  | exact (looM_n (ma := ma) (A := acM fc ma) (looM_g hM (Or.inr (Or.inl f_5_0_0)))).2.2.1
  | exact (looM_n (ma := ma) (A := acM fc ma) (looM_g hM (Or.inr (Or.inl f_5_0_0)))).2.2.2
  | exact (looM_n (ma := ma) (A := acM fc ma) (looM_g hM (Or.inr (Or.inr q_8)))).1
  | exact (looM_n (ma := ma) (A := acM fc ma) (looM_g hM (Or.inr (Or.inr q_8)))).2.1
  | exact (looM_n (ma := ma) (A := acM fc ma) (looM_g hM (Or.inr (Or.inr q_8)))).2.2.1
  | exact (looM_n (ma := ma) (A := acM fc ma) (looM_g hM (Or.inr (Or.inr q_8)))).2.2.2
  | exact (looM_s (ma := ma) (A := acM fc ma) hM hj_1 f_5_1_0 q_8 e_12 c_13).1
  | exact (looM_s (ma := ma) (A := acM fc ma) hM hj_1 f_5_1_0 q_8 e_12 c_13).2.1
  | exact (looM_s (ma := ma) (A := acM fc ma) hM hj_1 f_5_1_0 q_8 e_12 c_13).2.2.1
  | exact (looM_s (ma := ma) (A := acM fc ma) hM hj_1 f_5_1_0 q_8 e_12 c_13).2.2.2
  | exact (looM_d hM hj_1 f_5_1_0 q_8 e_12 c_13 (by assumption) (by assumption) (by assumption) (by assumption) (by assumption)).1
  | exact (looM_d hM hj_1 f_5_1_0 q_8 e_12 c_13 (by assumption) (by assumption) (by assumption) (by assumption) (by assumption)).2.1
  | exact (looM_d hM hj_1 f_5_1_0 q_8 e_12 c_13 (by assumption) (by assumption) (by assumption) (by assumption) (by assumption)).2.2.1
  | exact (looM_d hM hj_1 f_5_1_0 q_8 e_12 c_13 (by assumption) (by assumption) (by assumption) (by assumption) (by assumption)).2.2.2
theorem lf_X8_loose_4 {mt : Int32} {ma : Nat} {fs : Nat → Int32} {w9 : Nat} {k9 : Nat} {h9 : Nat} {fc : Nat → Int32} {a0 : Int32} {a1 : Int32} {a2 : Int32} (hM : okM fs w9 k9 h9) (hT : ¬ mt = 0 → 1 ≤ k9) (h999 : h9 ≤ 999) (hT0 : mt = 0 → fs 0 = 0 ∧ ma = 0) (hac : okA fc ma) (hma : ma ≤ 24) (f_1_0_0 : ¬ sB (nI k9) a0) : acM fc ma = kpA (gd_loose (m38 fs) a0 a1 a2) (m38 fs) ma (acM fc ma) := by
  have hw6 := hM.2.2.2.1
  have hk6 := hM.2.2.2.2.1
  first
  | exact hT0
  | (intro h_; exact absurd (hT0 h_).1 h01)
  | (intro h_; have h9 := (hT0 h_).2; omega)
  | exact (looM_n (ma := ma) (A := acM fc ma) (looM_g hM (Or.inl f_1_0_0))).1
  | exact (looM_n (ma := ma) (A := acM fc ma) (looM_g hM (Or.inl f_1_0_0))).2.1
  | exact (looM_n (ma := ma) (A := acM fc ma) (looM_g hM (Or.inl f_1_0_0))).2.2.1
  | exact (looM_n (ma := ma) (A := acM fc ma) (looM_g hM (Or.inl f_1_0_0))).2.2.2
  | exact (looM_n (ma := ma) (A := acM fc ma) (looM_g hM (Or.inr (Or.inl f_5_0_0)))).1
  | exact (looM_n (ma := ma) (A := acM fc ma) (looM_g hM (Or.inr (Or.inl f_5_0_0)))).2.1
  | exact (looM_n (ma := ma) (A := acM fc ma) (looM_g hM (Or.inr (Or.inl f_5_0_0)))).2.2.1
  | exact (looM_n (ma := ma) (A := acM fc ma) (looM_g hM (Or.inr (Or.inl f_5_0_0)))).2.2.2
  | exact (looM_n (ma := ma) (A := acM fc ma) (looM_g hM (Or.inr (Or.inr q_8)))).1
  | exact (looM_n (ma := ma) (A := acM fc ma) (looM_g hM (Or.inr (Or.inr q_8)))).2.1
  | exact (looM_n (ma := ma) (A := acM fc ma) (looM_g hM (Or.inr (Or.inr q_8)))).2.2.1
  | exact (looM_n (ma := ma) (A := acM fc ma) (looM_g hM (Or.inr (Or.inr q_8)))).2.2.2
  | exact (looM_s (ma := ma) (A := acM fc ma) hM hj_1 f_5_1_0 q_8 e_12 c_13).1
  | exact (looM_s (ma := ma) (A := acM fc ma) hM hj_1 f_5_1_0 q_8 e_12 c_13).2.1
  | exact (looM_s (ma := ma) (A := acM fc ma) hM hj_1 f_5_1_0 q_8 e_12 c_13).2.2.1
  | exact (looM_s (ma := ma) (A := acM fc ma) hM hj_1 f_5_1_0 q_8 e_12 c_13).2.2.2
  | exact (looM_d hM hj_1 f_5_1_0 q_8 e_12 c_13 (by assumption) (by assumption) (by assumption) (by assumption) (by assumption)).1
  | exact (looM_d hM hj_1 f_5_1_0 q_8 e_12 c_13 (by assumption) (by assumption) (by assumption) (by assumption) (by assumption)).2.1
  | exact (looM_d hM hj_1 f_5_1_0 q_8 e_12 c_13 (by assumption) (by assumption) (by assumption) (by assumption) (by assumption)).2.2.1
  | exact (looM_d hM hj_1 f_5_1_0 q_8 e_12 c_13 (by assumption) (by assumption) (by assumption) (by assumption) (by assumption)).2.2.2
theorem lf_X8_loose_5 {mt : Int32} {ma : Nat} {fs : Nat → Int32} {w9 : Nat} {k9 : Nat} {h9 : Nat} {fc : Nat → Int32} {a0 : Int32} {a1 : Int32} {a2 : Int32} (hM : okM fs w9 k9 h9) (hT : ¬ mt = 0 → 1 ≤ k9) (h999 : h9 ≤ 999) (hT0 : mt = 0 → fs 0 = 0 ∧ ma = 0) (hac : okA fc ma) (hma : ma ≤ 24) (f_1_0_0 : ¬ sB (nI k9) a0) : (-1000001) = (a_loose (m38 fs) a0 a1 a2) := by
  have hw6 := hM.2.2.2.1
  have hk6 := hM.2.2.2.2.1
  first
  | exact hT0
  | (intro h_; exact absurd (hT0 h_).1 h01)
  | (intro h_; have h9 := (hT0 h_).2; omega)
  | exact (looM_n (ma := ma) (A := acM fc ma) (looM_g hM (Or.inl f_1_0_0))).1
  | exact (looM_n (ma := ma) (A := acM fc ma) (looM_g hM (Or.inl f_1_0_0))).2.1
  | exact (looM_n (ma := ma) (A := acM fc ma) (looM_g hM (Or.inl f_1_0_0))).2.2.1
  | exact (looM_n (ma := ma) (A := acM fc ma) (looM_g hM (Or.inl f_1_0_0))).2.2.2
  | exact (looM_n (ma := ma) (A := acM fc ma) (looM_g hM (Or.inr (Or.inl f_5_0_0)))).1
  | exact (looM_n (ma := ma) (A := acM fc ma) (looM_g hM (Or.inr (Or.inl f_5_0_0)))).2.1
  | exact (looM_n (ma := ma) (A := acM fc ma) (looM_g hM (Or.inr (Or.inl f_5_0_0)))).2.2.1
  | exact (looM_n (ma := ma) (A := acM fc ma) (looM_g hM (Or.inr (Or.inl f_5_0_0)))).2.2.2
  | exact (looM_n (ma := ma) (A := acM fc ma) (looM_g hM (Or.inr (Or.inr q_8)))).1
  | exact (looM_n (ma := ma) (A := acM fc ma) (looM_g hM (Or.inr (Or.inr q_8)))).2.1
  | exact (looM_n (ma := ma) (A := acM fc ma) (looM_g hM (Or.inr (Or.inr q_8)))).2.2.1
  | exact (looM_n (ma := ma) (A := acM fc ma) (looM_g hM (Or.inr (Or.inr q_8)))).2.2.2
  | exact (looM_s (ma := ma) (A := acM fc ma) hM hj_1 f_5_1_0 q_8 e_12 c_13).1
  | exact (looM_s (ma := ma) (A := acM fc ma) hM hj_1 f_5_1_0 q_8 e_12 c_13).2.1
  | exact (looM_s (ma := ma) (A := acM fc ma) hM hj_1 f_5_1_0 q_8 e_12 c_13).2.2.1
  | exact (looM_s (ma := ma) (A := acM fc ma) hM hj_1 f_5_1_0 q_8 e_12 c_13).2.2.2
  | exact (looM_d hM hj_1 f_5_1_0 q_8 e_12 c_13 (by assumption) (by assumption) (by assumption) (by assumption) (by assumption)).1
  | exact (looM_d hM hj_1 f_5_1_0 q_8 e_12 c_13 (by assumption) (by assumption) (by assumption) (by assumption) (by assumption)).2.1
  | exact (looM_d hM hj_1 f_5_1_0 q_8 e_12 c_13 (by assumption) (by assumption) (by assumption) (by assumption) (by assumption)).2.2.1
  | exact (looM_d hM hj_1 f_5_1_0 q_8 e_12 c_13 (by assumption) (by assumption) (by assumption) (by assumption) (by assumption)).2.2.2
theorem lf_X8_loose_6 {mt : Int32} {ma : Nat} {fs : Nat → Int32} {w9 : Nat} {k9 : Nat} {h9 : Nat} {fc : Nat → Int32} {a1 : Int32} {j_1 : Nat} (hM : okM fs w9 k9 h9) (hT : ¬ mt = 0 → 1 ≤ k9) (h999 : h9 ≤ 999) (hT0 : mt = 0 → fs 0 = 0 ∧ ma = 0) (hac : okA fc ma) (hma : ma ≤ 24) (hj_1 : j_1 < k9) (hkn1 : 1 ≤ k9) (hw1 : 1 ≤ w9) (h01 : ¬ fs 0 = 0) (f_5_0_0 : ¬ iC (fs 0) a1) : (mt = 0 → fs 0 = 0 ∧ ma = 0) := by
  have hw6 := hM.2.2.2.1
  have hk6 := hM.2.2.2.2.1
  first
  | exact hT0
  | (intro h_; exact absurd (hT0 h_).1 h01)
  | (intro h_; have h9 := (hT0 h_).2; omega)
  | exact (looM_n (ma := ma) (A := acM fc ma) (looM_g hM (Or.inl f_1_0_0))).1
  | exact (looM_n (ma := ma) (A := acM fc ma) (looM_g hM (Or.inl f_1_0_0))).2.1
  | exact (looM_n (ma := ma) (A := acM fc ma) (looM_g hM (Or.inl f_1_0_0))).2.2.1
  | exact (looM_n (ma := ma) (A := acM fc ma) (looM_g hM (Or.inl f_1_0_0))).2.2.2
  | exact (looM_n (ma := ma) (A := acM fc ma) (looM_g hM (Or.inr (Or.inl f_5_0_0)))).1
  | exact (looM_n (ma := ma) (A := acM fc ma) (looM_g hM (Or.inr (Or.inl f_5_0_0)))).2.1
  | exact (looM_n (ma := ma) (A := acM fc ma) (looM_g hM (Or.inr (Or.inl f_5_0_0)))).2.2.1
  | exact (looM_n (ma := ma) (A := acM fc ma) (looM_g hM (Or.inr (Or.inl f_5_0_0)))).2.2.2
  | exact (looM_n (ma := ma) (A := acM fc ma) (looM_g hM (Or.inr (Or.inr q_8)))).1
  | exact (looM_n (ma := ma) (A := acM fc ma) (looM_g hM (Or.inr (Or.inr q_8)))).2.1
  | exact (looM_n (ma := ma) (A := acM fc ma) (looM_g hM (Or.inr (Or.inr q_8)))).2.2.1
  | exact (looM_n (ma := ma) (A := acM fc ma) (looM_g hM (Or.inr (Or.inr q_8)))).2.2.2
  | exact (looM_s (ma := ma) (A := acM fc ma) hM hj_1 f_5_1_0 q_8 e_12 c_13).1
  | exact (looM_s (ma := ma) (A := acM fc ma) hM hj_1 f_5_1_0 q_8 e_12 c_13).2.1
  | exact (looM_s (ma := ma) (A := acM fc ma) hM hj_1 f_5_1_0 q_8 e_12 c_13).2.2.1
  | exact (looM_s (ma := ma) (A := acM fc ma) hM hj_1 f_5_1_0 q_8 e_12 c_13).2.2.2
  | exact (looM_d hM hj_1 f_5_1_0 q_8 e_12 c_13 (by assumption) (by assumption) (by assumption) (by assumption) (by assumption)).1
  | exact (looM_d hM hj_1 f_5_1_0 q_8 e_12 c_13 (by assumption) (by assumption) (by assumption) (by assumption) (by assumption)).2.1
  | exact (looM_d hM hj_1 f_5_1_0 q_8 e_12 c_13 (by assumption) (by assumption) (by assumption) (by assumption) (by assumption)).2.2.1
  | exact (looM_d hM hj_1 f_5_1_0 q_8 e_12 c_13 (by assumption) (by assumption) (by assumption) (by assumption) (by assumption)).2.2.2
theorem lf_X8_loose_7 {mt : Int32} {ma : Nat} {fs : Nat → Int32} {w9 : Nat} {k9 : Nat} {h9 : Nat} {fc : Nat → Int32} {a1 : Int32} {a2 : Int32} {j_1 : Nat} (hM : okM fs w9 k9 h9) (hT : ¬ mt = 0 → 1 ≤ k9) (h999 : h9 ≤ 999) (hT0 : mt = 0 → fs 0 = 0 ∧ ma = 0) (hac : okA fc ma) (hma : ma ≤ 24) (hj_1 : j_1 < k9) (hkn1 : 1 ≤ k9) (hw1 : 1 ≤ w9) (h01 : ¬ fs 0 = 0) (f_5_0_0 : ¬ iC (fs 0) a1) : m38 fs = n_loose (m38 fs) (nI j_1) a1 a2 := by
  have hw6 := hM.2.2.2.1
  have hk6 := hM.2.2.2.2.1
  first
  | exact hT0
  | (intro h_; exact absurd (hT0 h_).1 h01)
  | (intro h_; have h9 := (hT0 h_).2; omega)
  | exact (looM_n (ma := ma) (A := acM fc ma) (looM_g hM (Or.inl f_1_0_0))).1
  | exact (looM_n (ma := ma) (A := acM fc ma) (looM_g hM (Or.inl f_1_0_0))).2.1
  | exact (looM_n (ma := ma) (A := acM fc ma) (looM_g hM (Or.inl f_1_0_0))).2.2.1
  | exact (looM_n (ma := ma) (A := acM fc ma) (looM_g hM (Or.inl f_1_0_0))).2.2.2
  | exact (looM_n (ma := ma) (A := acM fc ma) (looM_g hM (Or.inr (Or.inl f_5_0_0)))).1
  | exact (looM_n (ma := ma) (A := acM fc ma) (looM_g hM (Or.inr (Or.inl f_5_0_0)))).2.1
  | exact (looM_n (ma := ma) (A := acM fc ma) (looM_g hM (Or.inr (Or.inl f_5_0_0)))).2.2.1
  | exact (looM_n (ma := ma) (A := acM fc ma) (looM_g hM (Or.inr (Or.inl f_5_0_0)))).2.2.2
  | exact (looM_n (ma := ma) (A := acM fc ma) (looM_g hM (Or.inr (Or.inr q_8)))).1
  | exact (looM_n (ma := ma) (A := acM fc ma) (looM_g hM (Or.inr (Or.inr q_8)))).2.1
  | exact (looM_n (ma := ma) (A := acM fc ma) (looM_g hM (Or.inr (Or.inr q_8)))).2.2.1
  | exact (looM_n (ma := ma) (A := acM fc ma) (looM_g hM (Or.inr (Or.inr q_8)))).2.2.2
  | exact (looM_s (ma := ma) (A := acM fc ma) hM hj_1 f_5_1_0 q_8 e_12 c_13).1
  | exact (looM_s (ma := ma) (A := acM fc ma) hM hj_1 f_5_1_0 q_8 e_12 c_13).2.1
  | exact (looM_s (ma := ma) (A := acM fc ma) hM hj_1 f_5_1_0 q_8 e_12 c_13).2.2.1
  | exact (looM_s (ma := ma) (A := acM fc ma) hM hj_1 f_5_1_0 q_8 e_12 c_13).2.2.2
  | exact (looM_d hM hj_1 f_5_1_0 q_8 e_12 c_13 (by assumption) (by assumption) (by assumption) (by assumption) (by assumption)).1
  | exact (looM_d hM hj_1 f_5_1_0 q_8 e_12 c_13 (by assumption) (by assumption) (by assumption) (by assumption) (by assumption)).2.1
  | exact (looM_d hM hj_1 f_5_1_0 q_8 e_12 c_13 (by assumption) (by assumption) (by assumption) (by assumption) (by assumption)).2.2.1
  | exact (looM_d hM hj_1 f_5_1_0 q_8 e_12 c_13 (by assumption) (by assumption) (by assumption) (by assumption) (by assumption)).2.2.2
theorem lf_X8_loose_8 {mt : Int32} {ma : Nat} {fs : Nat → Int32} {w9 : Nat} {k9 : Nat} {h9 : Nat} {fc : Nat → Int32} {a1 : Int32} {a2 : Int32} {j_1 : Nat} (hM : okM fs w9 k9 h9) (hT : ¬ mt = 0 → 1 ≤ k9) (h999 : h9 ≤ 999) (hT0 : mt = 0 → fs 0 = 0 ∧ ma = 0) (hac : okA fc ma) (hma : ma ≤ 24) (hj_1 : j_1 < k9) (hkn1 : 1 ≤ k9) (hw1 : 1 ≤ w9) (h01 : ¬ fs 0 = 0) (f_5_0_0 : ¬ iC (fs 0) a1) : ma = kpN (gd_loose (m38 fs) (nI j_1) a1 a2) ma := by
  have hw6 := hM.2.2.2.1
  have hk6 := hM.2.2.2.2.1
  first
  | exact hT0
  | (intro h_; exact absurd (hT0 h_).1 h01)
  | (intro h_; have h9 := (hT0 h_).2; omega)
  | exact (looM_n (ma := ma) (A := acM fc ma) (looM_g hM (Or.inl f_1_0_0))).1
  | exact (looM_n (ma := ma) (A := acM fc ma) (looM_g hM (Or.inl f_1_0_0))).2.1
  | exact (looM_n (ma := ma) (A := acM fc ma) (looM_g hM (Or.inl f_1_0_0))).2.2.1
  | exact (looM_n (ma := ma) (A := acM fc ma) (looM_g hM (Or.inl f_1_0_0))).2.2.2
  | exact (looM_n (ma := ma) (A := acM fc ma) (looM_g hM (Or.inr (Or.inl f_5_0_0)))).1
  | exact (looM_n (ma := ma) (A := acM fc ma) (looM_g hM (Or.inr (Or.inl f_5_0_0)))).2.1
  | exact (looM_n (ma := ma) (A := acM fc ma) (looM_g hM (Or.inr (Or.inl f_5_0_0)))).2.2.1
  | exact (looM_n (ma := ma) (A := acM fc ma) (looM_g hM (Or.inr (Or.inl f_5_0_0)))).2.2.2
  | exact (looM_n (ma := ma) (A := acM fc ma) (looM_g hM (Or.inr (Or.inr q_8)))).1
  | exact (looM_n (ma := ma) (A := acM fc ma) (looM_g hM (Or.inr (Or.inr q_8)))).2.1
  | exact (looM_n (ma := ma) (A := acM fc ma) (looM_g hM (Or.inr (Or.inr q_8)))).2.2.1
  | exact (looM_n (ma := ma) (A := acM fc ma) (looM_g hM (Or.inr (Or.inr q_8)))).2.2.2
  | exact (looM_s (ma := ma) (A := acM fc ma) hM hj_1 f_5_1_0 q_8 e_12 c_13).1
  | exact (looM_s (ma := ma) (A := acM fc ma) hM hj_1 f_5_1_0 q_8 e_12 c_13).2.1
  | exact (looM_s (ma := ma) (A := acM fc ma) hM hj_1 f_5_1_0 q_8 e_12 c_13).2.2.1
  | exact (looM_s (ma := ma) (A := acM fc ma) hM hj_1 f_5_1_0 q_8 e_12 c_13).2.2.2
  | exact (looM_d hM hj_1 f_5_1_0 q_8 e_12 c_13 (by assumption) (by assumption) (by assumption) (by assumption) (by assumption)).1
  | exact (looM_d hM hj_1 f_5_1_0 q_8 e_12 c_13 (by assumption) (by assumption) (by assumption) (by assumption) (by assumption)).2.1
  | exact (looM_d hM hj_1 f_5_1_0 q_8 e_12 c_13 (by assumption) (by assumption) (by assumption) (by assumption) (by assumption)).2.2.1
  | exact (looM_d hM hj_1 f_5_1_0 q_8 e_12 c_13 (by assumption) (by assumption) (by assumption) (by assumption) (by assumption)).2.2.2
theorem lf_X8_loose_9 {mt : Int32} {ma : Nat} {fs : Nat → Int32} {w9 : Nat} {k9 : Nat} {h9 : Nat} {fc : Nat → Int32} {a1 : Int32} {a2 : Int32} {j_1 : Nat} (hM : okM fs w9 k9 h9) (hT : ¬ mt = 0 → 1 ≤ k9) (h999 : h9 ≤ 999) (hT0 : mt = 0 → fs 0 = 0 ∧ ma = 0) (hac : okA fc ma) (hma : ma ≤ 24) (hj_1 : j_1 < k9) (hkn1 : 1 ≤ k9) (hw1 : 1 ≤ w9) (h01 : ¬ fs 0 = 0) (f_5_0_0 : ¬ iC (fs 0) a1) : acM fc ma = kpA (gd_loose (m38 fs) (nI j_1) a1 a2) (m38 fs) ma (acM fc ma) := by
  have hw6 := hM.2.2.2.1
  have hk6 := hM.2.2.2.2.1
  first
  | exact hT0
  | (intro h_; exact absurd (hT0 h_).1 h01)
  | (intro h_; have h9 := (hT0 h_).2; omega)
  | exact (looM_n (ma := ma) (A := acM fc ma) (looM_g hM (Or.inl f_1_0_0))).1
  | exact (looM_n (ma := ma) (A := acM fc ma) (looM_g hM (Or.inl f_1_0_0))).2.1
  | exact (looM_n (ma := ma) (A := acM fc ma) (looM_g hM (Or.inl f_1_0_0))).2.2.1
  | exact (looM_n (ma := ma) (A := acM fc ma) (looM_g hM (Or.inl f_1_0_0))).2.2.2
  | exact (looM_n (ma := ma) (A := acM fc ma) (looM_g hM (Or.inr (Or.inl f_5_0_0)))).1
  | exact (looM_n (ma := ma) (A := acM fc ma) (looM_g hM (Or.inr (Or.inl f_5_0_0)))).2.1
  | exact (looM_n (ma := ma) (A := acM fc ma) (looM_g hM (Or.inr (Or.inl f_5_0_0)))).2.2.1
  | exact (looM_n (ma := ma) (A := acM fc ma) (looM_g hM (Or.inr (Or.inl f_5_0_0)))).2.2.2
  | exact (looM_n (ma := ma) (A := acM fc ma) (looM_g hM (Or.inr (Or.inr q_8)))).1
  | exact (looM_n (ma := ma) (A := acM fc ma) (looM_g hM (Or.inr (Or.inr q_8)))).2.1
  | exact (looM_n (ma := ma) (A := acM fc ma) (looM_g hM (Or.inr (Or.inr q_8)))).2.2.1
  | exact (looM_n (ma := ma) (A := acM fc ma) (looM_g hM (Or.inr (Or.inr q_8)))).2.2.2
  | exact (looM_s (ma := ma) (A := acM fc ma) hM hj_1 f_5_1_0 q_8 e_12 c_13).1
  | exact (looM_s (ma := ma) (A := acM fc ma) hM hj_1 f_5_1_0 q_8 e_12 c_13).2.1
  | exact (looM_s (ma := ma) (A := acM fc ma) hM hj_1 f_5_1_0 q_8 e_12 c_13).2.2.1
  | exact (looM_s (ma := ma) (A := acM fc ma) hM hj_1 f_5_1_0 q_8 e_12 c_13).2.2.2
  | exact (looM_d hM hj_1 f_5_1_0 q_8 e_12 c_13 (by assumption) (by assumption) (by assumption) (by assumption) (by assumption)).1
  | exact (looM_d hM hj_1 f_5_1_0 q_8 e_12 c_13 (by assumption) (by assumption) (by assumption) (by assumption) (by assumption)).2.1
  | exact (looM_d hM hj_1 f_5_1_0 q_8 e_12 c_13 (by assumption) (by assumption) (by assumption) (by assumption) (by assumption)).2.2.1
  | exact (looM_d hM hj_1 f_5_1_0 q_8 e_12 c_13 (by assumption) (by assumption) (by assumption) (by assumption) (by assumption)).2.2.2
theorem lf_X8_loose_10 {mt : Int32} {ma : Nat} {fs : Nat → Int32} {w9 : Nat} {k9 : Nat} {h9 : Nat} {fc : Nat → Int32} {a1 : Int32} {a2 : Int32} {j_1 : Nat} (hM : okM fs w9 k9 h9) (hT : ¬ mt = 0 → 1 ≤ k9) (h999 : h9 ≤ 999) (hT0 : mt = 0 → fs 0 = 0 ∧ ma = 0) (hac : okA fc ma) (hma : ma ≤ 24) (hj_1 : j_1 < k9) (hkn1 : 1 ≤ k9) (hw1 : 1 ≤ w9) (h01 : ¬ fs 0 = 0) (f_5_0_0 : ¬ iC (fs 0) a1) : (-1000001) = (a_loose (m38 fs) (nI j_1) a1 a2) := by
  have hw6 := hM.2.2.2.1
  have hk6 := hM.2.2.2.2.1
  first
  | exact hT0
  | (intro h_; exact absurd (hT0 h_).1 h01)
  | (intro h_; have h9 := (hT0 h_).2; omega)
  | exact (looM_n (ma := ma) (A := acM fc ma) (looM_g hM (Or.inl f_1_0_0))).1
  | exact (looM_n (ma := ma) (A := acM fc ma) (looM_g hM (Or.inl f_1_0_0))).2.1
  | exact (looM_n (ma := ma) (A := acM fc ma) (looM_g hM (Or.inl f_1_0_0))).2.2.1
  | exact (looM_n (ma := ma) (A := acM fc ma) (looM_g hM (Or.inl f_1_0_0))).2.2.2
  | exact (looM_n (ma := ma) (A := acM fc ma) (looM_g hM (Or.inr (Or.inl f_5_0_0)))).1
  | exact (looM_n (ma := ma) (A := acM fc ma) (looM_g hM (Or.inr (Or.inl f_5_0_0)))).2.1
  | exact (looM_n (ma := ma) (A := acM fc ma) (looM_g hM (Or.inr (Or.inl f_5_0_0)))).2.2.1
  | exact (looM_n (ma := ma) (A := acM fc ma) (looM_g hM (Or.inr (Or.inl f_5_0_0)))).2.2.2
  | exact (looM_n (ma := ma) (A := acM fc ma) (looM_g hM (Or.inr (Or.inr q_8)))).1
  | exact (looM_n (ma := ma) (A := acM fc ma) (looM_g hM (Or.inr (Or.inr q_8)))).2.1
  | exact (looM_n (ma := ma) (A := acM fc ma) (looM_g hM (Or.inr (Or.inr q_8)))).2.2.1
  | exact (looM_n (ma := ma) (A := acM fc ma) (looM_g hM (Or.inr (Or.inr q_8)))).2.2.2
  | exact (looM_s (ma := ma) (A := acM fc ma) hM hj_1 f_5_1_0 q_8 e_12 c_13).1
  | exact (looM_s (ma := ma) (A := acM fc ma) hM hj_1 f_5_1_0 q_8 e_12 c_13).2.1
  | exact (looM_s (ma := ma) (A := acM fc ma) hM hj_1 f_5_1_0 q_8 e_12 c_13).2.2.1
  | exact (looM_s (ma := ma) (A := acM fc ma) hM hj_1 f_5_1_0 q_8 e_12 c_13).2.2.2
  | exact (looM_d hM hj_1 f_5_1_0 q_8 e_12 c_13 (by assumption) (by assumption) (by assumption) (by assumption) (by assumption)).1
  | exact (looM_d hM hj_1 f_5_1_0 q_8 e_12 c_13 (by assumption) (by assumption) (by assumption) (by assumption) (by assumption)).2.1
  | exact (looM_d hM hj_1 f_5_1_0 q_8 e_12 c_13 (by assumption) (by assumption) (by assumption) (by assumption) (by assumption)).2.2.1
  | exact (looM_d hM hj_1 f_5_1_0 q_8 e_12 c_13 (by assumption) (by assumption) (by assumption) (by assumption) (by assumption)).2.2.2
theorem lf_X8_loose_11 {mt : Int32} {ma : Nat} {fs : Nat → Int32} {w9 : Nat} {k9 : Nat} {h9 : Nat} {fc : Nat → Int32} {a1 : Int32} {a2 : Int32} {j_1 : Nat} (hM : okM fs w9 k9 h9) (hT : ¬ mt = 0 → 1 ≤ k9) (h999 : h9 ≤ 999) (hT0 : mt = 0 → fs 0 = 0 ∧ ma = 0) (hac : okA fc ma) (hma : ma ≤ 24) (hj_1 : j_1 < k9) (hkn1 : 1 ≤ k9) (hw1 : 1 ≤ w9) (h01 : ¬ fs 0 = 0) (f_5_1_0 : iC (fs 0) a1) (f_8_0_0 : ((a2).toInt64 < 1 ∨ 20 < (a2).toInt64)) (q_8 : (a2 < 1 ∨ 20 < a2)) : (mt = 0 → fs 0 = 0 ∧ ma = 0) := by
  have hw6 := hM.2.2.2.1
  have hk6 := hM.2.2.2.2.1
  first
  | exact hT0
  | (intro h_; exact absurd (hT0 h_).1 h01)
  | (intro h_; have h9 := (hT0 h_).2; omega)
  | exact (looM_n (ma := ma) (A := acM fc ma) (looM_g hM (Or.inl f_1_0_0))).1
  | exact (looM_n (ma := ma) (A := acM fc ma) (looM_g hM (Or.inl f_1_0_0))).2.1
  | exact (looM_n (ma := ma) (A := acM fc ma) (looM_g hM (Or.inl f_1_0_0))).2.2.1
  | exact (looM_n (ma := ma) (A := acM fc ma) (looM_g hM (Or.inl f_1_0_0))).2.2.2
  | exact (looM_n (ma := ma) (A := acM fc ma) (looM_g hM (Or.inr (Or.inl f_5_0_0)))).1
  | exact (looM_n (ma := ma) (A := acM fc ma) (looM_g hM (Or.inr (Or.inl f_5_0_0)))).2.1
  | exact (looM_n (ma := ma) (A := acM fc ma) (looM_g hM (Or.inr (Or.inl f_5_0_0)))).2.2.1
  | exact (looM_n (ma := ma) (A := acM fc ma) (looM_g hM (Or.inr (Or.inl f_5_0_0)))).2.2.2
  | exact (looM_n (ma := ma) (A := acM fc ma) (looM_g hM (Or.inr (Or.inr q_8)))).1
  | exact (looM_n (ma := ma) (A := acM fc ma) (looM_g hM (Or.inr (Or.inr q_8)))).2.1
  | exact (looM_n (ma := ma) (A := acM fc ma) (looM_g hM (Or.inr (Or.inr q_8)))).2.2.1
  | exact (looM_n (ma := ma) (A := acM fc ma) (looM_g hM (Or.inr (Or.inr q_8)))).2.2.2
  | exact (looM_s (ma := ma) (A := acM fc ma) hM hj_1 f_5_1_0 q_8 e_12 c_13).1
  | exact (looM_s (ma := ma) (A := acM fc ma) hM hj_1 f_5_1_0 q_8 e_12 c_13).2.1
  | exact (looM_s (ma := ma) (A := acM fc ma) hM hj_1 f_5_1_0 q_8 e_12 c_13).2.2.1
  | exact (looM_s (ma := ma) (A := acM fc ma) hM hj_1 f_5_1_0 q_8 e_12 c_13).2.2.2
  | exact (looM_d hM hj_1 f_5_1_0 q_8 e_12 c_13 (by assumption) (by assumption) (by assumption) (by assumption) (by assumption)).1
  | exact (looM_d hM hj_1 f_5_1_0 q_8 e_12 c_13 (by assumption) (by assumption) (by assumption) (by assumption) (by assumption)).2.1
  | exact (looM_d hM hj_1 f_5_1_0 q_8 e_12 c_13 (by assumption) (by assumption) (by assumption) (by assumption) (by assumption)).2.2.1
  | exact (looM_d hM hj_1 f_5_1_0 q_8 e_12 c_13 (by assumption) (by assumption) (by assumption) (by assumption) (by assumption)).2.2.2
theorem lf_X8_loose_12 {mt : Int32} {ma : Nat} {fs : Nat → Int32} {w9 : Nat} {k9 : Nat} {h9 : Nat} {fc : Nat → Int32} {a1 : Int32} {a2 : Int32} {j_1 : Nat} (hM : okM fs w9 k9 h9) (hT : ¬ mt = 0 → 1 ≤ k9) (h999 : h9 ≤ 999) (hT0 : mt = 0 → fs 0 = 0 ∧ ma = 0) (hac : okA fc ma) (hma : ma ≤ 24) (hj_1 : j_1 < k9) (hkn1 : 1 ≤ k9) (hw1 : 1 ≤ w9) (h01 : ¬ fs 0 = 0) (f_5_1_0 : iC (fs 0) a1) (f_8_0_0 : ((a2).toInt64 < 1 ∨ 20 < (a2).toInt64)) (q_8 : (a2 < 1 ∨ 20 < a2)) : m38 fs = n_loose (m38 fs) (nI j_1) a1 a2 := by
  have hw6 := hM.2.2.2.1
  have hk6 := hM.2.2.2.2.1
  first
  | exact hT0
  | (intro h_; exact absurd (hT0 h_).1 h01)
  | (intro h_; have h9 := (hT0 h_).2; omega)
  | exact (looM_n (ma := ma) (A := acM fc ma) (looM_g hM (Or.inl f_1_0_0))).1
  | exact (looM_n (ma := ma) (A := acM fc ma) (looM_g hM (Or.inl f_1_0_0))).2.1
  | exact (looM_n (ma := ma) (A := acM fc ma) (looM_g hM (Or.inl f_1_0_0))).2.2.1
  | exact (looM_n (ma := ma) (A := acM fc ma) (looM_g hM (Or.inl f_1_0_0))).2.2.2
  | exact (looM_n (ma := ma) (A := acM fc ma) (looM_g hM (Or.inr (Or.inl f_5_0_0)))).1
  | exact (looM_n (ma := ma) (A := acM fc ma) (looM_g hM (Or.inr (Or.inl f_5_0_0)))).2.1
  | exact (looM_n (ma := ma) (A := acM fc ma) (looM_g hM (Or.inr (Or.inl f_5_0_0)))).2.2.1
  | exact (looM_n (ma := ma) (A := acM fc ma) (looM_g hM (Or.inr (Or.inl f_5_0_0)))).2.2.2
  | exact (looM_n (ma := ma) (A := acM fc ma) (looM_g hM (Or.inr (Or.inr q_8)))).1
  | exact (looM_n (ma := ma) (A := acM fc ma) (looM_g hM (Or.inr (Or.inr q_8)))).2.1
  | exact (looM_n (ma := ma) (A := acM fc ma) (looM_g hM (Or.inr (Or.inr q_8)))).2.2.1
  | exact (looM_n (ma := ma) (A := acM fc ma) (looM_g hM (Or.inr (Or.inr q_8)))).2.2.2
  | exact (looM_s (ma := ma) (A := acM fc ma) hM hj_1 f_5_1_0 q_8 e_12 c_13).1
  | exact (looM_s (ma := ma) (A := acM fc ma) hM hj_1 f_5_1_0 q_8 e_12 c_13).2.1
  | exact (looM_s (ma := ma) (A := acM fc ma) hM hj_1 f_5_1_0 q_8 e_12 c_13).2.2.1
  | exact (looM_s (ma := ma) (A := acM fc ma) hM hj_1 f_5_1_0 q_8 e_12 c_13).2.2.2
  | exact (looM_d hM hj_1 f_5_1_0 q_8 e_12 c_13 (by assumption) (by assumption) (by assumption) (by assumption) (by assumption)).1
  | exact (looM_d hM hj_1 f_5_1_0 q_8 e_12 c_13 (by assumption) (by assumption) (by assumption) (by assumption) (by assumption)).2.1
  | exact (looM_d hM hj_1 f_5_1_0 q_8 e_12 c_13 (by assumption) (by assumption) (by assumption) (by assumption) (by assumption)).2.2.1
  | exact (looM_d hM hj_1 f_5_1_0 q_8 e_12 c_13 (by assumption) (by assumption) (by assumption) (by assumption) (by assumption)).2.2.2
theorem lf_X8_loose_13 {mt : Int32} {ma : Nat} {fs : Nat → Int32} {w9 : Nat} {k9 : Nat} {h9 : Nat} {fc : Nat → Int32} {a1 : Int32} {a2 : Int32} {j_1 : Nat} (hM : okM fs w9 k9 h9) (hT : ¬ mt = 0 → 1 ≤ k9) (h999 : h9 ≤ 999) (hT0 : mt = 0 → fs 0 = 0 ∧ ma = 0) (hac : okA fc ma) (hma : ma ≤ 24) (hj_1 : j_1 < k9) (hkn1 : 1 ≤ k9) (hw1 : 1 ≤ w9) (h01 : ¬ fs 0 = 0) (f_5_1_0 : iC (fs 0) a1) (f_8_0_0 : ((a2).toInt64 < 1 ∨ 20 < (a2).toInt64)) (q_8 : (a2 < 1 ∨ 20 < a2)) : ma = kpN (gd_loose (m38 fs) (nI j_1) a1 a2) ma := by
  have hw6 := hM.2.2.2.1
  have hk6 := hM.2.2.2.2.1
  first
  | exact hT0
  | (intro h_; exact absurd (hT0 h_).1 h01)
  | (intro h_; have h9 := (hT0 h_).2; omega)
  | exact (looM_n (ma := ma) (A := acM fc ma) (looM_g hM (Or.inl f_1_0_0))).1
  | exact (looM_n (ma := ma) (A := acM fc ma) (looM_g hM (Or.inl f_1_0_0))).2.1
  | exact (looM_n (ma := ma) (A := acM fc ma) (looM_g hM (Or.inl f_1_0_0))).2.2.1
  | exact (looM_n (ma := ma) (A := acM fc ma) (looM_g hM (Or.inl f_1_0_0))).2.2.2
  | exact (looM_n (ma := ma) (A := acM fc ma) (looM_g hM (Or.inr (Or.inl f_5_0_0)))).1
  | exact (looM_n (ma := ma) (A := acM fc ma) (looM_g hM (Or.inr (Or.inl f_5_0_0)))).2.1
  | exact (looM_n (ma := ma) (A := acM fc ma) (looM_g hM (Or.inr (Or.inl f_5_0_0)))).2.2.1
  | exact (looM_n (ma := ma) (A := acM fc ma) (looM_g hM (Or.inr (Or.inl f_5_0_0)))).2.2.2
  | exact (looM_n (ma := ma) (A := acM fc ma) (looM_g hM (Or.inr (Or.inr q_8)))).1
  | exact (looM_n (ma := ma) (A := acM fc ma) (looM_g hM (Or.inr (Or.inr q_8)))).2.1
  | exact (looM_n (ma := ma) (A := acM fc ma) (looM_g hM (Or.inr (Or.inr q_8)))).2.2.1
  | exact (looM_n (ma := ma) (A := acM fc ma) (looM_g hM (Or.inr (Or.inr q_8)))).2.2.2
  | exact (looM_s (ma := ma) (A := acM fc ma) hM hj_1 f_5_1_0 q_8 e_12 c_13).1
  | exact (looM_s (ma := ma) (A := acM fc ma) hM hj_1 f_5_1_0 q_8 e_12 c_13).2.1
  | exact (looM_s (ma := ma) (A := acM fc ma) hM hj_1 f_5_1_0 q_8 e_12 c_13).2.2.1
  | exact (looM_s (ma := ma) (A := acM fc ma) hM hj_1 f_5_1_0 q_8 e_12 c_13).2.2.2
  | exact (looM_d hM hj_1 f_5_1_0 q_8 e_12 c_13 (by assumption) (by assumption) (by assumption) (by assumption) (by assumption)).1
  | exact (looM_d hM hj_1 f_5_1_0 q_8 e_12 c_13 (by assumption) (by assumption) (by assumption) (by assumption) (by assumption)).2.1
  | exact (looM_d hM hj_1 f_5_1_0 q_8 e_12 c_13 (by assumption) (by assumption) (by assumption) (by assumption) (by assumption)).2.2.1
  | exact (looM_d hM hj_1 f_5_1_0 q_8 e_12 c_13 (by assumption) (by assumption) (by assumption) (by assumption) (by assumption)).2.2.2
theorem lf_X8_loose_14 {mt : Int32} {ma : Nat} {fs : Nat → Int32} {w9 : Nat} {k9 : Nat} {h9 : Nat} {fc : Nat → Int32} {a1 : Int32} {a2 : Int32} {j_1 : Nat} (hM : okM fs w9 k9 h9) (hT : ¬ mt = 0 → 1 ≤ k9) (h999 : h9 ≤ 999) (hT0 : mt = 0 → fs 0 = 0 ∧ ma = 0) (hac : okA fc ma) (hma : ma ≤ 24) (hj_1 : j_1 < k9) (hkn1 : 1 ≤ k9) (hw1 : 1 ≤ w9) (h01 : ¬ fs 0 = 0) (f_5_1_0 : iC (fs 0) a1) (f_8_0_0 : ((a2).toInt64 < 1 ∨ 20 < (a2).toInt64)) (q_8 : (a2 < 1 ∨ 20 < a2)) : acM fc ma = kpA (gd_loose (m38 fs) (nI j_1) a1 a2) (m38 fs) ma (acM fc ma) := by
  have hw6 := hM.2.2.2.1
  have hk6 := hM.2.2.2.2.1
  first
  | exact hT0
  | (intro h_; exact absurd (hT0 h_).1 h01)
  | (intro h_; have h9 := (hT0 h_).2; omega)
  | exact (looM_n (ma := ma) (A := acM fc ma) (looM_g hM (Or.inl f_1_0_0))).1
  | exact (looM_n (ma := ma) (A := acM fc ma) (looM_g hM (Or.inl f_1_0_0))).2.1
  | exact (looM_n (ma := ma) (A := acM fc ma) (looM_g hM (Or.inl f_1_0_0))).2.2.1
  | exact (looM_n (ma := ma) (A := acM fc ma) (looM_g hM (Or.inl f_1_0_0))).2.2.2
  | exact (looM_n (ma := ma) (A := acM fc ma) (looM_g hM (Or.inr (Or.inl f_5_0_0)))).1
  | exact (looM_n (ma := ma) (A := acM fc ma) (looM_g hM (Or.inr (Or.inl f_5_0_0)))).2.1
  | exact (looM_n (ma := ma) (A := acM fc ma) (looM_g hM (Or.inr (Or.inl f_5_0_0)))).2.2.1
  | exact (looM_n (ma := ma) (A := acM fc ma) (looM_g hM (Or.inr (Or.inl f_5_0_0)))).2.2.2
  | exact (looM_n (ma := ma) (A := acM fc ma) (looM_g hM (Or.inr (Or.inr q_8)))).1
  | exact (looM_n (ma := ma) (A := acM fc ma) (looM_g hM (Or.inr (Or.inr q_8)))).2.1
  | exact (looM_n (ma := ma) (A := acM fc ma) (looM_g hM (Or.inr (Or.inr q_8)))).2.2.1
  | exact (looM_n (ma := ma) (A := acM fc ma) (looM_g hM (Or.inr (Or.inr q_8)))).2.2.2
  | exact (looM_s (ma := ma) (A := acM fc ma) hM hj_1 f_5_1_0 q_8 e_12 c_13).1
  | exact (looM_s (ma := ma) (A := acM fc ma) hM hj_1 f_5_1_0 q_8 e_12 c_13).2.1
  | exact (looM_s (ma := ma) (A := acM fc ma) hM hj_1 f_5_1_0 q_8 e_12 c_13).2.2.1
  | exact (looM_s (ma := ma) (A := acM fc ma) hM hj_1 f_5_1_0 q_8 e_12 c_13).2.2.2
  | exact (looM_d hM hj_1 f_5_1_0 q_8 e_12 c_13 (by assumption) (by assumption) (by assumption) (by assumption) (by assumption)).1
  | exact (looM_d hM hj_1 f_5_1_0 q_8 e_12 c_13 (by assumption) (by assumption) (by assumption) (by assumption) (by assumption)).2.1
  | exact (looM_d hM hj_1 f_5_1_0 q_8 e_12 c_13 (by assumption) (by assumption) (by assumption) (by assumption) (by assumption)).2.2.1
  | exact (looM_d hM hj_1 f_5_1_0 q_8 e_12 c_13 (by assumption) (by assumption) (by assumption) (by assumption) (by assumption)).2.2.2
theorem lf_X8_loose_15 {mt : Int32} {ma : Nat} {fs : Nat → Int32} {w9 : Nat} {k9 : Nat} {h9 : Nat} {fc : Nat → Int32} {a1 : Int32} {a2 : Int32} {j_1 : Nat} (hM : okM fs w9 k9 h9) (hT : ¬ mt = 0 → 1 ≤ k9) (h999 : h9 ≤ 999) (hT0 : mt = 0 → fs 0 = 0 ∧ ma = 0) (hac : okA fc ma) (hma : ma ≤ 24) (hj_1 : j_1 < k9) (hkn1 : 1 ≤ k9) (hw1 : 1 ≤ w9) (h01 : ¬ fs 0 = 0) (f_5_1_0 : iC (fs 0) a1) (f_8_0_0 : ((a2).toInt64 < 1 ∨ 20 < (a2).toInt64)) (q_8 : (a2 < 1 ∨ 20 < a2)) : (-1000001) = (a_loose (m38 fs) (nI j_1) a1 a2) := by
  have hw6 := hM.2.2.2.1
  have hk6 := hM.2.2.2.2.1
  first
  | exact hT0
  | (intro h_; exact absurd (hT0 h_).1 h01)
  | (intro h_; have h9 := (hT0 h_).2; omega)
  | exact (looM_n (ma := ma) (A := acM fc ma) (looM_g hM (Or.inl f_1_0_0))).1
  | exact (looM_n (ma := ma) (A := acM fc ma) (looM_g hM (Or.inl f_1_0_0))).2.1
  | exact (looM_n (ma := ma) (A := acM fc ma) (looM_g hM (Or.inl f_1_0_0))).2.2.1
  | exact (looM_n (ma := ma) (A := acM fc ma) (looM_g hM (Or.inl f_1_0_0))).2.2.2
  | exact (looM_n (ma := ma) (A := acM fc ma) (looM_g hM (Or.inr (Or.inl f_5_0_0)))).1
  | exact (looM_n (ma := ma) (A := acM fc ma) (looM_g hM (Or.inr (Or.inl f_5_0_0)))).2.1
  | exact (looM_n (ma := ma) (A := acM fc ma) (looM_g hM (Or.inr (Or.inl f_5_0_0)))).2.2.1
  | exact (looM_n (ma := ma) (A := acM fc ma) (looM_g hM (Or.inr (Or.inl f_5_0_0)))).2.2.2
  | exact (looM_n (ma := ma) (A := acM fc ma) (looM_g hM (Or.inr (Or.inr q_8)))).1
  | exact (looM_n (ma := ma) (A := acM fc ma) (looM_g hM (Or.inr (Or.inr q_8)))).2.1
  | exact (looM_n (ma := ma) (A := acM fc ma) (looM_g hM (Or.inr (Or.inr q_8)))).2.2.1
  | exact (looM_n (ma := ma) (A := acM fc ma) (looM_g hM (Or.inr (Or.inr q_8)))).2.2.2
  | exact (looM_s (ma := ma) (A := acM fc ma) hM hj_1 f_5_1_0 q_8 e_12 c_13).1
  | exact (looM_s (ma := ma) (A := acM fc ma) hM hj_1 f_5_1_0 q_8 e_12 c_13).2.1
  | exact (looM_s (ma := ma) (A := acM fc ma) hM hj_1 f_5_1_0 q_8 e_12 c_13).2.2.1
  | exact (looM_s (ma := ma) (A := acM fc ma) hM hj_1 f_5_1_0 q_8 e_12 c_13).2.2.2
  | exact (looM_d hM hj_1 f_5_1_0 q_8 e_12 c_13 (by assumption) (by assumption) (by assumption) (by assumption) (by assumption)).1
  | exact (looM_d hM hj_1 f_5_1_0 q_8 e_12 c_13 (by assumption) (by assumption) (by assumption) (by assumption) (by assumption)).2.1
  | exact (looM_d hM hj_1 f_5_1_0 q_8 e_12 c_13 (by assumption) (by assumption) (by assumption) (by assumption) (by assumption)).2.2.1
  | exact (looM_d hM hj_1 f_5_1_0 q_8 e_12 c_13 (by assumption) (by assumption) (by assumption) (by assumption) (by assumption)).2.2.2
theorem lf_X8_loose_16 {mt : Int32} {ma : Nat} {fs : Nat → Int32} {w9 : Nat} {k9 : Nat} {h9 : Nat} {fc : Nat → Int32} {a1 : Int32} {j_1 : Nat} {j_8 : Nat} {v_12 : Int32} {fcn_14 : Nat → Int32} {man_14 : Nat} {fsn_15 : Nat → Int32} {j_16 : Nat} (hM : okM fs w9 k9 h9) (hT : ¬ mt = 0 → 1 ≤ k9) (h999 : h9 ≤ 999) (hT0 : mt = 0 → fs 0 = 0 ∧ ma = 0) (hac : okA fc ma) (hma : ma ≤ 24) (hj_1 : j_1 < k9) (hkn1 : 1 ≤ k9) (hw1 : 1 ≤ w9) (h01 : ¬ fs 0 = 0) (f_5_1_0 : iC (fs 0) a1) (f_8_1_0 : (¬ (((nI j_8)).toInt64 < 1 ∨ 20 < ((nI j_8)).toInt64))) (q_8 : ¬ ((nI j_8) < 1 ∨ 20 < (nI j_8))) (hj_8 : j_8 ≤ 20) (e_12 : v_12 = fs (26 + j_1)) (c_13 : ¬ (v_12 = 0)) (hF_14_0 : okA fcn_14 man_14) (hF_14_1 : man_14 ≤ 24) (hF_14_2 : 1 ≤ man_14) (hF_14_3 : acM fcn_14 man_14 = ntA (m38 fs) ma (acM fc ma)) (hF_14_4 : man_14 = ntN ma) (hF_15_0 : okM fsn_15 w9 k9 h9) (hF_15_1 : fsn_15 = upd (upd (upd fs (26 + j_1) 0) (20 + j_1) a1) (32 + j_1) (nI j_8)) (hz_16_0 : j_16 ≤ 63) (hz_16_1 : nI j_16 = thR (fun s => fsn_15 (26 + s)) 0 k9) : (mt = 0 → fsn_15 0 = 0 ∧ man_14 = 0) := by
  have hw6 := hM.2.2.2.1
  have hk6 := hM.2.2.2.2.1
  first
  | exact hT0
  | (intro h_; exact absurd (hT0 h_).1 h01)
  | (intro h_; have h9 := (hT0 h_).2; omega)
  | exact (looM_n (ma := ma) (A := acM fc ma) (looM_g hM (Or.inl f_1_0_0))).1
  | exact (looM_n (ma := ma) (A := acM fc ma) (looM_g hM (Or.inl f_1_0_0))).2.1
  | exact (looM_n (ma := ma) (A := acM fc ma) (looM_g hM (Or.inl f_1_0_0))).2.2.1
  | exact (looM_n (ma := ma) (A := acM fc ma) (looM_g hM (Or.inl f_1_0_0))).2.2.2
  | exact (looM_n (ma := ma) (A := acM fc ma) (looM_g hM (Or.inr (Or.inl f_5_0_0)))).1
  | exact (looM_n (ma := ma) (A := acM fc ma) (looM_g hM (Or.inr (Or.inl f_5_0_0)))).2.1
  | exact (looM_n (ma := ma) (A := acM fc ma) (looM_g hM (Or.inr (Or.inl f_5_0_0)))).2.2.1
  | exact (looM_n (ma := ma) (A := acM fc ma) (looM_g hM (Or.inr (Or.inl f_5_0_0)))).2.2.2
  | exact (looM_n (ma := ma) (A := acM fc ma) (looM_g hM (Or.inr (Or.inr q_8)))).1
  | exact (looM_n (ma := ma) (A := acM fc ma) (looM_g hM (Or.inr (Or.inr q_8)))).2.1
  | exact (looM_n (ma := ma) (A := acM fc ma) (looM_g hM (Or.inr (Or.inr q_8)))).2.2.1
  | exact (looM_n (ma := ma) (A := acM fc ma) (looM_g hM (Or.inr (Or.inr q_8)))).2.2.2
  | exact (looM_s (ma := ma) (A := acM fc ma) hM hj_1 f_5_1_0 q_8 e_12 c_13).1
  | exact (looM_s (ma := ma) (A := acM fc ma) hM hj_1 f_5_1_0 q_8 e_12 c_13).2.1
  | exact (looM_s (ma := ma) (A := acM fc ma) hM hj_1 f_5_1_0 q_8 e_12 c_13).2.2.1
  | exact (looM_s (ma := ma) (A := acM fc ma) hM hj_1 f_5_1_0 q_8 e_12 c_13).2.2.2
  | exact (looM_d hM hj_1 f_5_1_0 q_8 e_12 c_13 (by assumption) (by assumption) (by assumption) (by assumption) (by assumption)).1
  | exact (looM_d hM hj_1 f_5_1_0 q_8 e_12 c_13 (by assumption) (by assumption) (by assumption) (by assumption) (by assumption)).2.1
  | exact (looM_d hM hj_1 f_5_1_0 q_8 e_12 c_13 (by assumption) (by assumption) (by assumption) (by assumption) (by assumption)).2.2.1
  | exact (looM_d hM hj_1 f_5_1_0 q_8 e_12 c_13 (by assumption) (by assumption) (by assumption) (by assumption) (by assumption)).2.2.2
theorem lf_X8_loose_17 {mt : Int32} {ma : Nat} {fs : Nat → Int32} {w9 : Nat} {k9 : Nat} {h9 : Nat} {fc : Nat → Int32} {a1 : Int32} {j_1 : Nat} {j_8 : Nat} {v_12 : Int32} {fcn_14 : Nat → Int32} {man_14 : Nat} {fsn_15 : Nat → Int32} {j_16 : Nat} (hM : okM fs w9 k9 h9) (hT : ¬ mt = 0 → 1 ≤ k9) (h999 : h9 ≤ 999) (hT0 : mt = 0 → fs 0 = 0 ∧ ma = 0) (hac : okA fc ma) (hma : ma ≤ 24) (hj_1 : j_1 < k9) (hkn1 : 1 ≤ k9) (hw1 : 1 ≤ w9) (h01 : ¬ fs 0 = 0) (f_5_1_0 : iC (fs 0) a1) (f_8_1_0 : (¬ (((nI j_8)).toInt64 < 1 ∨ 20 < ((nI j_8)).toInt64))) (q_8 : ¬ ((nI j_8) < 1 ∨ 20 < (nI j_8))) (hj_8 : j_8 ≤ 20) (e_12 : v_12 = fs (26 + j_1)) (c_13 : ¬ (v_12 = 0)) (hF_14_0 : okA fcn_14 man_14) (hF_14_1 : man_14 ≤ 24) (hF_14_2 : 1 ≤ man_14) (hF_14_3 : acM fcn_14 man_14 = ntA (m38 fs) ma (acM fc ma)) (hF_14_4 : man_14 = ntN ma) (hF_15_0 : okM fsn_15 w9 k9 h9) (hF_15_1 : fsn_15 = upd (upd (upd fs (26 + j_1) 0) (20 + j_1) a1) (32 + j_1) (nI j_8)) (hz_16_0 : j_16 ≤ 63) (hz_16_1 : nI j_16 = thR (fun s => fsn_15 (26 + s)) 0 k9) : m38 fsn_15 = n_loose (m38 fs) (nI j_1) a1 (nI j_8) := by
  have hw6 := hM.2.2.2.1
  have hk6 := hM.2.2.2.2.1
  first
  | exact hT0
  | (intro h_; exact absurd (hT0 h_).1 h01)
  | (intro h_; have h9 := (hT0 h_).2; omega)
  | exact (looM_n (ma := ma) (A := acM fc ma) (looM_g hM (Or.inl f_1_0_0))).1
  | exact (looM_n (ma := ma) (A := acM fc ma) (looM_g hM (Or.inl f_1_0_0))).2.1
  | exact (looM_n (ma := ma) (A := acM fc ma) (looM_g hM (Or.inl f_1_0_0))).2.2.1
  | exact (looM_n (ma := ma) (A := acM fc ma) (looM_g hM (Or.inl f_1_0_0))).2.2.2
  | exact (looM_n (ma := ma) (A := acM fc ma) (looM_g hM (Or.inr (Or.inl f_5_0_0)))).1
  | exact (looM_n (ma := ma) (A := acM fc ma) (looM_g hM (Or.inr (Or.inl f_5_0_0)))).2.1
  | exact (looM_n (ma := ma) (A := acM fc ma) (looM_g hM (Or.inr (Or.inl f_5_0_0)))).2.2.1
  | exact (looM_n (ma := ma) (A := acM fc ma) (looM_g hM (Or.inr (Or.inl f_5_0_0)))).2.2.2
  | exact (looM_n (ma := ma) (A := acM fc ma) (looM_g hM (Or.inr (Or.inr q_8)))).1
  | exact (looM_n (ma := ma) (A := acM fc ma) (looM_g hM (Or.inr (Or.inr q_8)))).2.1
  | exact (looM_n (ma := ma) (A := acM fc ma) (looM_g hM (Or.inr (Or.inr q_8)))).2.2.1
  | exact (looM_n (ma := ma) (A := acM fc ma) (looM_g hM (Or.inr (Or.inr q_8)))).2.2.2
  | exact (looM_s (ma := ma) (A := acM fc ma) hM hj_1 f_5_1_0 q_8 e_12 c_13).1
  | exact (looM_s (ma := ma) (A := acM fc ma) hM hj_1 f_5_1_0 q_8 e_12 c_13).2.1
  | exact (looM_s (ma := ma) (A := acM fc ma) hM hj_1 f_5_1_0 q_8 e_12 c_13).2.2.1
  | exact (looM_s (ma := ma) (A := acM fc ma) hM hj_1 f_5_1_0 q_8 e_12 c_13).2.2.2
  | exact (looM_d hM hj_1 f_5_1_0 q_8 e_12 c_13 (by assumption) (by assumption) (by assumption) (by assumption) (by assumption)).1
  | exact (looM_d hM hj_1 f_5_1_0 q_8 e_12 c_13 (by assumption) (by assumption) (by assumption) (by assumption) (by assumption)).2.1
  | exact (looM_d hM hj_1 f_5_1_0 q_8 e_12 c_13 (by assumption) (by assumption) (by assumption) (by assumption) (by assumption)).2.2.1
  | exact (looM_d hM hj_1 f_5_1_0 q_8 e_12 c_13 (by assumption) (by assumption) (by assumption) (by assumption) (by assumption)).2.2.2
theorem lf_X8_loose_18 {mt : Int32} {ma : Nat} {fs : Nat → Int32} {w9 : Nat} {k9 : Nat} {h9 : Nat} {fc : Nat → Int32} {a1 : Int32} {j_1 : Nat} {j_8 : Nat} {v_12 : Int32} {fcn_14 : Nat → Int32} {man_14 : Nat} {fsn_15 : Nat → Int32} {j_16 : Nat} (hM : okM fs w9 k9 h9) (hT : ¬ mt = 0 → 1 ≤ k9) (h999 : h9 ≤ 999) (hT0 : mt = 0 → fs 0 = 0 ∧ ma = 0) (hac : okA fc ma) (hma : ma ≤ 24) (hj_1 : j_1 < k9) (hkn1 : 1 ≤ k9) (hw1 : 1 ≤ w9) (h01 : ¬ fs 0 = 0) (f_5_1_0 : iC (fs 0) a1) (f_8_1_0 : (¬ (((nI j_8)).toInt64 < 1 ∨ 20 < ((nI j_8)).toInt64))) (q_8 : ¬ ((nI j_8) < 1 ∨ 20 < (nI j_8))) (hj_8 : j_8 ≤ 20) (e_12 : v_12 = fs (26 + j_1)) (c_13 : ¬ (v_12 = 0)) (hF_14_0 : okA fcn_14 man_14) (hF_14_1 : man_14 ≤ 24) (hF_14_2 : 1 ≤ man_14) (hF_14_3 : acM fcn_14 man_14 = ntA (m38 fs) ma (acM fc ma)) (hF_14_4 : man_14 = ntN ma) (hF_15_0 : okM fsn_15 w9 k9 h9) (hF_15_1 : fsn_15 = upd (upd (upd fs (26 + j_1) 0) (20 + j_1) a1) (32 + j_1) (nI j_8)) (hz_16_0 : j_16 ≤ 63) (hz_16_1 : nI j_16 = thR (fun s => fsn_15 (26 + s)) 0 k9) : man_14 = kpN (gd_loose (m38 fs) (nI j_1) a1 (nI j_8)) ma := by
  have hw6 := hM.2.2.2.1
  have hk6 := hM.2.2.2.2.1
  first
  | exact hT0
  | (intro h_; exact absurd (hT0 h_).1 h01)
  | (intro h_; have h9 := (hT0 h_).2; omega)
  | exact (looM_n (ma := ma) (A := acM fc ma) (looM_g hM (Or.inl f_1_0_0))).1
  | exact (looM_n (ma := ma) (A := acM fc ma) (looM_g hM (Or.inl f_1_0_0))).2.1
  | exact (looM_n (ma := ma) (A := acM fc ma) (looM_g hM (Or.inl f_1_0_0))).2.2.1
  | exact (looM_n (ma := ma) (A := acM fc ma) (looM_g hM (Or.inl f_1_0_0))).2.2.2
  | exact (looM_n (ma := ma) (A := acM fc ma) (looM_g hM (Or.inr (Or.inl f_5_0_0)))).1
  | exact (looM_n (ma := ma) (A := acM fc ma) (looM_g hM (Or.inr (Or.inl f_5_0_0)))).2.1
  | exact (looM_n (ma := ma) (A := acM fc ma) (looM_g hM (Or.inr (Or.inl f_5_0_0)))).2.2.1
  | exact (looM_n (ma := ma) (A := acM fc ma) (looM_g hM (Or.inr (Or.inl f_5_0_0)))).2.2.2
  | exact (looM_n (ma := ma) (A := acM fc ma) (looM_g hM (Or.inr (Or.inr q_8)))).1
  | exact (looM_n (ma := ma) (A := acM fc ma) (looM_g hM (Or.inr (Or.inr q_8)))).2.1
  | exact (looM_n (ma := ma) (A := acM fc ma) (looM_g hM (Or.inr (Or.inr q_8)))).2.2.1
  | exact (looM_n (ma := ma) (A := acM fc ma) (looM_g hM (Or.inr (Or.inr q_8)))).2.2.2
  | exact (looM_s (ma := ma) (A := acM fc ma) hM hj_1 f_5_1_0 q_8 e_12 c_13).1
  | exact (looM_s (ma := ma) (A := acM fc ma) hM hj_1 f_5_1_0 q_8 e_12 c_13).2.1
  | exact (looM_s (ma := ma) (A := acM fc ma) hM hj_1 f_5_1_0 q_8 e_12 c_13).2.2.1
  | exact (looM_s (ma := ma) (A := acM fc ma) hM hj_1 f_5_1_0 q_8 e_12 c_13).2.2.2
  | exact (looM_d hM hj_1 f_5_1_0 q_8 e_12 c_13 (by assumption) (by assumption) (by assumption) (by assumption) (by assumption)).1
  | exact (looM_d hM hj_1 f_5_1_0 q_8 e_12 c_13 (by assumption) (by assumption) (by assumption) (by assumption) (by assumption)).2.1
  | exact (looM_d hM hj_1 f_5_1_0 q_8 e_12 c_13 (by assumption) (by assumption) (by assumption) (by assumption) (by assumption)).2.2.1
  | exact (looM_d hM hj_1 f_5_1_0 q_8 e_12 c_13 (by assumption) (by assumption) (by assumption) (by assumption) (by assumption)).2.2.2
theorem lf_X8_loose_19 {mt : Int32} {ma : Nat} {fs : Nat → Int32} {w9 : Nat} {k9 : Nat} {h9 : Nat} {fc : Nat → Int32} {a1 : Int32} {j_1 : Nat} {j_8 : Nat} {v_12 : Int32} {fcn_14 : Nat → Int32} {man_14 : Nat} {fsn_15 : Nat → Int32} {j_16 : Nat} (hM : okM fs w9 k9 h9) (hT : ¬ mt = 0 → 1 ≤ k9) (h999 : h9 ≤ 999) (hT0 : mt = 0 → fs 0 = 0 ∧ ma = 0) (hac : okA fc ma) (hma : ma ≤ 24) (hj_1 : j_1 < k9) (hkn1 : 1 ≤ k9) (hw1 : 1 ≤ w9) (h01 : ¬ fs 0 = 0) (f_5_1_0 : iC (fs 0) a1) (f_8_1_0 : (¬ (((nI j_8)).toInt64 < 1 ∨ 20 < ((nI j_8)).toInt64))) (q_8 : ¬ ((nI j_8) < 1 ∨ 20 < (nI j_8))) (hj_8 : j_8 ≤ 20) (e_12 : v_12 = fs (26 + j_1)) (c_13 : ¬ (v_12 = 0)) (hF_14_0 : okA fcn_14 man_14) (hF_14_1 : man_14 ≤ 24) (hF_14_2 : 1 ≤ man_14) (hF_14_3 : acM fcn_14 man_14 = ntA (m38 fs) ma (acM fc ma)) (hF_14_4 : man_14 = ntN ma) (hF_15_0 : okM fsn_15 w9 k9 h9) (hF_15_1 : fsn_15 = upd (upd (upd fs (26 + j_1) 0) (20 + j_1) a1) (32 + j_1) (nI j_8)) (hz_16_0 : j_16 ≤ 63) (hz_16_1 : nI j_16 = thR (fun s => fsn_15 (26 + s)) 0 k9) : acM fcn_14 man_14 = kpA (gd_loose (m38 fs) (nI j_1) a1 (nI j_8)) (m38 fs) ma (acM fc ma) := by
  have hw6 := hM.2.2.2.1
  have hk6 := hM.2.2.2.2.1
  first
  | exact hT0
  | (intro h_; exact absurd (hT0 h_).1 h01)
  | (intro h_; have h9 := (hT0 h_).2; omega)
  | exact (looM_n (ma := ma) (A := acM fc ma) (looM_g hM (Or.inl f_1_0_0))).1
  | exact (looM_n (ma := ma) (A := acM fc ma) (looM_g hM (Or.inl f_1_0_0))).2.1
  | exact (looM_n (ma := ma) (A := acM fc ma) (looM_g hM (Or.inl f_1_0_0))).2.2.1
  | exact (looM_n (ma := ma) (A := acM fc ma) (looM_g hM (Or.inl f_1_0_0))).2.2.2
  | exact (looM_n (ma := ma) (A := acM fc ma) (looM_g hM (Or.inr (Or.inl f_5_0_0)))).1
  | exact (looM_n (ma := ma) (A := acM fc ma) (looM_g hM (Or.inr (Or.inl f_5_0_0)))).2.1
  | exact (looM_n (ma := ma) (A := acM fc ma) (looM_g hM (Or.inr (Or.inl f_5_0_0)))).2.2.1
  | exact (looM_n (ma := ma) (A := acM fc ma) (looM_g hM (Or.inr (Or.inl f_5_0_0)))).2.2.2
  | exact (looM_n (ma := ma) (A := acM fc ma) (looM_g hM (Or.inr (Or.inr q_8)))).1
  | exact (looM_n (ma := ma) (A := acM fc ma) (looM_g hM (Or.inr (Or.inr q_8)))).2.1
  | exact (looM_n (ma := ma) (A := acM fc ma) (looM_g hM (Or.inr (Or.inr q_8)))).2.2.1
  | exact (looM_n (ma := ma) (A := acM fc ma) (looM_g hM (Or.inr (Or.inr q_8)))).2.2.2
  | exact (looM_s (ma := ma) (A := acM fc ma) hM hj_1 f_5_1_0 q_8 e_12 c_13).1
  | exact (looM_s (ma := ma) (A := acM fc ma) hM hj_1 f_5_1_0 q_8 e_12 c_13).2.1
  | exact (looM_s (ma := ma) (A := acM fc ma) hM hj_1 f_5_1_0 q_8 e_12 c_13).2.2.1
  | exact (looM_s (ma := ma) (A := acM fc ma) hM hj_1 f_5_1_0 q_8 e_12 c_13).2.2.2
  | exact (looM_d hM hj_1 f_5_1_0 q_8 e_12 c_13 (by assumption) (by assumption) (by assumption) (by assumption) (by assumption)).1
  | exact (looM_d hM hj_1 f_5_1_0 q_8 e_12 c_13 (by assumption) (by assumption) (by assumption) (by assumption) (by assumption)).2.1
  | exact (looM_d hM hj_1 f_5_1_0 q_8 e_12 c_13 (by assumption) (by assumption) (by assumption) (by assumption) (by assumption)).2.2.1
  | exact (looM_d hM hj_1 f_5_1_0 q_8 e_12 c_13 (by assumption) (by assumption) (by assumption) (by assumption) (by assumption)).2.2.2
theorem lf_X8_loose_20 {mt : Int32} {ma : Nat} {fs : Nat → Int32} {w9 : Nat} {k9 : Nat} {h9 : Nat} {fc : Nat → Int32} {a1 : Int32} {j_1 : Nat} {j_8 : Nat} {v_12 : Int32} {fcn_14 : Nat → Int32} {man_14 : Nat} {fsn_15 : Nat → Int32} {j_16 : Nat} (hM : okM fs w9 k9 h9) (hT : ¬ mt = 0 → 1 ≤ k9) (h999 : h9 ≤ 999) (hT0 : mt = 0 → fs 0 = 0 ∧ ma = 0) (hac : okA fc ma) (hma : ma ≤ 24) (hj_1 : j_1 < k9) (hkn1 : 1 ≤ k9) (hw1 : 1 ≤ w9) (h01 : ¬ fs 0 = 0) (f_5_1_0 : iC (fs 0) a1) (f_8_1_0 : (¬ (((nI j_8)).toInt64 < 1 ∨ 20 < ((nI j_8)).toInt64))) (q_8 : ¬ ((nI j_8) < 1 ∨ 20 < (nI j_8))) (hj_8 : j_8 ≤ 20) (e_12 : v_12 = fs (26 + j_1)) (c_13 : ¬ (v_12 = 0)) (hF_14_0 : okA fcn_14 man_14) (hF_14_1 : man_14 ≤ 24) (hF_14_2 : 1 ≤ man_14) (hF_14_3 : acM fcn_14 man_14 = ntA (m38 fs) ma (acM fc ma)) (hF_14_4 : man_14 = ntN ma) (hF_15_0 : okM fsn_15 w9 k9 h9) (hF_15_1 : fsn_15 = upd (upd (upd fs (26 + j_1) 0) (20 + j_1) a1) (32 + j_1) (nI j_8)) (hz_16_0 : j_16 ≤ 63) (hz_16_1 : nI j_16 = thR (fun s => fsn_15 (26 + s)) 0 k9) : (nI j_16) = (a_loose (m38 fs) (nI j_1) a1 (nI j_8)) := by
  have hw6 := hM.2.2.2.1
  have hk6 := hM.2.2.2.2.1
  first
  | exact hT0
  | (intro h_; exact absurd (hT0 h_).1 h01)
  | (intro h_; have h9 := (hT0 h_).2; omega)
  | exact (looM_n (ma := ma) (A := acM fc ma) (looM_g hM (Or.inl f_1_0_0))).1
  | exact (looM_n (ma := ma) (A := acM fc ma) (looM_g hM (Or.inl f_1_0_0))).2.1
  | exact (looM_n (ma := ma) (A := acM fc ma) (looM_g hM (Or.inl f_1_0_0))).2.2.1
  | exact (looM_n (ma := ma) (A := acM fc ma) (looM_g hM (Or.inl f_1_0_0))).2.2.2
  | exact (looM_n (ma := ma) (A := acM fc ma) (looM_g hM (Or.inr (Or.inl f_5_0_0)))).1
  | exact (looM_n (ma := ma) (A := acM fc ma) (looM_g hM (Or.inr (Or.inl f_5_0_0)))).2.1
  | exact (looM_n (ma := ma) (A := acM fc ma) (looM_g hM (Or.inr (Or.inl f_5_0_0)))).2.2.1
  | exact (looM_n (ma := ma) (A := acM fc ma) (looM_g hM (Or.inr (Or.inl f_5_0_0)))).2.2.2
  | exact (looM_n (ma := ma) (A := acM fc ma) (looM_g hM (Or.inr (Or.inr q_8)))).1
  | exact (looM_n (ma := ma) (A := acM fc ma) (looM_g hM (Or.inr (Or.inr q_8)))).2.1
  | exact (looM_n (ma := ma) (A := acM fc ma) (looM_g hM (Or.inr (Or.inr q_8)))).2.2.1
  | exact (looM_n (ma := ma) (A := acM fc ma) (looM_g hM (Or.inr (Or.inr q_8)))).2.2.2
  | exact (looM_s (ma := ma) (A := acM fc ma) hM hj_1 f_5_1_0 q_8 e_12 c_13).1
  | exact (looM_s (ma := ma) (A := acM fc ma) hM hj_1 f_5_1_0 q_8 e_12 c_13).2.1
  | exact (looM_s (ma := ma) (A := acM fc ma) hM hj_1 f_5_1_0 q_8 e_12 c_13).2.2.1
  | exact (looM_s (ma := ma) (A := acM fc ma) hM hj_1 f_5_1_0 q_8 e_12 c_13).2.2.2
  | exact (looM_d hM hj_1 f_5_1_0 q_8 e_12 c_13 (by assumption) (by assumption) (by assumption) (by assumption) (by assumption)).1
  | exact (looM_d hM hj_1 f_5_1_0 q_8 e_12 c_13 (by assumption) (by assumption) (by assumption) (by assumption) (by assumption)).2.1
  | exact (looM_d hM hj_1 f_5_1_0 q_8 e_12 c_13 (by assumption) (by assumption) (by assumption) (by assumption) (by assumption)).2.2.1
  | exact (looM_d hM hj_1 f_5_1_0 q_8 e_12 c_13 (by assumption) (by assumption) (by assumption) (by assumption) (by assumption)).2.2.2
theorem lf_X8_loose_21 {mt : Int32} {ma : Nat} {fs : Nat → Int32} {w9 : Nat} {k9 : Nat} {h9 : Nat} {fc : Nat → Int32} {a1 : Int32} {j_1 : Nat} {j_8 : Nat} {v_12 : Int32} (hM : okM fs w9 k9 h9) (hT : ¬ mt = 0 → 1 ≤ k9) (h999 : h9 ≤ 999) (hT0 : mt = 0 → fs 0 = 0 ∧ ma = 0) (hac : okA fc ma) (hma : ma ≤ 24) (hj_1 : j_1 < k9) (hkn1 : 1 ≤ k9) (hw1 : 1 ≤ w9) (h01 : ¬ fs 0 = 0) (f_5_1_0 : iC (fs 0) a1) (f_8_1_0 : (¬ (((nI j_8)).toInt64 < 1 ∨ 20 < ((nI j_8)).toInt64))) (q_8 : ¬ ((nI j_8) < 1 ∨ 20 < (nI j_8))) (hj_8 : j_8 ≤ 20) (e_12 : v_12 = fs (26 + j_1)) (c_13 : v_12 = 0) : (mt = 0 → fs 0 = 0 ∧ ma = 0) := by
  have hw6 := hM.2.2.2.1
  have hk6 := hM.2.2.2.2.1
  first
  | exact hT0
  | (intro h_; exact absurd (hT0 h_).1 h01)
  | (intro h_; have h9 := (hT0 h_).2; omega)
  | exact (looM_n (ma := ma) (A := acM fc ma) (looM_g hM (Or.inl f_1_0_0))).1
  | exact (looM_n (ma := ma) (A := acM fc ma) (looM_g hM (Or.inl f_1_0_0))).2.1
  | exact (looM_n (ma := ma) (A := acM fc ma) (looM_g hM (Or.inl f_1_0_0))).2.2.1
  | exact (looM_n (ma := ma) (A := acM fc ma) (looM_g hM (Or.inl f_1_0_0))).2.2.2
  | exact (looM_n (ma := ma) (A := acM fc ma) (looM_g hM (Or.inr (Or.inl f_5_0_0)))).1
  | exact (looM_n (ma := ma) (A := acM fc ma) (looM_g hM (Or.inr (Or.inl f_5_0_0)))).2.1
  | exact (looM_n (ma := ma) (A := acM fc ma) (looM_g hM (Or.inr (Or.inl f_5_0_0)))).2.2.1
  | exact (looM_n (ma := ma) (A := acM fc ma) (looM_g hM (Or.inr (Or.inl f_5_0_0)))).2.2.2
  | exact (looM_n (ma := ma) (A := acM fc ma) (looM_g hM (Or.inr (Or.inr q_8)))).1
  | exact (looM_n (ma := ma) (A := acM fc ma) (looM_g hM (Or.inr (Or.inr q_8)))).2.1
  | exact (looM_n (ma := ma) (A := acM fc ma) (looM_g hM (Or.inr (Or.inr q_8)))).2.2.1
  | exact (looM_n (ma := ma) (A := acM fc ma) (looM_g hM (Or.inr (Or.inr q_8)))).2.2.2
  | exact (looM_s (ma := ma) (A := acM fc ma) hM hj_1 f_5_1_0 q_8 e_12 c_13).1
  | exact (looM_s (ma := ma) (A := acM fc ma) hM hj_1 f_5_1_0 q_8 e_12 c_13).2.1
  | exact (looM_s (ma := ma) (A := acM fc ma) hM hj_1 f_5_1_0 q_8 e_12 c_13).2.2.1
  | exact (looM_s (ma := ma) (A := acM fc ma) hM hj_1 f_5_1_0 q_8 e_12 c_13).2.2.2
  | exact (looM_d hM hj_1 f_5_1_0 q_8 e_12 c_13 (by assumption) (by assumption) (by assumption) (by assumption) (by assumption)).1
  | exact (looM_d hM hj_1 f_5_1_0 q_8 e_12 c_13 (by assumption) (by assumption) (by assumption) (by assumption) (by assumption)).2.1
  | exact (looM_d hM hj_1 f_5_1_0 q_8 e_12 c_13 (by assumption) (by assumption) (by assumption) (by assumption) (by assumption)).2.2.1
  | exact (looM_d hM hj_1 f_5_1_0 q_8 e_12 c_13 (by assumption) (by assumption) (by assumption) (by assumption) (by assumption)).2.2.2
theorem lf_X8_loose_22 {mt : Int32} {ma : Nat} {fs : Nat → Int32} {w9 : Nat} {k9 : Nat} {h9 : Nat} {fc : Nat → Int32} {a1 : Int32} {j_1 : Nat} {j_8 : Nat} {v_12 : Int32} (hM : okM fs w9 k9 h9) (hT : ¬ mt = 0 → 1 ≤ k9) (h999 : h9 ≤ 999) (hT0 : mt = 0 → fs 0 = 0 ∧ ma = 0) (hac : okA fc ma) (hma : ma ≤ 24) (hj_1 : j_1 < k9) (hkn1 : 1 ≤ k9) (hw1 : 1 ≤ w9) (h01 : ¬ fs 0 = 0) (f_5_1_0 : iC (fs 0) a1) (f_8_1_0 : (¬ (((nI j_8)).toInt64 < 1 ∨ 20 < ((nI j_8)).toInt64))) (q_8 : ¬ ((nI j_8) < 1 ∨ 20 < (nI j_8))) (hj_8 : j_8 ≤ 20) (e_12 : v_12 = fs (26 + j_1)) (c_13 : v_12 = 0) : m38 fs = n_loose (m38 fs) (nI j_1) a1 (nI j_8) := by
  have hw6 := hM.2.2.2.1
  have hk6 := hM.2.2.2.2.1
  first
  | exact hT0
  | (intro h_; exact absurd (hT0 h_).1 h01)
  | (intro h_; have h9 := (hT0 h_).2; omega)
  | exact (looM_n (ma := ma) (A := acM fc ma) (looM_g hM (Or.inl f_1_0_0))).1
  | exact (looM_n (ma := ma) (A := acM fc ma) (looM_g hM (Or.inl f_1_0_0))).2.1
  | exact (looM_n (ma := ma) (A := acM fc ma) (looM_g hM (Or.inl f_1_0_0))).2.2.1
  | exact (looM_n (ma := ma) (A := acM fc ma) (looM_g hM (Or.inl f_1_0_0))).2.2.2
  | exact (looM_n (ma := ma) (A := acM fc ma) (looM_g hM (Or.inr (Or.inl f_5_0_0)))).1
  | exact (looM_n (ma := ma) (A := acM fc ma) (looM_g hM (Or.inr (Or.inl f_5_0_0)))).2.1
  | exact (looM_n (ma := ma) (A := acM fc ma) (looM_g hM (Or.inr (Or.inl f_5_0_0)))).2.2.1
  | exact (looM_n (ma := ma) (A := acM fc ma) (looM_g hM (Or.inr (Or.inl f_5_0_0)))).2.2.2
  | exact (looM_n (ma := ma) (A := acM fc ma) (looM_g hM (Or.inr (Or.inr q_8)))).1
  | exact (looM_n (ma := ma) (A := acM fc ma) (looM_g hM (Or.inr (Or.inr q_8)))).2.1
  | exact (looM_n (ma := ma) (A := acM fc ma) (looM_g hM (Or.inr (Or.inr q_8)))).2.2.1
  | exact (looM_n (ma := ma) (A := acM fc ma) (looM_g hM (Or.inr (Or.inr q_8)))).2.2.2
  | exact (looM_s (ma := ma) (A := acM fc ma) hM hj_1 f_5_1_0 q_8 e_12 c_13).1
  | exact (looM_s (ma := ma) (A := acM fc ma) hM hj_1 f_5_1_0 q_8 e_12 c_13).2.1
  | exact (looM_s (ma := ma) (A := acM fc ma) hM hj_1 f_5_1_0 q_8 e_12 c_13).2.2.1
  | exact (looM_s (ma := ma) (A := acM fc ma) hM hj_1 f_5_1_0 q_8 e_12 c_13).2.2.2
  | exact (looM_d hM hj_1 f_5_1_0 q_8 e_12 c_13 (by assumption) (by assumption) (by assumption) (by assumption) (by assumption)).1
  | exact (looM_d hM hj_1 f_5_1_0 q_8 e_12 c_13 (by assumption) (by assumption) (by assumption) (by assumption) (by assumption)).2.1
  | exact (looM_d hM hj_1 f_5_1_0 q_8 e_12 c_13 (by assumption) (by assumption) (by assumption) (by assumption) (by assumption)).2.2.1
  | exact (looM_d hM hj_1 f_5_1_0 q_8 e_12 c_13 (by assumption) (by assumption) (by assumption) (by assumption) (by assumption)).2.2.2
theorem lf_X8_loose_23 {mt : Int32} {ma : Nat} {fs : Nat → Int32} {w9 : Nat} {k9 : Nat} {h9 : Nat} {fc : Nat → Int32} {a1 : Int32} {j_1 : Nat} {j_8 : Nat} {v_12 : Int32} (hM : okM fs w9 k9 h9) (hT : ¬ mt = 0 → 1 ≤ k9) (h999 : h9 ≤ 999) (hT0 : mt = 0 → fs 0 = 0 ∧ ma = 0) (hac : okA fc ma) (hma : ma ≤ 24) (hj_1 : j_1 < k9) (hkn1 : 1 ≤ k9) (hw1 : 1 ≤ w9) (h01 : ¬ fs 0 = 0) (f_5_1_0 : iC (fs 0) a1) (f_8_1_0 : (¬ (((nI j_8)).toInt64 < 1 ∨ 20 < ((nI j_8)).toInt64))) (q_8 : ¬ ((nI j_8) < 1 ∨ 20 < (nI j_8))) (hj_8 : j_8 ≤ 20) (e_12 : v_12 = fs (26 + j_1)) (c_13 : v_12 = 0) : ma = kpN (gd_loose (m38 fs) (nI j_1) a1 (nI j_8)) ma := by
  have hw6 := hM.2.2.2.1
  have hk6 := hM.2.2.2.2.1
  first
  | exact hT0
  | (intro h_; exact absurd (hT0 h_).1 h01)
  | (intro h_; have h9 := (hT0 h_).2; omega)
  | exact (looM_n (ma := ma) (A := acM fc ma) (looM_g hM (Or.inl f_1_0_0))).1
  | exact (looM_n (ma := ma) (A := acM fc ma) (looM_g hM (Or.inl f_1_0_0))).2.1
  | exact (looM_n (ma := ma) (A := acM fc ma) (looM_g hM (Or.inl f_1_0_0))).2.2.1
  | exact (looM_n (ma := ma) (A := acM fc ma) (looM_g hM (Or.inl f_1_0_0))).2.2.2
  | exact (looM_n (ma := ma) (A := acM fc ma) (looM_g hM (Or.inr (Or.inl f_5_0_0)))).1
  | exact (looM_n (ma := ma) (A := acM fc ma) (looM_g hM (Or.inr (Or.inl f_5_0_0)))).2.1
  | exact (looM_n (ma := ma) (A := acM fc ma) (looM_g hM (Or.inr (Or.inl f_5_0_0)))).2.2.1
  | exact (looM_n (ma := ma) (A := acM fc ma) (looM_g hM (Or.inr (Or.inl f_5_0_0)))).2.2.2
  | exact (looM_n (ma := ma) (A := acM fc ma) (looM_g hM (Or.inr (Or.inr q_8)))).1
  | exact (looM_n (ma := ma) (A := acM fc ma) (looM_g hM (Or.inr (Or.inr q_8)))).2.1
  | exact (looM_n (ma := ma) (A := acM fc ma) (looM_g hM (Or.inr (Or.inr q_8)))).2.2.1
  | exact (looM_n (ma := ma) (A := acM fc ma) (looM_g hM (Or.inr (Or.inr q_8)))).2.2.2
  | exact (looM_s (ma := ma) (A := acM fc ma) hM hj_1 f_5_1_0 q_8 e_12 c_13).1
  | exact (looM_s (ma := ma) (A := acM fc ma) hM hj_1 f_5_1_0 q_8 e_12 c_13).2.1
  | exact (looM_s (ma := ma) (A := acM fc ma) hM hj_1 f_5_1_0 q_8 e_12 c_13).2.2.1
  | exact (looM_s (ma := ma) (A := acM fc ma) hM hj_1 f_5_1_0 q_8 e_12 c_13).2.2.2
  | exact (looM_d hM hj_1 f_5_1_0 q_8 e_12 c_13 (by assumption) (by assumption) (by assumption) (by assumption) (by assumption)).1
  | exact (looM_d hM hj_1 f_5_1_0 q_8 e_12 c_13 (by assumption) (by assumption) (by assumption) (by assumption) (by assumption)).2.1
  | exact (looM_d hM hj_1 f_5_1_0 q_8 e_12 c_13 (by assumption) (by assumption) (by assumption) (by assumption) (by assumption)).2.2.1
  | exact (looM_d hM hj_1 f_5_1_0 q_8 e_12 c_13 (by assumption) (by assumption) (by assumption) (by assumption) (by assumption)).2.2.2
theorem lf_X8_loose_24 {mt : Int32} {ma : Nat} {fs : Nat → Int32} {w9 : Nat} {k9 : Nat} {h9 : Nat} {fc : Nat → Int32} {a1 : Int32} {j_1 : Nat} {j_8 : Nat} {v_12 : Int32} (hM : okM fs w9 k9 h9) (hT : ¬ mt = 0 → 1 ≤ k9) (h999 : h9 ≤ 999) (hT0 : mt = 0 → fs 0 = 0 ∧ ma = 0) (hac : okA fc ma) (hma : ma ≤ 24) (hj_1 : j_1 < k9) (hkn1 : 1 ≤ k9) (hw1 : 1 ≤ w9) (h01 : ¬ fs 0 = 0) (f_5_1_0 : iC (fs 0) a1) (f_8_1_0 : (¬ (((nI j_8)).toInt64 < 1 ∨ 20 < ((nI j_8)).toInt64))) (q_8 : ¬ ((nI j_8) < 1 ∨ 20 < (nI j_8))) (hj_8 : j_8 ≤ 20) (e_12 : v_12 = fs (26 + j_1)) (c_13 : v_12 = 0) : acM fc ma = kpA (gd_loose (m38 fs) (nI j_1) a1 (nI j_8)) (m38 fs) ma (acM fc ma) := by
  have hw6 := hM.2.2.2.1
  have hk6 := hM.2.2.2.2.1
  first
  | exact hT0
  | (intro h_; exact absurd (hT0 h_).1 h01)
  | (intro h_; have h9 := (hT0 h_).2; omega)
  | exact (looM_n (ma := ma) (A := acM fc ma) (looM_g hM (Or.inl f_1_0_0))).1
  | exact (looM_n (ma := ma) (A := acM fc ma) (looM_g hM (Or.inl f_1_0_0))).2.1
  | exact (looM_n (ma := ma) (A := acM fc ma) (looM_g hM (Or.inl f_1_0_0))).2.2.1
  | exact (looM_n (ma := ma) (A := acM fc ma) (looM_g hM (Or.inl f_1_0_0))).2.2.2
  | exact (looM_n (ma := ma) (A := acM fc ma) (looM_g hM (Or.inr (Or.inl f_5_0_0)))).1
  | exact (looM_n (ma := ma) (A := acM fc ma) (looM_g hM (Or.inr (Or.inl f_5_0_0)))).2.1
  | exact (looM_n (ma := ma) (A := acM fc ma) (looM_g hM (Or.inr (Or.inl f_5_0_0)))).2.2.1
  | exact (looM_n (ma := ma) (A := acM fc ma) (looM_g hM (Or.inr (Or.inl f_5_0_0)))).2.2.2
  | exact (looM_n (ma := ma) (A := acM fc ma) (looM_g hM (Or.inr (Or.inr q_8)))).1
  | exact (looM_n (ma := ma) (A := acM fc ma) (looM_g hM (Or.inr (Or.inr q_8)))).2.1
  | exact (looM_n (ma := ma) (A := acM fc ma) (looM_g hM (Or.inr (Or.inr q_8)))).2.2.1
  | exact (looM_n (ma := ma) (A := acM fc ma) (looM_g hM (Or.inr (Or.inr q_8)))).2.2.2
  | exact (looM_s (ma := ma) (A := acM fc ma) hM hj_1 f_5_1_0 q_8 e_12 c_13).1
  | exact (looM_s (ma := ma) (A := acM fc ma) hM hj_1 f_5_1_0 q_8 e_12 c_13).2.1
  | exact (looM_s (ma := ma) (A := acM fc ma) hM hj_1 f_5_1_0 q_8 e_12 c_13).2.2.1
  | exact (looM_s (ma := ma) (A := acM fc ma) hM hj_1 f_5_1_0 q_8 e_12 c_13).2.2.2
  | exact (looM_d hM hj_1 f_5_1_0 q_8 e_12 c_13 (by assumption) (by assumption) (by assumption) (by assumption) (by assumption)).1
  | exact (looM_d hM hj_1 f_5_1_0 q_8 e_12 c_13 (by assumption) (by assumption) (by assumption) (by assumption) (by assumption)).2.1
  | exact (looM_d hM hj_1 f_5_1_0 q_8 e_12 c_13 (by assumption) (by assumption) (by assumption) (by assumption) (by assumption)).2.2.1
  | exact (looM_d hM hj_1 f_5_1_0 q_8 e_12 c_13 (by assumption) (by assumption) (by assumption) (by assumption) (by assumption)).2.2.2
theorem lf_X8_loose_25 {mt : Int32} {ma : Nat} {fs : Nat → Int32} {w9 : Nat} {k9 : Nat} {h9 : Nat} {fc : Nat → Int32} {a1 : Int32} {j_1 : Nat} {j_8 : Nat} {v_12 : Int32} (hM : okM fs w9 k9 h9) (hT : ¬ mt = 0 → 1 ≤ k9) (h999 : h9 ≤ 999) (hT0 : mt = 0 → fs 0 = 0 ∧ ma = 0) (hac : okA fc ma) (hma : ma ≤ 24) (hj_1 : j_1 < k9) (hkn1 : 1 ≤ k9) (hw1 : 1 ≤ w9) (h01 : ¬ fs 0 = 0) (f_5_1_0 : iC (fs 0) a1) (f_8_1_0 : (¬ (((nI j_8)).toInt64 < 1 ∨ 20 < ((nI j_8)).toInt64))) (q_8 : ¬ ((nI j_8) < 1 ∨ 20 < (nI j_8))) (hj_8 : j_8 ≤ 20) (e_12 : v_12 = fs (26 + j_1)) (c_13 : v_12 = 0) : (-1000002) = (a_loose (m38 fs) (nI j_1) a1 (nI j_8)) := by
  have hw6 := hM.2.2.2.1
  have hk6 := hM.2.2.2.2.1
  first
  | exact hT0
  | (intro h_; exact absurd (hT0 h_).1 h01)
  | (intro h_; have h9 := (hT0 h_).2; omega)
  | exact (looM_n (ma := ma) (A := acM fc ma) (looM_g hM (Or.inl f_1_0_0))).1
  | exact (looM_n (ma := ma) (A := acM fc ma) (looM_g hM (Or.inl f_1_0_0))).2.1
  | exact (looM_n (ma := ma) (A := acM fc ma) (looM_g hM (Or.inl f_1_0_0))).2.2.1
  | exact (looM_n (ma := ma) (A := acM fc ma) (looM_g hM (Or.inl f_1_0_0))).2.2.2
  | exact (looM_n (ma := ma) (A := acM fc ma) (looM_g hM (Or.inr (Or.inl f_5_0_0)))).1
  | exact (looM_n (ma := ma) (A := acM fc ma) (looM_g hM (Or.inr (Or.inl f_5_0_0)))).2.1
  | exact (looM_n (ma := ma) (A := acM fc ma) (looM_g hM (Or.inr (Or.inl f_5_0_0)))).2.2.1
  | exact (looM_n (ma := ma) (A := acM fc ma) (looM_g hM (Or.inr (Or.inl f_5_0_0)))).2.2.2
  | exact (looM_n (ma := ma) (A := acM fc ma) (looM_g hM (Or.inr (Or.inr q_8)))).1
  | exact (looM_n (ma := ma) (A := acM fc ma) (looM_g hM (Or.inr (Or.inr q_8)))).2.1
  | exact (looM_n (ma := ma) (A := acM fc ma) (looM_g hM (Or.inr (Or.inr q_8)))).2.2.1
  | exact (looM_n (ma := ma) (A := acM fc ma) (looM_g hM (Or.inr (Or.inr q_8)))).2.2.2
  | exact (looM_s (ma := ma) (A := acM fc ma) hM hj_1 f_5_1_0 q_8 e_12 c_13).1
  | exact (looM_s (ma := ma) (A := acM fc ma) hM hj_1 f_5_1_0 q_8 e_12 c_13).2.1
  | exact (looM_s (ma := ma) (A := acM fc ma) hM hj_1 f_5_1_0 q_8 e_12 c_13).2.2.1
  | exact (looM_s (ma := ma) (A := acM fc ma) hM hj_1 f_5_1_0 q_8 e_12 c_13).2.2.2
  | exact (looM_d hM hj_1 f_5_1_0 q_8 e_12 c_13 (by assumption) (by assumption) (by assumption) (by assumption) (by assumption)).1
  | exact (looM_d hM hj_1 f_5_1_0 q_8 e_12 c_13 (by assumption) (by assumption) (by assumption) (by assumption) (by assumption)).2.1
  | exact (looM_d hM hj_1 f_5_1_0 q_8 e_12 c_13 (by assumption) (by assumption) (by assumption) (by assumption) (by assumption)).2.2.1
  | exact (looM_d hM hj_1 f_5_1_0 q_8 e_12 c_13 (by assumption) (by assumption) (by assumption) (by assumption) (by assumption)).2.2.2
set_option maxHeartbeats 4000000 in
set_option maxRecDepth 100000 in
theorem r_X8_loose (l : Launch) (dC : Nat → ClassId) (dI : Nat → Nat → Nat) (cI cZ cL cJ : ClassId) (sz : Nat) (mo : Nat) (m_la : Nat) (m_sz : Nat) (m_it : Nat) (m_st : Nat) (m_mv : Nat) (m_tp : Nat) (m_rd : Nat) (m_ac : Nat) (m_as : Nat) (m_wo : Nat) (m_ik : Nat) (m_ke : Nat) (m_tr : Nat) (ms : Int32) (mt : Int32) (ml : Int32) (mk : Int32) (mv : Int32) (mb : Int32) (mw : Int32) (mz : Nat) (mp : Nat) (ma : Nat) (mx : Nat) (fs : Nat → Int32) (w9 : Nat) (k9 : Nat) (h9 : Nat) (fc : Nat → Int32) (a0 : Int32) (a1 : Int32) (a2 : Int32) (hM : okM fs w9 k9 h9) (hT : ¬ mt = 0 → 1 ≤ k9) (h999 : h9 ≤ 999) (hT0 : mt = 0 → fs 0 = 0 ∧ ma = 0) (hac : okA fc ma) (hma : ma ≤ 24) : Met l yX8_loose wsX8_loose ({ frames := 2, cells := 0, slots := 0, locals := 46 }) (va_Pc [.ref mo, .int a0, .int a1, .int a2] (fun U => U.heap.size = sz ∧ va_P (dC, dI) vwCl [(xo_8_rrriirrriiiiiiirrirrrrri mo m_la m_sz m_it ms mt m_st m_mv m_tp (nI mz) ml (nI mp) mk mv mb mw m_rd m_ac (nI ma) m_as m_wo m_ik m_ke m_tr (nI mx)), (xI m_st cI 38 fs), (xI m_ac cI 912 fc)] U.heap ∧ va_K (dC, dI) vwCl [(cI, .int), (cZ, .boolean), (cL, .object RX3), (cJ, .array .int)] U ∧ va_D (fun _ => True) [(xo_8_rrriirrriiiiiiirrirrrrri mo m_la m_sz m_it ms mt m_st m_mv m_tp (nI mz) ml (nI mp) mk mv mb mw m_rd m_ac (nI ma) m_as m_wo m_ik m_ke m_tr (nI mx)), (xI m_st cI 38 fs), (xI m_ac cI 912 fc)])) (va_Qi (fun r (_ : Unit) => r = (a_loose (m38 fs) a0 a1 a2)) (fun (_ : Unit) t => ∃ (fsn : Nat → Int32) (fcn : Nat → Int32) (man : Nat) (w9n : Nat) (k9n : Nat) (h9n : Nat), va_P (dC, dI) vwCl [(xo_8_rrriirrriiiiiiirrirrrrri mo m_la m_sz m_it ms mt m_st m_mv m_tp (nI mz) ml (nI mp) mk mv mb mw m_rd m_ac (nI man) m_as m_wo m_ik m_ke m_tr (nI mx)), (xI m_st cI 38 fsn), (xI m_ac cI 912 fcn)] t.heap ∧ va_D (va_A [(xo_8_rrriirrriiiiiiirrirrrrri mo m_la m_sz m_it ms mt m_st m_mv m_tp (nI mz) ml (nI mp) mk mv mb mw m_rd m_ac (nI ma) m_as m_wo m_ik m_ke m_tr (nI mx)), (xI m_st cI 38 fs), (xI m_ac cI 912 fc)] sz) [(xo_8_rrriirrriiiiiiirrirrrrri mo m_la m_sz m_it ms mt m_st m_mv m_tp (nI mz) ml (nI mp) mk mv mb mw m_rd m_ac (nI man) m_as m_wo m_ik m_ke m_tr (nI mx)), (xI m_st cI 38 fsn), (xI m_ac cI 912 fcn)] ∧ okM fsn w9n k9n h9n ∧ (¬ mt = 0 → 1 ≤ k9n) ∧ h9n ≤ 999 ∧ okA fcn man ∧ man ≤ 24 ∧ (mt = 0 → fsn 0 = 0 ∧ man = 0) ∧ m38 fsn = n_loose (m38 fs) a0 a1 a2 ∧ man = kpN (gd_loose (m38 fs) a0 a1 a2) ma ∧ acM fcn man = kpA (gd_loose (m38 fs) a0 a1 a2) (m38 fs) ma (acM fc ma)) (va_A [(xo_8_rrriirrriiiiiiirrirrrrri mo m_la m_sz m_it ms mt m_st m_mv m_tp (nI mz) ml (nI mp) mk mv mb mw m_rd m_ac (nI ma) m_as m_wo m_ik m_ke m_tr (nI mx)), (xI m_st cI 38 fs), (xI m_ac cI 912 fc)] sz)) 0 0 (va_A [(xo_8_rrriirrriiiiiiirrirrrrri mo m_la m_sz m_it ms mt m_st m_mv m_tp (nI mz) ml (nI mp) mk mv mb mw m_rd m_ac (nI ma) m_as m_wo m_ik m_ke m_tr (nI mx)), (xI m_st cI 38 fs), (xI m_ac cI 912 fc)] sz) := by
  refine Met.ofW (cc := cX8_loose) (maxL := 4) (ret := (some .int)) (by decide) rfl ?_
  intro p e s m args below meth c s₁ B hml hv
  obtain ⟨rfl, hsz, hP, hK, hD0⟩ := hv
  have hx := B.exec
  have hb := B.bytes
  have hr := B.returns
  have hts := atoms_spec (ws := wsX8_loose) B.pre
  have hown : s.vm.findClass RX8 = some m.cls := findClass_of_methodNamed B.named
  have hlocks := B.notSynchronized
  subst hsz
  have hD := hD0.self (sz := s.heap.size)
  generalize hAe : va_A [(xo_8_rrriirrriiiiiiirrirrrrri mo m_la m_sz m_it ms mt m_st m_mv m_tp (nI mz) ml (nI mp) mk mv mb mw m_rd m_ac (nI ma) m_as m_wo m_ik m_ke m_tr (nI mx)), (xI m_st cI 38 fs), (xI m_ac cI 912 fc)] s.heap.size = A at hD ⊢
  have hA : ∀ q : Nat, s.heap.size ≤ q → A q := fun q h => by rw [← hAe]; exact Or.inr h
  have hS : va_S A s.heap s.heap [] := va_S.rf
  have hP : va_P (dC, dI) vwCl [(xo_8_rrriirrriiiiiiirrirrrrri mo m_la m_sz m_it ms mt m_st m_mv m_tp (nI mz) ml (nI mp) mk mv mb mw m_rd m_ac (nI ma) m_as m_wo m_ik m_ke m_tr (nI mx)), (xI m_st cI 38 fs), (xI m_ac cI 912 fc)] s.heap := hP
  have hl := lv_entry ([.ref mo, .int a0, .int a1, .int a2]) (n := 4) (Nat.le_of_ble_eq_true rfl)
  rw [lg_entry_eq]
  generalize (lg_sl ([.ref mo, .int a0, .int a1, .int a2]) ++ List.replicate (4 - (lg_sl ([.ref mo, .int a0, .int a1, .int a2])).length) Slot.unset).toArray = ls at hl ⊢
  have hl : lv_has ls 4 [(0, .ref mo), (1, .int a0), (2, .int a1), (3, .int a2)] := hl
  have hk6 := hM.2.2.2.2.1
  have hw6 := hM.2.2.2.1
  refine lv_aload_n hx hb dX8_loose_0 rfl (lv_at hl 0 rfl) ?_
  refine lv_iload_n hx hb dX8_loose_1 rfl (lv_at hl 1 rfl) ?_
  have hPc_1 := hP.sub (ws' := [(xo_8_rrriirrriiiiiiirrirrrrri mo m_la m_sz m_it ms mt m_st m_mv m_tp (nI mz) ml (nI mp) mk mv mb mw m_rd m_ac (nI ma) m_as m_wo m_ik m_ke m_tr (nI mx)), (xI m_st cI 38 fs)]) [0, 1] rfl
  refine vp_callSi (W.runV (As := [.int a0]) (rest := []) ⟨hx, hb, hml, hown, hts⟩ (r_X8_isSound l dC dI cI cZ cL cJ mo m_la m_sz m_it m_st m_mv m_tp m_rd m_ac m_as m_wo m_ik m_ke m_tr ms mt ml mk mv mb mw mz mp ma mx fs w9 k9 h9 a0 (hM)) (cwV 1 hts gX8_loose_X8_isSound rfl rfl rfl (by decide +kernel) ⟨Nat.le_of_ble_eq_true rfl, Nat.le_of_ble_eq_true rfl⟩) (pvP 8 0 hK hP rfl rfl hPc_1) rfl rfl hl.1 rfl (lv_room (Nat.le_of_ble_eq_true rfl)) dX8_loose_2 ⟨Nat.le_of_ble_eq_true rfl, Nat.le_of_ble_eq_true rfl⟩) (fun r_1 h_1 => ?_)
  rcases h_1 with ⟨h_1, f_1_0_0⟩ | ⟨h_1, f_1_1_0⟩
  · subst h_1
    refine lv_if_eq (tgt := 28) hx hb dX8_loose_5 (by decide) (fun _ => ?_) (fun c_ => absurd (by decide) c_)
    refine lv_ldc (own := RX8) (v := (-1000001)) hx hb hown (hts _ mx_X8_loose_2) dX8_loose_28 ?_
    have hX9 := cut2 (wc := [(xo_8_rrriirrriiiiiiirrirrrrri mo m_la m_sz m_it ms mt m_st m_mv m_tp (nI mz) ml (nI mp) mk mv mb mw m_rd m_ac (nI ma) m_as m_wo m_ik m_ke m_tr (nI mx)), (xI m_st cI 38 fs), (xI m_ac cI 912 fc)]) hP hD [0, 1, 2] (by decide +kernel) rfl
    exact W.iret (v := (-1000001)) hx hb hr (fun t ht hW => ⟨⟨(-1000001), (), rfl, (lf_X8_loose_5 hM hT h999 hT0 hac hma f_1_0_0), ⟨fs, fc, ma, w9, k9, h9, va_Ht ht hX9.1, hX9.2, hM, hT, (by omega), hac, (by omega), (lf_X8_loose_1 hM hT h999 hT0 hac hma f_1_0_0), (lf_X8_loose_2 hM hT h999 hT0 hac hma f_1_0_0), (lf_X8_loose_3 hM hT h999 hT0 hac hma f_1_0_0), (lf_X8_loose_4 hM hT h999 hT0 hac hma f_1_0_0)⟩⟩, hS.F ht⟩) hS.2.2 dX8_loose_30
  · subst h_1
    obtain ⟨j_1, hj_1, rfl⟩ := vp_in_of f_1_1_0 (by omega)
    have hkn1 : 1 ≤ k9 := by omega
    have hw1 := hM.2.2.2.2.2.1.mp hkn1
    have h01 : ¬ fs 0 = 0 := cell_nz hM hkn1
    refine lv_if_eq (tgt := 28) hx hb dX8_loose_5 (by decide) (fun c_ => absurd c_ (by decide)) (fun _ => ?_)
    refine lv_aload_n hx hb dX8_loose_8 rfl (lv_at hl 0 rfl) ?_
    refine lv_iload_n hx hb dX8_loose_9 rfl (lv_at hl 2 rfl) ?_
    have hPc_5 := hP.sub (ws' := [(xo_8_rrriirrriiiiiiirrirrrrri mo m_la m_sz m_it ms mt m_st m_mv m_tp (nI mz) ml (nI mp) mk mv mb mw m_rd m_ac (nI ma) m_as m_wo m_ik m_ke m_tr (nI mx)), (xI m_st cI 38 fs)]) [0, 1] rfl
    refine vp_callSi (W.runV (As := [.int a1]) (rest := []) ⟨hx, hb, hml, hown, hts⟩ (r_X8_isCell l dC dI cI cZ cL cJ mo m_la m_sz m_it m_st m_mv m_tp m_rd m_ac m_as m_wo m_ik m_ke m_tr ms mt ml mk mv mb mw mz mp ma mx fs w9 k9 h9 a1 (hM)) (cwV 1 hts gX8_loose_X8_isCell rfl rfl rfl (by decide +kernel) ⟨Nat.le_of_ble_eq_true rfl, Nat.le_of_ble_eq_true rfl⟩) (pvP 8 0 hK hP rfl rfl hPc_5) rfl rfl hl.1 rfl (lv_room (Nat.le_of_ble_eq_true rfl)) dX8_loose_10 ⟨Nat.le_of_ble_eq_true rfl, Nat.le_of_ble_eq_true rfl⟩) (fun r_5 h_5 => ?_)
    rcases h_5 with ⟨h_5, f_5_0_0⟩ | ⟨h_5, f_5_1_0⟩
    · subst h_5
      refine lv_if_eq (tgt := 28) hx hb dX8_loose_13 (by decide) (fun _ => ?_) (fun c_ => absurd (by decide) c_)
      refine lv_ldc (own := RX8) (v := (-1000001)) hx hb hown (hts _ mx_X8_loose_2) dX8_loose_28 ?_
      have hX9 := cut2 (wc := [(xo_8_rrriirrriiiiiiirrirrrrri mo m_la m_sz m_it ms mt m_st m_mv m_tp (nI mz) ml (nI mp) mk mv mb mw m_rd m_ac (nI ma) m_as m_wo m_ik m_ke m_tr (nI mx)), (xI m_st cI 38 fs), (xI m_ac cI 912 fc)]) hP hD [0, 1, 2] (by decide +kernel) rfl
      exact W.iret (v := (-1000001)) hx hb hr (fun t ht hW => ⟨⟨(-1000001), (), rfl, (lf_X8_loose_10 hM hT h999 hT0 hac hma hj_1 hkn1 hw1 h01 f_5_0_0), ⟨fs, fc, ma, w9, k9, h9, va_Ht ht hX9.1, hX9.2, hM, hT, (by omega), hac, (by omega), (lf_X8_loose_6 hM hT h999 hT0 hac hma hj_1 hkn1 hw1 h01 f_5_0_0), (lf_X8_loose_7 hM hT h999 hT0 hac hma hj_1 hkn1 hw1 h01 f_5_0_0), (lf_X8_loose_8 hM hT h999 hT0 hac hma hj_1 hkn1 hw1 h01 f_5_0_0), (lf_X8_loose_9 hM hT h999 hT0 hac hma hj_1 hkn1 hw1 h01 f_5_0_0)⟩⟩, hS.F ht⟩) hS.2.2 dX8_loose_30
    · subst h_5
      refine lv_if_eq (tgt := 28) hx hb dX8_loose_13 (by decide) (fun c_ => absurd c_ (by decide)) (fun _ => ?_)
      refine lv_iload_n hx hb dX8_loose_16 rfl (lv_at hl 3 rfl) ?_
      refine lv_i2l hx hb dX8_loose_17 rfl ?_
      refine lv_lconst (v := 1) hx hb dX8_loose_18 (by decide) ?_
      refine lv_ldc2 (own := RX8) (v := 20) hx hb hown (hts _ mx_X8_loose_1) dX8_loose_19 ?_
      have hPc_8 := hP.sub (ws' := []) [] rfl
      refine vp_callSi (W.runS (As := [.long (a2).toInt64, .long 1, .long 20]) (rest := []) ⟨hx, hb, hml, hown, hts⟩ (r_X8_in l dC dI cI cZ cL cJ ((a2).toInt64) 1 20 ) (va_cwS 3 hts gX8_loose_X8_in rfl rfl rfl (by decide +kernel) ⟨Nat.le_of_ble_eq_true rfl, Nat.le_of_ble_eq_true rfl⟩) (psP hK hPc_8) rfl rfl hl.1 rfl (lv_room (Nat.le_of_ble_eq_true rfl)) dX8_loose_22 ⟨Nat.le_of_ble_eq_true rfl, Nat.le_of_ble_eq_true rfl⟩) (fun r_8 h_8 => ?_)
      rcases h_8 with ⟨h_8, f_8_0_0⟩ | ⟨h_8, f_8_1_0⟩
      · subst h_8
        have q_8 : (a2 < 1 ∨ 20 < a2) := (in32 (x := a2) (l := 1) (u := 20) (by decide) (by decide)).mp f_8_0_0
        refine lv_if_ne (tgt := 31) hx hb dX8_loose_25 (by decide) (fun c_ => absurd (by decide) c_) (fun _ => ?_)
        refine lv_ldc (own := RX8) (v := (-1000001)) hx hb hown (hts _ mx_X8_loose_2) dX8_loose_28 ?_
        have hX9 := cut2 (wc := [(xo_8_rrriirrriiiiiiirrirrrrri mo m_la m_sz m_it ms mt m_st m_mv m_tp (nI mz) ml (nI mp) mk mv mb mw m_rd m_ac (nI ma) m_as m_wo m_ik m_ke m_tr (nI mx)), (xI m_st cI 38 fs), (xI m_ac cI 912 fc)]) hP hD [0, 1, 2] (by decide +kernel) rfl
        exact W.iret (v := (-1000001)) hx hb hr (fun t ht hW => ⟨⟨(-1000001), (), rfl, (lf_X8_loose_15 hM hT h999 hT0 hac hma hj_1 hkn1 hw1 h01 f_5_1_0 f_8_0_0 q_8), ⟨fs, fc, ma, w9, k9, h9, va_Ht ht hX9.1, hX9.2, hM, hT, (by omega), hac, (by omega), (lf_X8_loose_11 hM hT h999 hT0 hac hma hj_1 hkn1 hw1 h01 f_5_1_0 f_8_0_0 q_8), (lf_X8_loose_12 hM hT h999 hT0 hac hma hj_1 hkn1 hw1 h01 f_5_1_0 f_8_0_0 q_8), (lf_X8_loose_13 hM hT h999 hT0 hac hma hj_1 hkn1 hw1 h01 f_5_1_0 f_8_0_0 q_8), (lf_X8_loose_14 hM hT h999 hT0 hac hma hj_1 hkn1 hw1 h01 f_5_1_0 f_8_0_0 q_8)⟩⟩, hS.F ht⟩) hS.2.2 dX8_loose_30
      · subst h_8
        have q_8 : ¬ (a2 < 1 ∨ 20 < a2) := fun q_ => f_8_1_0 ((in32 (x := a2) (l := 1) (u := 20) (by decide) (by decide)).mpr q_)
        obtain ⟨j_8, hj_8, hl_8, rfl⟩ := in64 (lo := 1) (n := 20) rfl rfl (by decide) f_8_1_0
        refine lv_if_ne (tgt := 31) hx hb dX8_loose_25 (by decide) (fun _ => ?_) (fun c_ => absurd c_ (by decide))
        refine lv_aload_n hx hb dX8_loose_31 rfl (lv_at hl 0 rfl) ?_
        refine va_get (D := (dC, dI)) (ci := 8) (v := .ref m_st) (C := RX8) (T := TX8) (N := 24) hx hb hts i_X8_loose_X8 hown hK hP 0 rfl rfl 5 (by decide) (hts _ mx_X8_loose_3) (fun _ h9 => h9) rfl dX8_loose_32 ?_
        refine lv_bipush (v := 26) hx hb dX8_loose_35 (by decide) ?_
        refine lv_iload_n hx hb dX8_loose_37 rfl (lv_at hl 1 rfl) ?_
        refine lv_iadd hx hb dX8_loose_38 ?_
        refine lv_topi (fun v_11 e_11 => ?_)
        obtain rfl : v_11 = (nI (26 + j_1)) := (e_11).trans (nI_add 26 j_1)
        refine va_iald hx hb hK hP 1 0 rfl rfl (vp_in_nI (by omega) (by omega)) dX8_loose_39 ?_
        refine lv_topi (fun v_12 e_12 => ?_)
        have e_12 : v_12 = fs (26 + j_1) := e_12.trans (congrArg fs (nI_clamp (by omega)))
        refine lv_if_ne (tgt := 46) hx hb dX8_loose_40 (by decide) (fun c_13 => ?_) (fun c_13 => ?_)
        · skip
          refine lv_aload_n hx hb dX8_loose_46 rfl (lv_at hl 0 rfl) ?_
          have hc_14 := cutW (wc := [(xo_8_rrriirrriiiiiiirrirrrrri mo m_la m_sz m_it ms mt m_st m_mv m_tp (nI mz) ml (nI mp) mk mv mb mw m_rd m_ac (nI ma) m_as m_wo m_ik m_ke m_tr (nI mx)), (xI m_st cI 38 fs), (xI m_ac cI 912 fc)]) hP hD hS hA [0, 1, 2] (by decide +kernel) rfl
          refine va_callv (va_runV (As := []) (rest := []) ⟨hx, hb, hml, hown, hts⟩ (r_X8_note l dC dI cI cZ cL cJ s.heap.size mo m_la m_sz m_it m_st m_mv m_tp m_rd m_ac m_as m_wo m_ik m_ke m_tr ms mt ml mk mv mb mw mz mp ma mx fs fc (hac) (by omega) (⟨w9, k9, h9, hM, hkn1, by omega⟩)) (cwV 0 hts gX8_loose_X8_note rfl rfl rfl (by decide +kernel) ⟨Nat.le_of_ble_eq_true rfl, Nat.le_of_ble_eq_true rfl⟩) (pvW 8 0 hK hP rfl rfl hc_14) rfl rfl hl.1 rfl (lv_room (Nat.le_of_ble_eq_true rfl)) dX8_loose_47 ⟨Nat.le_of_ble_eq_true rfl, Nat.le_of_ble_eq_true rfl⟩) hS (fun q _ h => hc_14.2.2 q h) hc_14.2.2 (fun u_14 t_14 H1 locs ht hvm h_14 hB hz1 hk1 hS => ?_)
          refine xl_2_7 hB (fun fcn_14 man_14 hP1 hD1 hF_14_0 hF_14_1 hF_14_2 hF_14_3 hF_14_4 => ?_)
          clear hB
          rw [ht] at hP1
          obtain ⟨hP, hD⟩ := va_join (wr := []) (w1 := [(xo_8_rrriirrriiiiiiirrirrrrri mo m_la m_sz m_it ms mt m_st m_mv m_tp (nI mz) ml (nI mp) mk mv mb mw m_rd m_ac (nI man_14) m_as m_wo m_ik m_ke m_tr (nI mx)), (xI m_st cI 38 fs), (xI m_ac cI 912 fcn_14)]) hP hD [0, 1, 2] [] rfl rfl (by decide +kernel) (by decide +kernel) hk1 hc_14.2.2 hP1 hD1
          generalize H1 = H at hP hS ⊢
          have hP : va_P (dC, dI) vwCl [(xo_8_rrriirrriiiiiiirrirrrrri mo m_la m_sz m_it ms mt m_st m_mv m_tp (nI mz) ml (nI mp) mk mv mb mw m_rd m_ac (nI man_14) m_as m_wo m_ik m_ke m_tr (nI mx)), (xI m_st cI 38 fs), (xI m_ac cI 912 fcn_14)] H := hP
          have hD := dto hP hD
          refine lv_aload_n hx hb dX8_loose_50 rfl (lv_at hl 0 rfl) ?_
          refine lv_iload_n hx hb dX8_loose_51 rfl (lv_at hl 1 rfl) ?_
          refine lv_iload_n hx hb dX8_loose_52 rfl (lv_at hl 2 rfl) ?_
          refine lv_iload_n hx hb dX8_loose_53 rfl (lv_at hl 3 rfl) ?_
          have hc_15 := cutW (wc := [(xo_8_rrriirrriiiiiiirrirrrrri mo m_la m_sz m_it ms mt m_st m_mv m_tp (nI mz) ml (nI mp) mk mv mb mw m_rd m_ac (nI man_14) m_as m_wo m_ik m_ke m_tr (nI mx)), (xI m_st cI 38 fs)]) hP hD hS hA [0, 1] (by decide +kernel) rfl
          refine va_callv (va_runV (As := [.int (nI j_1), .int a1, .int (nI j_8)]) (rest := []) ⟨hx, hb, hml, hown, hts⟩ (r_X8_letLoose l dC dI cI cZ cL cJ H.size mo m_la m_sz m_it m_st m_mv m_tp m_rd m_ac m_as m_wo m_ik m_ke m_tr ms mt ml mk mv mb mw mz mp man_14 mx fs w9 k9 h9 j_1 j_8 a1 (hM) (by omega) (by omega) (by omega)) (cwV 3 hts gX8_loose_X8_letLoose rfl rfl rfl (by decide +kernel) ⟨Nat.le_of_ble_eq_true rfl, Nat.le_of_ble_eq_true rfl⟩) (pvW 8 0 hK hP rfl rfl hc_15) rfl rfl hl.1 rfl (lv_room (Nat.le_of_ble_eq_true rfl)) dX8_loose_54 ⟨Nat.le_of_ble_eq_true rfl, Nat.le_of_ble_eq_true rfl⟩) hS (fun q _ h => hc_15.2.2 q h) hc_15.2.2 (fun u_15 t_15 H1 locs ht hvm h_15 hB hz1 hk1 hS => ?_)
          refine xl_1_4 hB (fun fsn_15 hP1 hD1 hF_15_0 hF_15_1 => ?_)
          clear hB
          rw [ht] at hP1
          obtain ⟨hP, hD⟩ := va_join (wr := [(xI m_ac cI 912 fcn_14)]) (w1 := [(xo_8_rrriirrriiiiiiirrirrrrri mo m_la m_sz m_it ms mt m_st m_mv m_tp (nI mz) ml (nI mp) mk mv mb mw m_rd m_ac (nI man_14) m_as m_wo m_ik m_ke m_tr (nI mx)), (xI m_st cI 38 fsn_15)]) hP hD [0, 1] [2] rfl rfl (by decide +kernel) (by decide +kernel) hk1 hc_15.2.2 hP1 hD1
          generalize H1 = H at hP hS ⊢
          have hP : va_P (dC, dI) vwCl [(xI m_ac cI 912 fcn_14), (xo_8_rrriirrriiiiiiirrirrrrri mo m_la m_sz m_it ms mt m_st m_mv m_tp (nI mz) ml (nI mp) mk mv mb mw m_rd m_ac (nI man_14) m_as m_wo m_ik m_ke m_tr (nI mx)), (xI m_st cI 38 fsn_15)] H := hP
          have hD := dto hP hD
          refine lv_aload_n hx hb dX8_loose_57 rfl (lv_at hl 0 rfl) ?_
          refine lv_iconst (v := 0) hx hb dX8_loose_58 (by decide) ?_
          have hPc_16 := hP.sub (ws' := [(xo_8_rrriirrriiiiiiirrirrrrri mo m_la m_sz m_it ms mt m_st m_mv m_tp (nI mz) ml (nI mp) mk mv mb mw m_rd m_ac (nI man_14) m_as m_wo m_ik m_ke m_tr (nI mx)), (xI m_st cI 38 fsn_15)]) [1, 2] rfl
          refine vp_callSi (W.runV (As := [.int 0]) (rest := []) ⟨hx, hb, hml, hown, hts⟩ (r_X8_those l dC dI cI cZ cL cJ mo m_la m_sz m_it m_st m_mv m_tp m_rd m_ac m_as m_wo m_ik m_ke m_tr ms mt ml mk mv mb mw mz mp man_14 mx fsn_15 w9 k9 h9 0 (hF_15_0)) (cwV 1 hts gX8_loose_X8_those rfl rfl rfl (by decide +kernel) ⟨Nat.le_of_ble_eq_true rfl, Nat.le_of_ble_eq_true rfl⟩) (pvP 8 1 hK hP rfl rfl hPc_16) rfl rfl hl.1 rfl (lv_room (Nat.le_of_ble_eq_true rfl)) dX8_loose_59 ⟨Nat.le_of_ble_eq_true rfl, Nat.le_of_ble_eq_true rfl⟩) (fun r_16 h_16 => ?_)
          obtain ⟨j_16, rfl, hz_16_0, hz_16_1⟩ := h_16
          have hX9 := cut2 (wc := [(xo_8_rrriirrriiiiiiirrirrrrri mo m_la m_sz m_it ms mt m_st m_mv m_tp (nI mz) ml (nI mp) mk mv mb mw m_rd m_ac (nI man_14) m_as m_wo m_ik m_ke m_tr (nI mx)), (xI m_st cI 38 fsn_15), (xI m_ac cI 912 fcn_14)]) hP hD [1, 2, 0] (by decide +kernel) rfl
          exact W.iret (v := (nI j_16)) hx hb hr (fun t ht hW => ⟨⟨(nI j_16), (), rfl, (lf_X8_loose_20 hM hT h999 hT0 hac hma hj_1 hkn1 hw1 h01 f_5_1_0 f_8_1_0 q_8 hj_8 e_12 c_13 hF_14_0 hF_14_1 hF_14_2 hF_14_3 hF_14_4 hF_15_0 hF_15_1 hz_16_0 hz_16_1), ⟨fsn_15, fcn_14, man_14, w9, k9, h9, va_Ht ht hX9.1, hX9.2, hF_15_0, hT, (by omega), hF_14_0, (by omega), (lf_X8_loose_16 hM hT h999 hT0 hac hma hj_1 hkn1 hw1 h01 f_5_1_0 f_8_1_0 q_8 hj_8 e_12 c_13 hF_14_0 hF_14_1 hF_14_2 hF_14_3 hF_14_4 hF_15_0 hF_15_1 hz_16_0 hz_16_1), (lf_X8_loose_17 hM hT h999 hT0 hac hma hj_1 hkn1 hw1 h01 f_5_1_0 f_8_1_0 q_8 hj_8 e_12 c_13 hF_14_0 hF_14_1 hF_14_2 hF_14_3 hF_14_4 hF_15_0 hF_15_1 hz_16_0 hz_16_1), (lf_X8_loose_18 hM hT h999 hT0 hac hma hj_1 hkn1 hw1 h01 f_5_1_0 f_8_1_0 q_8 hj_8 e_12 c_13 hF_14_0 hF_14_1 hF_14_2 hF_14_3 hF_14_4 hF_15_0 hF_15_1 hz_16_0 hz_16_1), (lf_X8_loose_19 hM hT h999 hT0 hac hma hj_1 hkn1 hw1 h01 f_5_1_0 f_8_1_0 q_8 hj_8 e_12 c_13 hF_14_0 hF_14_1 hF_14_2 hF_14_3 hF_14_4 hF_15_0 hF_15_1 hz_16_0 hz_16_1)⟩⟩, hS.F ht⟩) hS.2.2 dX8_loose_62
        · skip
          refine lv_ldc (own := RX8) (v := (-1000002)) hx hb hown (hts _ mx_X8_loose_4) dX8_loose_43 ?_
          have hX9 := cut2 (wc := [(xo_8_rrriirrriiiiiiirrirrrrri mo m_la m_sz m_it ms mt m_st m_mv m_tp (nI mz) ml (nI mp) mk mv mb mw m_rd m_ac (nI ma) m_as m_wo m_ik m_ke m_tr (nI mx)), (xI m_st cI 38 fs), (xI m_ac cI 912 fc)]) hP hD [0, 1, 2] (by decide +kernel) rfl
          exact W.iret (v := (-1000002)) hx hb hr (fun t ht hW => ⟨⟨(-1000002), (), rfl, (lf_X8_loose_25 hM hT h999 hT0 hac hma hj_1 hkn1 hw1 h01 f_5_1_0 f_8_1_0 q_8 hj_8 e_12 c_13), ⟨fs, fc, ma, w9, k9, h9, va_Ht ht hX9.1, hX9.2, hM, hT, (by omega), hac, (by omega), (lf_X8_loose_21 hM hT h999 hT0 hac hma hj_1 hkn1 hw1 h01 f_5_1_0 f_8_1_0 q_8 hj_8 e_12 c_13), (lf_X8_loose_22 hM hT h999 hT0 hac hma hj_1 hkn1 hw1 h01 f_5_1_0 f_8_1_0 q_8 hj_8 e_12 c_13), (lf_X8_loose_23 hM hT h999 hT0 hac hma hj_1 hkn1 hw1 h01 f_5_1_0 f_8_1_0 q_8 hj_8 e_12 c_13), (lf_X8_loose_24 hM hT h999 hT0 hac hma hj_1 hkn1 hw1 h01 f_5_1_0 f_8_1_0 q_8 hj_8 e_12 c_13)⟩⟩, hS.F ht⟩) hS.2.2 dX8_loose_45
theorem lf_X8_sell_1 {mt : Int32} {ma : Nat} {fs : Nat → Int32} {w9 : Nat} {k9 : Nat} {h9 : Nat} {fc : Nat → Int32} {a0 : Int32} (hM : okM fs w9 k9 h9) (hT : ¬ mt = 0 → 1 ≤ k9) (h999 : h9 ≤ 999) (hT0 : mt = 0 → fs 0 = 0 ∧ ma = 0) (hac : okA fc ma) (hma : ma ≤ 24) (c_1 : ¬ (mt = 0)) (hkn1 : 1 ≤ k9) (hw1 : 1 ≤ w9) (h01 : ¬ fs 0 = 0) (f_2_0_0 : ((a0).toInt64 < 1 ∨ 999 < (a0).toInt64)) (q_2 : (a0 < 1 ∨ 999 < a0)) : (mt = 0 → fs 0 = 0 ∧ ma = 0) := by
  have hw6 := hM.2.2.2.1
  have hk6 := hM.2.2.2.2.1
  first
  | exact hT0
  | (intro h_; exact absurd (hT0 h_).1 h01)
  | (intro h_; have h9 := (hT0 h_).2; omega)
  | exact (selM_0 (ma := ma) (A := acM fc ma) h00).1
  | exact (selM_0 (ma := ma) (A := acM fc ma) h00).2.1
  | exact (selM_0 (ma := ma) (A := acM fc ma) h00).2.2.1
  | exact (selM_0 (ma := ma) (A := acM fc ma) h00).2.2.2
  | exact (selM_1 (ma := ma) (A := acM fc ma) h01 q_2).1
  | exact (selM_1 (ma := ma) (A := acM fc ma) h01 q_2).2.1
  | exact (selM_1 (ma := ma) (A := acM fc ma) h01 q_2).2.2.1
  | exact (selM_1 (ma := ma) (A := acM fc ma) h01 q_2).2.2.2
  | exact (selM_2 (ma := ma) (A := acM fc ma) h01 q_2 e_5 c_6).1
  | exact (selM_2 (ma := ma) (A := acM fc ma) h01 q_2 e_5 c_6).2.1
  | exact (selM_2 (ma := ma) (A := acM fc ma) h01 q_2 e_5 c_6).2.2.1
  | exact (selM_2 (ma := ma) (A := acM fc ma) h01 q_2 e_5 c_6).2.2.2
  | exact (selM_d h01 q_2 e_5 c_6 (by assumption) (by assumption) (by assumption) (by assumption) (by assumption) (by assumption)).1
  | exact (selM_d h01 q_2 e_5 c_6 (by assumption) (by assumption) (by assumption) (by assumption) (by assumption) (by assumption)).2.1
  | exact (selM_d h01 q_2 e_5 c_6 (by assumption) (by assumption) (by assumption) (by assumption) (by assumption) (by assumption)).2.2.1
  | exact (selM_d h01 q_2 e_5 c_6 (by assumption) (by assumption) (by assumption) (by assumption) (by assumption) (by assumption)).2.2.2
theorem lf_X8_sell_2 {mt : Int32} {ma : Nat} {fs : Nat → Int32} {w9 : Nat} {k9 : Nat} {h9 : Nat} {fc : Nat → Int32} {a0 : Int32} (hM : okM fs w9 k9 h9) (hT : ¬ mt = 0 → 1 ≤ k9) (h999 : h9 ≤ 999) (hT0 : mt = 0 → fs 0 = 0 ∧ ma = 0) (hac : okA fc ma) (hma : ma ≤ 24) (c_1 : ¬ (mt = 0)) (hkn1 : 1 ≤ k9) (hw1 : 1 ≤ w9) (h01 : ¬ fs 0 = 0) (f_2_0_0 : ((a0).toInt64 < 1 ∨ 999 < (a0).toInt64)) (q_2 : (a0 < 1 ∨ 999 < a0)) : m38 fs = n_sell (m38 fs) a0 := by
  have hw6 := hM.2.2.2.1
  have hk6 := hM.2.2.2.2.1
  first
  | exact hT0
  | (intro h_; exact absurd (hT0 h_).1 h01)
  | (intro h_; have h9 := (hT0 h_).2; omega)
  | exact (selM_0 (ma := ma) (A := acM fc ma) h00).1
  | exact (selM_0 (ma := ma) (A := acM fc ma) h00).2.1
  | exact (selM_0 (ma := ma) (A := acM fc ma) h00).2.2.1
  | exact (selM_0 (ma := ma) (A := acM fc ma) h00).2.2.2
  | exact (selM_1 (ma := ma) (A := acM fc ma) h01 q_2).1
  | exact (selM_1 (ma := ma) (A := acM fc ma) h01 q_2).2.1
  | exact (selM_1 (ma := ma) (A := acM fc ma) h01 q_2).2.2.1
  | exact (selM_1 (ma := ma) (A := acM fc ma) h01 q_2).2.2.2
  | exact (selM_2 (ma := ma) (A := acM fc ma) h01 q_2 e_5 c_6).1
  | exact (selM_2 (ma := ma) (A := acM fc ma) h01 q_2 e_5 c_6).2.1
  | exact (selM_2 (ma := ma) (A := acM fc ma) h01 q_2 e_5 c_6).2.2.1
  | exact (selM_2 (ma := ma) (A := acM fc ma) h01 q_2 e_5 c_6).2.2.2
  | exact (selM_d h01 q_2 e_5 c_6 (by assumption) (by assumption) (by assumption) (by assumption) (by assumption) (by assumption)).1
  | exact (selM_d h01 q_2 e_5 c_6 (by assumption) (by assumption) (by assumption) (by assumption) (by assumption) (by assumption)).2.1
  | exact (selM_d h01 q_2 e_5 c_6 (by assumption) (by assumption) (by assumption) (by assumption) (by assumption) (by assumption)).2.2.1
  | exact (selM_d h01 q_2 e_5 c_6 (by assumption) (by assumption) (by assumption) (by assumption) (by assumption) (by assumption)).2.2.2
theorem lf_X8_sell_3 {mt : Int32} {ma : Nat} {fs : Nat → Int32} {w9 : Nat} {k9 : Nat} {h9 : Nat} {fc : Nat → Int32} {a0 : Int32} (hM : okM fs w9 k9 h9) (hT : ¬ mt = 0 → 1 ≤ k9) (h999 : h9 ≤ 999) (hT0 : mt = 0 → fs 0 = 0 ∧ ma = 0) (hac : okA fc ma) (hma : ma ≤ 24) (c_1 : ¬ (mt = 0)) (hkn1 : 1 ≤ k9) (hw1 : 1 ≤ w9) (h01 : ¬ fs 0 = 0) (f_2_0_0 : ((a0).toInt64 < 1 ∨ 999 < (a0).toInt64)) (q_2 : (a0 < 1 ∨ 999 < a0)) : ma = kpN (gd_sell (m38 fs) a0) ma := by
  have hw6 := hM.2.2.2.1
  have hk6 := hM.2.2.2.2.1
  first
  | exact hT0
  | (intro h_; exact absurd (hT0 h_).1 h01)
  | (intro h_; have h9 := (hT0 h_).2; omega)
  | exact (selM_0 (ma := ma) (A := acM fc ma) h00).1
  | exact (selM_0 (ma := ma) (A := acM fc ma) h00).2.1
  | exact (selM_0 (ma := ma) (A := acM fc ma) h00).2.2.1
  | exact (selM_0 (ma := ma) (A := acM fc ma) h00).2.2.2
  | exact (selM_1 (ma := ma) (A := acM fc ma) h01 q_2).1
  | exact (selM_1 (ma := ma) (A := acM fc ma) h01 q_2).2.1
  | exact (selM_1 (ma := ma) (A := acM fc ma) h01 q_2).2.2.1
  | exact (selM_1 (ma := ma) (A := acM fc ma) h01 q_2).2.2.2
  | exact (selM_2 (ma := ma) (A := acM fc ma) h01 q_2 e_5 c_6).1
  | exact (selM_2 (ma := ma) (A := acM fc ma) h01 q_2 e_5 c_6).2.1
  | exact (selM_2 (ma := ma) (A := acM fc ma) h01 q_2 e_5 c_6).2.2.1
  | exact (selM_2 (ma := ma) (A := acM fc ma) h01 q_2 e_5 c_6).2.2.2
  | exact (selM_d h01 q_2 e_5 c_6 (by assumption) (by assumption) (by assumption) (by assumption) (by assumption) (by assumption)).1
  | exact (selM_d h01 q_2 e_5 c_6 (by assumption) (by assumption) (by assumption) (by assumption) (by assumption) (by assumption)).2.1
  | exact (selM_d h01 q_2 e_5 c_6 (by assumption) (by assumption) (by assumption) (by assumption) (by assumption) (by assumption)).2.2.1
  | exact (selM_d h01 q_2 e_5 c_6 (by assumption) (by assumption) (by assumption) (by assumption) (by assumption) (by assumption)).2.2.2
theorem lf_X8_sell_4 {mt : Int32} {ma : Nat} {fs : Nat → Int32} {w9 : Nat} {k9 : Nat} {h9 : Nat} {fc : Nat → Int32} {a0 : Int32} (hM : okM fs w9 k9 h9) (hT : ¬ mt = 0 → 1 ≤ k9) (h999 : h9 ≤ 999) (hT0 : mt = 0 → fs 0 = 0 ∧ ma = 0) (hac : okA fc ma) (hma : ma ≤ 24) (c_1 : ¬ (mt = 0)) (hkn1 : 1 ≤ k9) (hw1 : 1 ≤ w9) (h01 : ¬ fs 0 = 0) (f_2_0_0 : ((a0).toInt64 < 1 ∨ 999 < (a0).toInt64)) (q_2 : (a0 < 1 ∨ 999 < a0)) : acM fc ma = kpA (gd_sell (m38 fs) a0) (m38 fs) ma (acM fc ma) := by
  have hw6 := hM.2.2.2.1
  have hk6 := hM.2.2.2.2.1
  first
  | exact hT0
  | (intro h_; exact absurd (hT0 h_).1 h01)
  | (intro h_; have h9 := (hT0 h_).2; omega)
  | exact (selM_0 (ma := ma) (A := acM fc ma) h00).1
  | exact (selM_0 (ma := ma) (A := acM fc ma) h00).2.1
  | exact (selM_0 (ma := ma) (A := acM fc ma) h00).2.2.1
  | exact (selM_0 (ma := ma) (A := acM fc ma) h00).2.2.2
  | exact (selM_1 (ma := ma) (A := acM fc ma) h01 q_2).1
  | exact (selM_1 (ma := ma) (A := acM fc ma) h01 q_2).2.1
  | exact (selM_1 (ma := ma) (A := acM fc ma) h01 q_2).2.2.1
  | exact (selM_1 (ma := ma) (A := acM fc ma) h01 q_2).2.2.2
  | exact (selM_2 (ma := ma) (A := acM fc ma) h01 q_2 e_5 c_6).1
  | exact (selM_2 (ma := ma) (A := acM fc ma) h01 q_2 e_5 c_6).2.1
  | exact (selM_2 (ma := ma) (A := acM fc ma) h01 q_2 e_5 c_6).2.2.1
  | exact (selM_2 (ma := ma) (A := acM fc ma) h01 q_2 e_5 c_6).2.2.2
  | exact (selM_d h01 q_2 e_5 c_6 (by assumption) (by assumption) (by assumption) (by assumption) (by assumption) (by assumption)).1
  | exact (selM_d h01 q_2 e_5 c_6 (by assumption) (by assumption) (by assumption) (by assumption) (by assumption) (by assumption)).2.1
  | exact (selM_d h01 q_2 e_5 c_6 (by assumption) (by assumption) (by assumption) (by assumption) (by assumption) (by assumption)).2.2.1
  | exact (selM_d h01 q_2 e_5 c_6 (by assumption) (by assumption) (by assumption) (by assumption) (by assumption) (by assumption)).2.2.2
theorem lf_X8_sell_5 {mt : Int32} {ma : Nat} {fs : Nat → Int32} {w9 : Nat} {k9 : Nat} {h9 : Nat} {fc : Nat → Int32} {a0 : Int32} (hM : okM fs w9 k9 h9) (hT : ¬ mt = 0 → 1 ≤ k9) (h999 : h9 ≤ 999) (hT0 : mt = 0 → fs 0 = 0 ∧ ma = 0) (hac : okA fc ma) (hma : ma ≤ 24) (c_1 : ¬ (mt = 0)) (hkn1 : 1 ≤ k9) (hw1 : 1 ≤ w9) (h01 : ¬ fs 0 = 0) (f_2_0_0 : ((a0).toInt64 < 1 ∨ 999 < (a0).toInt64)) (q_2 : (a0 < 1 ∨ 999 < a0)) : (-1000001) = (a_sell (m38 fs) a0) := by
  have hw6 := hM.2.2.2.1
  have hk6 := hM.2.2.2.2.1
  first
  | exact hT0
  | (intro h_; exact absurd (hT0 h_).1 h01)
  | (intro h_; have h9 := (hT0 h_).2; omega)
  | exact (selM_0 (ma := ma) (A := acM fc ma) h00).1
  | exact (selM_0 (ma := ma) (A := acM fc ma) h00).2.1
  | exact (selM_0 (ma := ma) (A := acM fc ma) h00).2.2.1
  | exact (selM_0 (ma := ma) (A := acM fc ma) h00).2.2.2
  | exact (selM_1 (ma := ma) (A := acM fc ma) h01 q_2).1
  | exact (selM_1 (ma := ma) (A := acM fc ma) h01 q_2).2.1
  | exact (selM_1 (ma := ma) (A := acM fc ma) h01 q_2).2.2.1
  | exact (selM_1 (ma := ma) (A := acM fc ma) h01 q_2).2.2.2
  | exact (selM_2 (ma := ma) (A := acM fc ma) h01 q_2 e_5 c_6).1
  | exact (selM_2 (ma := ma) (A := acM fc ma) h01 q_2 e_5 c_6).2.1
  | exact (selM_2 (ma := ma) (A := acM fc ma) h01 q_2 e_5 c_6).2.2.1
  | exact (selM_2 (ma := ma) (A := acM fc ma) h01 q_2 e_5 c_6).2.2.2
  | exact (selM_d h01 q_2 e_5 c_6 (by assumption) (by assumption) (by assumption) (by assumption) (by assumption) (by assumption)).1
  | exact (selM_d h01 q_2 e_5 c_6 (by assumption) (by assumption) (by assumption) (by assumption) (by assumption) (by assumption)).2.1
  | exact (selM_d h01 q_2 e_5 c_6 (by assumption) (by assumption) (by assumption) (by assumption) (by assumption) (by assumption)).2.2.1
  | exact (selM_d h01 q_2 e_5 c_6 (by assumption) (by assumption) (by assumption) (by assumption) (by assumption) (by assumption)).2.2.2
theorem lf_X8_sell_6 {mt : Int32} {ma : Nat} {fs : Nat → Int32} {w9 : Nat} {k9 : Nat} {h9 : Nat} {fc : Nat → Int32} {j_2 : Nat} {v_5 : Int32} {fcn_7 : Nat → Int32} {man_7 : Nat} {v_8 : Int32} {v_9 : Int32} {g_10 : Nat → Int32} {v_11 : Int32} (hM : okM fs w9 k9 h9) (hT : ¬ mt = 0 → 1 ≤ k9) (h999 : h9 ≤ 999) (hT0 : mt = 0 → fs 0 = 0 ∧ ma = 0) (hac : okA fc ma) (hma : ma ≤ 24) (c_1 : ¬ (mt = 0)) (hkn1 : 1 ≤ k9) (hw1 : 1 ≤ w9) (h01 : ¬ fs 0 = 0) (f_2_1_0 : (¬ (((nI j_2)).toInt64 < 1 ∨ 999 < ((nI j_2)).toInt64))) (q_2 : ¬ ((nI j_2) < 1 ∨ 999 < (nI j_2))) (hj_2 : j_2 ≤ 999) (e_5 : v_5 = fs 7) (c_6 : (nI j_2) ≤ v_5) (hF_7_0 : okA fcn_7 man_7) (hF_7_1 : man_7 ≤ 24) (hF_7_2 : 1 ≤ man_7) (hF_7_3 : acM fcn_7 man_7 = ntA (m38 fs) ma (acM fc ma)) (hF_7_4 : man_7 = ntN ma) (e_8 : v_8 = fs 7) (e_9 : v_9 = (v_8 - (nI j_2))) (hu_10 : g_10 = upd fs 7 v_9) (e_11 : v_11 = g_10 7) : (mt = 0 → g_10 0 = 0 ∧ man_7 = 0) := by
  have hw6 := hM.2.2.2.1
  have hk6 := hM.2.2.2.2.1
  first
  | exact hT0
  | (intro h_; exact absurd (hT0 h_).1 h01)
  | (intro h_; have h9 := (hT0 h_).2; omega)
  | exact (selM_0 (ma := ma) (A := acM fc ma) h00).1
  | exact (selM_0 (ma := ma) (A := acM fc ma) h00).2.1
  | exact (selM_0 (ma := ma) (A := acM fc ma) h00).2.2.1
  | exact (selM_0 (ma := ma) (A := acM fc ma) h00).2.2.2
  | exact (selM_1 (ma := ma) (A := acM fc ma) h01 q_2).1
  | exact (selM_1 (ma := ma) (A := acM fc ma) h01 q_2).2.1
  | exact (selM_1 (ma := ma) (A := acM fc ma) h01 q_2).2.2.1
  | exact (selM_1 (ma := ma) (A := acM fc ma) h01 q_2).2.2.2
  | exact (selM_2 (ma := ma) (A := acM fc ma) h01 q_2 e_5 c_6).1
  | exact (selM_2 (ma := ma) (A := acM fc ma) h01 q_2 e_5 c_6).2.1
  | exact (selM_2 (ma := ma) (A := acM fc ma) h01 q_2 e_5 c_6).2.2.1
  | exact (selM_2 (ma := ma) (A := acM fc ma) h01 q_2 e_5 c_6).2.2.2
  | exact (selM_d h01 q_2 e_5 c_6 (by assumption) (by assumption) (by assumption) (by assumption) (by assumption) (by assumption)).1
  | exact (selM_d h01 q_2 e_5 c_6 (by assumption) (by assumption) (by assumption) (by assumption) (by assumption) (by assumption)).2.1
  | exact (selM_d h01 q_2 e_5 c_6 (by assumption) (by assumption) (by assumption) (by assumption) (by assumption) (by assumption)).2.2.1
  | exact (selM_d h01 q_2 e_5 c_6 (by assumption) (by assumption) (by assumption) (by assumption) (by assumption) (by assumption)).2.2.2
theorem lf_X8_sell_7 {mt : Int32} {ma : Nat} {fs : Nat → Int32} {w9 : Nat} {k9 : Nat} {h9 : Nat} {fc : Nat → Int32} {j_2 : Nat} {v_5 : Int32} {fcn_7 : Nat → Int32} {man_7 : Nat} {v_8 : Int32} {v_9 : Int32} {g_10 : Nat → Int32} {v_11 : Int32} (hM : okM fs w9 k9 h9) (hT : ¬ mt = 0 → 1 ≤ k9) (h999 : h9 ≤ 999) (hT0 : mt = 0 → fs 0 = 0 ∧ ma = 0) (hac : okA fc ma) (hma : ma ≤ 24) (c_1 : ¬ (mt = 0)) (hkn1 : 1 ≤ k9) (hw1 : 1 ≤ w9) (h01 : ¬ fs 0 = 0) (f_2_1_0 : (¬ (((nI j_2)).toInt64 < 1 ∨ 999 < ((nI j_2)).toInt64))) (q_2 : ¬ ((nI j_2) < 1 ∨ 999 < (nI j_2))) (hj_2 : j_2 ≤ 999) (e_5 : v_5 = fs 7) (c_6 : (nI j_2) ≤ v_5) (hF_7_0 : okA fcn_7 man_7) (hF_7_1 : man_7 ≤ 24) (hF_7_2 : 1 ≤ man_7) (hF_7_3 : acM fcn_7 man_7 = ntA (m38 fs) ma (acM fc ma)) (hF_7_4 : man_7 = ntN ma) (e_8 : v_8 = fs 7) (e_9 : v_9 = (v_8 - (nI j_2))) (hu_10 : g_10 = upd fs 7 v_9) (e_11 : v_11 = g_10 7) : m38 g_10 = n_sell (m38 fs) (nI j_2) := by
  have hw6 := hM.2.2.2.1
  have hk6 := hM.2.2.2.2.1
  first
  | exact hT0
  | (intro h_; exact absurd (hT0 h_).1 h01)
  | (intro h_; have h9 := (hT0 h_).2; omega)
  | exact (selM_0 (ma := ma) (A := acM fc ma) h00).1
  | exact (selM_0 (ma := ma) (A := acM fc ma) h00).2.1
  | exact (selM_0 (ma := ma) (A := acM fc ma) h00).2.2.1
  | exact (selM_0 (ma := ma) (A := acM fc ma) h00).2.2.2
  | exact (selM_1 (ma := ma) (A := acM fc ma) h01 q_2).1
  | exact (selM_1 (ma := ma) (A := acM fc ma) h01 q_2).2.1
  | exact (selM_1 (ma := ma) (A := acM fc ma) h01 q_2).2.2.1
  | exact (selM_1 (ma := ma) (A := acM fc ma) h01 q_2).2.2.2
  | exact (selM_2 (ma := ma) (A := acM fc ma) h01 q_2 e_5 c_6).1
  | exact (selM_2 (ma := ma) (A := acM fc ma) h01 q_2 e_5 c_6).2.1
  | exact (selM_2 (ma := ma) (A := acM fc ma) h01 q_2 e_5 c_6).2.2.1
  | exact (selM_2 (ma := ma) (A := acM fc ma) h01 q_2 e_5 c_6).2.2.2
  | exact (selM_d h01 q_2 e_5 c_6 (by assumption) (by assumption) (by assumption) (by assumption) (by assumption) (by assumption)).1
  | exact (selM_d h01 q_2 e_5 c_6 (by assumption) (by assumption) (by assumption) (by assumption) (by assumption) (by assumption)).2.1
  | exact (selM_d h01 q_2 e_5 c_6 (by assumption) (by assumption) (by assumption) (by assumption) (by assumption) (by assumption)).2.2.1
  | exact (selM_d h01 q_2 e_5 c_6 (by assumption) (by assumption) (by assumption) (by assumption) (by assumption) (by assumption)).2.2.2
theorem lf_X8_sell_8 {mt : Int32} {ma : Nat} {fs : Nat → Int32} {w9 : Nat} {k9 : Nat} {h9 : Nat} {fc : Nat → Int32} {j_2 : Nat} {v_5 : Int32} {fcn_7 : Nat → Int32} {man_7 : Nat} {v_8 : Int32} {v_9 : Int32} {g_10 : Nat → Int32} {v_11 : Int32} (hM : okM fs w9 k9 h9) (hT : ¬ mt = 0 → 1 ≤ k9) (h999 : h9 ≤ 999) (hT0 : mt = 0 → fs 0 = 0 ∧ ma = 0) (hac : okA fc ma) (hma : ma ≤ 24) (c_1 : ¬ (mt = 0)) (hkn1 : 1 ≤ k9) (hw1 : 1 ≤ w9) (h01 : ¬ fs 0 = 0) (f_2_1_0 : (¬ (((nI j_2)).toInt64 < 1 ∨ 999 < ((nI j_2)).toInt64))) (q_2 : ¬ ((nI j_2) < 1 ∨ 999 < (nI j_2))) (hj_2 : j_2 ≤ 999) (e_5 : v_5 = fs 7) (c_6 : (nI j_2) ≤ v_5) (hF_7_0 : okA fcn_7 man_7) (hF_7_1 : man_7 ≤ 24) (hF_7_2 : 1 ≤ man_7) (hF_7_3 : acM fcn_7 man_7 = ntA (m38 fs) ma (acM fc ma)) (hF_7_4 : man_7 = ntN ma) (e_8 : v_8 = fs 7) (e_9 : v_9 = (v_8 - (nI j_2))) (hu_10 : g_10 = upd fs 7 v_9) (e_11 : v_11 = g_10 7) : man_7 = kpN (gd_sell (m38 fs) (nI j_2)) ma := by
  have hw6 := hM.2.2.2.1
  have hk6 := hM.2.2.2.2.1
  first
  | exact hT0
  | (intro h_; exact absurd (hT0 h_).1 h01)
  | (intro h_; have h9 := (hT0 h_).2; omega)
  | exact (selM_0 (ma := ma) (A := acM fc ma) h00).1
  | exact (selM_0 (ma := ma) (A := acM fc ma) h00).2.1
  | exact (selM_0 (ma := ma) (A := acM fc ma) h00).2.2.1
  | exact (selM_0 (ma := ma) (A := acM fc ma) h00).2.2.2
  | exact (selM_1 (ma := ma) (A := acM fc ma) h01 q_2).1
  | exact (selM_1 (ma := ma) (A := acM fc ma) h01 q_2).2.1
  | exact (selM_1 (ma := ma) (A := acM fc ma) h01 q_2).2.2.1
  | exact (selM_1 (ma := ma) (A := acM fc ma) h01 q_2).2.2.2
  | exact (selM_2 (ma := ma) (A := acM fc ma) h01 q_2 e_5 c_6).1
  | exact (selM_2 (ma := ma) (A := acM fc ma) h01 q_2 e_5 c_6).2.1
  | exact (selM_2 (ma := ma) (A := acM fc ma) h01 q_2 e_5 c_6).2.2.1
  | exact (selM_2 (ma := ma) (A := acM fc ma) h01 q_2 e_5 c_6).2.2.2
  | exact (selM_d h01 q_2 e_5 c_6 (by assumption) (by assumption) (by assumption) (by assumption) (by assumption) (by assumption)).1
  | exact (selM_d h01 q_2 e_5 c_6 (by assumption) (by assumption) (by assumption) (by assumption) (by assumption) (by assumption)).2.1
  | exact (selM_d h01 q_2 e_5 c_6 (by assumption) (by assumption) (by assumption) (by assumption) (by assumption) (by assumption)).2.2.1
  | exact (selM_d h01 q_2 e_5 c_6 (by assumption) (by assumption) (by assumption) (by assumption) (by assumption) (by assumption)).2.2.2
theorem lf_X8_sell_9 {mt : Int32} {ma : Nat} {fs : Nat → Int32} {w9 : Nat} {k9 : Nat} {h9 : Nat} {fc : Nat → Int32} {j_2 : Nat} {v_5 : Int32} {fcn_7 : Nat → Int32} {man_7 : Nat} {v_8 : Int32} {v_9 : Int32} {g_10 : Nat → Int32} {v_11 : Int32} (hM : okM fs w9 k9 h9) (hT : ¬ mt = 0 → 1 ≤ k9) (h999 : h9 ≤ 999) (hT0 : mt = 0 → fs 0 = 0 ∧ ma = 0) (hac : okA fc ma) (hma : ma ≤ 24) (c_1 : ¬ (mt = 0)) (hkn1 : 1 ≤ k9) (hw1 : 1 ≤ w9) (h01 : ¬ fs 0 = 0) (f_2_1_0 : (¬ (((nI j_2)).toInt64 < 1 ∨ 999 < ((nI j_2)).toInt64))) (q_2 : ¬ ((nI j_2) < 1 ∨ 999 < (nI j_2))) (hj_2 : j_2 ≤ 999) (e_5 : v_5 = fs 7) (c_6 : (nI j_2) ≤ v_5) (hF_7_0 : okA fcn_7 man_7) (hF_7_1 : man_7 ≤ 24) (hF_7_2 : 1 ≤ man_7) (hF_7_3 : acM fcn_7 man_7 = ntA (m38 fs) ma (acM fc ma)) (hF_7_4 : man_7 = ntN ma) (e_8 : v_8 = fs 7) (e_9 : v_9 = (v_8 - (nI j_2))) (hu_10 : g_10 = upd fs 7 v_9) (e_11 : v_11 = g_10 7) : acM fcn_7 man_7 = kpA (gd_sell (m38 fs) (nI j_2)) (m38 fs) ma (acM fc ma) := by
  have hw6 := hM.2.2.2.1
  have hk6 := hM.2.2.2.2.1
  first
  | exact hT0
  | (intro h_; exact absurd (hT0 h_).1 h01)
  | (intro h_; have h9 := (hT0 h_).2; omega)
  | exact (selM_0 (ma := ma) (A := acM fc ma) h00).1
  | exact (selM_0 (ma := ma) (A := acM fc ma) h00).2.1
  | exact (selM_0 (ma := ma) (A := acM fc ma) h00).2.2.1
  | exact (selM_0 (ma := ma) (A := acM fc ma) h00).2.2.2
  | exact (selM_1 (ma := ma) (A := acM fc ma) h01 q_2).1
  | exact (selM_1 (ma := ma) (A := acM fc ma) h01 q_2).2.1
  | exact (selM_1 (ma := ma) (A := acM fc ma) h01 q_2).2.2.1
  | exact (selM_1 (ma := ma) (A := acM fc ma) h01 q_2).2.2.2
  | exact (selM_2 (ma := ma) (A := acM fc ma) h01 q_2 e_5 c_6).1
  | exact (selM_2 (ma := ma) (A := acM fc ma) h01 q_2 e_5 c_6).2.1
  | exact (selM_2 (ma := ma) (A := acM fc ma) h01 q_2 e_5 c_6).2.2.1
  | exact (selM_2 (ma := ma) (A := acM fc ma) h01 q_2 e_5 c_6).2.2.2
  | exact (selM_d h01 q_2 e_5 c_6 (by assumption) (by assumption) (by assumption) (by assumption) (by assumption) (by assumption)).1
  | exact (selM_d h01 q_2 e_5 c_6 (by assumption) (by assumption) (by assumption) (by assumption) (by assumption) (by assumption)).2.1
  | exact (selM_d h01 q_2 e_5 c_6 (by assumption) (by assumption) (by assumption) (by assumption) (by assumption) (by assumption)).2.2.1
  | exact (selM_d h01 q_2 e_5 c_6 (by assumption) (by assumption) (by assumption) (by assumption) (by assumption) (by assumption)).2.2.2
theorem lf_X8_sell_10 {mt : Int32} {ma : Nat} {fs : Nat → Int32} {w9 : Nat} {k9 : Nat} {h9 : Nat} {fc : Nat → Int32} {j_2 : Nat} {v_5 : Int32} {fcn_7 : Nat → Int32} {man_7 : Nat} {v_8 : Int32} {v_9 : Int32} {g_10 : Nat → Int32} {v_11 : Int32} (hM : okM fs w9 k9 h9) (hT : ¬ mt = 0 → 1 ≤ k9) (h999 : h9 ≤ 999) (hT0 : mt = 0 → fs 0 = 0 ∧ ma = 0) (hac : okA fc ma) (hma : ma ≤ 24) (c_1 : ¬ (mt = 0)) (hkn1 : 1 ≤ k9) (hw1 : 1 ≤ w9) (h01 : ¬ fs 0 = 0) (f_2_1_0 : (¬ (((nI j_2)).toInt64 < 1 ∨ 999 < ((nI j_2)).toInt64))) (q_2 : ¬ ((nI j_2) < 1 ∨ 999 < (nI j_2))) (hj_2 : j_2 ≤ 999) (e_5 : v_5 = fs 7) (c_6 : (nI j_2) ≤ v_5) (hF_7_0 : okA fcn_7 man_7) (hF_7_1 : man_7 ≤ 24) (hF_7_2 : 1 ≤ man_7) (hF_7_3 : acM fcn_7 man_7 = ntA (m38 fs) ma (acM fc ma)) (hF_7_4 : man_7 = ntN ma) (e_8 : v_8 = fs 7) (e_9 : v_9 = (v_8 - (nI j_2))) (hu_10 : g_10 = upd fs 7 v_9) (e_11 : v_11 = g_10 7) : v_11 = (a_sell (m38 fs) (nI j_2)) := by
  have hw6 := hM.2.2.2.1
  have hk6 := hM.2.2.2.2.1
  first
  | exact hT0
  | (intro h_; exact absurd (hT0 h_).1 h01)
  | (intro h_; have h9 := (hT0 h_).2; omega)
  | exact (selM_0 (ma := ma) (A := acM fc ma) h00).1
  | exact (selM_0 (ma := ma) (A := acM fc ma) h00).2.1
  | exact (selM_0 (ma := ma) (A := acM fc ma) h00).2.2.1
  | exact (selM_0 (ma := ma) (A := acM fc ma) h00).2.2.2
  | exact (selM_1 (ma := ma) (A := acM fc ma) h01 q_2).1
  | exact (selM_1 (ma := ma) (A := acM fc ma) h01 q_2).2.1
  | exact (selM_1 (ma := ma) (A := acM fc ma) h01 q_2).2.2.1
  | exact (selM_1 (ma := ma) (A := acM fc ma) h01 q_2).2.2.2
  | exact (selM_2 (ma := ma) (A := acM fc ma) h01 q_2 e_5 c_6).1
  | exact (selM_2 (ma := ma) (A := acM fc ma) h01 q_2 e_5 c_6).2.1
  | exact (selM_2 (ma := ma) (A := acM fc ma) h01 q_2 e_5 c_6).2.2.1
  | exact (selM_2 (ma := ma) (A := acM fc ma) h01 q_2 e_5 c_6).2.2.2
  | exact (selM_d h01 q_2 e_5 c_6 (by assumption) (by assumption) (by assumption) (by assumption) (by assumption) (by assumption)).1
  | exact (selM_d h01 q_2 e_5 c_6 (by assumption) (by assumption) (by assumption) (by assumption) (by assumption) (by assumption)).2.1
  | exact (selM_d h01 q_2 e_5 c_6 (by assumption) (by assumption) (by assumption) (by assumption) (by assumption) (by assumption)).2.2.1
  | exact (selM_d h01 q_2 e_5 c_6 (by assumption) (by assumption) (by assumption) (by assumption) (by assumption) (by assumption)).2.2.2
theorem lf_X8_sell_11 {mt : Int32} {ma : Nat} {fs : Nat → Int32} {w9 : Nat} {k9 : Nat} {h9 : Nat} {fc : Nat → Int32} {j_2 : Nat} {v_5 : Int32} (hM : okM fs w9 k9 h9) (hT : ¬ mt = 0 → 1 ≤ k9) (h999 : h9 ≤ 999) (hT0 : mt = 0 → fs 0 = 0 ∧ ma = 0) (hac : okA fc ma) (hma : ma ≤ 24) (c_1 : ¬ (mt = 0)) (hkn1 : 1 ≤ k9) (hw1 : 1 ≤ w9) (h01 : ¬ fs 0 = 0) (f_2_1_0 : (¬ (((nI j_2)).toInt64 < 1 ∨ 999 < ((nI j_2)).toInt64))) (q_2 : ¬ ((nI j_2) < 1 ∨ 999 < (nI j_2))) (hj_2 : j_2 ≤ 999) (e_5 : v_5 = fs 7) (c_6 : ¬ ((nI j_2) ≤ v_5)) : (mt = 0 → fs 0 = 0 ∧ ma = 0) := by
  have hw6 := hM.2.2.2.1
  have hk6 := hM.2.2.2.2.1
  first
  | exact hT0
  | (intro h_; exact absurd (hT0 h_).1 h01)
  | (intro h_; have h9 := (hT0 h_).2; omega)
  | exact (selM_0 (ma := ma) (A := acM fc ma) h00).1
  | exact (selM_0 (ma := ma) (A := acM fc ma) h00).2.1
  | exact (selM_0 (ma := ma) (A := acM fc ma) h00).2.2.1
  | exact (selM_0 (ma := ma) (A := acM fc ma) h00).2.2.2
  | exact (selM_1 (ma := ma) (A := acM fc ma) h01 q_2).1
  | exact (selM_1 (ma := ma) (A := acM fc ma) h01 q_2).2.1
  | exact (selM_1 (ma := ma) (A := acM fc ma) h01 q_2).2.2.1
  | exact (selM_1 (ma := ma) (A := acM fc ma) h01 q_2).2.2.2
  | exact (selM_2 (ma := ma) (A := acM fc ma) h01 q_2 e_5 c_6).1
  | exact (selM_2 (ma := ma) (A := acM fc ma) h01 q_2 e_5 c_6).2.1
  | exact (selM_2 (ma := ma) (A := acM fc ma) h01 q_2 e_5 c_6).2.2.1
  | exact (selM_2 (ma := ma) (A := acM fc ma) h01 q_2 e_5 c_6).2.2.2
  | exact (selM_d h01 q_2 e_5 c_6 (by assumption) (by assumption) (by assumption) (by assumption) (by assumption) (by assumption)).1
  | exact (selM_d h01 q_2 e_5 c_6 (by assumption) (by assumption) (by assumption) (by assumption) (by assumption) (by assumption)).2.1
  | exact (selM_d h01 q_2 e_5 c_6 (by assumption) (by assumption) (by assumption) (by assumption) (by assumption) (by assumption)).2.2.1
  | exact (selM_d h01 q_2 e_5 c_6 (by assumption) (by assumption) (by assumption) (by assumption) (by assumption) (by assumption)).2.2.2
theorem lf_X8_sell_12 {mt : Int32} {ma : Nat} {fs : Nat → Int32} {w9 : Nat} {k9 : Nat} {h9 : Nat} {fc : Nat → Int32} {j_2 : Nat} {v_5 : Int32} (hM : okM fs w9 k9 h9) (hT : ¬ mt = 0 → 1 ≤ k9) (h999 : h9 ≤ 999) (hT0 : mt = 0 → fs 0 = 0 ∧ ma = 0) (hac : okA fc ma) (hma : ma ≤ 24) (c_1 : ¬ (mt = 0)) (hkn1 : 1 ≤ k9) (hw1 : 1 ≤ w9) (h01 : ¬ fs 0 = 0) (f_2_1_0 : (¬ (((nI j_2)).toInt64 < 1 ∨ 999 < ((nI j_2)).toInt64))) (q_2 : ¬ ((nI j_2) < 1 ∨ 999 < (nI j_2))) (hj_2 : j_2 ≤ 999) (e_5 : v_5 = fs 7) (c_6 : ¬ ((nI j_2) ≤ v_5)) : m38 fs = n_sell (m38 fs) (nI j_2) := by
  have hw6 := hM.2.2.2.1
  have hk6 := hM.2.2.2.2.1
  first
  | exact hT0
  | (intro h_; exact absurd (hT0 h_).1 h01)
  | (intro h_; have h9 := (hT0 h_).2; omega)
  | exact (selM_0 (ma := ma) (A := acM fc ma) h00).1
  | exact (selM_0 (ma := ma) (A := acM fc ma) h00).2.1
  | exact (selM_0 (ma := ma) (A := acM fc ma) h00).2.2.1
  | exact (selM_0 (ma := ma) (A := acM fc ma) h00).2.2.2
  | exact (selM_1 (ma := ma) (A := acM fc ma) h01 q_2).1
  | exact (selM_1 (ma := ma) (A := acM fc ma) h01 q_2).2.1
  | exact (selM_1 (ma := ma) (A := acM fc ma) h01 q_2).2.2.1
  | exact (selM_1 (ma := ma) (A := acM fc ma) h01 q_2).2.2.2
  | exact (selM_2 (ma := ma) (A := acM fc ma) h01 q_2 e_5 c_6).1
  | exact (selM_2 (ma := ma) (A := acM fc ma) h01 q_2 e_5 c_6).2.1
  | exact (selM_2 (ma := ma) (A := acM fc ma) h01 q_2 e_5 c_6).2.2.1
  | exact (selM_2 (ma := ma) (A := acM fc ma) h01 q_2 e_5 c_6).2.2.2
  | exact (selM_d h01 q_2 e_5 c_6 (by assumption) (by assumption) (by assumption) (by assumption) (by assumption) (by assumption)).1
  | exact (selM_d h01 q_2 e_5 c_6 (by assumption) (by assumption) (by assumption) (by assumption) (by assumption) (by assumption)).2.1
  | exact (selM_d h01 q_2 e_5 c_6 (by assumption) (by assumption) (by assumption) (by assumption) (by assumption) (by assumption)).2.2.1
  | exact (selM_d h01 q_2 e_5 c_6 (by assumption) (by assumption) (by assumption) (by assumption) (by assumption) (by assumption)).2.2.2
theorem lf_X8_sell_13 {mt : Int32} {ma : Nat} {fs : Nat → Int32} {w9 : Nat} {k9 : Nat} {h9 : Nat} {fc : Nat → Int32} {j_2 : Nat} {v_5 : Int32} (hM : okM fs w9 k9 h9) (hT : ¬ mt = 0 → 1 ≤ k9) (h999 : h9 ≤ 999) (hT0 : mt = 0 → fs 0 = 0 ∧ ma = 0) (hac : okA fc ma) (hma : ma ≤ 24) (c_1 : ¬ (mt = 0)) (hkn1 : 1 ≤ k9) (hw1 : 1 ≤ w9) (h01 : ¬ fs 0 = 0) (f_2_1_0 : (¬ (((nI j_2)).toInt64 < 1 ∨ 999 < ((nI j_2)).toInt64))) (q_2 : ¬ ((nI j_2) < 1 ∨ 999 < (nI j_2))) (hj_2 : j_2 ≤ 999) (e_5 : v_5 = fs 7) (c_6 : ¬ ((nI j_2) ≤ v_5)) : ma = kpN (gd_sell (m38 fs) (nI j_2)) ma := by
  have hw6 := hM.2.2.2.1
  have hk6 := hM.2.2.2.2.1
  first
  | exact hT0
  | (intro h_; exact absurd (hT0 h_).1 h01)
  | (intro h_; have h9 := (hT0 h_).2; omega)
  | exact (selM_0 (ma := ma) (A := acM fc ma) h00).1
  | exact (selM_0 (ma := ma) (A := acM fc ma) h00).2.1
  | exact (selM_0 (ma := ma) (A := acM fc ma) h00).2.2.1
  | exact (selM_0 (ma := ma) (A := acM fc ma) h00).2.2.2
  | exact (selM_1 (ma := ma) (A := acM fc ma) h01 q_2).1
  | exact (selM_1 (ma := ma) (A := acM fc ma) h01 q_2).2.1
  | exact (selM_1 (ma := ma) (A := acM fc ma) h01 q_2).2.2.1
  | exact (selM_1 (ma := ma) (A := acM fc ma) h01 q_2).2.2.2
  | exact (selM_2 (ma := ma) (A := acM fc ma) h01 q_2 e_5 c_6).1
  | exact (selM_2 (ma := ma) (A := acM fc ma) h01 q_2 e_5 c_6).2.1
  | exact (selM_2 (ma := ma) (A := acM fc ma) h01 q_2 e_5 c_6).2.2.1
  | exact (selM_2 (ma := ma) (A := acM fc ma) h01 q_2 e_5 c_6).2.2.2
  | exact (selM_d h01 q_2 e_5 c_6 (by assumption) (by assumption) (by assumption) (by assumption) (by assumption) (by assumption)).1
  | exact (selM_d h01 q_2 e_5 c_6 (by assumption) (by assumption) (by assumption) (by assumption) (by assumption) (by assumption)).2.1
  | exact (selM_d h01 q_2 e_5 c_6 (by assumption) (by assumption) (by assumption) (by assumption) (by assumption) (by assumption)).2.2.1
  | exact (selM_d h01 q_2 e_5 c_6 (by assumption) (by assumption) (by assumption) (by assumption) (by assumption) (by assumption)).2.2.2
theorem lf_X8_sell_14 {mt : Int32} {ma : Nat} {fs : Nat → Int32} {w9 : Nat} {k9 : Nat} {h9 : Nat} {fc : Nat → Int32} {j_2 : Nat} {v_5 : Int32} (hM : okM fs w9 k9 h9) (hT : ¬ mt = 0 → 1 ≤ k9) (h999 : h9 ≤ 999) (hT0 : mt = 0 → fs 0 = 0 ∧ ma = 0) (hac : okA fc ma) (hma : ma ≤ 24) (c_1 : ¬ (mt = 0)) (hkn1 : 1 ≤ k9) (hw1 : 1 ≤ w9) (h01 : ¬ fs 0 = 0) (f_2_1_0 : (¬ (((nI j_2)).toInt64 < 1 ∨ 999 < ((nI j_2)).toInt64))) (q_2 : ¬ ((nI j_2) < 1 ∨ 999 < (nI j_2))) (hj_2 : j_2 ≤ 999) (e_5 : v_5 = fs 7) (c_6 : ¬ ((nI j_2) ≤ v_5)) : acM fc ma = kpA (gd_sell (m38 fs) (nI j_2)) (m38 fs) ma (acM fc ma) := by
  have hw6 := hM.2.2.2.1
  have hk6 := hM.2.2.2.2.1
  first
  | exact hT0
  | (intro h_; exact absurd (hT0 h_).1 h01)
  | (intro h_; have h9 := (hT0 h_).2; omega)
  | exact (selM_0 (ma := ma) (A := acM fc ma) h00).1
  | exact (selM_0 (ma := ma) (A := acM fc ma) h00).2.1
  | exact (selM_0 (ma := ma) (A := acM fc ma) h00).2.2.1
  | exact (selM_0 (ma := ma) (A := acM fc ma) h00).2.2.2
  | exact (selM_1 (ma := ma) (A := acM fc ma) h01 q_2).1
  | exact (selM_1 (ma := ma) (A := acM fc ma) h01 q_2).2.1
  | exact (selM_1 (ma := ma) (A := acM fc ma) h01 q_2).2.2.1
  | exact (selM_1 (ma := ma) (A := acM fc ma) h01 q_2).2.2.2
  | exact (selM_2 (ma := ma) (A := acM fc ma) h01 q_2 e_5 c_6).1
  | exact (selM_2 (ma := ma) (A := acM fc ma) h01 q_2 e_5 c_6).2.1
  | exact (selM_2 (ma := ma) (A := acM fc ma) h01 q_2 e_5 c_6).2.2.1
  | exact (selM_2 (ma := ma) (A := acM fc ma) h01 q_2 e_5 c_6).2.2.2
  | exact (selM_d h01 q_2 e_5 c_6 (by assumption) (by assumption) (by assumption) (by assumption) (by assumption) (by assumption)).1
  | exact (selM_d h01 q_2 e_5 c_6 (by assumption) (by assumption) (by assumption) (by assumption) (by assumption) (by assumption)).2.1
  | exact (selM_d h01 q_2 e_5 c_6 (by assumption) (by assumption) (by assumption) (by assumption) (by assumption) (by assumption)).2.2.1
  | exact (selM_d h01 q_2 e_5 c_6 (by assumption) (by assumption) (by assumption) (by assumption) (by assumption) (by assumption)).2.2.2
theorem lf_X8_sell_15 {mt : Int32} {ma : Nat} {fs : Nat → Int32} {w9 : Nat} {k9 : Nat} {h9 : Nat} {fc : Nat → Int32} {j_2 : Nat} {v_5 : Int32} (hM : okM fs w9 k9 h9) (hT : ¬ mt = 0 → 1 ≤ k9) (h999 : h9 ≤ 999) (hT0 : mt = 0 → fs 0 = 0 ∧ ma = 0) (hac : okA fc ma) (hma : ma ≤ 24) (c_1 : ¬ (mt = 0)) (hkn1 : 1 ≤ k9) (hw1 : 1 ≤ w9) (h01 : ¬ fs 0 = 0) (f_2_1_0 : (¬ (((nI j_2)).toInt64 < 1 ∨ 999 < ((nI j_2)).toInt64))) (q_2 : ¬ ((nI j_2) < 1 ∨ 999 < (nI j_2))) (hj_2 : j_2 ≤ 999) (e_5 : v_5 = fs 7) (c_6 : ¬ ((nI j_2) ≤ v_5)) : (-1000002) = (a_sell (m38 fs) (nI j_2)) := by
  have hw6 := hM.2.2.2.1
  have hk6 := hM.2.2.2.2.1
  first
  | exact hT0
  | (intro h_; exact absurd (hT0 h_).1 h01)
  | (intro h_; have h9 := (hT0 h_).2; omega)
  | exact (selM_0 (ma := ma) (A := acM fc ma) h00).1
  | exact (selM_0 (ma := ma) (A := acM fc ma) h00).2.1
  | exact (selM_0 (ma := ma) (A := acM fc ma) h00).2.2.1
  | exact (selM_0 (ma := ma) (A := acM fc ma) h00).2.2.2
  | exact (selM_1 (ma := ma) (A := acM fc ma) h01 q_2).1
  | exact (selM_1 (ma := ma) (A := acM fc ma) h01 q_2).2.1
  | exact (selM_1 (ma := ma) (A := acM fc ma) h01 q_2).2.2.1
  | exact (selM_1 (ma := ma) (A := acM fc ma) h01 q_2).2.2.2
  | exact (selM_2 (ma := ma) (A := acM fc ma) h01 q_2 e_5 c_6).1
  | exact (selM_2 (ma := ma) (A := acM fc ma) h01 q_2 e_5 c_6).2.1
  | exact (selM_2 (ma := ma) (A := acM fc ma) h01 q_2 e_5 c_6).2.2.1
  | exact (selM_2 (ma := ma) (A := acM fc ma) h01 q_2 e_5 c_6).2.2.2
  | exact (selM_d h01 q_2 e_5 c_6 (by assumption) (by assumption) (by assumption) (by assumption) (by assumption) (by assumption)).1
  | exact (selM_d h01 q_2 e_5 c_6 (by assumption) (by assumption) (by assumption) (by assumption) (by assumption) (by assumption)).2.1
  | exact (selM_d h01 q_2 e_5 c_6 (by assumption) (by assumption) (by assumption) (by assumption) (by assumption) (by assumption)).2.2.1
  | exact (selM_d h01 q_2 e_5 c_6 (by assumption) (by assumption) (by assumption) (by assumption) (by assumption) (by assumption)).2.2.2
theorem lf_X8_sell_16 {mt : Int32} {ma : Nat} {fs : Nat → Int32} {w9 : Nat} {k9 : Nat} {h9 : Nat} {fc : Nat → Int32} (hM : okM fs w9 k9 h9) (hT : ¬ mt = 0 → 1 ≤ k9) (h999 : h9 ≤ 999) (hT0 : mt = 0 → fs 0 = 0 ∧ ma = 0) (hac : okA fc ma) (hma : ma ≤ 24) (c_1 : mt = 0) (h00 : fs 0 = 0) : (mt = 0 → fs 0 = 0 ∧ ma = 0) := by
  have hw6 := hM.2.2.2.1
  have hk6 := hM.2.2.2.2.1
  first
  | exact hT0
  | (intro h_; exact absurd (hT0 h_).1 h01)
  | (intro h_; have h9 := (hT0 h_).2; omega)
  | exact (selM_0 (ma := ma) (A := acM fc ma) h00).1
  | exact (selM_0 (ma := ma) (A := acM fc ma) h00).2.1
  | exact (selM_0 (ma := ma) (A := acM fc ma) h00).2.2.1
  | exact (selM_0 (ma := ma) (A := acM fc ma) h00).2.2.2
  | exact (selM_1 (ma := ma) (A := acM fc ma) h01 q_2).1
  | exact (selM_1 (ma := ma) (A := acM fc ma) h01 q_2).2.1
  | exact (selM_1 (ma := ma) (A := acM fc ma) h01 q_2).2.2.1
  | exact (selM_1 (ma := ma) (A := acM fc ma) h01 q_2).2.2.2
  | exact (selM_2 (ma := ma) (A := acM fc ma) h01 q_2 e_5 c_6).1
  | exact (selM_2 (ma := ma) (A := acM fc ma) h01 q_2 e_5 c_6).2.1
  | exact (selM_2 (ma := ma) (A := acM fc ma) h01 q_2 e_5 c_6).2.2.1
  | exact (selM_2 (ma := ma) (A := acM fc ma) h01 q_2 e_5 c_6).2.2.2
  | exact (selM_d h01 q_2 e_5 c_6 (by assumption) (by assumption) (by assumption) (by assumption) (by assumption) (by assumption)).1
  | exact (selM_d h01 q_2 e_5 c_6 (by assumption) (by assumption) (by assumption) (by assumption) (by assumption) (by assumption)).2.1
  | exact (selM_d h01 q_2 e_5 c_6 (by assumption) (by assumption) (by assumption) (by assumption) (by assumption) (by assumption)).2.2.1
  | exact (selM_d h01 q_2 e_5 c_6 (by assumption) (by assumption) (by assumption) (by assumption) (by assumption) (by assumption)).2.2.2
theorem lf_X8_sell_17 {mt : Int32} {ma : Nat} {fs : Nat → Int32} {w9 : Nat} {k9 : Nat} {h9 : Nat} {fc : Nat → Int32} {a0 : Int32} (hM : okM fs w9 k9 h9) (hT : ¬ mt = 0 → 1 ≤ k9) (h999 : h9 ≤ 999) (hT0 : mt = 0 → fs 0 = 0 ∧ ma = 0) (hac : okA fc ma) (hma : ma ≤ 24) (c_1 : mt = 0) (h00 : fs 0 = 0) : m38 fs = n_sell (m38 fs) a0 := by
  have hw6 := hM.2.2.2.1
  have hk6 := hM.2.2.2.2.1
  first
  | exact hT0
  | (intro h_; exact absurd (hT0 h_).1 h01)
  | (intro h_; have h9 := (hT0 h_).2; omega)
  | exact (selM_0 (ma := ma) (A := acM fc ma) h00).1
  | exact (selM_0 (ma := ma) (A := acM fc ma) h00).2.1
  | exact (selM_0 (ma := ma) (A := acM fc ma) h00).2.2.1
  | exact (selM_0 (ma := ma) (A := acM fc ma) h00).2.2.2
  | exact (selM_1 (ma := ma) (A := acM fc ma) h01 q_2).1
  | exact (selM_1 (ma := ma) (A := acM fc ma) h01 q_2).2.1
  | exact (selM_1 (ma := ma) (A := acM fc ma) h01 q_2).2.2.1
  | exact (selM_1 (ma := ma) (A := acM fc ma) h01 q_2).2.2.2
  | exact (selM_2 (ma := ma) (A := acM fc ma) h01 q_2 e_5 c_6).1
  | exact (selM_2 (ma := ma) (A := acM fc ma) h01 q_2 e_5 c_6).2.1
  | exact (selM_2 (ma := ma) (A := acM fc ma) h01 q_2 e_5 c_6).2.2.1
  | exact (selM_2 (ma := ma) (A := acM fc ma) h01 q_2 e_5 c_6).2.2.2
  | exact (selM_d h01 q_2 e_5 c_6 (by assumption) (by assumption) (by assumption) (by assumption) (by assumption) (by assumption)).1
  | exact (selM_d h01 q_2 e_5 c_6 (by assumption) (by assumption) (by assumption) (by assumption) (by assumption) (by assumption)).2.1
  | exact (selM_d h01 q_2 e_5 c_6 (by assumption) (by assumption) (by assumption) (by assumption) (by assumption) (by assumption)).2.2.1
  | exact (selM_d h01 q_2 e_5 c_6 (by assumption) (by assumption) (by assumption) (by assumption) (by assumption) (by assumption)).2.2.2
theorem lf_X8_sell_18 {mt : Int32} {ma : Nat} {fs : Nat → Int32} {w9 : Nat} {k9 : Nat} {h9 : Nat} {fc : Nat → Int32} {a0 : Int32} (hM : okM fs w9 k9 h9) (hT : ¬ mt = 0 → 1 ≤ k9) (h999 : h9 ≤ 999) (hT0 : mt = 0 → fs 0 = 0 ∧ ma = 0) (hac : okA fc ma) (hma : ma ≤ 24) (c_1 : mt = 0) (h00 : fs 0 = 0) : ma = kpN (gd_sell (m38 fs) a0) ma := by
  have hw6 := hM.2.2.2.1
  have hk6 := hM.2.2.2.2.1
  first
  | exact hT0
  | (intro h_; exact absurd (hT0 h_).1 h01)
  | (intro h_; have h9 := (hT0 h_).2; omega)
  | exact (selM_0 (ma := ma) (A := acM fc ma) h00).1
  | exact (selM_0 (ma := ma) (A := acM fc ma) h00).2.1
  | exact (selM_0 (ma := ma) (A := acM fc ma) h00).2.2.1
  | exact (selM_0 (ma := ma) (A := acM fc ma) h00).2.2.2
  | exact (selM_1 (ma := ma) (A := acM fc ma) h01 q_2).1
  | exact (selM_1 (ma := ma) (A := acM fc ma) h01 q_2).2.1
  | exact (selM_1 (ma := ma) (A := acM fc ma) h01 q_2).2.2.1
  | exact (selM_1 (ma := ma) (A := acM fc ma) h01 q_2).2.2.2
  | exact (selM_2 (ma := ma) (A := acM fc ma) h01 q_2 e_5 c_6).1
  | exact (selM_2 (ma := ma) (A := acM fc ma) h01 q_2 e_5 c_6).2.1
  | exact (selM_2 (ma := ma) (A := acM fc ma) h01 q_2 e_5 c_6).2.2.1
  | exact (selM_2 (ma := ma) (A := acM fc ma) h01 q_2 e_5 c_6).2.2.2
  | exact (selM_d h01 q_2 e_5 c_6 (by assumption) (by assumption) (by assumption) (by assumption) (by assumption) (by assumption)).1
  | exact (selM_d h01 q_2 e_5 c_6 (by assumption) (by assumption) (by assumption) (by assumption) (by assumption) (by assumption)).2.1
  | exact (selM_d h01 q_2 e_5 c_6 (by assumption) (by assumption) (by assumption) (by assumption) (by assumption) (by assumption)).2.2.1
  | exact (selM_d h01 q_2 e_5 c_6 (by assumption) (by assumption) (by assumption) (by assumption) (by assumption) (by assumption)).2.2.2
theorem lf_X8_sell_19 {mt : Int32} {ma : Nat} {fs : Nat → Int32} {w9 : Nat} {k9 : Nat} {h9 : Nat} {fc : Nat → Int32} {a0 : Int32} (hM : okM fs w9 k9 h9) (hT : ¬ mt = 0 → 1 ≤ k9) (h999 : h9 ≤ 999) (hT0 : mt = 0 → fs 0 = 0 ∧ ma = 0) (hac : okA fc ma) (hma : ma ≤ 24) (c_1 : mt = 0) (h00 : fs 0 = 0) : acM fc ma = kpA (gd_sell (m38 fs) a0) (m38 fs) ma (acM fc ma) := by
  have hw6 := hM.2.2.2.1
  have hk6 := hM.2.2.2.2.1
  first
  | exact hT0
  | (intro h_; exact absurd (hT0 h_).1 h01)
  | (intro h_; have h9 := (hT0 h_).2; omega)
  | exact (selM_0 (ma := ma) (A := acM fc ma) h00).1
  | exact (selM_0 (ma := ma) (A := acM fc ma) h00).2.1
  | exact (selM_0 (ma := ma) (A := acM fc ma) h00).2.2.1
  | exact (selM_0 (ma := ma) (A := acM fc ma) h00).2.2.2
  | exact (selM_1 (ma := ma) (A := acM fc ma) h01 q_2).1
  | exact (selM_1 (ma := ma) (A := acM fc ma) h01 q_2).2.1
  | exact (selM_1 (ma := ma) (A := acM fc ma) h01 q_2).2.2.1
  | exact (selM_1 (ma := ma) (A := acM fc ma) h01 q_2).2.2.2
  | exact (selM_2 (ma := ma) (A := acM fc ma) h01 q_2 e_5 c_6).1
  | exact (selM_2 (ma := ma) (A := acM fc ma) h01 q_2 e_5 c_6).2.1
  | exact (selM_2 (ma := ma) (A := acM fc ma) h01 q_2 e_5 c_6).2.2.1
  | exact (selM_2 (ma := ma) (A := acM fc ma) h01 q_2 e_5 c_6).2.2.2
  | exact (selM_d h01 q_2 e_5 c_6 (by assumption) (by assumption) (by assumption) (by assumption) (by assumption) (by assumption)).1
  | exact (selM_d h01 q_2 e_5 c_6 (by assumption) (by assumption) (by assumption) (by assumption) (by assumption) (by assumption)).2.1
  | exact (selM_d h01 q_2 e_5 c_6 (by assumption) (by assumption) (by assumption) (by assumption) (by assumption) (by assumption)).2.2.1
  | exact (selM_d h01 q_2 e_5 c_6 (by assumption) (by assumption) (by assumption) (by assumption) (by assumption) (by assumption)).2.2.2
theorem lf_X8_sell_20 {mt : Int32} {ma : Nat} {fs : Nat → Int32} {w9 : Nat} {k9 : Nat} {h9 : Nat} {fc : Nat → Int32} {a0 : Int32} (hM : okM fs w9 k9 h9) (hT : ¬ mt = 0 → 1 ≤ k9) (h999 : h9 ≤ 999) (hT0 : mt = 0 → fs 0 = 0 ∧ ma = 0) (hac : okA fc ma) (hma : ma ≤ 24) (c_1 : mt = 0) (h00 : fs 0 = 0) : (-1000002) = (a_sell (m38 fs) a0) := by
  have hw6 := hM.2.2.2.1
  have hk6 := hM.2.2.2.2.1
  first
  | exact hT0
  | (intro h_; exact absurd (hT0 h_).1 h01)
  | (intro h_; have h9 := (hT0 h_).2; omega)
  | exact (selM_0 (ma := ma) (A := acM fc ma) h00).1
  | exact (selM_0 (ma := ma) (A := acM fc ma) h00).2.1
  | exact (selM_0 (ma := ma) (A := acM fc ma) h00).2.2.1
  | exact (selM_0 (ma := ma) (A := acM fc ma) h00).2.2.2
  | exact (selM_1 (ma := ma) (A := acM fc ma) h01 q_2).1
  | exact (selM_1 (ma := ma) (A := acM fc ma) h01 q_2).2.1
  | exact (selM_1 (ma := ma) (A := acM fc ma) h01 q_2).2.2.1
  | exact (selM_1 (ma := ma) (A := acM fc ma) h01 q_2).2.2.2
  | exact (selM_2 (ma := ma) (A := acM fc ma) h01 q_2 e_5 c_6).1
  | exact (selM_2 (ma := ma) (A := acM fc ma) h01 q_2 e_5 c_6).2.1
  | exact (selM_2 (ma := ma) (A := acM fc ma) h01 q_2 e_5 c_6).2.2.1
  | exact (selM_2 (ma := ma) (A := acM fc ma) h01 q_2 e_5 c_6).2.2.2
  | exact (selM_d h01 q_2 e_5 c_6 (by assumption) (by assumption) (by assumption) (by assumption) (by assumption) (by assumption)).1
  | exact (selM_d h01 q_2 e_5 c_6 (by assumption) (by assumption) (by assumption) (by assumption) (by assumption) (by assumption)).2.1
  | exact (selM_d h01 q_2 e_5 c_6 (by assumption) (by assumption) (by assumption) (by assumption) (by assumption) (by assumption)).2.2.1
  | exact (selM_d h01 q_2 e_5 c_6 (by assumption) (by assumption) (by assumption) (by assumption) (by assumption) (by assumption)).2.2.2
set_option maxHeartbeats 4000000 in
set_option maxRecDepth 100000 in
theorem r_X8_sell (l : Launch) (dC : Nat → ClassId) (dI : Nat → Nat → Nat) (cI cZ cL cJ : ClassId) (sz : Nat) (mo : Nat) (m_la : Nat) (m_sz : Nat) (m_it : Nat) (m_st : Nat) (m_mv : Nat) (m_tp : Nat) (m_rd : Nat) (m_ac : Nat) (m_as : Nat) (m_wo : Nat) (m_ik : Nat) (m_ke : Nat) (m_tr : Nat) (ms : Int32) (mt : Int32) (ml : Int32) (mk : Int32) (mv : Int32) (mb : Int32) (mw : Int32) (mz : Nat) (mp : Nat) (ma : Nat) (mx : Nat) (fs : Nat → Int32) (w9 : Nat) (k9 : Nat) (h9 : Nat) (fc : Nat → Int32) (a0 : Int32) (hM : okM fs w9 k9 h9) (hT : ¬ mt = 0 → 1 ≤ k9) (h999 : h9 ≤ 999) (hT0 : mt = 0 → fs 0 = 0 ∧ ma = 0) (hac : okA fc ma) (hma : ma ≤ 24) : Met l yX8_sell wsX8_sell ({ frames := 1, cells := 0, slots := 0, locals := 25 }) (va_Pc [.ref mo, .int a0] (fun U => U.heap.size = sz ∧ va_P (dC, dI) vwCl [(xo_8_rrriirrriiiiiiirrirrrrri mo m_la m_sz m_it ms mt m_st m_mv m_tp (nI mz) ml (nI mp) mk mv mb mw m_rd m_ac (nI ma) m_as m_wo m_ik m_ke m_tr (nI mx)), (xI m_st cI 38 fs), (xI m_ac cI 912 fc)] U.heap ∧ va_K (dC, dI) vwCl [(cI, .int), (cZ, .boolean), (cL, .object RX3), (cJ, .array .int)] U ∧ va_D (fun _ => True) [(xo_8_rrriirrriiiiiiirrirrrrri mo m_la m_sz m_it ms mt m_st m_mv m_tp (nI mz) ml (nI mp) mk mv mb mw m_rd m_ac (nI ma) m_as m_wo m_ik m_ke m_tr (nI mx)), (xI m_st cI 38 fs), (xI m_ac cI 912 fc)])) (va_Qi (fun r (_ : Unit) => r = (a_sell (m38 fs) a0)) (fun (_ : Unit) t => ∃ (fsn : Nat → Int32) (fcn : Nat → Int32) (man : Nat) (w9n : Nat) (k9n : Nat) (h9n : Nat), va_P (dC, dI) vwCl [(xo_8_rrriirrriiiiiiirrirrrrri mo m_la m_sz m_it ms mt m_st m_mv m_tp (nI mz) ml (nI mp) mk mv mb mw m_rd m_ac (nI man) m_as m_wo m_ik m_ke m_tr (nI mx)), (xI m_st cI 38 fsn), (xI m_ac cI 912 fcn)] t.heap ∧ va_D (va_A [(xo_8_rrriirrriiiiiiirrirrrrri mo m_la m_sz m_it ms mt m_st m_mv m_tp (nI mz) ml (nI mp) mk mv mb mw m_rd m_ac (nI ma) m_as m_wo m_ik m_ke m_tr (nI mx)), (xI m_st cI 38 fs), (xI m_ac cI 912 fc)] sz) [(xo_8_rrriirrriiiiiiirrirrrrri mo m_la m_sz m_it ms mt m_st m_mv m_tp (nI mz) ml (nI mp) mk mv mb mw m_rd m_ac (nI man) m_as m_wo m_ik m_ke m_tr (nI mx)), (xI m_st cI 38 fsn), (xI m_ac cI 912 fcn)] ∧ okM fsn w9n k9n h9n ∧ (¬ mt = 0 → 1 ≤ k9n) ∧ h9n ≤ 999 ∧ okA fcn man ∧ man ≤ 24 ∧ (mt = 0 → fsn 0 = 0 ∧ man = 0) ∧ m38 fsn = n_sell (m38 fs) a0 ∧ man = kpN (gd_sell (m38 fs) a0) ma ∧ acM fcn man = kpA (gd_sell (m38 fs) a0) (m38 fs) ma (acM fc ma)) (va_A [(xo_8_rrriirrriiiiiiirrirrrrri mo m_la m_sz m_it ms mt m_st m_mv m_tp (nI mz) ml (nI mp) mk mv mb mw m_rd m_ac (nI ma) m_as m_wo m_ik m_ke m_tr (nI mx)), (xI m_st cI 38 fs), (xI m_ac cI 912 fc)] sz)) 0 0 (va_A [(xo_8_rrriirrriiiiiiirrirrrrri mo m_la m_sz m_it ms mt m_st m_mv m_tp (nI mz) ml (nI mp) mk mv mb mw m_rd m_ac (nI ma) m_as m_wo m_ik m_ke m_tr (nI mx)), (xI m_st cI 38 fs), (xI m_ac cI 912 fc)] sz) := by
  refine Met.ofW (cc := cX8_sell) (maxL := 2) (ret := (some .int)) (by decide) rfl ?_
  intro p e s m args below meth c s₁ B hml hv
  obtain ⟨rfl, hsz, hP, hK, hD0⟩ := hv
  have hx := B.exec
  have hb := B.bytes
  have hr := B.returns
  have hts := atoms_spec (ws := wsX8_sell) B.pre
  have hown : s.vm.findClass RX8 = some m.cls := findClass_of_methodNamed B.named
  have hlocks := B.notSynchronized
  subst hsz
  have hD := hD0.self (sz := s.heap.size)
  generalize hAe : va_A [(xo_8_rrriirrriiiiiiirrirrrrri mo m_la m_sz m_it ms mt m_st m_mv m_tp (nI mz) ml (nI mp) mk mv mb mw m_rd m_ac (nI ma) m_as m_wo m_ik m_ke m_tr (nI mx)), (xI m_st cI 38 fs), (xI m_ac cI 912 fc)] s.heap.size = A at hD ⊢
  have hA : ∀ q : Nat, s.heap.size ≤ q → A q := fun q h => by rw [← hAe]; exact Or.inr h
  have hS : va_S A s.heap s.heap [] := va_S.rf
  have hP : va_P (dC, dI) vwCl [(xo_8_rrriirrriiiiiiirrirrrrri mo m_la m_sz m_it ms mt m_st m_mv m_tp (nI mz) ml (nI mp) mk mv mb mw m_rd m_ac (nI ma) m_as m_wo m_ik m_ke m_tr (nI mx)), (xI m_st cI 38 fs), (xI m_ac cI 912 fc)] s.heap := hP
  have hl := lv_entry ([.ref mo, .int a0]) (n := 2) (Nat.le_of_ble_eq_true rfl)
  rw [lg_entry_eq]
  generalize (lg_sl ([.ref mo, .int a0]) ++ List.replicate (2 - (lg_sl ([.ref mo, .int a0])).length) Slot.unset).toArray = ls at hl ⊢
  have hl : lv_has ls 2 [(0, .ref mo), (1, .int a0)] := hl
  have hk6 := hM.2.2.2.2.1
  have hw6 := hM.2.2.2.1
  refine lv_aload_n hx hb dX8_sell_0 rfl (lv_at hl 0 rfl) ?_
  refine va_get (D := (dC, dI)) (ci := 8) (v := .int mt) (C := RX8) (T := TX8) (N := 24) hx hb hts i_X8_sell_X8 hown hK hP 0 rfl rfl 4 (by decide) (hts _ mx_X8_sell_1) (fun _ h9 => h9) rfl dX8_sell_1 ?_
  refine lv_if_ne (tgt := 10) hx hb dX8_sell_4 (by decide) (fun c_1 => ?_) (fun c_1 => ?_)
  · skip
    have hkn1 := hT c_1
    have hw1 := hM.2.2.2.2.2.1.mp hkn1
    have h01 : ¬ fs 0 = 0 := cell_nz hM hkn1
    refine lv_iload_n hx hb dX8_sell_10 rfl (lv_at hl 1 rfl) ?_
    refine lv_i2l hx hb dX8_sell_11 rfl ?_
    refine lv_lconst (v := 1) hx hb dX8_sell_12 (by decide) ?_
    refine lv_ldc2 (own := RX8) (v := 999) hx hb hown (hts _ mx_X8_sell_3) dX8_sell_13 ?_
    have hPc_2 := hP.sub (ws' := []) [] rfl
    refine vp_callSi (W.runS (As := [.long (a0).toInt64, .long 1, .long 999]) (rest := []) ⟨hx, hb, hml, hown, hts⟩ (r_X8_in l dC dI cI cZ cL cJ ((a0).toInt64) 1 999 ) (va_cwS 3 hts gX8_sell_X8_in rfl rfl rfl (by decide +kernel) ⟨Nat.le_of_ble_eq_true rfl, Nat.le_of_ble_eq_true rfl⟩) (psP hK hPc_2) rfl rfl hl.1 rfl (lv_room (Nat.le_of_ble_eq_true rfl)) dX8_sell_16 ⟨Nat.le_of_ble_eq_true rfl, Nat.le_of_ble_eq_true rfl⟩) (fun r_2 h_2 => ?_)
    rcases h_2 with ⟨h_2, f_2_0_0⟩ | ⟨h_2, f_2_1_0⟩
    · subst h_2
      have q_2 : (a0 < 1 ∨ 999 < a0) := (in32 (x := a0) (l := 1) (u := 999) (by decide) (by decide)).mp f_2_0_0
      refine lv_if_ne (tgt := 25) hx hb dX8_sell_19 (by decide) (fun c_ => absurd (by decide) c_) (fun _ => ?_)
      refine lv_ldc (own := RX8) (v := (-1000001)) hx hb hown (hts _ mx_X8_sell_4) dX8_sell_22 ?_
      have hX9 := cut2 (wc := [(xo_8_rrriirrriiiiiiirrirrrrri mo m_la m_sz m_it ms mt m_st m_mv m_tp (nI mz) ml (nI mp) mk mv mb mw m_rd m_ac (nI ma) m_as m_wo m_ik m_ke m_tr (nI mx)), (xI m_st cI 38 fs), (xI m_ac cI 912 fc)]) hP hD [0, 1, 2] (by decide +kernel) rfl
      exact W.iret (v := (-1000001)) hx hb hr (fun t ht hW => ⟨⟨(-1000001), (), rfl, (lf_X8_sell_5 hM hT h999 hT0 hac hma c_1 hkn1 hw1 h01 f_2_0_0 q_2), ⟨fs, fc, ma, w9, k9, h9, va_Ht ht hX9.1, hX9.2, hM, hT, (by omega), hac, (by omega), (lf_X8_sell_1 hM hT h999 hT0 hac hma c_1 hkn1 hw1 h01 f_2_0_0 q_2), (lf_X8_sell_2 hM hT h999 hT0 hac hma c_1 hkn1 hw1 h01 f_2_0_0 q_2), (lf_X8_sell_3 hM hT h999 hT0 hac hma c_1 hkn1 hw1 h01 f_2_0_0 q_2), (lf_X8_sell_4 hM hT h999 hT0 hac hma c_1 hkn1 hw1 h01 f_2_0_0 q_2)⟩⟩, hS.F ht⟩) hS.2.2 dX8_sell_24
    · subst h_2
      have q_2 : ¬ (a0 < 1 ∨ 999 < a0) := fun q_ => f_2_1_0 ((in32 (x := a0) (l := 1) (u := 999) (by decide) (by decide)).mpr q_)
      obtain ⟨j_2, hj_2, hl_2, rfl⟩ := in64 (lo := 1) (n := 999) rfl rfl (by decide) f_2_1_0
      refine lv_if_ne (tgt := 25) hx hb dX8_sell_19 (by decide) (fun _ => ?_) (fun c_ => absurd c_ (by decide))
      refine lv_aload_n hx hb dX8_sell_25 rfl (lv_at hl 0 rfl) ?_
      refine va_get (D := (dC, dI)) (ci := 8) (v := .ref m_st) (C := RX8) (T := TX8) (N := 24) hx hb hts i_X8_sell_X8 hown hK hP 0 rfl rfl 5 (by decide) (hts _ mx_X8_sell_5) (fun _ h9 => h9) rfl dX8_sell_26 ?_
      refine lv_bipush (v := 7) hx hb dX8_sell_29 (by decide) ?_
      refine va_iald hx hb hK hP 1 0 rfl rfl (by unfold vp_in; decide) dX8_sell_31 ?_
      refine lv_topi (fun v_5 e_5 => ?_)
      have e_5 : v_5 = fs 7 := e_5
      refine lv_iload_n hx hb dX8_sell_32 rfl (lv_at hl 1 rfl) ?_
      refine lv_icmp_ge (tgt := 39) hx hb dX8_sell_33 (by decide) (fun c_6 => ?_) (fun c_6 => ?_)
      · skip
        refine lv_aload_n hx hb dX8_sell_39 rfl (lv_at hl 0 rfl) ?_
        have hc_7 := cutW (wc := [(xo_8_rrriirrriiiiiiirrirrrrri mo m_la m_sz m_it ms mt m_st m_mv m_tp (nI mz) ml (nI mp) mk mv mb mw m_rd m_ac (nI ma) m_as m_wo m_ik m_ke m_tr (nI mx)), (xI m_st cI 38 fs), (xI m_ac cI 912 fc)]) hP hD hS hA [0, 1, 2] (by decide +kernel) rfl
        refine va_callv (va_runV (As := []) (rest := []) ⟨hx, hb, hml, hown, hts⟩ (r_X8_note l dC dI cI cZ cL cJ s.heap.size mo m_la m_sz m_it m_st m_mv m_tp m_rd m_ac m_as m_wo m_ik m_ke m_tr ms mt ml mk mv mb mw mz mp ma mx fs fc (hac) (by omega) (⟨w9, k9, h9, hM, hkn1, by omega⟩)) (cwV 0 hts gX8_sell_X8_note rfl rfl rfl (by decide +kernel) ⟨Nat.le_of_ble_eq_true rfl, Nat.le_of_ble_eq_true rfl⟩) (pvW 8 0 hK hP rfl rfl hc_7) rfl rfl hl.1 rfl (lv_room (Nat.le_of_ble_eq_true rfl)) dX8_sell_40 ⟨Nat.le_of_ble_eq_true rfl, Nat.le_of_ble_eq_true rfl⟩) hS (fun q _ h => hc_7.2.2 q h) hc_7.2.2 (fun u_7 t_7 H1 locs ht hvm h_7 hB hz1 hk1 hS => ?_)
        refine xl_2_7 hB (fun fcn_7 man_7 hP1 hD1 hF_7_0 hF_7_1 hF_7_2 hF_7_3 hF_7_4 => ?_)
        clear hB
        rw [ht] at hP1
        obtain ⟨hP, hD⟩ := va_join (wr := []) (w1 := [(xo_8_rrriirrriiiiiiirrirrrrri mo m_la m_sz m_it ms mt m_st m_mv m_tp (nI mz) ml (nI mp) mk mv mb mw m_rd m_ac (nI man_7) m_as m_wo m_ik m_ke m_tr (nI mx)), (xI m_st cI 38 fs), (xI m_ac cI 912 fcn_7)]) hP hD [0, 1, 2] [] rfl rfl (by decide +kernel) (by decide +kernel) hk1 hc_7.2.2 hP1 hD1
        generalize H1 = H at hP hS ⊢
        have hP : va_P (dC, dI) vwCl [(xo_8_rrriirrriiiiiiirrirrrrri mo m_la m_sz m_it ms mt m_st m_mv m_tp (nI mz) ml (nI mp) mk mv mb mw m_rd m_ac (nI man_7) m_as m_wo m_ik m_ke m_tr (nI mx)), (xI m_st cI 38 fs), (xI m_ac cI 912 fcn_7)] H := hP
        have hD := dto hP hD
        refine lv_aload_n hx hb dX8_sell_43 rfl (lv_at hl 0 rfl) ?_
        refine va_get (D := (dC, dI)) (ci := 8) (v := .ref m_st) (C := RX8) (T := TX8) (N := 24) hx hb hts i_X8_sell_X8 hown hK hP 0 rfl rfl 5 (by decide) (hts _ mx_X8_sell_5) (fun _ h9 => h9) rfl dX8_sell_44 ?_
        refine lv_bipush (v := 7) hx hb dX8_sell_47 (by decide) ?_
        refine lv_dup2_11 hx hb dX8_sell_49 rfl rfl ?_
        refine va_iald hx hb hK hP 1 0 rfl rfl (by unfold vp_in; decide) dX8_sell_50 ?_
        refine lv_topi (fun v_8 e_8 => ?_)
        have e_8 : v_8 = fs 7 := e_8
        refine lv_iload_n hx hb dX8_sell_51 rfl (lv_at hl 1 rfl) ?_
        refine lv_isub hx hb dX8_sell_52 ?_
        refine lv_topi (fun v_9 e_9 => ?_)
        refine va_iast hx hb hK hP hD hS 1 0 rfl rfl (by unfold vp_in; decide) dX8_sell_53 (fun H locs hP hD hS => ?_)
        generalize hg_10 : upd fs (7 : Int32).toNatClampNeg v_9 = g_10 at hP hD
        have hu_10 : g_10 = upd fs 7 v_9 := hg_10.symm
        have hM_10 : okM g_10 w9 k9 h9 := okM_off (i := 7) hM hg_10 (by omega) (by omega) (by omega) (by omega) (by omega)
        have hP : va_P (dC, dI) vwCl [(xo_8_rrriirrriiiiiiirrirrrrri mo m_la m_sz m_it ms mt m_st m_mv m_tp (nI mz) ml (nI mp) mk mv mb mw m_rd m_ac (nI man_7) m_as m_wo m_ik m_ke m_tr (nI mx)), (xI m_st cI 38 g_10), (xI m_ac cI 912 fcn_7)] H := hP
        have hD := dto hP hD
        refine lv_aload_n hx hb dX8_sell_54 rfl (lv_at hl 0 rfl) ?_
        refine va_get (D := (dC, dI)) (ci := 8) (v := .ref m_st) (C := RX8) (T := TX8) (N := 24) hx hb hts i_X8_sell_X8 hown hK hP 0 rfl rfl 5 (by decide) (hts _ mx_X8_sell_5) (fun _ h9 => h9) rfl dX8_sell_55 ?_
        refine lv_bipush (v := 7) hx hb dX8_sell_58 (by decide) ?_
        refine va_iald hx hb hK hP 1 0 rfl rfl (by unfold vp_in; decide) dX8_sell_60 ?_
        refine lv_topi (fun v_11 e_11 => ?_)
        have e_11 : v_11 = g_10 7 := e_11
        have hX9 := cut2 (wc := [(xo_8_rrriirrriiiiiiirrirrrrri mo m_la m_sz m_it ms mt m_st m_mv m_tp (nI mz) ml (nI mp) mk mv mb mw m_rd m_ac (nI man_7) m_as m_wo m_ik m_ke m_tr (nI mx)), (xI m_st cI 38 g_10), (xI m_ac cI 912 fcn_7)]) hP hD [0, 1, 2] (by decide +kernel) rfl
        exact W.iret (v := v_11) hx hb hr (fun t ht hW => ⟨⟨v_11, (), rfl, (lf_X8_sell_10 hM hT h999 hT0 hac hma c_1 hkn1 hw1 h01 f_2_1_0 q_2 hj_2 e_5 c_6 hF_7_0 hF_7_1 hF_7_2 hF_7_3 hF_7_4 e_8 e_9 hu_10 e_11), ⟨g_10, fcn_7, man_7, w9, k9, h9, va_Ht ht hX9.1, hX9.2, hM_10, hT, (by omega), hF_7_0, (by omega), (lf_X8_sell_6 hM hT h999 hT0 hac hma c_1 hkn1 hw1 h01 f_2_1_0 q_2 hj_2 e_5 c_6 hF_7_0 hF_7_1 hF_7_2 hF_7_3 hF_7_4 e_8 e_9 hu_10 e_11), (lf_X8_sell_7 hM hT h999 hT0 hac hma c_1 hkn1 hw1 h01 f_2_1_0 q_2 hj_2 e_5 c_6 hF_7_0 hF_7_1 hF_7_2 hF_7_3 hF_7_4 e_8 e_9 hu_10 e_11), (lf_X8_sell_8 hM hT h999 hT0 hac hma c_1 hkn1 hw1 h01 f_2_1_0 q_2 hj_2 e_5 c_6 hF_7_0 hF_7_1 hF_7_2 hF_7_3 hF_7_4 e_8 e_9 hu_10 e_11), (lf_X8_sell_9 hM hT h999 hT0 hac hma c_1 hkn1 hw1 h01 f_2_1_0 q_2 hj_2 e_5 c_6 hF_7_0 hF_7_1 hF_7_2 hF_7_3 hF_7_4 e_8 e_9 hu_10 e_11)⟩⟩, hS.F ht⟩) hS.2.2 dX8_sell_61
      · skip
        refine lv_ldc (own := RX8) (v := (-1000002)) hx hb hown (hts _ mx_X8_sell_2) dX8_sell_36 ?_
        have hX9 := cut2 (wc := [(xo_8_rrriirrriiiiiiirrirrrrri mo m_la m_sz m_it ms mt m_st m_mv m_tp (nI mz) ml (nI mp) mk mv mb mw m_rd m_ac (nI ma) m_as m_wo m_ik m_ke m_tr (nI mx)), (xI m_st cI 38 fs), (xI m_ac cI 912 fc)]) hP hD [0, 1, 2] (by decide +kernel) rfl
        exact W.iret (v := (-1000002)) hx hb hr (fun t ht hW => ⟨⟨(-1000002), (), rfl, (lf_X8_sell_15 hM hT h999 hT0 hac hma c_1 hkn1 hw1 h01 f_2_1_0 q_2 hj_2 e_5 c_6), ⟨fs, fc, ma, w9, k9, h9, va_Ht ht hX9.1, hX9.2, hM, hT, (by omega), hac, (by omega), (lf_X8_sell_11 hM hT h999 hT0 hac hma c_1 hkn1 hw1 h01 f_2_1_0 q_2 hj_2 e_5 c_6), (lf_X8_sell_12 hM hT h999 hT0 hac hma c_1 hkn1 hw1 h01 f_2_1_0 q_2 hj_2 e_5 c_6), (lf_X8_sell_13 hM hT h999 hT0 hac hma c_1 hkn1 hw1 h01 f_2_1_0 q_2 hj_2 e_5 c_6), (lf_X8_sell_14 hM hT h999 hT0 hac hma c_1 hkn1 hw1 h01 f_2_1_0 q_2 hj_2 e_5 c_6)⟩⟩, hS.F ht⟩) hS.2.2 dX8_sell_38
  · skip
    have h00 : fs 0 = 0 := (hT0 c_1).1
    refine lv_ldc (own := RX8) (v := (-1000002)) hx hb hown (hts _ mx_X8_sell_2) dX8_sell_7 ?_
    have hX9 := cut2 (wc := [(xo_8_rrriirrriiiiiiirrirrrrri mo m_la m_sz m_it ms mt m_st m_mv m_tp (nI mz) ml (nI mp) mk mv mb mw m_rd m_ac (nI ma) m_as m_wo m_ik m_ke m_tr (nI mx)), (xI m_st cI 38 fs), (xI m_ac cI 912 fc)]) hP hD [0, 1, 2] (by decide +kernel) rfl
    exact W.iret (v := (-1000002)) hx hb hr (fun t ht hW => ⟨⟨(-1000002), (), rfl, (lf_X8_sell_20 hM hT h999 hT0 hac hma c_1 h00), ⟨fs, fc, ma, w9, k9, h9, va_Ht ht hX9.1, hX9.2, hM, hT, (by omega), hac, (by omega), (lf_X8_sell_16 hM hT h999 hT0 hac hma c_1 h00), (lf_X8_sell_17 hM hT h999 hT0 hac hma c_1 h00), (lf_X8_sell_18 hM hT h999 hT0 hac hma c_1 h00), (lf_X8_sell_19 hM hT h999 hT0 hac hma c_1 h00)⟩⟩, hS.F ht⟩) hS.2.2 dX8_sell_9
theorem lf_X8_undo_1 {mt : Int32} {ma : Nat} {fs : Nat → Int32} {w9 : Nat} {k9 : Nat} {h9 : Nat} {fc : Nat → Int32} {w_8 : Nat → Int32} (hM : okM fs w9 k9 h9) (hT : ¬ mt = 0 → 1 ≤ k9) (h999 : h9 ≤ 999) (hT0 : mt = 0 → fs 0 = 0 ∧ ma = 0) (hac : okA fc ma) (hma : ma ≤ 24) (c_1 : ¬ (ma = 0)) (haf_0 : (∀ j : Nat, j < 38 → w_8 j = fc (38 * (ma - 1) + j))) : (mt = 0 → w_8 0 = 0 ∧ (ma - 1) = 0) := by
  first
  | exact hT0
  | (intro h_; have h9 := (hT0 h_).2; omega)
  | omega
  | exact acM_take
  | (unfold a_undo; grind)
  | (unfold n_undo; rw [if_neg (by omega)]; exact acM_top (by omega) haf_0)
  | (unfold n_undo; rw [if_pos (by omega)])
  | (subst c_1; exact acM_take (f := fc) (n := 0))
theorem lf_X8_undo_2 {mt : Int32} {ma : Nat} {fs : Nat → Int32} {w9 : Nat} {k9 : Nat} {h9 : Nat} {fc : Nat → Int32} {w_8 : Nat → Int32} (hM : okM fs w9 k9 h9) (hT : ¬ mt = 0 → 1 ≤ k9) (h999 : h9 ≤ 999) (hT0 : mt = 0 → fs 0 = 0 ∧ ma = 0) (hac : okA fc ma) (hma : ma ≤ 24) (c_1 : ¬ (ma = 0)) (haf_0 : (∀ j : Nat, j < 38 → w_8 j = fc (38 * (ma - 1) + j))) : m38 w_8 = n_undo (m38 fs) ma (acM fc ma) := by
  first
  | exact hT0
  | (intro h_; have h9 := (hT0 h_).2; omega)
  | omega
  | exact acM_take
  | (unfold a_undo; grind)
  | (unfold n_undo; rw [if_neg (by omega)]; exact acM_top (by omega) haf_0)
  | (unfold n_undo; rw [if_pos (by omega)])
  | (subst c_1; exact acM_take (f := fc) (n := 0))
theorem lf_X8_undo_3 {mt : Int32} {ma : Nat} {fs : Nat → Int32} {w9 : Nat} {k9 : Nat} {h9 : Nat} {fc : Nat → Int32} {w_8 : Nat → Int32} (hM : okM fs w9 k9 h9) (hT : ¬ mt = 0 → 1 ≤ k9) (h999 : h9 ≤ 999) (hT0 : mt = 0 → fs 0 = 0 ∧ ma = 0) (hac : okA fc ma) (hma : ma ≤ 24) (c_1 : ¬ (ma = 0)) (haf_0 : (∀ j : Nat, j < 38 → w_8 j = fc (38 * (ma - 1) + j))) : (ma - 1) = ma - 1 := by
  first
  | exact hT0
  | (intro h_; have h9 := (hT0 h_).2; omega)
  | omega
  | exact acM_take
  | (unfold a_undo; grind)
  | (unfold n_undo; rw [if_neg (by omega)]; exact acM_top (by omega) haf_0)
  | (unfold n_undo; rw [if_pos (by omega)])
  | (subst c_1; exact acM_take (f := fc) (n := 0))
theorem lf_X8_undo_4 {mt : Int32} {ma : Nat} {fs : Nat → Int32} {w9 : Nat} {k9 : Nat} {h9 : Nat} {fc : Nat → Int32} {w_8 : Nat → Int32} (hM : okM fs w9 k9 h9) (hT : ¬ mt = 0 → 1 ≤ k9) (h999 : h9 ≤ 999) (hT0 : mt = 0 → fs 0 = 0 ∧ ma = 0) (hac : okA fc ma) (hma : ma ≤ 24) (c_1 : ¬ (ma = 0)) (haf_0 : (∀ j : Nat, j < 38 → w_8 j = fc (38 * (ma - 1) + j))) : acM fc (ma - 1) = dpA ma (acM fc ma) := by
  first
  | exact hT0
  | (intro h_; have h9 := (hT0 h_).2; omega)
  | omega
  | exact acM_take
  | (unfold a_undo; grind)
  | (unfold n_undo; rw [if_neg (by omega)]; exact acM_top (by omega) haf_0)
  | (unfold n_undo; rw [if_pos (by omega)])
  | (subst c_1; exact acM_take (f := fc) (n := 0))
theorem lf_X8_undo_5 {mt : Int32} {ma : Nat} {fs : Nat → Int32} {w9 : Nat} {k9 : Nat} {h9 : Nat} {fc : Nat → Int32} {w_8 : Nat → Int32} (hM : okM fs w9 k9 h9) (hT : ¬ mt = 0 → 1 ≤ k9) (h999 : h9 ≤ 999) (hT0 : mt = 0 → fs 0 = 0 ∧ ma = 0) (hac : okA fc ma) (hma : ma ≤ 24) (c_1 : ¬ (ma = 0)) (haf_0 : (∀ j : Nat, j < 38 → w_8 j = fc (38 * (ma - 1) + j))) : (nI (ma - 1)) = (a_undo ma) := by
  first
  | exact hT0
  | (intro h_; have h9 := (hT0 h_).2; omega)
  | omega
  | exact acM_take
  | (unfold a_undo; grind)
  | (unfold n_undo; rw [if_neg (by omega)]; exact acM_top (by omega) haf_0)
  | (unfold n_undo; rw [if_pos (by omega)])
  | (subst c_1; exact acM_take (f := fc) (n := 0))
theorem lf_X8_undo_6 {mt : Int32} {ma : Nat} {fs : Nat → Int32} {w9 : Nat} {k9 : Nat} {h9 : Nat} {fc : Nat → Int32} (hM : okM fs w9 k9 h9) (hT : ¬ mt = 0 → 1 ≤ k9) (h999 : h9 ≤ 999) (hT0 : mt = 0 → fs 0 = 0 ∧ ma = 0) (hac : okA fc ma) (hma : ma ≤ 24) (c_1 : ma = 0) : (mt = 0 → fs 0 = 0 ∧ ma = 0) := by
  first
  | exact hT0
  | (intro h_; have h9 := (hT0 h_).2; omega)
  | omega
  | exact acM_take
  | (unfold a_undo; grind)
  | (unfold n_undo; rw [if_pos (by omega)])
  | (subst c_1; exact acM_take (f := fc) (n := 0))
theorem lf_X8_undo_7 {mt : Int32} {ma : Nat} {fs : Nat → Int32} {w9 : Nat} {k9 : Nat} {h9 : Nat} {fc : Nat → Int32} (hM : okM fs w9 k9 h9) (hT : ¬ mt = 0 → 1 ≤ k9) (h999 : h9 ≤ 999) (hT0 : mt = 0 → fs 0 = 0 ∧ ma = 0) (hac : okA fc ma) (hma : ma ≤ 24) (c_1 : ma = 0) : m38 fs = n_undo (m38 fs) ma (acM fc ma) := by
  first
  | exact hT0
  | (intro h_; have h9 := (hT0 h_).2; omega)
  | omega
  | exact acM_take
  | (unfold a_undo; grind)
  | (unfold n_undo; rw [if_pos (by omega)])
  | (subst c_1; exact acM_take (f := fc) (n := 0))
theorem lf_X8_undo_8 {mt : Int32} {ma : Nat} {fs : Nat → Int32} {w9 : Nat} {k9 : Nat} {h9 : Nat} {fc : Nat → Int32} (hM : okM fs w9 k9 h9) (hT : ¬ mt = 0 → 1 ≤ k9) (h999 : h9 ≤ 999) (hT0 : mt = 0 → fs 0 = 0 ∧ ma = 0) (hac : okA fc ma) (hma : ma ≤ 24) (c_1 : ma = 0) : ma = ma - 1 := by
  first
  | exact hT0
  | (intro h_; have h9 := (hT0 h_).2; omega)
  | omega
  | exact acM_take
  | (unfold a_undo; grind)
  | (unfold n_undo; rw [if_pos (by omega)])
  | (subst c_1; exact acM_take (f := fc) (n := 0))
theorem lf_X8_undo_9 {mt : Int32} {ma : Nat} {fs : Nat → Int32} {w9 : Nat} {k9 : Nat} {h9 : Nat} {fc : Nat → Int32} (hM : okM fs w9 k9 h9) (hT : ¬ mt = 0 → 1 ≤ k9) (h999 : h9 ≤ 999) (hT0 : mt = 0 → fs 0 = 0 ∧ ma = 0) (hac : okA fc ma) (hma : ma ≤ 24) (c_1 : ma = 0) : acM fc ma = dpA ma (acM fc ma) := by
  first
  | exact hT0
  | (intro h_; have h9 := (hT0 h_).2; omega)
  | omega
  | exact acM_take
  | (unfold a_undo; grind)
  | (unfold n_undo; rw [if_pos (by omega)])
  | (subst c_1; exact acM_take (f := fc) (n := 0))
theorem lf_X8_undo_10 {mt : Int32} {ma : Nat} {fs : Nat → Int32} {w9 : Nat} {k9 : Nat} {h9 : Nat} {fc : Nat → Int32} (hM : okM fs w9 k9 h9) (hT : ¬ mt = 0 → 1 ≤ k9) (h999 : h9 ≤ 999) (hT0 : mt = 0 → fs 0 = 0 ∧ ma = 0) (hac : okA fc ma) (hma : ma ≤ 24) (c_1 : ma = 0) : (-1000002) = (a_undo ma) := by
  first
  | exact hT0
  | (intro h_; have h9 := (hT0 h_).2; omega)
  | omega
  | exact acM_take
  | (unfold a_undo; grind)
  | (unfold n_undo; rw [if_pos (by omega)])
  | (subst c_1; exact acM_take (f := fc) (n := 0))
set_option maxHeartbeats 4000000 in
set_option maxRecDepth 100000 in
theorem r_X8_undo (l : Launch) (dC : Nat → ClassId) (dI : Nat → Nat → Nat) (cI cZ cL cJ : ClassId) (sz : Nat) (mo : Nat) (m_la : Nat) (m_sz : Nat) (m_it : Nat) (m_st : Nat) (m_mv : Nat) (m_tp : Nat) (m_rd : Nat) (m_ac : Nat) (m_as : Nat) (m_wo : Nat) (m_ik : Nat) (m_ke : Nat) (m_tr : Nat) (ms : Int32) (mt : Int32) (ml : Int32) (mk : Int32) (mv : Int32) (mb : Int32) (mw : Int32) (mz : Nat) (mp : Nat) (ma : Nat) (mx : Nat) (fs : Nat → Int32) (w9 : Nat) (k9 : Nat) (h9 : Nat) (fc : Nat → Int32) (hM : okM fs w9 k9 h9) (hT : ¬ mt = 0 → 1 ≤ k9) (h999 : h9 ≤ 999) (hT0 : mt = 0 → fs 0 = 0 ∧ ma = 0) (hac : okA fc ma) (hma : ma ≤ 24) : Met l yX8_undo wsX8_undo ({ frames := 0, cells := 0, slots := 0, locals := 0 }) (va_Pc [.ref mo] (fun U => U.heap.size = sz ∧ va_P (dC, dI) vwCl [(xo_8_rrriirrriiiiiiirrirrrrri mo m_la m_sz m_it ms mt m_st m_mv m_tp (nI mz) ml (nI mp) mk mv mb mw m_rd m_ac (nI ma) m_as m_wo m_ik m_ke m_tr (nI mx)), (xI m_st cI 38 fs), (xI m_ac cI 912 fc)] U.heap ∧ va_K (dC, dI) vwCl [(cI, .int), (cZ, .boolean), (cL, .object RX3), (cJ, .array .int)] U ∧ va_D (fun _ => True) [(xo_8_rrriirrriiiiiiirrirrrrri mo m_la m_sz m_it ms mt m_st m_mv m_tp (nI mz) ml (nI mp) mk mv mb mw m_rd m_ac (nI ma) m_as m_wo m_ik m_ke m_tr (nI mx)), (xI m_st cI 38 fs), (xI m_ac cI 912 fc)])) (va_Qi (fun r (_ : Unit) => r = (a_undo ma)) (fun (_ : Unit) t => ∃ (fsn : Nat → Int32) (fcn : Nat → Int32) (man : Nat) (w9n : Nat) (k9n : Nat) (h9n : Nat), va_P (dC, dI) vwCl [(xo_8_rrriirrriiiiiiirrirrrrri mo m_la m_sz m_it ms mt m_st m_mv m_tp (nI mz) ml (nI mp) mk mv mb mw m_rd m_ac (nI man) m_as m_wo m_ik m_ke m_tr (nI mx)), (xI m_st cI 38 fsn), (xI m_ac cI 912 fcn)] t.heap ∧ va_D (va_A [(xo_8_rrriirrriiiiiiirrirrrrri mo m_la m_sz m_it ms mt m_st m_mv m_tp (nI mz) ml (nI mp) mk mv mb mw m_rd m_ac (nI ma) m_as m_wo m_ik m_ke m_tr (nI mx)), (xI m_st cI 38 fs), (xI m_ac cI 912 fc)] sz) [(xo_8_rrriirrriiiiiiirrirrrrri mo m_la m_sz m_it ms mt m_st m_mv m_tp (nI mz) ml (nI mp) mk mv mb mw m_rd m_ac (nI man) m_as m_wo m_ik m_ke m_tr (nI mx)), (xI m_st cI 38 fsn), (xI m_ac cI 912 fcn)] ∧ okM fsn w9n k9n h9n ∧ (¬ mt = 0 → 1 ≤ k9n) ∧ h9n ≤ 999 ∧ okA fcn man ∧ man ≤ 24 ∧ (mt = 0 → fsn 0 = 0 ∧ man = 0) ∧ m38 fsn = n_undo (m38 fs) ma (acM fc ma) ∧ man = ma - 1 ∧ acM fcn man = dpA ma (acM fc ma)) (va_A [(xo_8_rrriirrriiiiiiirrirrrrri mo m_la m_sz m_it ms mt m_st m_mv m_tp (nI mz) ml (nI mp) mk mv mb mw m_rd m_ac (nI ma) m_as m_wo m_ik m_ke m_tr (nI mx)), (xI m_st cI 38 fs), (xI m_ac cI 912 fc)] sz)) 0 0 (va_A [(xo_8_rrriirrriiiiiiirrirrrrri mo m_la m_sz m_it ms mt m_st m_mv m_tp (nI mz) ml (nI mp) mk mv mb mw m_rd m_ac (nI ma) m_as m_wo m_ik m_ke m_tr (nI mx)), (xI m_st cI 38 fs), (xI m_ac cI 912 fc)] sz) := by
  refine Met.ofW (cc := cX8_undo) (maxL := 2) (ret := (some .int)) (by decide) rfl ?_
  intro p e s m args below meth c s₁ B hml hv
  obtain ⟨rfl, hsz, hP, hK, hD0⟩ := hv
  have hx := B.exec
  have hb := B.bytes
  have hr := B.returns
  have hts := atoms_spec (ws := wsX8_undo) B.pre
  have hown : s.vm.findClass RX8 = some m.cls := findClass_of_methodNamed B.named
  have hlocks := B.notSynchronized
  subst hsz
  have hD := hD0.self (sz := s.heap.size)
  generalize hAe : va_A [(xo_8_rrriirrriiiiiiirrirrrrri mo m_la m_sz m_it ms mt m_st m_mv m_tp (nI mz) ml (nI mp) mk mv mb mw m_rd m_ac (nI ma) m_as m_wo m_ik m_ke m_tr (nI mx)), (xI m_st cI 38 fs), (xI m_ac cI 912 fc)] s.heap.size = A at hD ⊢
  have hA : ∀ q : Nat, s.heap.size ≤ q → A q := fun q h => by rw [← hAe]; exact Or.inr h
  have hS : va_S A s.heap s.heap [] := va_S.rf
  have hP : va_P (dC, dI) vwCl [(xo_8_rrriirrriiiiiiirrirrrrri mo m_la m_sz m_it ms mt m_st m_mv m_tp (nI mz) ml (nI mp) mk mv mb mw m_rd m_ac (nI ma) m_as m_wo m_ik m_ke m_tr (nI mx)), (xI m_st cI 38 fs), (xI m_ac cI 912 fc)] s.heap := hP
  have hl := lv_entry ([.ref mo]) (n := 2) (Nat.le_of_ble_eq_true rfl)
  rw [lg_entry_eq]
  generalize (lg_sl ([.ref mo]) ++ List.replicate (2 - (lg_sl ([.ref mo])).length) Slot.unset).toArray = ls at hl ⊢
  have hl : lv_has ls 2 [(0, .ref mo)] := hl
  have hk6 := hM.2.2.2.2.1
  have hw6 := hM.2.2.2.1
  refine lv_aload_n hx hb dX8_undo_0 rfl (lv_at hl 0 rfl) ?_
  refine va_get (D := (dC, dI)) (ci := 8) (v := .int (nI ma)) (C := RX8) (T := TX8) (N := 24) hx hb hts i_X8_undo_X8 hown hK hP 0 rfl rfl 17 (by decide) (hts _ mx_X8_undo_1) (fun _ h9 => h9) rfl dX8_undo_1 ?_
  refine lv_if_ne (tgt := 10) hx hb dX8_undo_4 (by decide) (fun c_1 => ?_) (fun c_1 => ?_)
  · have c_1 : ¬ (ma = 0) := fun q_ => c_1 ((nI_eq (a := ma) (b := 0) (by omega) (by omega)).mpr q_)
    refine lv_aload_n hx hb dX8_undo_10 rfl (lv_at hl 0 rfl) ?_
    refine lv_dup hx hb dX8_undo_11 rfl ?_
    refine va_get (D := (dC, dI)) (ci := 8) (v := .int (nI ma)) (C := RX8) (T := TX8) (N := 24) hx hb hts i_X8_undo_X8 hown hK hP 0 rfl rfl 17 (by decide) (hts _ mx_X8_undo_1) (fun _ h9 => h9) rfl dX8_undo_12 ?_
    refine lv_iconst (v := 1) hx hb dX8_undo_15 (by decide) ?_
    refine lv_isub hx hb dX8_undo_16 ?_
    refine lv_topi (fun v_2 e_2 => ?_)
    obtain rfl : v_2 = (nI (ma - 1)) := (e_2).trans (pk_sub (a := ma) (b := 1) (by omega))
    refine va_put (D := (dC, dI)) (ci := 8) (v := .int (nI (ma - 1))) (ty := .int) (C := RX8) (T := TX8) (N := 24) hx hb hts i_X8_undo_X8 tyX8 tyX8_ok nmX8 hown hK hP hD hS 0 rfl rfl 17 (by decide) (hts _ mx_X8_undo_1) (fun _ h9 => h9) rfl (by decide +kernel) rfl rfl (Nat.le_of_ble_eq_true rfl) dX8_undo_17 (fun H locs hP hD hS => ?_)
    have hP : va_P (dC, dI) vwCl [(xo_8_rrriirrriiiiiiirrirrrrri mo m_la m_sz m_it ms mt m_st m_mv m_tp (nI mz) ml (nI mp) mk mv mb mw m_rd m_ac (nI (ma - 1)) m_as m_wo m_ik m_ke m_tr (nI mx)), (xI m_st cI 38 fs), (xI m_ac cI 912 fc)] H := hP
    have hD := dto hP hD
    refine lv_iconst (v := 0) hx hb dX8_undo_20 (by decide) ?_
    refine lv_istore_n (lv' := [(1, .int 0), (0, .ref mo)]) hx hb dX8_undo_21 rfl hl (by decide) rfl (fun ls hl => ?_)
    refine lp_go (σ := (Nat → Int32)) (fun ii (st : (Nat → Int32)) H locs ls => match st with | w_8 => lv_has ls 2 [(1, .int (nI ii)), (0, .ref mo)] ∧ va_P (dC, dI) vwCl [(xo_8_rrriirrriiiiiiirrirrrrri mo m_la m_sz m_it ms mt m_st m_mv m_tp (nI mz) ml (nI mp) mk mv mb mw m_rd m_ac (nI (ma - 1)) m_as m_wo m_ik m_ke m_tr (nI mx)), (xI m_st cI 38 w_8), (xI m_ac cI 912 fc)] H ∧ va_D A [(xo_8_rrriirrriiiiiiirrirrrrri mo m_la m_sz m_it ms mt m_st m_mv m_tp (nI mz) ml (nI mp) mk mv mb mw m_rd m_ac (nI (ma - 1)) m_as m_wo m_ik m_ke m_tr (nI mx)), (xI m_st cI 38 w_8), (xI m_ac cI 912 fc)] ∧ va_S A s.heap H locs ∧ (∀ j : Nat, j < ii → w_8 j = fc (38 * (ma - 1) + j))) 38 ?_ ?_ 0 (by omega) (fs) ⟨lv_sub hl [0, 1] rfl, hP.sub (ws' := [(xo_8_rrriirrriiiiiiirrirrrrri mo m_la m_sz m_it ms mt m_st m_mv m_tp (nI mz) ml (nI mp) mk mv mb mw m_rd m_ac (nI (ma - 1)) m_as m_wo m_ik m_ke m_tr (nI mx)), (xI m_st cI 38 fs), (xI m_ac cI 912 fc)]) [0, 1, 2] rfl, hD.sub (ws' := [(xo_8_rrriirrriiiiiiirrirrrrri mo m_la m_sz m_it ms mt m_st m_mv m_tp (nI mz) ml (nI mp) mk mv mb mw m_rd m_ac (nI (ma - 1)) m_as m_wo m_ik m_ke m_tr (nI mx)), (xI m_st cI 38 fs), (xI m_ac cI 912 fc)]) [0, 1, 2] (by decide +kernel) rfl, hS, (fun j h_ => absurd h_ (Nat.not_lt_zero j))⟩
    · rintro ii w_8 H locs ls hii ⟨hl, hP, hD, hS, haf_0⟩ ih
      refine lv_iload_n hx hb dX8_undo_22 rfl (lv_at hl 0 rfl) ?_
      refine lv_bipush (v := 38) hx hb dX8_undo_23 (by decide) ?_
      refine lv_icmp_ge (tgt := 54) hx hb dX8_undo_25 (by decide) (fun c_ => absurd c_ (fun q_ => absurd ((nI_leI (a := 38) (b := ii) (by omega) (by omega)).mp q_) (by omega))) (fun _ => ?_)
      refine lv_aload_n hx hb dX8_undo_28 rfl (lv_at hl 1 rfl) ?_
      refine va_get (D := (dC, dI)) (ci := 8) (v := .ref m_st) (C := RX8) (T := TX8) (N := 24) hx hb hts i_X8_undo_X8 hown hK hP 0 rfl rfl 5 (by decide) (hts _ mx_X8_undo_3) (fun _ h9 => h9) rfl dX8_undo_29 ?_
      refine lv_iload_n hx hb dX8_undo_32 rfl (lv_at hl 0 rfl) ?_
      refine lv_aload_n hx hb dX8_undo_33 rfl (lv_at hl 1 rfl) ?_
      refine va_get (D := (dC, dI)) (ci := 8) (v := .ref m_ac) (C := RX8) (T := TX8) (N := 24) hx hb hts i_X8_undo_X8 hown hK hP 0 rfl rfl 16 (by decide) (hts _ mx_X8_undo_4) (fun _ h9 => h9) rfl dX8_undo_34 ?_
      refine lv_bipush (v := 38) hx hb dX8_undo_37 (by decide) ?_
      refine lv_aload_n hx hb dX8_undo_39 rfl (lv_at hl 1 rfl) ?_
      refine va_get (D := (dC, dI)) (ci := 8) (v := .int (nI (ma - 1))) (C := RX8) (T := TX8) (N := 24) hx hb hts i_X8_undo_X8 hown hK hP 0 rfl rfl 17 (by decide) (hts _ mx_X8_undo_1) (fun _ h9 => h9) rfl dX8_undo_40 ?_
      refine lv_imul hx hb dX8_undo_43 ?_
      refine lv_topi (fun v_16 e_16 => ?_)
      obtain rfl : v_16 = (nI (38 * (ma - 1))) := (e_16).trans (pk_mul 38 (ma - 1))
      refine lv_iload_n hx hb dX8_undo_44 rfl (lv_at hl 0 rfl) ?_
      refine lv_iadd hx hb dX8_undo_45 ?_
      refine lv_topi (fun v_17 e_17 => ?_)
      obtain rfl : v_17 = (nI ((38 * (ma - 1)) + ii)) := (e_17).trans (nI_add (38 * (ma - 1)) ii)
      refine va_iald hx hb hK hP 2 0 rfl rfl (vp_in_nI (by omega) (by omega)) dX8_undo_46 ?_
      refine lv_topi (fun v_18 e_18 => ?_)
      have e_18 : v_18 = fc ((38 * (ma - 1)) + ii) := e_18.trans (congrArg fc (nI_clamp (by omega)))
      refine va_iast hx hb hK hP hD hS 1 0 rfl rfl (vp_in_nI (by omega) (by omega)) dX8_undo_47 (fun H locs hP hD hS => ?_)
      generalize hg_19 : upd w_8 ((nI ii) : Int32).toNatClampNeg v_18 = g_19 at hP hD
      have hu_19 : g_19 = upd w_8 ii v_18 := (by rw [← hg_19, nI_clamp (by omega)])
      have hP : va_P (dC, dI) vwCl [(xo_8_rrriirrriiiiiiirrirrrrri mo m_la m_sz m_it ms mt m_st m_mv m_tp (nI mz) ml (nI mp) mk mv mb mw m_rd m_ac (nI (ma - 1)) m_as m_wo m_ik m_ke m_tr (nI mx)), (xI m_st cI 38 g_19), (xI m_ac cI 912 fc)] H := hP
      have hD := dto hP hD
      refine lv_iinc (v := (nI (ii + 1))) (lv' := [(1, .int (nI (ii + 1))), (0, .ref mo)]) hx hb dX8_undo_48 hl (k := 0) rfl (nI_add ii 1) (by decide) rfl (fun ls hl => ?_)
      refine lv_goto (tgt := 22) hx hb dX8_undo_51 (by decide) ?_
      exact ih (g_19) _ _ _ ⟨lv_sub hl [0, 1] rfl, hP.sub (ws' := [(xo_8_rrriirrriiiiiiirrirrrrri mo m_la m_sz m_it ms mt m_st m_mv m_tp (nI mz) ml (nI mp) mk mv mb mw m_rd m_ac (nI (ma - 1)) m_as m_wo m_ik m_ke m_tr (nI mx)), (xI m_st cI 38 g_19), (xI m_ac cI 912 fc)]) [0, 1, 2] rfl, hD.sub (ws' := [(xo_8_rrriirrriiiiiiirrirrrrri mo m_la m_sz m_it ms mt m_st m_mv m_tp (nI mz) ml (nI mp) mk mv mb mw m_rd m_ac (nI (ma - 1)) m_as m_wo m_ik m_ke m_tr (nI mx)), (xI m_st cI 38 g_19), (xI m_ac cI 912 fc)]) [0, 1, 2] (by decide +kernel) rfl, hS, (cp_s (a := 38 * (ma - 1)) haf_0 (by omega) (e_18.trans (congrArg fc (nI_clamp (by omega)).symm)) hg_19)⟩
    · rintro w_8 H locs ls ⟨hl, hP, hD, hS, haf_0⟩
      refine lv_iload_n hx hb dX8_undo_22 rfl (lv_at hl 0 rfl) ?_
      refine lv_bipush (v := 38) hx hb dX8_undo_23 (by decide) ?_
      refine lv_icmp_ge (tgt := 54) hx hb dX8_undo_25 (by decide) (fun _ => ?_) (fun c_ => absurd ((nI_leI (a := 38) (b := 38) (by omega) (by omega)).mpr (by omega)) c_)
      obtain ⟨uw, uk, uh, uM, uk1, uh9⟩ := okK_eq (hac (ma - 1) (by omega)) haf_0
      have hac2 : okA fc (ma - 1) := okA_le hac (by omega)
      refine lv_aload_n hx hb dX8_undo_54 rfl (lv_at hl 1 rfl) ?_
      refine va_get (D := (dC, dI)) (ci := 8) (v := .int (nI (ma - 1))) (C := RX8) (T := TX8) (N := 24) hx hb hts i_X8_undo_X8 hown hK hP 0 rfl rfl 17 (by decide) (hts _ mx_X8_undo_1) (fun _ h9 => h9) rfl dX8_undo_55 ?_
      have hX9 := cut2 (wc := [(xo_8_rrriirrriiiiiiirrirrrrri mo m_la m_sz m_it ms mt m_st m_mv m_tp (nI mz) ml (nI mp) mk mv mb mw m_rd m_ac (nI (ma - 1)) m_as m_wo m_ik m_ke m_tr (nI mx)), (xI m_st cI 38 w_8), (xI m_ac cI 912 fc)]) hP hD [0, 1, 2] (by decide +kernel) rfl
      exact W.iret (v := (nI (ma - 1))) hx hb hr (fun t ht hW => ⟨⟨(nI (ma - 1)), (), rfl, (lf_X8_undo_5 hM hT h999 hT0 hac hma c_1 haf_0), ⟨w_8, fc, (ma - 1), uw, uk, uh, va_Ht ht hX9.1, hX9.2, uM, (fun _ => uk1), (by omega), hac2, (by omega), (lf_X8_undo_1 hM hT h999 hT0 hac hma c_1 haf_0), (lf_X8_undo_2 hM hT h999 hT0 hac hma c_1 haf_0), (lf_X8_undo_3 hM hT h999 hT0 hac hma c_1 haf_0), (lf_X8_undo_4 hM hT h999 hT0 hac hma c_1 haf_0)⟩⟩, hS.F ht⟩) hS.2.2 dX8_undo_58
  · have c_1 : ma = 0 := (nI_eq (a := ma) (b := 0) (by omega) (by omega)).mp c_1
    refine lv_ldc (own := RX8) (v := (-1000002)) hx hb hown (hts _ mx_X8_undo_2) dX8_undo_7 ?_
    have hX9 := cut2 (wc := [(xo_8_rrriirrriiiiiiirrirrrrri mo m_la m_sz m_it ms mt m_st m_mv m_tp (nI mz) ml (nI mp) mk mv mb mw m_rd m_ac (nI ma) m_as m_wo m_ik m_ke m_tr (nI mx)), (xI m_st cI 38 fs), (xI m_ac cI 912 fc)]) hP hD [0, 1, 2] (by decide +kernel) rfl
    exact W.iret (v := (-1000002)) hx hb hr (fun t ht hW => ⟨⟨(-1000002), (), rfl, (lf_X8_undo_10 hM hT h999 hT0 hac hma c_1), ⟨fs, fc, ma, w9, k9, h9, va_Ht ht hX9.1, hX9.2, hM, hT, (by omega), hac, (by omega), (lf_X8_undo_6 hM hT h999 hT0 hac hma c_1), (lf_X8_undo_7 hM hT h999 hT0 hac hma c_1), (lf_X8_undo_8 hM hT h999 hT0 hac hma c_1), (lf_X8_undo_9 hM hT h999 hT0 hac hma c_1)⟩⟩, hS.F ht⟩) hS.2.2 dX8_undo_9
theorem lf_X8_hours_1 {mt : Int32} {ma : Nat} {fs : Nat → Int32} {w9 : Nat} {k9 : Nat} {h9 : Nat} {fc : Nat → Int32} {a0 : Int32} (hM : okM fs w9 k9 h9) (hT : ¬ mt = 0 → 1 ≤ k9) (h999 : h9 ≤ 999) (hT0 : mt = 0 → fs 0 = 0 ∧ ma = 0) (hac : okA fc ma) (hma : ma ≤ 24) (c_1 : ¬ (mt = 0)) (hkn1 : 1 ≤ k9) (hw1 : 1 ≤ w9) (h01 : ¬ fs 0 = 0) (f_2_0_0 : ((a0).toInt64 < 1 ∨ 24 < (a0).toInt64)) (q_2 : (a0 < 1 ∨ 24 < a0)) : (mt = 0 → fs 0 = 0 ∧ ma = 0) := by
  have hw6 := hM.2.2.2.1
  have hk6 := hM.2.2.2.2.1
  first
  | exact hT0
  | (intro h_; exact absurd (hT0 h_).1 h01)
  | (intro h_; have h9 := (hT0 h_).2; omega)
  | exact (hrsM_0 (r := m38 fs) (An := ma) (Ac := acM fc ma) h00).1
  | exact (hrsM_0 (r := m38 fs) (An := ma) (Ac := acM fc ma) h00).2.1
  | exact (hrsM_0 (r := m38 fs) (An := ma) (Ac := acM fc ma) h00).2.2.1
  | exact (hrsM_0 (r := m38 fs) (An := ma) (Ac := acM fc ma) h00).2.2.2
  | exact (hrsM_1 (r := m38 fs) (An := ma) (Ac := acM fc ma) h01 q_2).1
  | exact (hrsM_1 (r := m38 fs) (An := ma) (Ac := acM fc ma) h01 q_2).2.1
  | exact (hrsM_1 (r := m38 fs) (An := ma) (Ac := acM fc ma) h01 q_2).2.2.1
  | exact (hrsM_1 (r := m38 fs) (An := ma) (Ac := acM fc ma) h01 q_2).2.2.2
  | exact (hrsM_2 (r := m38 fs) (An := ma) (Ac := acM fc ma) (h := h9) (j := j_2) (fun q => q_2 (Or.inl q)) h01 hj_2 hM.2.2.1 h999 c_7).1
  | exact (hrsM_2 (r := m38 fs) (An := ma) (Ac := acM fc ma) (h := h9) (j := j_2) (fun q => q_2 (Or.inl q)) h01 hj_2 hM.2.2.1 h999 c_7).2.1
  | exact (hrsM_2 (r := m38 fs) (An := ma) (Ac := acM fc ma) (h := h9) (j := j_2) (fun q => q_2 (Or.inl q)) h01 hj_2 hM.2.2.1 h999 c_7).2.2.1
  | exact (hrsM_2 (r := m38 fs) (An := ma) (Ac := acM fc ma) (h := h9) (j := j_2) (fun q => q_2 (Or.inl q)) h01 hj_2 hM.2.2.1 h999 c_7).2.2.2
  | exact (hrs_pos (r := m38 fs) (An := ma) (Ac := acM fc ma) (h := h9) (j := j_2) (fun q => q_2 (Or.inl q)) h01 hj_2 hM.2.2.1 c_7 haf_1).1
  | exact (hrs_pos (r := m38 fs) (An := ma) (Ac := acM fc ma) (h := h9) (j := j_2) (fun q => q_2 (Or.inl q)) h01 hj_2 hM.2.2.1 c_7 haf_1).2.1
  | exact (hrs_pos (r := m38 fs) (An := ma) (Ac := acM fc ma) (h := h9) (j := j_2) (fun q => q_2 (Or.inl q)) h01 hj_2 hM.2.2.1 c_7 haf_1).2.2.1
  | exact (hrs_pos (r := m38 fs) (An := ma) (Ac := acM fc ma) (h := h9) (j := j_2) (fun q => q_2 (Or.inl q)) h01 hj_2 hM.2.2.1 c_7 haf_1).2.2.2
  | exact e_24.trans (hrs_pos (r := m38 fs) (An := ma) (Ac := acM fc ma) (h := h9) (j := j_2) (fun q => q_2 (Or.inl q)) h01 hj_2 hM.2.2.1 c_7 haf_1).2.2.2
theorem lf_X8_hours_2 {mt : Int32} {ma : Nat} {fs : Nat → Int32} {w9 : Nat} {k9 : Nat} {h9 : Nat} {fc : Nat → Int32} {a0 : Int32} (hM : okM fs w9 k9 h9) (hT : ¬ mt = 0 → 1 ≤ k9) (h999 : h9 ≤ 999) (hT0 : mt = 0 → fs 0 = 0 ∧ ma = 0) (hac : okA fc ma) (hma : ma ≤ 24) (c_1 : ¬ (mt = 0)) (hkn1 : 1 ≤ k9) (hw1 : 1 ≤ w9) (h01 : ¬ fs 0 = 0) (f_2_0_0 : ((a0).toInt64 < 1 ∨ 24 < (a0).toInt64)) (q_2 : (a0 < 1 ∨ 24 < a0)) : m38 fs = (s_hrs (m38 fs) ma (acM fc ma) a0).1 := by
  have hw6 := hM.2.2.2.1
  have hk6 := hM.2.2.2.2.1
  first
  | exact hT0
  | (intro h_; exact absurd (hT0 h_).1 h01)
  | (intro h_; have h9 := (hT0 h_).2; omega)
  | exact (hrsM_0 (r := m38 fs) (An := ma) (Ac := acM fc ma) h00).1
  | exact (hrsM_0 (r := m38 fs) (An := ma) (Ac := acM fc ma) h00).2.1
  | exact (hrsM_0 (r := m38 fs) (An := ma) (Ac := acM fc ma) h00).2.2.1
  | exact (hrsM_0 (r := m38 fs) (An := ma) (Ac := acM fc ma) h00).2.2.2
  | exact (hrsM_1 (r := m38 fs) (An := ma) (Ac := acM fc ma) h01 q_2).1
  | exact (hrsM_1 (r := m38 fs) (An := ma) (Ac := acM fc ma) h01 q_2).2.1
  | exact (hrsM_1 (r := m38 fs) (An := ma) (Ac := acM fc ma) h01 q_2).2.2.1
  | exact (hrsM_1 (r := m38 fs) (An := ma) (Ac := acM fc ma) h01 q_2).2.2.2
  | exact (hrsM_2 (r := m38 fs) (An := ma) (Ac := acM fc ma) (h := h9) (j := j_2) (fun q => q_2 (Or.inl q)) h01 hj_2 hM.2.2.1 h999 c_7).1
  | exact (hrsM_2 (r := m38 fs) (An := ma) (Ac := acM fc ma) (h := h9) (j := j_2) (fun q => q_2 (Or.inl q)) h01 hj_2 hM.2.2.1 h999 c_7).2.1
  | exact (hrsM_2 (r := m38 fs) (An := ma) (Ac := acM fc ma) (h := h9) (j := j_2) (fun q => q_2 (Or.inl q)) h01 hj_2 hM.2.2.1 h999 c_7).2.2.1
  | exact (hrsM_2 (r := m38 fs) (An := ma) (Ac := acM fc ma) (h := h9) (j := j_2) (fun q => q_2 (Or.inl q)) h01 hj_2 hM.2.2.1 h999 c_7).2.2.2
  | exact (hrs_pos (r := m38 fs) (An := ma) (Ac := acM fc ma) (h := h9) (j := j_2) (fun q => q_2 (Or.inl q)) h01 hj_2 hM.2.2.1 c_7 haf_1).1
  | exact (hrs_pos (r := m38 fs) (An := ma) (Ac := acM fc ma) (h := h9) (j := j_2) (fun q => q_2 (Or.inl q)) h01 hj_2 hM.2.2.1 c_7 haf_1).2.1
  | exact (hrs_pos (r := m38 fs) (An := ma) (Ac := acM fc ma) (h := h9) (j := j_2) (fun q => q_2 (Or.inl q)) h01 hj_2 hM.2.2.1 c_7 haf_1).2.2.1
  | exact (hrs_pos (r := m38 fs) (An := ma) (Ac := acM fc ma) (h := h9) (j := j_2) (fun q => q_2 (Or.inl q)) h01 hj_2 hM.2.2.1 c_7 haf_1).2.2.2
  | exact e_24.trans (hrs_pos (r := m38 fs) (An := ma) (Ac := acM fc ma) (h := h9) (j := j_2) (fun q => q_2 (Or.inl q)) h01 hj_2 hM.2.2.1 c_7 haf_1).2.2.2
theorem lf_X8_hours_3 {mt : Int32} {ma : Nat} {fs : Nat → Int32} {w9 : Nat} {k9 : Nat} {h9 : Nat} {fc : Nat → Int32} {a0 : Int32} (hM : okM fs w9 k9 h9) (hT : ¬ mt = 0 → 1 ≤ k9) (h999 : h9 ≤ 999) (hT0 : mt = 0 → fs 0 = 0 ∧ ma = 0) (hac : okA fc ma) (hma : ma ≤ 24) (c_1 : ¬ (mt = 0)) (hkn1 : 1 ≤ k9) (hw1 : 1 ≤ w9) (h01 : ¬ fs 0 = 0) (f_2_0_0 : ((a0).toInt64 < 1 ∨ 24 < (a0).toInt64)) (q_2 : (a0 < 1 ∨ 24 < a0)) : ma = (s_hrs (m38 fs) ma (acM fc ma) a0).2.1 := by
  have hw6 := hM.2.2.2.1
  have hk6 := hM.2.2.2.2.1
  first
  | exact hT0
  | (intro h_; exact absurd (hT0 h_).1 h01)
  | (intro h_; have h9 := (hT0 h_).2; omega)
  | exact (hrsM_0 (r := m38 fs) (An := ma) (Ac := acM fc ma) h00).1
  | exact (hrsM_0 (r := m38 fs) (An := ma) (Ac := acM fc ma) h00).2.1
  | exact (hrsM_0 (r := m38 fs) (An := ma) (Ac := acM fc ma) h00).2.2.1
  | exact (hrsM_0 (r := m38 fs) (An := ma) (Ac := acM fc ma) h00).2.2.2
  | exact (hrsM_1 (r := m38 fs) (An := ma) (Ac := acM fc ma) h01 q_2).1
  | exact (hrsM_1 (r := m38 fs) (An := ma) (Ac := acM fc ma) h01 q_2).2.1
  | exact (hrsM_1 (r := m38 fs) (An := ma) (Ac := acM fc ma) h01 q_2).2.2.1
  | exact (hrsM_1 (r := m38 fs) (An := ma) (Ac := acM fc ma) h01 q_2).2.2.2
  | exact (hrsM_2 (r := m38 fs) (An := ma) (Ac := acM fc ma) (h := h9) (j := j_2) (fun q => q_2 (Or.inl q)) h01 hj_2 hM.2.2.1 h999 c_7).1
  | exact (hrsM_2 (r := m38 fs) (An := ma) (Ac := acM fc ma) (h := h9) (j := j_2) (fun q => q_2 (Or.inl q)) h01 hj_2 hM.2.2.1 h999 c_7).2.1
  | exact (hrsM_2 (r := m38 fs) (An := ma) (Ac := acM fc ma) (h := h9) (j := j_2) (fun q => q_2 (Or.inl q)) h01 hj_2 hM.2.2.1 h999 c_7).2.2.1
  | exact (hrsM_2 (r := m38 fs) (An := ma) (Ac := acM fc ma) (h := h9) (j := j_2) (fun q => q_2 (Or.inl q)) h01 hj_2 hM.2.2.1 h999 c_7).2.2.2
  | exact (hrs_pos (r := m38 fs) (An := ma) (Ac := acM fc ma) (h := h9) (j := j_2) (fun q => q_2 (Or.inl q)) h01 hj_2 hM.2.2.1 c_7 haf_1).1
  | exact (hrs_pos (r := m38 fs) (An := ma) (Ac := acM fc ma) (h := h9) (j := j_2) (fun q => q_2 (Or.inl q)) h01 hj_2 hM.2.2.1 c_7 haf_1).2.1
  | exact (hrs_pos (r := m38 fs) (An := ma) (Ac := acM fc ma) (h := h9) (j := j_2) (fun q => q_2 (Or.inl q)) h01 hj_2 hM.2.2.1 c_7 haf_1).2.2.1
  | exact (hrs_pos (r := m38 fs) (An := ma) (Ac := acM fc ma) (h := h9) (j := j_2) (fun q => q_2 (Or.inl q)) h01 hj_2 hM.2.2.1 c_7 haf_1).2.2.2
  | exact e_24.trans (hrs_pos (r := m38 fs) (An := ma) (Ac := acM fc ma) (h := h9) (j := j_2) (fun q => q_2 (Or.inl q)) h01 hj_2 hM.2.2.1 c_7 haf_1).2.2.2
theorem lf_X8_hours_4 {mt : Int32} {ma : Nat} {fs : Nat → Int32} {w9 : Nat} {k9 : Nat} {h9 : Nat} {fc : Nat → Int32} {a0 : Int32} (hM : okM fs w9 k9 h9) (hT : ¬ mt = 0 → 1 ≤ k9) (h999 : h9 ≤ 999) (hT0 : mt = 0 → fs 0 = 0 ∧ ma = 0) (hac : okA fc ma) (hma : ma ≤ 24) (c_1 : ¬ (mt = 0)) (hkn1 : 1 ≤ k9) (hw1 : 1 ≤ w9) (h01 : ¬ fs 0 = 0) (f_2_0_0 : ((a0).toInt64 < 1 ∨ 24 < (a0).toInt64)) (q_2 : (a0 < 1 ∨ 24 < a0)) : acM fc ma = (s_hrs (m38 fs) ma (acM fc ma) a0).2.2 := by
  have hw6 := hM.2.2.2.1
  have hk6 := hM.2.2.2.2.1
  first
  | exact hT0
  | (intro h_; exact absurd (hT0 h_).1 h01)
  | (intro h_; have h9 := (hT0 h_).2; omega)
  | exact (hrsM_0 (r := m38 fs) (An := ma) (Ac := acM fc ma) h00).1
  | exact (hrsM_0 (r := m38 fs) (An := ma) (Ac := acM fc ma) h00).2.1
  | exact (hrsM_0 (r := m38 fs) (An := ma) (Ac := acM fc ma) h00).2.2.1
  | exact (hrsM_0 (r := m38 fs) (An := ma) (Ac := acM fc ma) h00).2.2.2
  | exact (hrsM_1 (r := m38 fs) (An := ma) (Ac := acM fc ma) h01 q_2).1
  | exact (hrsM_1 (r := m38 fs) (An := ma) (Ac := acM fc ma) h01 q_2).2.1
  | exact (hrsM_1 (r := m38 fs) (An := ma) (Ac := acM fc ma) h01 q_2).2.2.1
  | exact (hrsM_1 (r := m38 fs) (An := ma) (Ac := acM fc ma) h01 q_2).2.2.2
  | exact (hrsM_2 (r := m38 fs) (An := ma) (Ac := acM fc ma) (h := h9) (j := j_2) (fun q => q_2 (Or.inl q)) h01 hj_2 hM.2.2.1 h999 c_7).1
  | exact (hrsM_2 (r := m38 fs) (An := ma) (Ac := acM fc ma) (h := h9) (j := j_2) (fun q => q_2 (Or.inl q)) h01 hj_2 hM.2.2.1 h999 c_7).2.1
  | exact (hrsM_2 (r := m38 fs) (An := ma) (Ac := acM fc ma) (h := h9) (j := j_2) (fun q => q_2 (Or.inl q)) h01 hj_2 hM.2.2.1 h999 c_7).2.2.1
  | exact (hrsM_2 (r := m38 fs) (An := ma) (Ac := acM fc ma) (h := h9) (j := j_2) (fun q => q_2 (Or.inl q)) h01 hj_2 hM.2.2.1 h999 c_7).2.2.2
  | exact (hrs_pos (r := m38 fs) (An := ma) (Ac := acM fc ma) (h := h9) (j := j_2) (fun q => q_2 (Or.inl q)) h01 hj_2 hM.2.2.1 c_7 haf_1).1
  | exact (hrs_pos (r := m38 fs) (An := ma) (Ac := acM fc ma) (h := h9) (j := j_2) (fun q => q_2 (Or.inl q)) h01 hj_2 hM.2.2.1 c_7 haf_1).2.1
  | exact (hrs_pos (r := m38 fs) (An := ma) (Ac := acM fc ma) (h := h9) (j := j_2) (fun q => q_2 (Or.inl q)) h01 hj_2 hM.2.2.1 c_7 haf_1).2.2.1
  | exact (hrs_pos (r := m38 fs) (An := ma) (Ac := acM fc ma) (h := h9) (j := j_2) (fun q => q_2 (Or.inl q)) h01 hj_2 hM.2.2.1 c_7 haf_1).2.2.2
  | exact e_24.trans (hrs_pos (r := m38 fs) (An := ma) (Ac := acM fc ma) (h := h9) (j := j_2) (fun q => q_2 (Or.inl q)) h01 hj_2 hM.2.2.1 c_7 haf_1).2.2.2
theorem lf_X8_hours_5 {mt : Int32} {ma : Nat} {fs : Nat → Int32} {w9 : Nat} {k9 : Nat} {h9 : Nat} {fc : Nat → Int32} {a0 : Int32} (hM : okM fs w9 k9 h9) (hT : ¬ mt = 0 → 1 ≤ k9) (h999 : h9 ≤ 999) (hT0 : mt = 0 → fs 0 = 0 ∧ ma = 0) (hac : okA fc ma) (hma : ma ≤ 24) (c_1 : ¬ (mt = 0)) (hkn1 : 1 ≤ k9) (hw1 : 1 ≤ w9) (h01 : ¬ fs 0 = 0) (f_2_0_0 : ((a0).toInt64 < 1 ∨ 24 < (a0).toInt64)) (q_2 : (a0 < 1 ∨ 24 < a0)) : (-1000001) = (a_hrs (m38 fs) a0) := by
  have hw6 := hM.2.2.2.1
  have hk6 := hM.2.2.2.2.1
  first
  | exact hT0
  | (intro h_; exact absurd (hT0 h_).1 h01)
  | (intro h_; have h9 := (hT0 h_).2; omega)
  | exact (hrsM_0 (r := m38 fs) (An := ma) (Ac := acM fc ma) h00).1
  | exact (hrsM_0 (r := m38 fs) (An := ma) (Ac := acM fc ma) h00).2.1
  | exact (hrsM_0 (r := m38 fs) (An := ma) (Ac := acM fc ma) h00).2.2.1
  | exact (hrsM_0 (r := m38 fs) (An := ma) (Ac := acM fc ma) h00).2.2.2
  | exact (hrsM_1 (r := m38 fs) (An := ma) (Ac := acM fc ma) h01 q_2).1
  | exact (hrsM_1 (r := m38 fs) (An := ma) (Ac := acM fc ma) h01 q_2).2.1
  | exact (hrsM_1 (r := m38 fs) (An := ma) (Ac := acM fc ma) h01 q_2).2.2.1
  | exact (hrsM_1 (r := m38 fs) (An := ma) (Ac := acM fc ma) h01 q_2).2.2.2
  | exact (hrsM_2 (r := m38 fs) (An := ma) (Ac := acM fc ma) (h := h9) (j := j_2) (fun q => q_2 (Or.inl q)) h01 hj_2 hM.2.2.1 h999 c_7).1
  | exact (hrsM_2 (r := m38 fs) (An := ma) (Ac := acM fc ma) (h := h9) (j := j_2) (fun q => q_2 (Or.inl q)) h01 hj_2 hM.2.2.1 h999 c_7).2.1
  | exact (hrsM_2 (r := m38 fs) (An := ma) (Ac := acM fc ma) (h := h9) (j := j_2) (fun q => q_2 (Or.inl q)) h01 hj_2 hM.2.2.1 h999 c_7).2.2.1
  | exact (hrsM_2 (r := m38 fs) (An := ma) (Ac := acM fc ma) (h := h9) (j := j_2) (fun q => q_2 (Or.inl q)) h01 hj_2 hM.2.2.1 h999 c_7).2.2.2
  | exact (hrs_pos (r := m38 fs) (An := ma) (Ac := acM fc ma) (h := h9) (j := j_2) (fun q => q_2 (Or.inl q)) h01 hj_2 hM.2.2.1 c_7 haf_1).1
  | exact (hrs_pos (r := m38 fs) (An := ma) (Ac := acM fc ma) (h := h9) (j := j_2) (fun q => q_2 (Or.inl q)) h01 hj_2 hM.2.2.1 c_7 haf_1).2.1
  | exact (hrs_pos (r := m38 fs) (An := ma) (Ac := acM fc ma) (h := h9) (j := j_2) (fun q => q_2 (Or.inl q)) h01 hj_2 hM.2.2.1 c_7 haf_1).2.2.1
  | exact (hrs_pos (r := m38 fs) (An := ma) (Ac := acM fc ma) (h := h9) (j := j_2) (fun q => q_2 (Or.inl q)) h01 hj_2 hM.2.2.1 c_7 haf_1).2.2.2
  | exact e_24.trans (hrs_pos (r := m38 fs) (An := ma) (Ac := acM fc ma) (h := h9) (j := j_2) (fun q => q_2 (Or.inl q)) h01 hj_2 hM.2.2.1 c_7 haf_1).2.2.2
theorem lf_X8_hours_6 {mt : Int32} {ma : Nat} {fs : Nat → Int32} {w9 : Nat} {k9 : Nat} {h9 : Nat} {fc : Nat → Int32} {j_2 : Nat} {w_11 : Nat} {w_12 : Nat → Int32} {w_13 : Nat → Int32} {ii : Nat} {fcn_21 : Nat → Int32} {man_21 : Nat} {fsn_22 : Nat → Int32} (hM : okM fs w9 k9 h9) (hT : ¬ mt = 0 → 1 ≤ k9) (h999 : h9 ≤ 999) (hT0 : mt = 0 → fs 0 = 0 ∧ ma = 0) (hac : okA fc ma) (hma : ma ≤ 24) (c_1 : ¬ (mt = 0)) (hkn1 : 1 ≤ k9) (hw1 : 1 ≤ w9) (h01 : ¬ fs 0 = 0) (f_2_1_0 : (¬ (((nI j_2)).toInt64 < 1 ∨ 24 < ((nI j_2)).toInt64))) (q_2 : ¬ ((nI j_2) < 1 ∨ 24 < (nI j_2))) (hj_2 : j_2 ≤ 24) (c_7 : (h9 + j_2) ≤ 999) (hii : ii < j_2) (haf_0 : okA w_13 w_11) (haf_1 : (hrI ii (m38 fs) ma (acM fc ma) = (m38 w_12, w_11, acM w_13 w_11))) (hnb_w_11 : w_11 ≤ 24) (hMl : okM w_12 w9 k9 (h9 + ii)) (hF_21_0 : okA fcn_21 man_21) (hF_21_1 : man_21 ≤ 24) (hF_21_2 : 1 ≤ man_21) (hF_21_3 : acM fcn_21 man_21 = ntA (m38 w_12) w_11 (acM w_13 w_11)) (hF_21_4 : man_21 = ntN w_11) (hF_22_0 : okM fsn_22 w9 k9 ((h9 + ii) + 1)) (hF_22_1 : fsn_22 = mH w_12) : hrI (ii + 1) (m38 fs) ma (acM fc ma) = (m38 fsn_22, man_21, acM fcn_21 man_21) := by
  have h8 := mH_c hMl.1 hMl.2.2.2.1 hw1 hMl.2.1 hMl.2.2.2.2.1
  exact hr_stepM haf_1 (by assumption) (by assumption) (by assumption) h8
theorem lf_X8_hours_7 {mt : Int32} {ma : Nat} {fs : Nat → Int32} {w9 : Nat} {k9 : Nat} {h9 : Nat} {fc : Nat → Int32} {j_2 : Nat} {w_11 : Nat} {w_12 : Nat → Int32} {w_13 : Nat → Int32} {v_24 : Int32} (hM : okM fs w9 k9 h9) (hT : ¬ mt = 0 → 1 ≤ k9) (h999 : h9 ≤ 999) (hT0 : mt = 0 → fs 0 = 0 ∧ ma = 0) (hac : okA fc ma) (hma : ma ≤ 24) (c_1 : ¬ (mt = 0)) (hkn1 : 1 ≤ k9) (hw1 : 1 ≤ w9) (h01 : ¬ fs 0 = 0) (f_2_1_0 : (¬ (((nI j_2)).toInt64 < 1 ∨ 24 < ((nI j_2)).toInt64))) (q_2 : ¬ ((nI j_2) < 1 ∨ 24 < (nI j_2))) (hj_2 : j_2 ≤ 24) (c_7 : (h9 + j_2) ≤ 999) (haf_0 : okA w_13 w_11) (haf_1 : (hrI j_2 (m38 fs) ma (acM fc ma) = (m38 w_12, w_11, acM w_13 w_11))) (hnb_w_11 : w_11 ≤ 24) (hMl : okM w_12 w9 k9 (h9 + j_2)) (e_24 : v_24 = w_12 7) : (mt = 0 → w_12 0 = 0 ∧ w_11 = 0) := by
  have hw6 := hM.2.2.2.1
  have hk6 := hM.2.2.2.2.1
  first
  | exact hT0
  | (intro h_; exact absurd (hT0 h_).1 h01)
  | (intro h_; have h9 := (hT0 h_).2; omega)
  | exact (hrsM_0 (r := m38 fs) (An := ma) (Ac := acM fc ma) h00).1
  | exact (hrsM_0 (r := m38 fs) (An := ma) (Ac := acM fc ma) h00).2.1
  | exact (hrsM_0 (r := m38 fs) (An := ma) (Ac := acM fc ma) h00).2.2.1
  | exact (hrsM_0 (r := m38 fs) (An := ma) (Ac := acM fc ma) h00).2.2.2
  | exact (hrsM_1 (r := m38 fs) (An := ma) (Ac := acM fc ma) h01 q_2).1
  | exact (hrsM_1 (r := m38 fs) (An := ma) (Ac := acM fc ma) h01 q_2).2.1
  | exact (hrsM_1 (r := m38 fs) (An := ma) (Ac := acM fc ma) h01 q_2).2.2.1
  | exact (hrsM_1 (r := m38 fs) (An := ma) (Ac := acM fc ma) h01 q_2).2.2.2
  | exact (hrsM_2 (r := m38 fs) (An := ma) (Ac := acM fc ma) (h := h9) (j := j_2) (fun q => q_2 (Or.inl q)) h01 hj_2 hM.2.2.1 h999 c_7).1
  | exact (hrsM_2 (r := m38 fs) (An := ma) (Ac := acM fc ma) (h := h9) (j := j_2) (fun q => q_2 (Or.inl q)) h01 hj_2 hM.2.2.1 h999 c_7).2.1
  | exact (hrsM_2 (r := m38 fs) (An := ma) (Ac := acM fc ma) (h := h9) (j := j_2) (fun q => q_2 (Or.inl q)) h01 hj_2 hM.2.2.1 h999 c_7).2.2.1
  | exact (hrsM_2 (r := m38 fs) (An := ma) (Ac := acM fc ma) (h := h9) (j := j_2) (fun q => q_2 (Or.inl q)) h01 hj_2 hM.2.2.1 h999 c_7).2.2.2
  | exact (hrs_pos (r := m38 fs) (An := ma) (Ac := acM fc ma) (h := h9) (j := j_2) (fun q => q_2 (Or.inl q)) h01 hj_2 hM.2.2.1 c_7 haf_1).1
  | exact (hrs_pos (r := m38 fs) (An := ma) (Ac := acM fc ma) (h := h9) (j := j_2) (fun q => q_2 (Or.inl q)) h01 hj_2 hM.2.2.1 c_7 haf_1).2.1
  | exact (hrs_pos (r := m38 fs) (An := ma) (Ac := acM fc ma) (h := h9) (j := j_2) (fun q => q_2 (Or.inl q)) h01 hj_2 hM.2.2.1 c_7 haf_1).2.2.1
  | exact (hrs_pos (r := m38 fs) (An := ma) (Ac := acM fc ma) (h := h9) (j := j_2) (fun q => q_2 (Or.inl q)) h01 hj_2 hM.2.2.1 c_7 haf_1).2.2.2
  | exact e_24.trans (hrs_pos (r := m38 fs) (An := ma) (Ac := acM fc ma) (h := h9) (j := j_2) (fun q => q_2 (Or.inl q)) h01 hj_2 hM.2.2.1 c_7 haf_1).2.2.2
theorem lf_X8_hours_8 {mt : Int32} {ma : Nat} {fs : Nat → Int32} {w9 : Nat} {k9 : Nat} {h9 : Nat} {fc : Nat → Int32} {j_2 : Nat} {w_11 : Nat} {w_12 : Nat → Int32} {w_13 : Nat → Int32} {v_24 : Int32} (hM : okM fs w9 k9 h9) (hT : ¬ mt = 0 → 1 ≤ k9) (h999 : h9 ≤ 999) (hT0 : mt = 0 → fs 0 = 0 ∧ ma = 0) (hac : okA fc ma) (hma : ma ≤ 24) (c_1 : ¬ (mt = 0)) (hkn1 : 1 ≤ k9) (hw1 : 1 ≤ w9) (h01 : ¬ fs 0 = 0) (f_2_1_0 : (¬ (((nI j_2)).toInt64 < 1 ∨ 24 < ((nI j_2)).toInt64))) (q_2 : ¬ ((nI j_2) < 1 ∨ 24 < (nI j_2))) (hj_2 : j_2 ≤ 24) (c_7 : (h9 + j_2) ≤ 999) (haf_0 : okA w_13 w_11) (haf_1 : (hrI j_2 (m38 fs) ma (acM fc ma) = (m38 w_12, w_11, acM w_13 w_11))) (hnb_w_11 : w_11 ≤ 24) (hMl : okM w_12 w9 k9 (h9 + j_2)) (e_24 : v_24 = w_12 7) : m38 w_12 = (s_hrs (m38 fs) ma (acM fc ma) (nI j_2)).1 := by
  have hw6 := hM.2.2.2.1
  have hk6 := hM.2.2.2.2.1
  first
  | exact hT0
  | (intro h_; exact absurd (hT0 h_).1 h01)
  | (intro h_; have h9 := (hT0 h_).2; omega)
  | exact (hrsM_0 (r := m38 fs) (An := ma) (Ac := acM fc ma) h00).1
  | exact (hrsM_0 (r := m38 fs) (An := ma) (Ac := acM fc ma) h00).2.1
  | exact (hrsM_0 (r := m38 fs) (An := ma) (Ac := acM fc ma) h00).2.2.1
  | exact (hrsM_0 (r := m38 fs) (An := ma) (Ac := acM fc ma) h00).2.2.2
  | exact (hrsM_1 (r := m38 fs) (An := ma) (Ac := acM fc ma) h01 q_2).1
  | exact (hrsM_1 (r := m38 fs) (An := ma) (Ac := acM fc ma) h01 q_2).2.1
  | exact (hrsM_1 (r := m38 fs) (An := ma) (Ac := acM fc ma) h01 q_2).2.2.1
  | exact (hrsM_1 (r := m38 fs) (An := ma) (Ac := acM fc ma) h01 q_2).2.2.2
  | exact (hrsM_2 (r := m38 fs) (An := ma) (Ac := acM fc ma) (h := h9) (j := j_2) (fun q => q_2 (Or.inl q)) h01 hj_2 hM.2.2.1 h999 c_7).1
  | exact (hrsM_2 (r := m38 fs) (An := ma) (Ac := acM fc ma) (h := h9) (j := j_2) (fun q => q_2 (Or.inl q)) h01 hj_2 hM.2.2.1 h999 c_7).2.1
  | exact (hrsM_2 (r := m38 fs) (An := ma) (Ac := acM fc ma) (h := h9) (j := j_2) (fun q => q_2 (Or.inl q)) h01 hj_2 hM.2.2.1 h999 c_7).2.2.1
  | exact (hrsM_2 (r := m38 fs) (An := ma) (Ac := acM fc ma) (h := h9) (j := j_2) (fun q => q_2 (Or.inl q)) h01 hj_2 hM.2.2.1 h999 c_7).2.2.2
  | exact (hrs_pos (r := m38 fs) (An := ma) (Ac := acM fc ma) (h := h9) (j := j_2) (fun q => q_2 (Or.inl q)) h01 hj_2 hM.2.2.1 c_7 haf_1).1
  | exact (hrs_pos (r := m38 fs) (An := ma) (Ac := acM fc ma) (h := h9) (j := j_2) (fun q => q_2 (Or.inl q)) h01 hj_2 hM.2.2.1 c_7 haf_1).2.1
  | exact (hrs_pos (r := m38 fs) (An := ma) (Ac := acM fc ma) (h := h9) (j := j_2) (fun q => q_2 (Or.inl q)) h01 hj_2 hM.2.2.1 c_7 haf_1).2.2.1
  | exact (hrs_pos (r := m38 fs) (An := ma) (Ac := acM fc ma) (h := h9) (j := j_2) (fun q => q_2 (Or.inl q)) h01 hj_2 hM.2.2.1 c_7 haf_1).2.2.2
  | exact e_24.trans (hrs_pos (r := m38 fs) (An := ma) (Ac := acM fc ma) (h := h9) (j := j_2) (fun q => q_2 (Or.inl q)) h01 hj_2 hM.2.2.1 c_7 haf_1).2.2.2
theorem lf_X8_hours_9 {mt : Int32} {ma : Nat} {fs : Nat → Int32} {w9 : Nat} {k9 : Nat} {h9 : Nat} {fc : Nat → Int32} {j_2 : Nat} {w_11 : Nat} {w_12 : Nat → Int32} {w_13 : Nat → Int32} {v_24 : Int32} (hM : okM fs w9 k9 h9) (hT : ¬ mt = 0 → 1 ≤ k9) (h999 : h9 ≤ 999) (hT0 : mt = 0 → fs 0 = 0 ∧ ma = 0) (hac : okA fc ma) (hma : ma ≤ 24) (c_1 : ¬ (mt = 0)) (hkn1 : 1 ≤ k9) (hw1 : 1 ≤ w9) (h01 : ¬ fs 0 = 0) (f_2_1_0 : (¬ (((nI j_2)).toInt64 < 1 ∨ 24 < ((nI j_2)).toInt64))) (q_2 : ¬ ((nI j_2) < 1 ∨ 24 < (nI j_2))) (hj_2 : j_2 ≤ 24) (c_7 : (h9 + j_2) ≤ 999) (haf_0 : okA w_13 w_11) (haf_1 : (hrI j_2 (m38 fs) ma (acM fc ma) = (m38 w_12, w_11, acM w_13 w_11))) (hnb_w_11 : w_11 ≤ 24) (hMl : okM w_12 w9 k9 (h9 + j_2)) (e_24 : v_24 = w_12 7) : w_11 = (s_hrs (m38 fs) ma (acM fc ma) (nI j_2)).2.1 := by
  have hw6 := hM.2.2.2.1
  have hk6 := hM.2.2.2.2.1
  first
  | exact hT0
  | (intro h_; exact absurd (hT0 h_).1 h01)
  | (intro h_; have h9 := (hT0 h_).2; omega)
  | exact (hrsM_0 (r := m38 fs) (An := ma) (Ac := acM fc ma) h00).1
  | exact (hrsM_0 (r := m38 fs) (An := ma) (Ac := acM fc ma) h00).2.1
  | exact (hrsM_0 (r := m38 fs) (An := ma) (Ac := acM fc ma) h00).2.2.1
  | exact (hrsM_0 (r := m38 fs) (An := ma) (Ac := acM fc ma) h00).2.2.2
  | exact (hrsM_1 (r := m38 fs) (An := ma) (Ac := acM fc ma) h01 q_2).1
  | exact (hrsM_1 (r := m38 fs) (An := ma) (Ac := acM fc ma) h01 q_2).2.1
  | exact (hrsM_1 (r := m38 fs) (An := ma) (Ac := acM fc ma) h01 q_2).2.2.1
  | exact (hrsM_1 (r := m38 fs) (An := ma) (Ac := acM fc ma) h01 q_2).2.2.2
  | exact (hrsM_2 (r := m38 fs) (An := ma) (Ac := acM fc ma) (h := h9) (j := j_2) (fun q => q_2 (Or.inl q)) h01 hj_2 hM.2.2.1 h999 c_7).1
  | exact (hrsM_2 (r := m38 fs) (An := ma) (Ac := acM fc ma) (h := h9) (j := j_2) (fun q => q_2 (Or.inl q)) h01 hj_2 hM.2.2.1 h999 c_7).2.1
  | exact (hrsM_2 (r := m38 fs) (An := ma) (Ac := acM fc ma) (h := h9) (j := j_2) (fun q => q_2 (Or.inl q)) h01 hj_2 hM.2.2.1 h999 c_7).2.2.1
  | exact (hrsM_2 (r := m38 fs) (An := ma) (Ac := acM fc ma) (h := h9) (j := j_2) (fun q => q_2 (Or.inl q)) h01 hj_2 hM.2.2.1 h999 c_7).2.2.2
  | exact (hrs_pos (r := m38 fs) (An := ma) (Ac := acM fc ma) (h := h9) (j := j_2) (fun q => q_2 (Or.inl q)) h01 hj_2 hM.2.2.1 c_7 haf_1).1
  | exact (hrs_pos (r := m38 fs) (An := ma) (Ac := acM fc ma) (h := h9) (j := j_2) (fun q => q_2 (Or.inl q)) h01 hj_2 hM.2.2.1 c_7 haf_1).2.1
  | exact (hrs_pos (r := m38 fs) (An := ma) (Ac := acM fc ma) (h := h9) (j := j_2) (fun q => q_2 (Or.inl q)) h01 hj_2 hM.2.2.1 c_7 haf_1).2.2.1
  | exact (hrs_pos (r := m38 fs) (An := ma) (Ac := acM fc ma) (h := h9) (j := j_2) (fun q => q_2 (Or.inl q)) h01 hj_2 hM.2.2.1 c_7 haf_1).2.2.2
  | exact e_24.trans (hrs_pos (r := m38 fs) (An := ma) (Ac := acM fc ma) (h := h9) (j := j_2) (fun q => q_2 (Or.inl q)) h01 hj_2 hM.2.2.1 c_7 haf_1).2.2.2
theorem lf_X8_hours_10 {mt : Int32} {ma : Nat} {fs : Nat → Int32} {w9 : Nat} {k9 : Nat} {h9 : Nat} {fc : Nat → Int32} {j_2 : Nat} {w_11 : Nat} {w_12 : Nat → Int32} {w_13 : Nat → Int32} {v_24 : Int32} (hM : okM fs w9 k9 h9) (hT : ¬ mt = 0 → 1 ≤ k9) (h999 : h9 ≤ 999) (hT0 : mt = 0 → fs 0 = 0 ∧ ma = 0) (hac : okA fc ma) (hma : ma ≤ 24) (c_1 : ¬ (mt = 0)) (hkn1 : 1 ≤ k9) (hw1 : 1 ≤ w9) (h01 : ¬ fs 0 = 0) (f_2_1_0 : (¬ (((nI j_2)).toInt64 < 1 ∨ 24 < ((nI j_2)).toInt64))) (q_2 : ¬ ((nI j_2) < 1 ∨ 24 < (nI j_2))) (hj_2 : j_2 ≤ 24) (c_7 : (h9 + j_2) ≤ 999) (haf_0 : okA w_13 w_11) (haf_1 : (hrI j_2 (m38 fs) ma (acM fc ma) = (m38 w_12, w_11, acM w_13 w_11))) (hnb_w_11 : w_11 ≤ 24) (hMl : okM w_12 w9 k9 (h9 + j_2)) (e_24 : v_24 = w_12 7) : acM w_13 w_11 = (s_hrs (m38 fs) ma (acM fc ma) (nI j_2)).2.2 := by
  have hw6 := hM.2.2.2.1
  have hk6 := hM.2.2.2.2.1
  first
  | exact hT0
  | (intro h_; exact absurd (hT0 h_).1 h01)
  | (intro h_; have h9 := (hT0 h_).2; omega)
  | exact (hrsM_0 (r := m38 fs) (An := ma) (Ac := acM fc ma) h00).1
  | exact (hrsM_0 (r := m38 fs) (An := ma) (Ac := acM fc ma) h00).2.1
  | exact (hrsM_0 (r := m38 fs) (An := ma) (Ac := acM fc ma) h00).2.2.1
  | exact (hrsM_0 (r := m38 fs) (An := ma) (Ac := acM fc ma) h00).2.2.2
  | exact (hrsM_1 (r := m38 fs) (An := ma) (Ac := acM fc ma) h01 q_2).1
  | exact (hrsM_1 (r := m38 fs) (An := ma) (Ac := acM fc ma) h01 q_2).2.1
  | exact (hrsM_1 (r := m38 fs) (An := ma) (Ac := acM fc ma) h01 q_2).2.2.1
  | exact (hrsM_1 (r := m38 fs) (An := ma) (Ac := acM fc ma) h01 q_2).2.2.2
  | exact (hrsM_2 (r := m38 fs) (An := ma) (Ac := acM fc ma) (h := h9) (j := j_2) (fun q => q_2 (Or.inl q)) h01 hj_2 hM.2.2.1 h999 c_7).1
  | exact (hrsM_2 (r := m38 fs) (An := ma) (Ac := acM fc ma) (h := h9) (j := j_2) (fun q => q_2 (Or.inl q)) h01 hj_2 hM.2.2.1 h999 c_7).2.1
  | exact (hrsM_2 (r := m38 fs) (An := ma) (Ac := acM fc ma) (h := h9) (j := j_2) (fun q => q_2 (Or.inl q)) h01 hj_2 hM.2.2.1 h999 c_7).2.2.1
  | exact (hrsM_2 (r := m38 fs) (An := ma) (Ac := acM fc ma) (h := h9) (j := j_2) (fun q => q_2 (Or.inl q)) h01 hj_2 hM.2.2.1 h999 c_7).2.2.2
  | exact (hrs_pos (r := m38 fs) (An := ma) (Ac := acM fc ma) (h := h9) (j := j_2) (fun q => q_2 (Or.inl q)) h01 hj_2 hM.2.2.1 c_7 haf_1).1
  | exact (hrs_pos (r := m38 fs) (An := ma) (Ac := acM fc ma) (h := h9) (j := j_2) (fun q => q_2 (Or.inl q)) h01 hj_2 hM.2.2.1 c_7 haf_1).2.1
  | exact (hrs_pos (r := m38 fs) (An := ma) (Ac := acM fc ma) (h := h9) (j := j_2) (fun q => q_2 (Or.inl q)) h01 hj_2 hM.2.2.1 c_7 haf_1).2.2.1
  | exact (hrs_pos (r := m38 fs) (An := ma) (Ac := acM fc ma) (h := h9) (j := j_2) (fun q => q_2 (Or.inl q)) h01 hj_2 hM.2.2.1 c_7 haf_1).2.2.2
  | exact e_24.trans (hrs_pos (r := m38 fs) (An := ma) (Ac := acM fc ma) (h := h9) (j := j_2) (fun q => q_2 (Or.inl q)) h01 hj_2 hM.2.2.1 c_7 haf_1).2.2.2
theorem lf_X8_hours_11 {mt : Int32} {ma : Nat} {fs : Nat → Int32} {w9 : Nat} {k9 : Nat} {h9 : Nat} {fc : Nat → Int32} {j_2 : Nat} {w_11 : Nat} {w_12 : Nat → Int32} {w_13 : Nat → Int32} {v_24 : Int32} (hM : okM fs w9 k9 h9) (hT : ¬ mt = 0 → 1 ≤ k9) (h999 : h9 ≤ 999) (hT0 : mt = 0 → fs 0 = 0 ∧ ma = 0) (hac : okA fc ma) (hma : ma ≤ 24) (c_1 : ¬ (mt = 0)) (hkn1 : 1 ≤ k9) (hw1 : 1 ≤ w9) (h01 : ¬ fs 0 = 0) (f_2_1_0 : (¬ (((nI j_2)).toInt64 < 1 ∨ 24 < ((nI j_2)).toInt64))) (q_2 : ¬ ((nI j_2) < 1 ∨ 24 < (nI j_2))) (hj_2 : j_2 ≤ 24) (c_7 : (h9 + j_2) ≤ 999) (haf_0 : okA w_13 w_11) (haf_1 : (hrI j_2 (m38 fs) ma (acM fc ma) = (m38 w_12, w_11, acM w_13 w_11))) (hnb_w_11 : w_11 ≤ 24) (hMl : okM w_12 w9 k9 (h9 + j_2)) (e_24 : v_24 = w_12 7) : v_24 = (a_hrs (m38 fs) (nI j_2)) := by
  have hw6 := hM.2.2.2.1
  have hk6 := hM.2.2.2.2.1
  first
  | exact hT0
  | (intro h_; exact absurd (hT0 h_).1 h01)
  | (intro h_; have h9 := (hT0 h_).2; omega)
  | exact (hrsM_0 (r := m38 fs) (An := ma) (Ac := acM fc ma) h00).1
  | exact (hrsM_0 (r := m38 fs) (An := ma) (Ac := acM fc ma) h00).2.1
  | exact (hrsM_0 (r := m38 fs) (An := ma) (Ac := acM fc ma) h00).2.2.1
  | exact (hrsM_0 (r := m38 fs) (An := ma) (Ac := acM fc ma) h00).2.2.2
  | exact (hrsM_1 (r := m38 fs) (An := ma) (Ac := acM fc ma) h01 q_2).1
  | exact (hrsM_1 (r := m38 fs) (An := ma) (Ac := acM fc ma) h01 q_2).2.1
  | exact (hrsM_1 (r := m38 fs) (An := ma) (Ac := acM fc ma) h01 q_2).2.2.1
  | exact (hrsM_1 (r := m38 fs) (An := ma) (Ac := acM fc ma) h01 q_2).2.2.2
  | exact (hrsM_2 (r := m38 fs) (An := ma) (Ac := acM fc ma) (h := h9) (j := j_2) (fun q => q_2 (Or.inl q)) h01 hj_2 hM.2.2.1 h999 c_7).1
  | exact (hrsM_2 (r := m38 fs) (An := ma) (Ac := acM fc ma) (h := h9) (j := j_2) (fun q => q_2 (Or.inl q)) h01 hj_2 hM.2.2.1 h999 c_7).2.1
  | exact (hrsM_2 (r := m38 fs) (An := ma) (Ac := acM fc ma) (h := h9) (j := j_2) (fun q => q_2 (Or.inl q)) h01 hj_2 hM.2.2.1 h999 c_7).2.2.1
  | exact (hrsM_2 (r := m38 fs) (An := ma) (Ac := acM fc ma) (h := h9) (j := j_2) (fun q => q_2 (Or.inl q)) h01 hj_2 hM.2.2.1 h999 c_7).2.2.2
  | exact (hrs_pos (r := m38 fs) (An := ma) (Ac := acM fc ma) (h := h9) (j := j_2) (fun q => q_2 (Or.inl q)) h01 hj_2 hM.2.2.1 c_7 haf_1).1
  | exact (hrs_pos (r := m38 fs) (An := ma) (Ac := acM fc ma) (h := h9) (j := j_2) (fun q => q_2 (Or.inl q)) h01 hj_2 hM.2.2.1 c_7 haf_1).2.1
  | exact (hrs_pos (r := m38 fs) (An := ma) (Ac := acM fc ma) (h := h9) (j := j_2) (fun q => q_2 (Or.inl q)) h01 hj_2 hM.2.2.1 c_7 haf_1).2.2.1
  | exact (hrs_pos (r := m38 fs) (An := ma) (Ac := acM fc ma) (h := h9) (j := j_2) (fun q => q_2 (Or.inl q)) h01 hj_2 hM.2.2.1 c_7 haf_1).2.2.2
  | exact e_24.trans (hrs_pos (r := m38 fs) (An := ma) (Ac := acM fc ma) (h := h9) (j := j_2) (fun q => q_2 (Or.inl q)) h01 hj_2 hM.2.2.1 c_7 haf_1).2.2.2
theorem lf_X8_hours_12 {mt : Int32} {ma : Nat} {fs : Nat → Int32} {w9 : Nat} {k9 : Nat} {h9 : Nat} {fc : Nat → Int32} {j_2 : Nat} (hM : okM fs w9 k9 h9) (hT : ¬ mt = 0 → 1 ≤ k9) (h999 : h9 ≤ 999) (hT0 : mt = 0 → fs 0 = 0 ∧ ma = 0) (hac : okA fc ma) (hma : ma ≤ 24) (c_1 : ¬ (mt = 0)) (hkn1 : 1 ≤ k9) (hw1 : 1 ≤ w9) (h01 : ¬ fs 0 = 0) (f_2_1_0 : (¬ (((nI j_2)).toInt64 < 1 ∨ 24 < ((nI j_2)).toInt64))) (q_2 : ¬ ((nI j_2) < 1 ∨ 24 < (nI j_2))) (hj_2 : j_2 ≤ 24) (c_7 : ¬ ((h9 + j_2) ≤ 999)) : (mt = 0 → fs 0 = 0 ∧ ma = 0) := by
  have hw6 := hM.2.2.2.1
  have hk6 := hM.2.2.2.2.1
  first
  | exact hT0
  | (intro h_; exact absurd (hT0 h_).1 h01)
  | (intro h_; have h9 := (hT0 h_).2; omega)
  | exact (hrsM_0 (r := m38 fs) (An := ma) (Ac := acM fc ma) h00).1
  | exact (hrsM_0 (r := m38 fs) (An := ma) (Ac := acM fc ma) h00).2.1
  | exact (hrsM_0 (r := m38 fs) (An := ma) (Ac := acM fc ma) h00).2.2.1
  | exact (hrsM_0 (r := m38 fs) (An := ma) (Ac := acM fc ma) h00).2.2.2
  | exact (hrsM_1 (r := m38 fs) (An := ma) (Ac := acM fc ma) h01 q_2).1
  | exact (hrsM_1 (r := m38 fs) (An := ma) (Ac := acM fc ma) h01 q_2).2.1
  | exact (hrsM_1 (r := m38 fs) (An := ma) (Ac := acM fc ma) h01 q_2).2.2.1
  | exact (hrsM_1 (r := m38 fs) (An := ma) (Ac := acM fc ma) h01 q_2).2.2.2
  | exact (hrsM_2 (r := m38 fs) (An := ma) (Ac := acM fc ma) (h := h9) (j := j_2) (fun q => q_2 (Or.inl q)) h01 hj_2 hM.2.2.1 h999 c_7).1
  | exact (hrsM_2 (r := m38 fs) (An := ma) (Ac := acM fc ma) (h := h9) (j := j_2) (fun q => q_2 (Or.inl q)) h01 hj_2 hM.2.2.1 h999 c_7).2.1
  | exact (hrsM_2 (r := m38 fs) (An := ma) (Ac := acM fc ma) (h := h9) (j := j_2) (fun q => q_2 (Or.inl q)) h01 hj_2 hM.2.2.1 h999 c_7).2.2.1
  | exact (hrsM_2 (r := m38 fs) (An := ma) (Ac := acM fc ma) (h := h9) (j := j_2) (fun q => q_2 (Or.inl q)) h01 hj_2 hM.2.2.1 h999 c_7).2.2.2
  | exact (hrs_pos (r := m38 fs) (An := ma) (Ac := acM fc ma) (h := h9) (j := j_2) (fun q => q_2 (Or.inl q)) h01 hj_2 hM.2.2.1 c_7 haf_1).1
  | exact (hrs_pos (r := m38 fs) (An := ma) (Ac := acM fc ma) (h := h9) (j := j_2) (fun q => q_2 (Or.inl q)) h01 hj_2 hM.2.2.1 c_7 haf_1).2.1
  | exact (hrs_pos (r := m38 fs) (An := ma) (Ac := acM fc ma) (h := h9) (j := j_2) (fun q => q_2 (Or.inl q)) h01 hj_2 hM.2.2.1 c_7 haf_1).2.2.1
  | exact (hrs_pos (r := m38 fs) (An := ma) (Ac := acM fc ma) (h := h9) (j := j_2) (fun q => q_2 (Or.inl q)) h01 hj_2 hM.2.2.1 c_7 haf_1).2.2.2
  | exact e_24.trans (hrs_pos (r := m38 fs) (An := ma) (Ac := acM fc ma) (h := h9) (j := j_2) (fun q => q_2 (Or.inl q)) h01 hj_2 hM.2.2.1 c_7 haf_1).2.2.2
theorem lf_X8_hours_13 {mt : Int32} {ma : Nat} {fs : Nat → Int32} {w9 : Nat} {k9 : Nat} {h9 : Nat} {fc : Nat → Int32} {j_2 : Nat} (hM : okM fs w9 k9 h9) (hT : ¬ mt = 0 → 1 ≤ k9) (h999 : h9 ≤ 999) (hT0 : mt = 0 → fs 0 = 0 ∧ ma = 0) (hac : okA fc ma) (hma : ma ≤ 24) (c_1 : ¬ (mt = 0)) (hkn1 : 1 ≤ k9) (hw1 : 1 ≤ w9) (h01 : ¬ fs 0 = 0) (f_2_1_0 : (¬ (((nI j_2)).toInt64 < 1 ∨ 24 < ((nI j_2)).toInt64))) (q_2 : ¬ ((nI j_2) < 1 ∨ 24 < (nI j_2))) (hj_2 : j_2 ≤ 24) (c_7 : ¬ ((h9 + j_2) ≤ 999)) : m38 fs = (s_hrs (m38 fs) ma (acM fc ma) (nI j_2)).1 := by
  have hw6 := hM.2.2.2.1
  have hk6 := hM.2.2.2.2.1
  first
  | exact hT0
  | (intro h_; exact absurd (hT0 h_).1 h01)
  | (intro h_; have h9 := (hT0 h_).2; omega)
  | exact (hrsM_0 (r := m38 fs) (An := ma) (Ac := acM fc ma) h00).1
  | exact (hrsM_0 (r := m38 fs) (An := ma) (Ac := acM fc ma) h00).2.1
  | exact (hrsM_0 (r := m38 fs) (An := ma) (Ac := acM fc ma) h00).2.2.1
  | exact (hrsM_0 (r := m38 fs) (An := ma) (Ac := acM fc ma) h00).2.2.2
  | exact (hrsM_1 (r := m38 fs) (An := ma) (Ac := acM fc ma) h01 q_2).1
  | exact (hrsM_1 (r := m38 fs) (An := ma) (Ac := acM fc ma) h01 q_2).2.1
  | exact (hrsM_1 (r := m38 fs) (An := ma) (Ac := acM fc ma) h01 q_2).2.2.1
  | exact (hrsM_1 (r := m38 fs) (An := ma) (Ac := acM fc ma) h01 q_2).2.2.2
  | exact (hrsM_2 (r := m38 fs) (An := ma) (Ac := acM fc ma) (h := h9) (j := j_2) (fun q => q_2 (Or.inl q)) h01 hj_2 hM.2.2.1 h999 c_7).1
  | exact (hrsM_2 (r := m38 fs) (An := ma) (Ac := acM fc ma) (h := h9) (j := j_2) (fun q => q_2 (Or.inl q)) h01 hj_2 hM.2.2.1 h999 c_7).2.1
  | exact (hrsM_2 (r := m38 fs) (An := ma) (Ac := acM fc ma) (h := h9) (j := j_2) (fun q => q_2 (Or.inl q)) h01 hj_2 hM.2.2.1 h999 c_7).2.2.1
  | exact (hrsM_2 (r := m38 fs) (An := ma) (Ac := acM fc ma) (h := h9) (j := j_2) (fun q => q_2 (Or.inl q)) h01 hj_2 hM.2.2.1 h999 c_7).2.2.2
  | exact (hrs_pos (r := m38 fs) (An := ma) (Ac := acM fc ma) (h := h9) (j := j_2) (fun q => q_2 (Or.inl q)) h01 hj_2 hM.2.2.1 c_7 haf_1).1
  | exact (hrs_pos (r := m38 fs) (An := ma) (Ac := acM fc ma) (h := h9) (j := j_2) (fun q => q_2 (Or.inl q)) h01 hj_2 hM.2.2.1 c_7 haf_1).2.1
  | exact (hrs_pos (r := m38 fs) (An := ma) (Ac := acM fc ma) (h := h9) (j := j_2) (fun q => q_2 (Or.inl q)) h01 hj_2 hM.2.2.1 c_7 haf_1).2.2.1
  | exact (hrs_pos (r := m38 fs) (An := ma) (Ac := acM fc ma) (h := h9) (j := j_2) (fun q => q_2 (Or.inl q)) h01 hj_2 hM.2.2.1 c_7 haf_1).2.2.2
  | exact e_24.trans (hrs_pos (r := m38 fs) (An := ma) (Ac := acM fc ma) (h := h9) (j := j_2) (fun q => q_2 (Or.inl q)) h01 hj_2 hM.2.2.1 c_7 haf_1).2.2.2
theorem lf_X8_hours_14 {mt : Int32} {ma : Nat} {fs : Nat → Int32} {w9 : Nat} {k9 : Nat} {h9 : Nat} {fc : Nat → Int32} {j_2 : Nat} (hM : okM fs w9 k9 h9) (hT : ¬ mt = 0 → 1 ≤ k9) (h999 : h9 ≤ 999) (hT0 : mt = 0 → fs 0 = 0 ∧ ma = 0) (hac : okA fc ma) (hma : ma ≤ 24) (c_1 : ¬ (mt = 0)) (hkn1 : 1 ≤ k9) (hw1 : 1 ≤ w9) (h01 : ¬ fs 0 = 0) (f_2_1_0 : (¬ (((nI j_2)).toInt64 < 1 ∨ 24 < ((nI j_2)).toInt64))) (q_2 : ¬ ((nI j_2) < 1 ∨ 24 < (nI j_2))) (hj_2 : j_2 ≤ 24) (c_7 : ¬ ((h9 + j_2) ≤ 999)) : ma = (s_hrs (m38 fs) ma (acM fc ma) (nI j_2)).2.1 := by
  have hw6 := hM.2.2.2.1
  have hk6 := hM.2.2.2.2.1
  first
  | exact hT0
  | (intro h_; exact absurd (hT0 h_).1 h01)
  | (intro h_; have h9 := (hT0 h_).2; omega)
  | exact (hrsM_0 (r := m38 fs) (An := ma) (Ac := acM fc ma) h00).1
  | exact (hrsM_0 (r := m38 fs) (An := ma) (Ac := acM fc ma) h00).2.1
  | exact (hrsM_0 (r := m38 fs) (An := ma) (Ac := acM fc ma) h00).2.2.1
  | exact (hrsM_0 (r := m38 fs) (An := ma) (Ac := acM fc ma) h00).2.2.2
  | exact (hrsM_1 (r := m38 fs) (An := ma) (Ac := acM fc ma) h01 q_2).1
  | exact (hrsM_1 (r := m38 fs) (An := ma) (Ac := acM fc ma) h01 q_2).2.1
  | exact (hrsM_1 (r := m38 fs) (An := ma) (Ac := acM fc ma) h01 q_2).2.2.1
  | exact (hrsM_1 (r := m38 fs) (An := ma) (Ac := acM fc ma) h01 q_2).2.2.2
  | exact (hrsM_2 (r := m38 fs) (An := ma) (Ac := acM fc ma) (h := h9) (j := j_2) (fun q => q_2 (Or.inl q)) h01 hj_2 hM.2.2.1 h999 c_7).1
  | exact (hrsM_2 (r := m38 fs) (An := ma) (Ac := acM fc ma) (h := h9) (j := j_2) (fun q => q_2 (Or.inl q)) h01 hj_2 hM.2.2.1 h999 c_7).2.1
  | exact (hrsM_2 (r := m38 fs) (An := ma) (Ac := acM fc ma) (h := h9) (j := j_2) (fun q => q_2 (Or.inl q)) h01 hj_2 hM.2.2.1 h999 c_7).2.2.1
  | exact (hrsM_2 (r := m38 fs) (An := ma) (Ac := acM fc ma) (h := h9) (j := j_2) (fun q => q_2 (Or.inl q)) h01 hj_2 hM.2.2.1 h999 c_7).2.2.2
  | exact (hrs_pos (r := m38 fs) (An := ma) (Ac := acM fc ma) (h := h9) (j := j_2) (fun q => q_2 (Or.inl q)) h01 hj_2 hM.2.2.1 c_7 haf_1).1
  | exact (hrs_pos (r := m38 fs) (An := ma) (Ac := acM fc ma) (h := h9) (j := j_2) (fun q => q_2 (Or.inl q)) h01 hj_2 hM.2.2.1 c_7 haf_1).2.1
  | exact (hrs_pos (r := m38 fs) (An := ma) (Ac := acM fc ma) (h := h9) (j := j_2) (fun q => q_2 (Or.inl q)) h01 hj_2 hM.2.2.1 c_7 haf_1).2.2.1
  | exact (hrs_pos (r := m38 fs) (An := ma) (Ac := acM fc ma) (h := h9) (j := j_2) (fun q => q_2 (Or.inl q)) h01 hj_2 hM.2.2.1 c_7 haf_1).2.2.2
  | exact e_24.trans (hrs_pos (r := m38 fs) (An := ma) (Ac := acM fc ma) (h := h9) (j := j_2) (fun q => q_2 (Or.inl q)) h01 hj_2 hM.2.2.1 c_7 haf_1).2.2.2
theorem lf_X8_hours_15 {mt : Int32} {ma : Nat} {fs : Nat → Int32} {w9 : Nat} {k9 : Nat} {h9 : Nat} {fc : Nat → Int32} {j_2 : Nat} (hM : okM fs w9 k9 h9) (hT : ¬ mt = 0 → 1 ≤ k9) (h999 : h9 ≤ 999) (hT0 : mt = 0 → fs 0 = 0 ∧ ma = 0) (hac : okA fc ma) (hma : ma ≤ 24) (c_1 : ¬ (mt = 0)) (hkn1 : 1 ≤ k9) (hw1 : 1 ≤ w9) (h01 : ¬ fs 0 = 0) (f_2_1_0 : (¬ (((nI j_2)).toInt64 < 1 ∨ 24 < ((nI j_2)).toInt64))) (q_2 : ¬ ((nI j_2) < 1 ∨ 24 < (nI j_2))) (hj_2 : j_2 ≤ 24) (c_7 : ¬ ((h9 + j_2) ≤ 999)) : acM fc ma = (s_hrs (m38 fs) ma (acM fc ma) (nI j_2)).2.2 := by
  have hw6 := hM.2.2.2.1
  have hk6 := hM.2.2.2.2.1
  first
  | exact hT0
  | (intro h_; exact absurd (hT0 h_).1 h01)
  | (intro h_; have h9 := (hT0 h_).2; omega)
  | exact (hrsM_0 (r := m38 fs) (An := ma) (Ac := acM fc ma) h00).1
  | exact (hrsM_0 (r := m38 fs) (An := ma) (Ac := acM fc ma) h00).2.1
  | exact (hrsM_0 (r := m38 fs) (An := ma) (Ac := acM fc ma) h00).2.2.1
  | exact (hrsM_0 (r := m38 fs) (An := ma) (Ac := acM fc ma) h00).2.2.2
  | exact (hrsM_1 (r := m38 fs) (An := ma) (Ac := acM fc ma) h01 q_2).1
  | exact (hrsM_1 (r := m38 fs) (An := ma) (Ac := acM fc ma) h01 q_2).2.1
  | exact (hrsM_1 (r := m38 fs) (An := ma) (Ac := acM fc ma) h01 q_2).2.2.1
  | exact (hrsM_1 (r := m38 fs) (An := ma) (Ac := acM fc ma) h01 q_2).2.2.2
  | exact (hrsM_2 (r := m38 fs) (An := ma) (Ac := acM fc ma) (h := h9) (j := j_2) (fun q => q_2 (Or.inl q)) h01 hj_2 hM.2.2.1 h999 c_7).1
  | exact (hrsM_2 (r := m38 fs) (An := ma) (Ac := acM fc ma) (h := h9) (j := j_2) (fun q => q_2 (Or.inl q)) h01 hj_2 hM.2.2.1 h999 c_7).2.1
  | exact (hrsM_2 (r := m38 fs) (An := ma) (Ac := acM fc ma) (h := h9) (j := j_2) (fun q => q_2 (Or.inl q)) h01 hj_2 hM.2.2.1 h999 c_7).2.2.1
  | exact (hrsM_2 (r := m38 fs) (An := ma) (Ac := acM fc ma) (h := h9) (j := j_2) (fun q => q_2 (Or.inl q)) h01 hj_2 hM.2.2.1 h999 c_7).2.2.2
  | exact (hrs_pos (r := m38 fs) (An := ma) (Ac := acM fc ma) (h := h9) (j := j_2) (fun q => q_2 (Or.inl q)) h01 hj_2 hM.2.2.1 c_7 haf_1).1
  | exact (hrs_pos (r := m38 fs) (An := ma) (Ac := acM fc ma) (h := h9) (j := j_2) (fun q => q_2 (Or.inl q)) h01 hj_2 hM.2.2.1 c_7 haf_1).2.1
  | exact (hrs_pos (r := m38 fs) (An := ma) (Ac := acM fc ma) (h := h9) (j := j_2) (fun q => q_2 (Or.inl q)) h01 hj_2 hM.2.2.1 c_7 haf_1).2.2.1
  | exact (hrs_pos (r := m38 fs) (An := ma) (Ac := acM fc ma) (h := h9) (j := j_2) (fun q => q_2 (Or.inl q)) h01 hj_2 hM.2.2.1 c_7 haf_1).2.2.2
  | exact e_24.trans (hrs_pos (r := m38 fs) (An := ma) (Ac := acM fc ma) (h := h9) (j := j_2) (fun q => q_2 (Or.inl q)) h01 hj_2 hM.2.2.1 c_7 haf_1).2.2.2
theorem lf_X8_hours_16 {mt : Int32} {ma : Nat} {fs : Nat → Int32} {w9 : Nat} {k9 : Nat} {h9 : Nat} {fc : Nat → Int32} {j_2 : Nat} (hM : okM fs w9 k9 h9) (hT : ¬ mt = 0 → 1 ≤ k9) (h999 : h9 ≤ 999) (hT0 : mt = 0 → fs 0 = 0 ∧ ma = 0) (hac : okA fc ma) (hma : ma ≤ 24) (c_1 : ¬ (mt = 0)) (hkn1 : 1 ≤ k9) (hw1 : 1 ≤ w9) (h01 : ¬ fs 0 = 0) (f_2_1_0 : (¬ (((nI j_2)).toInt64 < 1 ∨ 24 < ((nI j_2)).toInt64))) (q_2 : ¬ ((nI j_2) < 1 ∨ 24 < (nI j_2))) (hj_2 : j_2 ≤ 24) (c_7 : ¬ ((h9 + j_2) ≤ 999)) : (-1000003) = (a_hrs (m38 fs) (nI j_2)) := by
  have hw6 := hM.2.2.2.1
  have hk6 := hM.2.2.2.2.1
  first
  | exact hT0
  | (intro h_; exact absurd (hT0 h_).1 h01)
  | (intro h_; have h9 := (hT0 h_).2; omega)
  | exact (hrsM_0 (r := m38 fs) (An := ma) (Ac := acM fc ma) h00).1
  | exact (hrsM_0 (r := m38 fs) (An := ma) (Ac := acM fc ma) h00).2.1
  | exact (hrsM_0 (r := m38 fs) (An := ma) (Ac := acM fc ma) h00).2.2.1
  | exact (hrsM_0 (r := m38 fs) (An := ma) (Ac := acM fc ma) h00).2.2.2
  | exact (hrsM_1 (r := m38 fs) (An := ma) (Ac := acM fc ma) h01 q_2).1
  | exact (hrsM_1 (r := m38 fs) (An := ma) (Ac := acM fc ma) h01 q_2).2.1
  | exact (hrsM_1 (r := m38 fs) (An := ma) (Ac := acM fc ma) h01 q_2).2.2.1
  | exact (hrsM_1 (r := m38 fs) (An := ma) (Ac := acM fc ma) h01 q_2).2.2.2
  | exact (hrsM_2 (r := m38 fs) (An := ma) (Ac := acM fc ma) (h := h9) (j := j_2) (fun q => q_2 (Or.inl q)) h01 hj_2 hM.2.2.1 h999 c_7).1
  | exact (hrsM_2 (r := m38 fs) (An := ma) (Ac := acM fc ma) (h := h9) (j := j_2) (fun q => q_2 (Or.inl q)) h01 hj_2 hM.2.2.1 h999 c_7).2.1
  | exact (hrsM_2 (r := m38 fs) (An := ma) (Ac := acM fc ma) (h := h9) (j := j_2) (fun q => q_2 (Or.inl q)) h01 hj_2 hM.2.2.1 h999 c_7).2.2.1
  | exact (hrsM_2 (r := m38 fs) (An := ma) (Ac := acM fc ma) (h := h9) (j := j_2) (fun q => q_2 (Or.inl q)) h01 hj_2 hM.2.2.1 h999 c_7).2.2.2
  | exact (hrs_pos (r := m38 fs) (An := ma) (Ac := acM fc ma) (h := h9) (j := j_2) (fun q => q_2 (Or.inl q)) h01 hj_2 hM.2.2.1 c_7 haf_1).1
  | exact (hrs_pos (r := m38 fs) (An := ma) (Ac := acM fc ma) (h := h9) (j := j_2) (fun q => q_2 (Or.inl q)) h01 hj_2 hM.2.2.1 c_7 haf_1).2.1
  | exact (hrs_pos (r := m38 fs) (An := ma) (Ac := acM fc ma) (h := h9) (j := j_2) (fun q => q_2 (Or.inl q)) h01 hj_2 hM.2.2.1 c_7 haf_1).2.2.1
  | exact (hrs_pos (r := m38 fs) (An := ma) (Ac := acM fc ma) (h := h9) (j := j_2) (fun q => q_2 (Or.inl q)) h01 hj_2 hM.2.2.1 c_7 haf_1).2.2.2
  | exact e_24.trans (hrs_pos (r := m38 fs) (An := ma) (Ac := acM fc ma) (h := h9) (j := j_2) (fun q => q_2 (Or.inl q)) h01 hj_2 hM.2.2.1 c_7 haf_1).2.2.2
theorem lf_X8_hours_17 {mt : Int32} {ma : Nat} {fs : Nat → Int32} {w9 : Nat} {k9 : Nat} {h9 : Nat} {fc : Nat → Int32} (hM : okM fs w9 k9 h9) (hT : ¬ mt = 0 → 1 ≤ k9) (h999 : h9 ≤ 999) (hT0 : mt = 0 → fs 0 = 0 ∧ ma = 0) (hac : okA fc ma) (hma : ma ≤ 24) (c_1 : mt = 0) (h00 : fs 0 = 0) : (mt = 0 → fs 0 = 0 ∧ ma = 0) := by
  have hw6 := hM.2.2.2.1
  have hk6 := hM.2.2.2.2.1
  first
  | exact hT0
  | (intro h_; exact absurd (hT0 h_).1 h01)
  | (intro h_; have h9 := (hT0 h_).2; omega)
  | exact (hrsM_0 (r := m38 fs) (An := ma) (Ac := acM fc ma) h00).1
  | exact (hrsM_0 (r := m38 fs) (An := ma) (Ac := acM fc ma) h00).2.1
  | exact (hrsM_0 (r := m38 fs) (An := ma) (Ac := acM fc ma) h00).2.2.1
  | exact (hrsM_0 (r := m38 fs) (An := ma) (Ac := acM fc ma) h00).2.2.2
  | exact (hrsM_1 (r := m38 fs) (An := ma) (Ac := acM fc ma) h01 q_2).1
  | exact (hrsM_1 (r := m38 fs) (An := ma) (Ac := acM fc ma) h01 q_2).2.1
  | exact (hrsM_1 (r := m38 fs) (An := ma) (Ac := acM fc ma) h01 q_2).2.2.1
  | exact (hrsM_1 (r := m38 fs) (An := ma) (Ac := acM fc ma) h01 q_2).2.2.2
  | exact (hrsM_2 (r := m38 fs) (An := ma) (Ac := acM fc ma) (h := h9) (j := j_2) (fun q => q_2 (Or.inl q)) h01 hj_2 hM.2.2.1 h999 c_7).1
  | exact (hrsM_2 (r := m38 fs) (An := ma) (Ac := acM fc ma) (h := h9) (j := j_2) (fun q => q_2 (Or.inl q)) h01 hj_2 hM.2.2.1 h999 c_7).2.1
  | exact (hrsM_2 (r := m38 fs) (An := ma) (Ac := acM fc ma) (h := h9) (j := j_2) (fun q => q_2 (Or.inl q)) h01 hj_2 hM.2.2.1 h999 c_7).2.2.1
  | exact (hrsM_2 (r := m38 fs) (An := ma) (Ac := acM fc ma) (h := h9) (j := j_2) (fun q => q_2 (Or.inl q)) h01 hj_2 hM.2.2.1 h999 c_7).2.2.2
  | exact (hrs_pos (r := m38 fs) (An := ma) (Ac := acM fc ma) (h := h9) (j := j_2) (fun q => q_2 (Or.inl q)) h01 hj_2 hM.2.2.1 c_7 haf_1).1
  | exact (hrs_pos (r := m38 fs) (An := ma) (Ac := acM fc ma) (h := h9) (j := j_2) (fun q => q_2 (Or.inl q)) h01 hj_2 hM.2.2.1 c_7 haf_1).2.1
  | exact (hrs_pos (r := m38 fs) (An := ma) (Ac := acM fc ma) (h := h9) (j := j_2) (fun q => q_2 (Or.inl q)) h01 hj_2 hM.2.2.1 c_7 haf_1).2.2.1
  | exact (hrs_pos (r := m38 fs) (An := ma) (Ac := acM fc ma) (h := h9) (j := j_2) (fun q => q_2 (Or.inl q)) h01 hj_2 hM.2.2.1 c_7 haf_1).2.2.2
  | exact e_24.trans (hrs_pos (r := m38 fs) (An := ma) (Ac := acM fc ma) (h := h9) (j := j_2) (fun q => q_2 (Or.inl q)) h01 hj_2 hM.2.2.1 c_7 haf_1).2.2.2
theorem lf_X8_hours_18 {mt : Int32} {ma : Nat} {fs : Nat → Int32} {w9 : Nat} {k9 : Nat} {h9 : Nat} {fc : Nat → Int32} {a0 : Int32} (hM : okM fs w9 k9 h9) (hT : ¬ mt = 0 → 1 ≤ k9) (h999 : h9 ≤ 999) (hT0 : mt = 0 → fs 0 = 0 ∧ ma = 0) (hac : okA fc ma) (hma : ma ≤ 24) (c_1 : mt = 0) (h00 : fs 0 = 0) : m38 fs = (s_hrs (m38 fs) ma (acM fc ma) a0).1 := by
  have hw6 := hM.2.2.2.1
  have hk6 := hM.2.2.2.2.1
  first
  | exact hT0
  | (intro h_; exact absurd (hT0 h_).1 h01)
  | (intro h_; have h9 := (hT0 h_).2; omega)
  | exact (hrsM_0 (r := m38 fs) (An := ma) (Ac := acM fc ma) h00).1
  | exact (hrsM_0 (r := m38 fs) (An := ma) (Ac := acM fc ma) h00).2.1
  | exact (hrsM_0 (r := m38 fs) (An := ma) (Ac := acM fc ma) h00).2.2.1
  | exact (hrsM_0 (r := m38 fs) (An := ma) (Ac := acM fc ma) h00).2.2.2
  | exact (hrsM_1 (r := m38 fs) (An := ma) (Ac := acM fc ma) h01 q_2).1
  | exact (hrsM_1 (r := m38 fs) (An := ma) (Ac := acM fc ma) h01 q_2).2.1
  | exact (hrsM_1 (r := m38 fs) (An := ma) (Ac := acM fc ma) h01 q_2).2.2.1
  | exact (hrsM_1 (r := m38 fs) (An := ma) (Ac := acM fc ma) h01 q_2).2.2.2
  | exact (hrsM_2 (r := m38 fs) (An := ma) (Ac := acM fc ma) (h := h9) (j := j_2) (fun q => q_2 (Or.inl q)) h01 hj_2 hM.2.2.1 h999 c_7).1
  | exact (hrsM_2 (r := m38 fs) (An := ma) (Ac := acM fc ma) (h := h9) (j := j_2) (fun q => q_2 (Or.inl q)) h01 hj_2 hM.2.2.1 h999 c_7).2.1
  | exact (hrsM_2 (r := m38 fs) (An := ma) (Ac := acM fc ma) (h := h9) (j := j_2) (fun q => q_2 (Or.inl q)) h01 hj_2 hM.2.2.1 h999 c_7).2.2.1
  | exact (hrsM_2 (r := m38 fs) (An := ma) (Ac := acM fc ma) (h := h9) (j := j_2) (fun q => q_2 (Or.inl q)) h01 hj_2 hM.2.2.1 h999 c_7).2.2.2
  | exact (hrs_pos (r := m38 fs) (An := ma) (Ac := acM fc ma) (h := h9) (j := j_2) (fun q => q_2 (Or.inl q)) h01 hj_2 hM.2.2.1 c_7 haf_1).1
  | exact (hrs_pos (r := m38 fs) (An := ma) (Ac := acM fc ma) (h := h9) (j := j_2) (fun q => q_2 (Or.inl q)) h01 hj_2 hM.2.2.1 c_7 haf_1).2.1
  | exact (hrs_pos (r := m38 fs) (An := ma) (Ac := acM fc ma) (h := h9) (j := j_2) (fun q => q_2 (Or.inl q)) h01 hj_2 hM.2.2.1 c_7 haf_1).2.2.1
  | exact (hrs_pos (r := m38 fs) (An := ma) (Ac := acM fc ma) (h := h9) (j := j_2) (fun q => q_2 (Or.inl q)) h01 hj_2 hM.2.2.1 c_7 haf_1).2.2.2
  | exact e_24.trans (hrs_pos (r := m38 fs) (An := ma) (Ac := acM fc ma) (h := h9) (j := j_2) (fun q => q_2 (Or.inl q)) h01 hj_2 hM.2.2.1 c_7 haf_1).2.2.2
theorem lf_X8_hours_19 {mt : Int32} {ma : Nat} {fs : Nat → Int32} {w9 : Nat} {k9 : Nat} {h9 : Nat} {fc : Nat → Int32} {a0 : Int32} (hM : okM fs w9 k9 h9) (hT : ¬ mt = 0 → 1 ≤ k9) (h999 : h9 ≤ 999) (hT0 : mt = 0 → fs 0 = 0 ∧ ma = 0) (hac : okA fc ma) (hma : ma ≤ 24) (c_1 : mt = 0) (h00 : fs 0 = 0) : ma = (s_hrs (m38 fs) ma (acM fc ma) a0).2.1 := by
  have hw6 := hM.2.2.2.1
  have hk6 := hM.2.2.2.2.1
  first
  | exact hT0
  | (intro h_; exact absurd (hT0 h_).1 h01)
  | (intro h_; have h9 := (hT0 h_).2; omega)
  | exact (hrsM_0 (r := m38 fs) (An := ma) (Ac := acM fc ma) h00).1
  | exact (hrsM_0 (r := m38 fs) (An := ma) (Ac := acM fc ma) h00).2.1
  | exact (hrsM_0 (r := m38 fs) (An := ma) (Ac := acM fc ma) h00).2.2.1
  | exact (hrsM_0 (r := m38 fs) (An := ma) (Ac := acM fc ma) h00).2.2.2
  | exact (hrsM_1 (r := m38 fs) (An := ma) (Ac := acM fc ma) h01 q_2).1
  | exact (hrsM_1 (r := m38 fs) (An := ma) (Ac := acM fc ma) h01 q_2).2.1
  | exact (hrsM_1 (r := m38 fs) (An := ma) (Ac := acM fc ma) h01 q_2).2.2.1
  | exact (hrsM_1 (r := m38 fs) (An := ma) (Ac := acM fc ma) h01 q_2).2.2.2
  | exact (hrsM_2 (r := m38 fs) (An := ma) (Ac := acM fc ma) (h := h9) (j := j_2) (fun q => q_2 (Or.inl q)) h01 hj_2 hM.2.2.1 h999 c_7).1
  | exact (hrsM_2 (r := m38 fs) (An := ma) (Ac := acM fc ma) (h := h9) (j := j_2) (fun q => q_2 (Or.inl q)) h01 hj_2 hM.2.2.1 h999 c_7).2.1
  | exact (hrsM_2 (r := m38 fs) (An := ma) (Ac := acM fc ma) (h := h9) (j := j_2) (fun q => q_2 (Or.inl q)) h01 hj_2 hM.2.2.1 h999 c_7).2.2.1
  | exact (hrsM_2 (r := m38 fs) (An := ma) (Ac := acM fc ma) (h := h9) (j := j_2) (fun q => q_2 (Or.inl q)) h01 hj_2 hM.2.2.1 h999 c_7).2.2.2
  | exact (hrs_pos (r := m38 fs) (An := ma) (Ac := acM fc ma) (h := h9) (j := j_2) (fun q => q_2 (Or.inl q)) h01 hj_2 hM.2.2.1 c_7 haf_1).1
  | exact (hrs_pos (r := m38 fs) (An := ma) (Ac := acM fc ma) (h := h9) (j := j_2) (fun q => q_2 (Or.inl q)) h01 hj_2 hM.2.2.1 c_7 haf_1).2.1
  | exact (hrs_pos (r := m38 fs) (An := ma) (Ac := acM fc ma) (h := h9) (j := j_2) (fun q => q_2 (Or.inl q)) h01 hj_2 hM.2.2.1 c_7 haf_1).2.2.1
  | exact (hrs_pos (r := m38 fs) (An := ma) (Ac := acM fc ma) (h := h9) (j := j_2) (fun q => q_2 (Or.inl q)) h01 hj_2 hM.2.2.1 c_7 haf_1).2.2.2
  | exact e_24.trans (hrs_pos (r := m38 fs) (An := ma) (Ac := acM fc ma) (h := h9) (j := j_2) (fun q => q_2 (Or.inl q)) h01 hj_2 hM.2.2.1 c_7 haf_1).2.2.2
theorem lf_X8_hours_20 {mt : Int32} {ma : Nat} {fs : Nat → Int32} {w9 : Nat} {k9 : Nat} {h9 : Nat} {fc : Nat → Int32} {a0 : Int32} (hM : okM fs w9 k9 h9) (hT : ¬ mt = 0 → 1 ≤ k9) (h999 : h9 ≤ 999) (hT0 : mt = 0 → fs 0 = 0 ∧ ma = 0) (hac : okA fc ma) (hma : ma ≤ 24) (c_1 : mt = 0) (h00 : fs 0 = 0) : acM fc ma = (s_hrs (m38 fs) ma (acM fc ma) a0).2.2 := by
  have hw6 := hM.2.2.2.1
  have hk6 := hM.2.2.2.2.1
  first
  | exact hT0
  | (intro h_; exact absurd (hT0 h_).1 h01)
  | (intro h_; have h9 := (hT0 h_).2; omega)
  | exact (hrsM_0 (r := m38 fs) (An := ma) (Ac := acM fc ma) h00).1
  | exact (hrsM_0 (r := m38 fs) (An := ma) (Ac := acM fc ma) h00).2.1
  | exact (hrsM_0 (r := m38 fs) (An := ma) (Ac := acM fc ma) h00).2.2.1
  | exact (hrsM_0 (r := m38 fs) (An := ma) (Ac := acM fc ma) h00).2.2.2
  | exact (hrsM_1 (r := m38 fs) (An := ma) (Ac := acM fc ma) h01 q_2).1
  | exact (hrsM_1 (r := m38 fs) (An := ma) (Ac := acM fc ma) h01 q_2).2.1
  | exact (hrsM_1 (r := m38 fs) (An := ma) (Ac := acM fc ma) h01 q_2).2.2.1
  | exact (hrsM_1 (r := m38 fs) (An := ma) (Ac := acM fc ma) h01 q_2).2.2.2
  | exact (hrsM_2 (r := m38 fs) (An := ma) (Ac := acM fc ma) (h := h9) (j := j_2) (fun q => q_2 (Or.inl q)) h01 hj_2 hM.2.2.1 h999 c_7).1
  | exact (hrsM_2 (r := m38 fs) (An := ma) (Ac := acM fc ma) (h := h9) (j := j_2) (fun q => q_2 (Or.inl q)) h01 hj_2 hM.2.2.1 h999 c_7).2.1
  | exact (hrsM_2 (r := m38 fs) (An := ma) (Ac := acM fc ma) (h := h9) (j := j_2) (fun q => q_2 (Or.inl q)) h01 hj_2 hM.2.2.1 h999 c_7).2.2.1
  | exact (hrsM_2 (r := m38 fs) (An := ma) (Ac := acM fc ma) (h := h9) (j := j_2) (fun q => q_2 (Or.inl q)) h01 hj_2 hM.2.2.1 h999 c_7).2.2.2
  | exact (hrs_pos (r := m38 fs) (An := ma) (Ac := acM fc ma) (h := h9) (j := j_2) (fun q => q_2 (Or.inl q)) h01 hj_2 hM.2.2.1 c_7 haf_1).1
  | exact (hrs_pos (r := m38 fs) (An := ma) (Ac := acM fc ma) (h := h9) (j := j_2) (fun q => q_2 (Or.inl q)) h01 hj_2 hM.2.2.1 c_7 haf_1).2.1
  | exact (hrs_pos (r := m38 fs) (An := ma) (Ac := acM fc ma) (h := h9) (j := j_2) (fun q => q_2 (Or.inl q)) h01 hj_2 hM.2.2.1 c_7 haf_1).2.2.1
  | exact (hrs_pos (r := m38 fs) (An := ma) (Ac := acM fc ma) (h := h9) (j := j_2) (fun q => q_2 (Or.inl q)) h01 hj_2 hM.2.2.1 c_7 haf_1).2.2.2
  | exact e_24.trans (hrs_pos (r := m38 fs) (An := ma) (Ac := acM fc ma) (h := h9) (j := j_2) (fun q => q_2 (Or.inl q)) h01 hj_2 hM.2.2.1 c_7 haf_1).2.2.2
theorem lf_X8_hours_21 {mt : Int32} {ma : Nat} {fs : Nat → Int32} {w9 : Nat} {k9 : Nat} {h9 : Nat} {fc : Nat → Int32} {a0 : Int32} (hM : okM fs w9 k9 h9) (hT : ¬ mt = 0 → 1 ≤ k9) (h999 : h9 ≤ 999) (hT0 : mt = 0 → fs 0 = 0 ∧ ma = 0) (hac : okA fc ma) (hma : ma ≤ 24) (c_1 : mt = 0) (h00 : fs 0 = 0) : (-1000002) = (a_hrs (m38 fs) a0) := by
  have hw6 := hM.2.2.2.1
  have hk6 := hM.2.2.2.2.1
  first
  | exact hT0
  | (intro h_; exact absurd (hT0 h_).1 h01)
  | (intro h_; have h9 := (hT0 h_).2; omega)
  | exact (hrsM_0 (r := m38 fs) (An := ma) (Ac := acM fc ma) h00).1
  | exact (hrsM_0 (r := m38 fs) (An := ma) (Ac := acM fc ma) h00).2.1
  | exact (hrsM_0 (r := m38 fs) (An := ma) (Ac := acM fc ma) h00).2.2.1
  | exact (hrsM_0 (r := m38 fs) (An := ma) (Ac := acM fc ma) h00).2.2.2
  | exact (hrsM_1 (r := m38 fs) (An := ma) (Ac := acM fc ma) h01 q_2).1
  | exact (hrsM_1 (r := m38 fs) (An := ma) (Ac := acM fc ma) h01 q_2).2.1
  | exact (hrsM_1 (r := m38 fs) (An := ma) (Ac := acM fc ma) h01 q_2).2.2.1
  | exact (hrsM_1 (r := m38 fs) (An := ma) (Ac := acM fc ma) h01 q_2).2.2.2
  | exact (hrsM_2 (r := m38 fs) (An := ma) (Ac := acM fc ma) (h := h9) (j := j_2) (fun q => q_2 (Or.inl q)) h01 hj_2 hM.2.2.1 h999 c_7).1
  | exact (hrsM_2 (r := m38 fs) (An := ma) (Ac := acM fc ma) (h := h9) (j := j_2) (fun q => q_2 (Or.inl q)) h01 hj_2 hM.2.2.1 h999 c_7).2.1
  | exact (hrsM_2 (r := m38 fs) (An := ma) (Ac := acM fc ma) (h := h9) (j := j_2) (fun q => q_2 (Or.inl q)) h01 hj_2 hM.2.2.1 h999 c_7).2.2.1
  | exact (hrsM_2 (r := m38 fs) (An := ma) (Ac := acM fc ma) (h := h9) (j := j_2) (fun q => q_2 (Or.inl q)) h01 hj_2 hM.2.2.1 h999 c_7).2.2.2
  | exact (hrs_pos (r := m38 fs) (An := ma) (Ac := acM fc ma) (h := h9) (j := j_2) (fun q => q_2 (Or.inl q)) h01 hj_2 hM.2.2.1 c_7 haf_1).1
  | exact (hrs_pos (r := m38 fs) (An := ma) (Ac := acM fc ma) (h := h9) (j := j_2) (fun q => q_2 (Or.inl q)) h01 hj_2 hM.2.2.1 c_7 haf_1).2.1
  | exact (hrs_pos (r := m38 fs) (An := ma) (Ac := acM fc ma) (h := h9) (j := j_2) (fun q => q_2 (Or.inl q)) h01 hj_2 hM.2.2.1 c_7 haf_1).2.2.1
  | exact (hrs_pos (r := m38 fs) (An := ma) (Ac := acM fc ma) (h := h9) (j := j_2) (fun q => q_2 (Or.inl q)) h01 hj_2 hM.2.2.1 c_7 haf_1).2.2.2
  | exact e_24.trans (hrs_pos (r := m38 fs) (An := ma) (Ac := acM fc ma) (h := h9) (j := j_2) (fun q => q_2 (Or.inl q)) h01 hj_2 hM.2.2.1 c_7 haf_1).2.2.2
set_option maxHeartbeats 4000000 in
set_option maxRecDepth 100000 in
theorem r_X8_hours (l : Launch) (dC : Nat → ClassId) (dI : Nat → Nat → Nat) (cI cZ cL cJ : ClassId) (sz : Nat) (mo : Nat) (m_la : Nat) (m_sz : Nat) (m_it : Nat) (m_st : Nat) (m_mv : Nat) (m_tp : Nat) (m_rd : Nat) (m_ac : Nat) (m_as : Nat) (m_wo : Nat) (m_ik : Nat) (m_ke : Nat) (m_tr : Nat) (ms : Int32) (mt : Int32) (ml : Int32) (mk : Int32) (mv : Int32) (mb : Int32) (mw : Int32) (mz : Nat) (mp : Nat) (ma : Nat) (mx : Nat) (fs : Nat → Int32) (w9 : Nat) (k9 : Nat) (h9 : Nat) (fc : Nat → Int32) (a0 : Int32) (hM : okM fs w9 k9 h9) (hT : ¬ mt = 0 → 1 ≤ k9) (h999 : h9 ≤ 999) (hT0 : mt = 0 → fs 0 = 0 ∧ ma = 0) (hac : okA fc ma) (hma : ma ≤ 24) : Met l yX8_hours wsX8_hours ({ frames := 4, cells := 0, slots := 0, locals := 95 }) (va_Pc [.ref mo, .int a0] (fun U => U.heap.size = sz ∧ va_P (dC, dI) vwCl [(xo_8_rrriirrriiiiiiirrirrrrri mo m_la m_sz m_it ms mt m_st m_mv m_tp (nI mz) ml (nI mp) mk mv mb mw m_rd m_ac (nI ma) m_as m_wo m_ik m_ke m_tr (nI mx)), (xI m_st cI 38 fs), (xI m_ac cI 912 fc)] U.heap ∧ va_K (dC, dI) vwCl [(cI, .int), (cZ, .boolean), (cL, .object RX3), (cJ, .array .int)] U ∧ va_D (fun _ => True) [(xo_8_rrriirrriiiiiiirrirrrrri mo m_la m_sz m_it ms mt m_st m_mv m_tp (nI mz) ml (nI mp) mk mv mb mw m_rd m_ac (nI ma) m_as m_wo m_ik m_ke m_tr (nI mx)), (xI m_st cI 38 fs), (xI m_ac cI 912 fc)])) (va_Qi (fun r (_ : Unit) => r = (a_hrs (m38 fs) a0)) (fun (_ : Unit) t => ∃ (fsn : Nat → Int32) (fcn : Nat → Int32) (man : Nat) (w9n : Nat) (k9n : Nat) (h9n : Nat), va_P (dC, dI) vwCl [(xo_8_rrriirrriiiiiiirrirrrrri mo m_la m_sz m_it ms mt m_st m_mv m_tp (nI mz) ml (nI mp) mk mv mb mw m_rd m_ac (nI man) m_as m_wo m_ik m_ke m_tr (nI mx)), (xI m_st cI 38 fsn), (xI m_ac cI 912 fcn)] t.heap ∧ va_D (va_A [(xo_8_rrriirrriiiiiiirrirrrrri mo m_la m_sz m_it ms mt m_st m_mv m_tp (nI mz) ml (nI mp) mk mv mb mw m_rd m_ac (nI ma) m_as m_wo m_ik m_ke m_tr (nI mx)), (xI m_st cI 38 fs), (xI m_ac cI 912 fc)] sz) [(xo_8_rrriirrriiiiiiirrirrrrri mo m_la m_sz m_it ms mt m_st m_mv m_tp (nI mz) ml (nI mp) mk mv mb mw m_rd m_ac (nI man) m_as m_wo m_ik m_ke m_tr (nI mx)), (xI m_st cI 38 fsn), (xI m_ac cI 912 fcn)] ∧ okM fsn w9n k9n h9n ∧ (¬ mt = 0 → 1 ≤ k9n) ∧ h9n ≤ 999 ∧ okA fcn man ∧ man ≤ 24 ∧ (mt = 0 → fsn 0 = 0 ∧ man = 0) ∧ m38 fsn = (s_hrs (m38 fs) ma (acM fc ma) a0).1 ∧ man = (s_hrs (m38 fs) ma (acM fc ma) a0).2.1 ∧ acM fcn man = (s_hrs (m38 fs) ma (acM fc ma) a0).2.2) (va_A [(xo_8_rrriirrriiiiiiirrirrrrri mo m_la m_sz m_it ms mt m_st m_mv m_tp (nI mz) ml (nI mp) mk mv mb mw m_rd m_ac (nI ma) m_as m_wo m_ik m_ke m_tr (nI mx)), (xI m_st cI 38 fs), (xI m_ac cI 912 fc)] sz)) 0 0 (va_A [(xo_8_rrriirrriiiiiiirrirrrrri mo m_la m_sz m_it ms mt m_st m_mv m_tp (nI mz) ml (nI mp) mk mv mb mw m_rd m_ac (nI ma) m_as m_wo m_ik m_ke m_tr (nI mx)), (xI m_st cI 38 fs), (xI m_ac cI 912 fc)] sz) := by
  refine Met.ofW (cc := cX8_hours) (maxL := 3) (ret := (some .int)) (by decide) rfl ?_
  intro p e s m args below meth c s₁ B hml hv
  obtain ⟨rfl, hsz, hP, hK, hD0⟩ := hv
  have hx := B.exec
  have hb := B.bytes
  have hr := B.returns
  have hts := atoms_spec (ws := wsX8_hours) B.pre
  have hown : s.vm.findClass RX8 = some m.cls := findClass_of_methodNamed B.named
  have hlocks := B.notSynchronized
  subst hsz
  have hD := hD0.self (sz := s.heap.size)
  generalize hAe : va_A [(xo_8_rrriirrriiiiiiirrirrrrri mo m_la m_sz m_it ms mt m_st m_mv m_tp (nI mz) ml (nI mp) mk mv mb mw m_rd m_ac (nI ma) m_as m_wo m_ik m_ke m_tr (nI mx)), (xI m_st cI 38 fs), (xI m_ac cI 912 fc)] s.heap.size = A at hD ⊢
  have hA : ∀ q : Nat, s.heap.size ≤ q → A q := fun q h => by rw [← hAe]; exact Or.inr h
  have hS : va_S A s.heap s.heap [] := va_S.rf
  have hP : va_P (dC, dI) vwCl [(xo_8_rrriirrriiiiiiirrirrrrri mo m_la m_sz m_it ms mt m_st m_mv m_tp (nI mz) ml (nI mp) mk mv mb mw m_rd m_ac (nI ma) m_as m_wo m_ik m_ke m_tr (nI mx)), (xI m_st cI 38 fs), (xI m_ac cI 912 fc)] s.heap := hP
  have hl := lv_entry ([.ref mo, .int a0]) (n := 3) (Nat.le_of_ble_eq_true rfl)
  rw [lg_entry_eq]
  generalize (lg_sl ([.ref mo, .int a0]) ++ List.replicate (3 - (lg_sl ([.ref mo, .int a0])).length) Slot.unset).toArray = ls at hl ⊢
  have hl : lv_has ls 3 [(0, .ref mo), (1, .int a0)] := hl
  have hk6 := hM.2.2.2.2.1
  have hw6 := hM.2.2.2.1
  refine lv_aload_n hx hb dX8_hours_0 rfl (lv_at hl 0 rfl) ?_
  refine va_get (D := (dC, dI)) (ci := 8) (v := .int mt) (C := RX8) (T := TX8) (N := 24) hx hb hts i_X8_hours_X8 hown hK hP 0 rfl rfl 4 (by decide) (hts _ mx_X8_hours_1) (fun _ h9 => h9) rfl dX8_hours_1 ?_
  refine lv_if_ne (tgt := 10) hx hb dX8_hours_4 (by decide) (fun c_1 => ?_) (fun c_1 => ?_)
  · skip
    have hkn1 := hT c_1
    have hw1 := hM.2.2.2.2.2.1.mp hkn1
    have h01 : ¬ fs 0 = 0 := cell_nz hM hkn1
    refine lv_iload_n hx hb dX8_hours_10 rfl (lv_at hl 1 rfl) ?_
    refine lv_i2l hx hb dX8_hours_11 rfl ?_
    refine lv_lconst (v := 1) hx hb dX8_hours_12 (by decide) ?_
    refine lv_ldc2 (own := RX8) (v := 24) hx hb hown (hts _ mx_X8_hours_3) dX8_hours_13 ?_
    have hPc_2 := hP.sub (ws' := []) [] rfl
    refine vp_callSi (W.runS (As := [.long (a0).toInt64, .long 1, .long 24]) (rest := []) ⟨hx, hb, hml, hown, hts⟩ (r_X8_in l dC dI cI cZ cL cJ ((a0).toInt64) 1 24 ) (va_cwS 3 hts gX8_hours_X8_in rfl rfl rfl (by decide +kernel) ⟨Nat.le_of_ble_eq_true rfl, Nat.le_of_ble_eq_true rfl⟩) (psP hK hPc_2) rfl rfl hl.1 rfl (lv_room (Nat.le_of_ble_eq_true rfl)) dX8_hours_16 ⟨Nat.le_of_ble_eq_true rfl, Nat.le_of_ble_eq_true rfl⟩) (fun r_2 h_2 => ?_)
    rcases h_2 with ⟨h_2, f_2_0_0⟩ | ⟨h_2, f_2_1_0⟩
    · subst h_2
      have q_2 : (a0 < 1 ∨ 24 < a0) := (in32 (x := a0) (l := 1) (u := 24) (by decide) (by decide)).mp f_2_0_0
      refine lv_if_ne (tgt := 25) hx hb dX8_hours_19 (by decide) (fun c_ => absurd (by decide) c_) (fun _ => ?_)
      refine lv_ldc (own := RX8) (v := (-1000001)) hx hb hown (hts _ mx_X8_hours_4) dX8_hours_22 ?_
      have hX9 := cut2 (wc := [(xo_8_rrriirrriiiiiiirrirrrrri mo m_la m_sz m_it ms mt m_st m_mv m_tp (nI mz) ml (nI mp) mk mv mb mw m_rd m_ac (nI ma) m_as m_wo m_ik m_ke m_tr (nI mx)), (xI m_st cI 38 fs), (xI m_ac cI 912 fc)]) hP hD [0, 1, 2] (by decide +kernel) rfl
      exact W.iret (v := (-1000001)) hx hb hr (fun t ht hW => ⟨⟨(-1000001), (), rfl, (lf_X8_hours_5 hM hT h999 hT0 hac hma c_1 hkn1 hw1 h01 f_2_0_0 q_2), ⟨fs, fc, ma, w9, k9, h9, va_Ht ht hX9.1, hX9.2, hM, hT, (by omega), hac, (by omega), (lf_X8_hours_1 hM hT h999 hT0 hac hma c_1 hkn1 hw1 h01 f_2_0_0 q_2), (lf_X8_hours_2 hM hT h999 hT0 hac hma c_1 hkn1 hw1 h01 f_2_0_0 q_2), (lf_X8_hours_3 hM hT h999 hT0 hac hma c_1 hkn1 hw1 h01 f_2_0_0 q_2), (lf_X8_hours_4 hM hT h999 hT0 hac hma c_1 hkn1 hw1 h01 f_2_0_0 q_2)⟩⟩, hS.F ht⟩) hS.2.2 dX8_hours_24
    · subst h_2
      have q_2 : ¬ (a0 < 1 ∨ 24 < a0) := fun q_ => f_2_1_0 ((in32 (x := a0) (l := 1) (u := 24) (by decide) (by decide)).mpr q_)
      obtain ⟨j_2, hj_2, hl_2, rfl⟩ := in64 (lo := 1) (n := 24) rfl rfl (by decide) f_2_1_0
      refine lv_if_ne (tgt := 25) hx hb dX8_hours_19 (by decide) (fun _ => ?_) (fun c_ => absurd c_ (by decide))
      refine lv_aload_n hx hb dX8_hours_25 rfl (lv_at hl 0 rfl) ?_
      refine va_get (D := (dC, dI)) (ci := 8) (v := .ref m_st) (C := RX8) (T := TX8) (N := 24) hx hb hts i_X8_hours_X8 hown hK hP 0 rfl rfl 5 (by decide) (hts _ mx_X8_hours_5) (fun _ h9 => h9) rfl dX8_hours_26 ?_
      refine lv_iconst (v := 5) hx hb dX8_hours_29 (by decide) ?_
      refine va_iald hx hb hK hP 1 0 rfl rfl (by unfold vp_in; decide) dX8_hours_30 ?_
      refine lv_topi (fun v_5 e_5 => ?_)
      obtain rfl : v_5 = (nI h9) := (e_5).trans hM.2.2.1
      refine lv_iload_n hx hb dX8_hours_31 rfl (lv_at hl 1 rfl) ?_
      refine lv_iadd hx hb dX8_hours_32 ?_
      refine lv_topi (fun v_6 e_6 => ?_)
      obtain rfl : v_6 = (nI (h9 + j_2)) := (e_6).trans (nI_add h9 j_2)
      refine lv_sipush (v := 999) hx hb dX8_hours_33 (by decide) ?_
      refine lv_icmp_le (tgt := 42) hx hb dX8_hours_36 (by decide) (fun c_7 => ?_) (fun c_7 => ?_)
      · have c_7 : (h9 + j_2) ≤ 999 := (nI_leI (a := (h9 + j_2)) (b := 999) (by omega) (by omega)).mp c_7
        refine lv_iconst (v := 0) hx hb dX8_hours_42 (by decide) ?_
        refine lv_istore_n (lv' := [(2, .int 0), (0, .ref mo), (1, .int (nI j_2))]) hx hb dX8_hours_43 rfl hl (by decide) rfl (fun ls hl => ?_)
        refine lp_go (σ := (Nat) × (Nat → Int32) × (Nat → Int32)) (fun ii (st : (Nat) × (Nat → Int32) × (Nat → Int32)) H locs ls => match st with | (w_11, w_12, w_13) => lv_has ls 3 [(2, .int (nI ii)), (0, .ref mo), (1, .int (nI j_2))] ∧ va_P (dC, dI) vwCl [(xo_8_rrriirrriiiiiiirrirrrrri mo m_la m_sz m_it ms mt m_st m_mv m_tp (nI mz) ml (nI mp) mk mv mb mw m_rd m_ac (nI w_11) m_as m_wo m_ik m_ke m_tr (nI mx)), (xI m_st cI 38 w_12), (xI m_ac cI 912 w_13)] H ∧ va_D A [(xo_8_rrriirrriiiiiiirrirrrrri mo m_la m_sz m_it ms mt m_st m_mv m_tp (nI mz) ml (nI mp) mk mv mb mw m_rd m_ac (nI w_11) m_as m_wo m_ik m_ke m_tr (nI mx)), (xI m_st cI 38 w_12), (xI m_ac cI 912 w_13)] ∧ va_S A s.heap H locs ∧ okM w_12 w9 k9 (h9 + ii) ∧ okA w_13 w_11 ∧ (hrI ii (m38 fs) ma (acM fc ma) = (m38 w_12, w_11, acM w_13 w_11)) ∧ w_11 ≤ 24) j_2 ?_ ?_ 0 (by omega) (ma, fs, fc) ⟨lv_sub hl [0, 1, 2] rfl, hP.sub (ws' := [(xo_8_rrriirrriiiiiiirrirrrrri mo m_la m_sz m_it ms mt m_st m_mv m_tp (nI mz) ml (nI mp) mk mv mb mw m_rd m_ac (nI ma) m_as m_wo m_ik m_ke m_tr (nI mx)), (xI m_st cI 38 fs), (xI m_ac cI 912 fc)]) [0, 1, 2] rfl, hD.sub (ws' := [(xo_8_rrriirrriiiiiiirrirrrrri mo m_la m_sz m_it ms mt m_st m_mv m_tp (nI mz) ml (nI mp) mk mv mb mw m_rd m_ac (nI ma) m_as m_wo m_ik m_ke m_tr (nI mx)), (xI m_st cI 38 fs), (xI m_ac cI 912 fc)]) [0, 1, 2] (by decide +kernel) rfl, hS, hM, hac, rfl, (by omega)⟩
        · rintro ii ⟨w_11, w_12, w_13⟩ H locs ls hii ⟨hl, hP, hD, hS, hMl, haf_0, haf_1, hnb_w_11⟩ ih
          refine lv_iload_n hx hb dX8_hours_44 rfl (lv_at hl 0 rfl) ?_
          refine lv_iload_n hx hb dX8_hours_45 rfl (lv_at hl 2 rfl) ?_
          refine lv_icmp_ge (tgt := 64) hx hb dX8_hours_46 (by decide) (fun c_ => absurd c_ (fun q_ => absurd ((nI_leI (a := j_2) (b := ii) (by omega) (by omega)).mp q_) (by omega))) (fun _ => ?_)
          refine lv_aload_n hx hb dX8_hours_49 rfl (lv_at hl 1 rfl) ?_
          have hc_21 := cutW (wc := [(xo_8_rrriirrriiiiiiirrirrrrri mo m_la m_sz m_it ms mt m_st m_mv m_tp (nI mz) ml (nI mp) mk mv mb mw m_rd m_ac (nI w_11) m_as m_wo m_ik m_ke m_tr (nI mx)), (xI m_st cI 38 w_12), (xI m_ac cI 912 w_13)]) hP hD hS hA [0, 1, 2] (by decide +kernel) rfl
          refine va_callv (va_runV (As := []) (rest := []) ⟨hx, hb, hml, hown, hts⟩ (r_X8_note l dC dI cI cZ cL cJ H.size mo m_la m_sz m_it m_st m_mv m_tp m_rd m_ac m_as m_wo m_ik m_ke m_tr ms mt ml mk mv mb mw mz mp w_11 mx w_12 w_13 (haf_0) (by omega) (⟨w9, k9, (h9 + ii), hMl, hkn1, by omega⟩)) (cwV 0 hts gX8_hours_X8_note rfl rfl rfl (by decide +kernel) ⟨Nat.le_of_ble_eq_true rfl, Nat.le_of_ble_eq_true rfl⟩) (pvW 8 0 hK hP rfl rfl hc_21) rfl rfl hl.1 rfl (lv_room (Nat.le_of_ble_eq_true rfl)) dX8_hours_50 ⟨Nat.le_of_ble_eq_true rfl, Nat.le_of_ble_eq_true rfl⟩) hS (fun q _ h => hc_21.2.2 q h) hc_21.2.2 (fun u_21 t_21 H1 locs ht hvm h_21 hB hz1 hk1 hS => ?_)
          refine xl_2_7 hB (fun fcn_21 man_21 hP1 hD1 hF_21_0 hF_21_1 hF_21_2 hF_21_3 hF_21_4 => ?_)
          clear hB
          rw [ht] at hP1
          obtain ⟨hP, hD⟩ := va_join (wr := []) (w1 := [(xo_8_rrriirrriiiiiiirrirrrrri mo m_la m_sz m_it ms mt m_st m_mv m_tp (nI mz) ml (nI mp) mk mv mb mw m_rd m_ac (nI man_21) m_as m_wo m_ik m_ke m_tr (nI mx)), (xI m_st cI 38 w_12), (xI m_ac cI 912 fcn_21)]) hP hD [0, 1, 2] [] rfl rfl (by decide +kernel) (by decide +kernel) hk1 hc_21.2.2 hP1 hD1
          generalize H1 = H at hP hS ⊢
          have hP : va_P (dC, dI) vwCl [(xo_8_rrriirrriiiiiiirrirrrrri mo m_la m_sz m_it ms mt m_st m_mv m_tp (nI mz) ml (nI mp) mk mv mb mw m_rd m_ac (nI man_21) m_as m_wo m_ik m_ke m_tr (nI mx)), (xI m_st cI 38 w_12), (xI m_ac cI 912 fcn_21)] H := hP
          have hD := dto hP hD
          refine lv_aload_n hx hb dX8_hours_53 rfl (lv_at hl 1 rfl) ?_
          have hc_22 := cutW (wc := [(xo_8_rrriirrriiiiiiirrirrrrri mo m_la m_sz m_it ms mt m_st m_mv m_tp (nI mz) ml (nI mp) mk mv mb mw m_rd m_ac (nI man_21) m_as m_wo m_ik m_ke m_tr (nI mx)), (xI m_st cI 38 w_12)]) hP hD hS hA [0, 1] (by decide +kernel) rfl
          refine va_calli (va_runV (As := []) (rest := []) ⟨hx, hb, hml, hown, hts⟩ (r_X8_oneHour l dC dI cI cZ cL cJ H.size mo m_la m_sz m_it m_st m_mv m_tp m_rd m_ac m_as m_wo m_ik m_ke m_tr ms mt ml mk mv mb mw mz mp man_21 mx w_12 w9 k9 (h9 + ii) (hMl) (by omega) (by omega)) (cwV 0 hts gX8_hours_X8_oneHour rfl rfl rfl (by decide +kernel) ⟨Nat.le_of_ble_eq_true rfl, Nat.le_of_ble_eq_true rfl⟩) (pvW 8 0 hK hP rfl rfl hc_22) rfl rfl hl.1 rfl (lv_room (Nat.le_of_ble_eq_true rfl)) dX8_hours_54 ⟨Nat.le_of_ble_eq_true rfl, Nat.le_of_ble_eq_true rfl⟩) hS (fun q _ h => hc_22.2.2 q h) hc_22.2.2 (fun r_22 u_22 t_22 H1 locs ht hvm h_22 hB hz1 hk1 hS => ?_)
          refine xl_1_4 hB (fun fsn_22 hP1 hD1 hF_22_0 hF_22_1 => ?_)
          clear hB
          rw [ht] at hP1
          obtain ⟨hP, hD⟩ := va_join (wr := [(xI m_ac cI 912 fcn_21)]) (w1 := [(xo_8_rrriirrriiiiiiirrirrrrri mo m_la m_sz m_it ms mt m_st m_mv m_tp (nI mz) ml (nI mp) mk mv mb mw m_rd m_ac (nI man_21) m_as m_wo m_ik m_ke m_tr (nI mx)), (xI m_st cI 38 fsn_22)]) hP hD [0, 1] [2] rfl rfl (by decide +kernel) (by decide +kernel) hk1 hc_22.2.2 hP1 hD1
          generalize H1 = H at hP hS ⊢
          have hP : va_P (dC, dI) vwCl [(xI m_ac cI 912 fcn_21), (xo_8_rrriirrriiiiiiirrirrrrri mo m_la m_sz m_it ms mt m_st m_mv m_tp (nI mz) ml (nI mp) mk mv mb mw m_rd m_ac (nI man_21) m_as m_wo m_ik m_ke m_tr (nI mx)), (xI m_st cI 38 fsn_22)] H := hP
          have hD := dto hP hD
          refine lv_pop hx hb dX8_hours_57 rfl ?_
          refine lv_iinc (v := (nI (ii + 1))) (lv' := [(2, .int (nI (ii + 1))), (0, .ref mo), (1, .int (nI j_2))]) hx hb dX8_hours_58 hl (k := 0) rfl (nI_add ii 1) (by decide) rfl (fun ls hl => ?_)
          refine lv_goto (tgt := 44) hx hb dX8_hours_61 (by decide) ?_
          exact ih (man_21, fsn_22, fcn_21) _ _ _ ⟨lv_sub hl [0, 1, 2] rfl, hP.sub (ws' := [(xo_8_rrriirrriiiiiiirrirrrrri mo m_la m_sz m_it ms mt m_st m_mv m_tp (nI mz) ml (nI mp) mk mv mb mw m_rd m_ac (nI man_21) m_as m_wo m_ik m_ke m_tr (nI mx)), (xI m_st cI 38 fsn_22), (xI m_ac cI 912 fcn_21)]) [1, 2, 0] rfl, hD.sub (ws' := [(xo_8_rrriirrriiiiiiirrirrrrri mo m_la m_sz m_it ms mt m_st m_mv m_tp (nI mz) ml (nI mp) mk mv mb mw m_rd m_ac (nI man_21) m_as m_wo m_ik m_ke m_tr (nI mx)), (xI m_st cI 38 fsn_22), (xI m_ac cI 912 fcn_21)]) [1, 2, 0] (by decide +kernel) rfl, hS, hF_22_0, hF_21_0, (lf_X8_hours_6 hM hT h999 hT0 hac hma c_1 hkn1 hw1 h01 f_2_1_0 q_2 hj_2 c_7 hii haf_0 haf_1 hnb_w_11 hMl hF_21_0 hF_21_1 hF_21_2 hF_21_3 hF_21_4 hF_22_0 hF_22_1), (by omega)⟩
        · rintro ⟨w_11, w_12, w_13⟩ H locs ls ⟨hl, hP, hD, hS, hMl, haf_0, haf_1, hnb_w_11⟩
          refine lv_iload_n hx hb dX8_hours_44 rfl (lv_at hl 0 rfl) ?_
          refine lv_iload_n hx hb dX8_hours_45 rfl (lv_at hl 2 rfl) ?_
          refine lv_icmp_ge (tgt := 64) hx hb dX8_hours_46 (by decide) (fun _ => ?_) (fun c_ => absurd ((nI_leI (a := j_2) (b := j_2) (by omega) (by omega)).mpr (by omega)) c_)
          refine lv_aload_n hx hb dX8_hours_64 rfl (lv_at hl 1 rfl) ?_
          refine va_get (D := (dC, dI)) (ci := 8) (v := .ref m_st) (C := RX8) (T := TX8) (N := 24) hx hb hts i_X8_hours_X8 hown hK hP 0 rfl rfl 5 (by decide) (hts _ mx_X8_hours_5) (fun _ h9 => h9) rfl dX8_hours_65 ?_
          refine lv_bipush (v := 7) hx hb dX8_hours_68 (by decide) ?_
          refine va_iald hx hb hK hP 1 0 rfl rfl (by unfold vp_in; decide) dX8_hours_70 ?_
          refine lv_topi (fun v_24 e_24 => ?_)
          have e_24 : v_24 = w_12 7 := e_24
          have hX9 := cut2 (wc := [(xo_8_rrriirrriiiiiiirrirrrrri mo m_la m_sz m_it ms mt m_st m_mv m_tp (nI mz) ml (nI mp) mk mv mb mw m_rd m_ac (nI w_11) m_as m_wo m_ik m_ke m_tr (nI mx)), (xI m_st cI 38 w_12), (xI m_ac cI 912 w_13)]) hP hD [0, 1, 2] (by decide +kernel) rfl
          exact W.iret (v := v_24) hx hb hr (fun t ht hW => ⟨⟨v_24, (), rfl, (lf_X8_hours_11 hM hT h999 hT0 hac hma c_1 hkn1 hw1 h01 f_2_1_0 q_2 hj_2 c_7 haf_0 haf_1 hnb_w_11 hMl e_24), ⟨w_12, w_13, w_11, w9, k9, (h9 + j_2), va_Ht ht hX9.1, hX9.2, hMl, hT, (by omega), haf_0, (by omega), (lf_X8_hours_7 hM hT h999 hT0 hac hma c_1 hkn1 hw1 h01 f_2_1_0 q_2 hj_2 c_7 haf_0 haf_1 hnb_w_11 hMl e_24), (lf_X8_hours_8 hM hT h999 hT0 hac hma c_1 hkn1 hw1 h01 f_2_1_0 q_2 hj_2 c_7 haf_0 haf_1 hnb_w_11 hMl e_24), (lf_X8_hours_9 hM hT h999 hT0 hac hma c_1 hkn1 hw1 h01 f_2_1_0 q_2 hj_2 c_7 haf_0 haf_1 hnb_w_11 hMl e_24), (lf_X8_hours_10 hM hT h999 hT0 hac hma c_1 hkn1 hw1 h01 f_2_1_0 q_2 hj_2 c_7 haf_0 haf_1 hnb_w_11 hMl e_24)⟩⟩, hS.F ht⟩) hS.2.2 dX8_hours_71
      · have c_7 : ¬ ((h9 + j_2) ≤ 999) := fun q_ => c_7 ((nI_leI (a := (h9 + j_2)) (b := 999) (by omega) (by omega)).mpr q_)
        refine lv_ldc (own := RX8) (v := (-1000003)) hx hb hown (hts _ mx_X8_hours_6) dX8_hours_39 ?_
        have hX9 := cut2 (wc := [(xo_8_rrriirrriiiiiiirrirrrrri mo m_la m_sz m_it ms mt m_st m_mv m_tp (nI mz) ml (nI mp) mk mv mb mw m_rd m_ac (nI ma) m_as m_wo m_ik m_ke m_tr (nI mx)), (xI m_st cI 38 fs), (xI m_ac cI 912 fc)]) hP hD [0, 1, 2] (by decide +kernel) rfl
        exact W.iret (v := (-1000003)) hx hb hr (fun t ht hW => ⟨⟨(-1000003), (), rfl, (lf_X8_hours_16 hM hT h999 hT0 hac hma c_1 hkn1 hw1 h01 f_2_1_0 q_2 hj_2 c_7), ⟨fs, fc, ma, w9, k9, h9, va_Ht ht hX9.1, hX9.2, hM, hT, (by omega), hac, (by omega), (lf_X8_hours_12 hM hT h999 hT0 hac hma c_1 hkn1 hw1 h01 f_2_1_0 q_2 hj_2 c_7), (lf_X8_hours_13 hM hT h999 hT0 hac hma c_1 hkn1 hw1 h01 f_2_1_0 q_2 hj_2 c_7), (lf_X8_hours_14 hM hT h999 hT0 hac hma c_1 hkn1 hw1 h01 f_2_1_0 q_2 hj_2 c_7), (lf_X8_hours_15 hM hT h999 hT0 hac hma c_1 hkn1 hw1 h01 f_2_1_0 q_2 hj_2 c_7)⟩⟩, hS.F ht⟩) hS.2.2 dX8_hours_41
  · skip
    have h00 : fs 0 = 0 := (hT0 c_1).1
    refine lv_ldc (own := RX8) (v := (-1000002)) hx hb hown (hts _ mx_X8_hours_2) dX8_hours_7 ?_
    have hX9 := cut2 (wc := [(xo_8_rrriirrriiiiiiirrirrrrri mo m_la m_sz m_it ms mt m_st m_mv m_tp (nI mz) ml (nI mp) mk mv mb mw m_rd m_ac (nI ma) m_as m_wo m_ik m_ke m_tr (nI mx)), (xI m_st cI 38 fs), (xI m_ac cI 912 fc)]) hP hD [0, 1, 2] (by decide +kernel) rfl
    exact W.iret (v := (-1000002)) hx hb hr (fun t ht hW => ⟨⟨(-1000002), (), rfl, (lf_X8_hours_21 hM hT h999 hT0 hac hma c_1 h00), ⟨fs, fc, ma, w9, k9, h9, va_Ht ht hX9.1, hX9.2, hM, hT, (by omega), hac, (by omega), (lf_X8_hours_17 hM hT h999 hT0 hac hma c_1 h00), (lf_X8_hours_18 hM hT h999 hT0 hac hma c_1 h00), (lf_X8_hours_19 hM hT h999 hT0 hac hma c_1 h00), (lf_X8_hours_20 hM hT h999 hT0 hac hma c_1 h00)⟩⟩, hS.F ht⟩) hS.2.2 dX8_hours_9
-- 50.mod4_d
/-! by turns, on the other side: all rows of turns, then the best of two and two -/
noncomputable def evB (k : Nat) : Bool := decide (k % 2 = 0)
noncomputable def plS (r : RF) : Nat → Nat → RF
  | 0, _ => r
  | k + 1, x => if x % 2 = 1 then tgP (evB k) (plS r k (x / 2)) else plS r k (x / 2)
noncomputable def wVV (m n : Nat) (r : RF) (k x : Nat) : Int32 := btV m (n - k) (evB k) (plS r k x)
theorem evB_s (k : Nat) : (!evB k) = evB (k + 1) := by
  unfold evB
  by_cases h : k % 2 = 0
  · rw [decide_eq_true h, decide_eq_false (by omega)]
    rfl
  · rw [decide_eq_false h, decide_eq_true (by omega)]
    rfl
theorem wV_s {m n k x : Nat} {r : RF} (hk : k < n) : wVV m n r k x = cmb (evB k) (wVV m n r (k + 1) (2 * x)) (wVV m n r (k + 1) (2 * x + 1)) := by
  have e1 : plS r (k + 1) (2 * x) = plS r k x := by
    show (if 2 * x % 2 = 1 then tgP (evB k) (plS r k (2 * x / 2)) else plS r k (2 * x / 2)) = _
    rw [if_neg (by omega), show 2 * x / 2 = x by omega]
  have e2 : plS r (k + 1) (2 * x + 1) = tgP (evB k) (plS r k x) := by
    show (if (2 * x + 1) % 2 = 1 then tgP (evB k) (plS r k ((2 * x + 1) / 2)) else plS r k ((2 * x + 1) / 2)) = _
    rw [if_pos (by omega), show (2 * x + 1) / 2 = x by omega]
  have e3 : n - k = n - (k + 1) + 1 := by omega
  unfold wVV
  rw [e1, e2, e3, ← evB_s]
  rfl
theorem cmb_1 {x y : Int32} (b : Bool) (c : x ≤ y) (h : b = false) : x = cmb b x y := by
  rw [h]
  exact ((if_neg (by decide)).trans (if_neg (i_nlt.mpr c))).symm
theorem cmb_2 {x y : Int32} (b : Bool) (c : x ≤ y) (h : b = true) : y = cmb b x y := by
  rw [h]
  refine Eq.trans ?_ (if_pos rfl).symm
  by_cases q : x < y
  · rw [if_pos q]
  · rw [if_neg q]
    exact Int32.le_antisymm (i_nlt.mp q) c
theorem cmb_3 {x y : Int32} (b : Bool) (c : ¬ x ≤ y) (h : b = false) : y = cmb b x y := by
  rw [h]
  exact ((if_neg (by decide)).trans (if_pos (i_nle.mp c))).symm
theorem cmb_4 {x y : Int32} (b : Bool) (c : ¬ x ≤ y) (h : b = true) : x = cmb b x y := by
  rw [h]
  have q : ¬ x < y := fun z => c (i_nlt.mp (fun y2 => absurd z (by rw [Int32.lt_iff_toInt_lt] at *; omega)))
  exact ((if_pos rfl).trans (if_neg q)).symm
set_option maxRecDepth 100000 in
theorem has16 : ∀ z : Nat, z < 16 → ∀ k : Nat, k < 4 → (hasB (nI z) (nI k) ↔ z / 2 ^ k % 2 = 1) := by
  unfold hasB
  decide +kernel
theorem cd_2 {n i : Nat} (hn : n ≤ 4) (hi : i < n) {v : Int32} (e : v = cdn n i - cdn n i / 2 * 2) : v = 0 ↔ evB (n - 1 - i) = true := by
  rw [e, cdn_nat (by omega) hi]
  unfold evB
  rcases (show n - 1 - i = 0 ∨ n - 1 - i = 1 ∨ n - 1 - i = 2 ∨ n - 1 - i = 3 by omega) with q | q | q | q <;> rw [q] <;> decide
theorem ev_f {b : Bool} (h : ¬ b = true) : b = false := by
  cases b
  · rfl
  · exact absurd rfl h
section BYM
variable {fs w g g2 : RF} {w9 k9 h9 n m i k x z sh sd : Nat} {v v2 u a b : Int32}
theorem pl_nw {r : RF} (h5 : r 5 = nI h9) (h3 : r 3 = nI w9) (hh : h9 < 2 ^ 31) (hw : w9 ≤ 6) (hw1 : 1 ≤ w9) : nwI r = 8 + h9 % w9 := by
  unfold nwI
  rw [h5, h3, nI_clamp hh, nI_clamp (by omega)]
theorem up_id {f : RF} {i : Nat} {v : Int32} (e : v = f i) : upd f i v = f := by
  funext q
  unfold upd
  split
  · rename_i h
    rw [e, h]
  · rfl
/-- one ply more -/
theorem pl_no (hh : x / 2 ^ (n - (k + 1)) % 2 = 1 ↔ hasB (nI x) v) (f : ¬ hasB (nI x) v) (hk : k < n) (e : m38 w = plS (m38 fs) k (x / 2 ^ (n - k))) : m38 w = plS (m38 fs) (k + 1) (x / 2 ^ (n - (k + 1))) := by
  have e1 : x / 2 ^ (n - (k + 1)) / 2 = x / 2 ^ (n - k) := by
    rw [show n - k = n - (k + 1) + 1 by omega, Nat.pow_succ, Nat.div_div_eq_div_mul]
  show _ = (if x / 2 ^ (n - (k + 1)) % 2 = 1 then tgP (evB k) (plS (m38 fs) k (x / 2 ^ (n - (k + 1)) / 2)) else plS (m38 fs) k (x / 2 ^ (n - (k + 1)) / 2))
  rw [if_neg (fun q => f (hh.mp q)), e1]
  exact e
theorem pl_ye {r : RF} (hh : x / 2 ^ (n - (k + 1)) % 2 = 1 ↔ hasB (nI x) v) (f : hasB (nI x) v) (hk : k < n) (e : m38 w = plS (m38 fs) k (x / 2 ^ (n - k))) (e2 : r = tgP (evB k) (m38 w)) : r = plS (m38 fs) (k + 1) (x / 2 ^ (n - (k + 1))) := by
  have e1 : x / 2 ^ (n - (k + 1)) / 2 = x / 2 ^ (n - k) := by
    rw [show n - k = n - (k + 1) + 1 by omega, Nat.pow_succ, Nat.div_div_eq_div_mul]
  show _ = (if x / 2 ^ (n - (k + 1)) % 2 = 1 then tgP (evB k) (plS (m38 fs) k (x / 2 ^ (n - (k + 1)) / 2)) else plS (m38 fs) k (x / 2 ^ (n - (k + 1)) / 2))
  rw [if_pos (hh.mpr f), e1, ← e]
  exact e2
theorem pl_has (hn : n ≤ 4) (hk : k < n) (hs : (1 : Int32) <<< (nI n &&& 31) = nI sh) (hb : sh ≤ 16) (hx : x < sh) (e1 : v = nI n - 1) (e2 : v2 = v - nI k) : x / 2 ^ (n - (k + 1)) % 2 = 1 ↔ hasB (nI x) v2 := by
  have e : v2 = nI (n - (k + 1)) := by
    rw [e2, e1]
    exact (cdn_nat (n := n) (i := k) (by omega) hk).trans (by congr 1; omega)
  rw [e, has16 x (by omega) _ (by omega)]
theorem by_same (e0 : v = w 6) (hu : g = upd w 6 v) (e1 : v2 = g (8 + z)) (hu2 : g2 = upd g (8 + z) v2) : g2 = w := by
  rw [hu2, up_id e1, hu, up_id e0]
theorem by_cap (e0 : v = w 6) (e3 : u = 1 - v) (hu : g = upd w 6 u) (e1 : v2 = g (8 + z)) (hu2 : g2 = upd g (8 + z) v2) (hk : k % 2 = 0) : m38 g2 = tgP (evB k) (m38 w) := by
  have ev : evB k = true := decide_eq_true hk
  have e6 : m38 w 6 = w 6 := rfl
  rw [ev, hu2, up_id e1, hu, m38_up (by decide), e3, e0]
  show _ = upd (m38 w) 6 (1 - m38 w 6)
  rw [e6]
theorem by_wnd (hM : okM w w9 k9 h9) (hw1 : 1 ≤ w9) (hh : h9 ≤ 999) (e0 : v = w 6) (hu : g = upd w 6 v) (e1 : v2 = g (8 + z)) (e3 : u = 4 - v2) (hu2 : g2 = upd g (8 + z) u) (hz : z = h9 % w9) (hk : k % 2 = 1) : m38 g2 = tgP (evB k) (m38 w) := by
  have h6 := hM.2.2.2.1
  have hm : h9 % w9 < w9 := Nat.mod_lt _ (by omega)
  have ev : evB k = false := decide_eq_false (by omega)
  have en : nwI (m38 w) = 8 + z := by
    rw [pl_nw (r := m38 w) hM.2.2.1 hM.1 (by omega) h6 hw1, hz]
  have eg : g = w := by rw [hu, up_id e0]
  rw [ev, hu2, m38_up (by omega), e3, e1, eg]
  show _ = upd (m38 w) (nwI (m38 w)) (4 - m38 w (nwI (m38 w)))
  rw [en, m38_at (by omega)]
theorem by_row (hM : okM w w9 k9 h9) (hw1 : 1 ≤ w9) (h : ∀ q : Nat, q < x → g q = wVV m n (m38 fs) n q) (e : m38 w = plS (m38 fs) n (x / 2 ^ (n - n))) (hr : a = mGo m w 7) (hu : g2 = upd g x a) : ∀ q : Nat, q < x + 1 → g2 q = wVV m n (m38 fs) n q := by
  intro q hq
  rw [hu]
  by_cases t : q = x
  · have e1 : a = mGo m (m38 w) 7 := by
      rw [hr, mGoM hM hw1, mm7]
    rw [t, pk_us, e1, e]
    unfold wVV
    rw [Nat.sub_self, Nat.pow_zero, Nat.div_one]
    rfl
  · rw [pk_un t]
    exact h q (by omega)
theorem by_sh (hn : n ≤ 4) (hs : (1 : Int32) <<< (nI n &&& 31) = nI sh) (hb : sh ≤ 16) : sh = 2 ^ n := by
  have h1 : 2 ^ n ≤ 2 ^ 4 := Nat.pow_le_pow_right (by decide) hn
  exact (nI_eq (by omega) (by omega)).mp (hs.symm.trans (shlN n (by omega)))
theorem by_sd (hn : n ≤ 4) (hi : i < n) (hs : (1 : Int32) <<< (cdn n i &&& 31) = nI sd) (hb : sd ≤ 8) : sd = 2 ^ (n - 1 - i) := by
  have h1 : 2 ^ (n - 1 - i) ≤ 2 ^ 4 := Nat.pow_le_pow_right (by decide) (by omega)
  rw [cdn_nat (by omega) hi] at hs
  exact (nI_eq (by omega) (by omega)).mp (hs.symm.trans (shlN _ (by omega)))
theorem by_i3 (hn : n ≤ 4) (hs : (1 : Int32) <<< (nI n &&& 31) = nI sh) (hb : sh ≤ 16) (h : ∀ q : Nat, q < sh → g q = wVV m n (m38 fs) n q) : ∀ q : Nat, q < 2 ^ (n - 0) → g q = wVV m n (m38 fs) (n - 0) q := by
  rw [Nat.sub_zero, ← by_sh hn hs hb]
  exact h
/-- the best of two -/
theorem by_two (hi : i < n) (hx : x < 2 ^ (n - 1 - i)) (h5 : ∀ q : Nat, 2 * x ≤ q → q < 2 ^ (n - i) → g q = wVV m n (m38 fs) (n - i) q) (e1 : a = g (2 * x)) (e2 : b = g ((2 * x) + 1)) : wVV m n (m38 fs) (n - 1 - i) x = cmb (evB (n - 1 - i)) a b := by
  have p : 2 ^ (n - i) = 2 ^ (n - 1 - i) * 2 := by rw [show n - i = n - 1 - i + 1 by omega, Nat.pow_succ]
  have e : n - i = n - 1 - i + 1 := by omega
  rw [wV_s (by omega), e1, e2, h5 _ (by omega) (by omega), h5 _ (by omega) (by omega), e]
theorem by_4 (h4 : ∀ q : Nat, q < x → g q = wVV m n (m38 fs) k q) (hu : g2 = upd g x a) (e : a = wVV m n (m38 fs) k x) : ∀ q : Nat, q < x + 1 → g2 q = wVV m n (m38 fs) k q := by
  intro q hq
  rw [hu]
  by_cases t : q = x
  · rw [t, pk_us, e]
  · rw [pk_un t]
    exact h4 q (by omega)
theorem by_5 (h5 : ∀ q : Nat, 2 * x ≤ q → q < 2 ^ k → g q = wVV m n (m38 fs) k q) (hu : g2 = upd g x a) : ∀ q : Nat, 2 * (x + 1) ≤ q → q < 2 ^ k → g2 q = wVV m n (m38 fs) k q := by
  intro q h1 h2
  rw [hu, pk_un (by omega)]
  exact h5 q (by omega) h2
theorem by_3 (hn : n ≤ 4) (hi : i < n) (hs : (1 : Int32) <<< (cdn n i &&& 31) = nI sd) (hb : sd ≤ 8) (h4 : ∀ q : Nat, q < sd → g q = wVV m n (m38 fs) (n - 1 - i) q) : ∀ q : Nat, q < 2 ^ (n - (i + 1)) → g q = wVV m n (m38 fs) (n - (i + 1)) q := by
  have e := by_sd hn hi hs hb
  rw [show n - (i + 1) = n - 1 - i by omega, ← e]
  exact h4
theorem by_e (h0 : ¬ fs 0 = 0) (q2 : ¬ (nI n < 0 ∨ 4 < nI n)) (q5 : ¬ (nI m < 1 ∨ 20 < nI m)) (hn : n ≤ 4) (hm : m ≤ 20) (h : ∀ q : Nat, q < 2 ^ (n - n) → g q = wVV m n (m38 fs) (n - n) q) (e : a = g 0) : a = a_byt (m38 fs) (nI n) (nI m) := by
  have z0 : ¬ m38 fs 0 = 0 := h0
  rw [byt_g z0 (fun q => q.elim q2 q5) hn hm, e, h 0 (by rw [Nat.sub_self]; decide)]
  unfold wVV
  rw [Nat.sub_self]
  rfl
end BYM
theorem dX8_byTurns_0 : decode cX8_byTurns 0 = .ok (.aload_n 0, 1) := dq_42 (by decide +kernel)
theorem dX8_byTurns_1 : decode cX8_byTurns 1 = .ok (.getfield 138, 3) := dq_180 (b1 := 0) (b2 := 138) (by decide +kernel) (by decide)
theorem dX8_byTurns_10 : decode cX8_byTurns 10 = .ok (.iload_n 1, 1) := dq_27 (by decide +kernel)
theorem dX8_byTurns_102 : decode cX8_byTurns 102 = .ok (.iload 5, 2) := dq_21 (b1 := 5) (by decide +kernel) (by decide)
theorem dX8_byTurns_104 : decode cX8_byTurns 104 = .ok (.iconst 2, 1) := dq_5 (by decide +kernel)
theorem dX8_byTurns_105 : decode cX8_byTurns 105 = .ok (.irem, 1) := dq_112 (by decide +kernel)
theorem dX8_byTurns_106 : decode cX8_byTurns 106 = .ok (.ifCond .ne 15, 3) := dq_154 (b1 := 0) (b2 := 15) (by decide +kernel) (by decide)
theorem dX8_byTurns_109 : decode cX8_byTurns 109 = .ok (.iconst 1, 1) := dq_4 (by decide +kernel)
theorem dX8_byTurns_11 : decode cX8_byTurns 11 = .ok (.i2l, 1) := dq_133 (by decide +kernel)
theorem dX8_byTurns_110 : decode cX8_byTurns 110 = .ok (.aload_n 0, 1) := dq_42 (by decide +kernel)
theorem dX8_byTurns_111 : decode cX8_byTurns 111 = .ok (.getfield 19, 3) := dq_180 (b1 := 0) (b2 := 19) (by decide +kernel) (by decide)
theorem dX8_byTurns_114 : decode cX8_byTurns 114 = .ok (.bipush 6, 2) := dq_16 (b1 := 6) (by decide +kernel) (by decide)
theorem dX8_byTurns_116 : decode cX8_byTurns 116 = .ok (.iaload, 1) := dq_46 (by decide +kernel)
theorem dX8_byTurns_117 : decode cX8_byTurns 117 = .ok (.isub, 1) := dq_100 (by decide +kernel)
theorem dX8_byTurns_118 : decode cX8_byTurns 118 = .ok (.goto 10, 3) := dq_167 (b1 := 0) (b2 := 10) (by decide +kernel) (by decide)
theorem dX8_byTurns_12 : decode cX8_byTurns 12 = .ok (.lconst 0, 1) := dq_9 (by decide +kernel)
theorem dX8_byTurns_121 : decode cX8_byTurns 121 = .ok (.aload_n 0, 1) := dq_42 (by decide +kernel)
theorem dX8_byTurns_122 : decode cX8_byTurns 122 = .ok (.getfield 19, 3) := dq_180 (b1 := 0) (b2 := 19) (by decide +kernel) (by decide)
theorem dX8_byTurns_125 : decode cX8_byTurns 125 = .ok (.bipush 6, 2) := dq_16 (b1 := 6) (by decide +kernel) (by decide)
theorem dX8_byTurns_127 : decode cX8_byTurns 127 = .ok (.iaload, 1) := dq_46 (by decide +kernel)
theorem dX8_byTurns_128 : decode cX8_byTurns 128 = .ok (.iastore, 1) := dq_79 (by decide +kernel)
theorem dX8_byTurns_129 : decode cX8_byTurns 129 = .ok (.aload_n 0, 1) := dq_42 (by decide +kernel)
theorem dX8_byTurns_13 : decode cX8_byTurns 13 = .ok (.ldc2_w 171, 3) := dq_20 (b1 := 0) (b2 := 171) (by decide +kernel) (by decide)
theorem dX8_byTurns_130 : decode cX8_byTurns 130 = .ok (.getfield 19, 3) := dq_180 (b1 := 0) (b2 := 19) (by decide +kernel) (by decide)
theorem dX8_byTurns_133 : decode cX8_byTurns 133 = .ok (.iload_n 3, 1) := dq_29 (by decide +kernel)
theorem dX8_byTurns_134 : decode cX8_byTurns 134 = .ok (.iload 6, 2) := dq_21 (b1 := 6) (by decide +kernel) (by decide)
theorem dX8_byTurns_136 : decode cX8_byTurns 136 = .ok (.ifCond .eq 22, 3) := dq_153 (b1 := 0) (b2 := 22) (by decide +kernel) (by decide)
theorem dX8_byTurns_139 : decode cX8_byTurns 139 = .ok (.iload 5, 2) := dq_21 (b1 := 5) (by decide +kernel) (by decide)
theorem dX8_byTurns_141 : decode cX8_byTurns 141 = .ok (.iconst 2, 1) := dq_5 (by decide +kernel)
theorem dX8_byTurns_142 : decode cX8_byTurns 142 = .ok (.irem, 1) := dq_112 (by decide +kernel)
theorem dX8_byTurns_143 : decode cX8_byTurns 143 = .ok (.iconst 1, 1) := dq_4 (by decide +kernel)
theorem dX8_byTurns_144 : decode cX8_byTurns 144 = .ok (.if_icmp .ne 14, 3) := dq_160 (b1 := 0) (b2 := 14) (by decide +kernel) (by decide)
theorem dX8_byTurns_147 : decode cX8_byTurns 147 = .ok (.iconst 4, 1) := dq_7 (by decide +kernel)
theorem dX8_byTurns_148 : decode cX8_byTurns 148 = .ok (.aload_n 0, 1) := dq_42 (by decide +kernel)
theorem dX8_byTurns_149 : decode cX8_byTurns 149 = .ok (.getfield 19, 3) := dq_180 (b1 := 0) (b2 := 19) (by decide +kernel) (by decide)
theorem dX8_byTurns_152 : decode cX8_byTurns 152 = .ok (.iload_n 3, 1) := dq_29 (by decide +kernel)
theorem dX8_byTurns_153 : decode cX8_byTurns 153 = .ok (.iaload, 1) := dq_46 (by decide +kernel)
theorem dX8_byTurns_154 : decode cX8_byTurns 154 = .ok (.isub, 1) := dq_100 (by decide +kernel)
theorem dX8_byTurns_155 : decode cX8_byTurns 155 = .ok (.goto 9, 3) := dq_167 (b1 := 0) (b2 := 9) (by decide +kernel) (by decide)
theorem dX8_byTurns_158 : decode cX8_byTurns 158 = .ok (.aload_n 0, 1) := dq_42 (by decide +kernel)
theorem dX8_byTurns_159 : decode cX8_byTurns 159 = .ok (.getfield 19, 3) := dq_180 (b1 := 0) (b2 := 19) (by decide +kernel) (by decide)
theorem dX8_byTurns_16 : decode cX8_byTurns 16 = .ok (.invokestatic 57, 3) := dq_184 (b1 := 0) (b2 := 57) (by decide +kernel) (by decide)
theorem dX8_byTurns_162 : decode cX8_byTurns 162 = .ok (.iload_n 3, 1) := dq_29 (by decide +kernel)
theorem dX8_byTurns_163 : decode cX8_byTurns 163 = .ok (.iaload, 1) := dq_46 (by decide +kernel)
theorem dX8_byTurns_164 : decode cX8_byTurns 164 = .ok (.iastore, 1) := dq_79 (by decide +kernel)
theorem dX8_byTurns_165 : decode cX8_byTurns 165 = .ok (.iinc 5 1, 3) := dq_132 (b1 := 5) (b2 := 1) (by decide +kernel) (by decide) (by decide)
theorem dX8_byTurns_168 : decode cX8_byTurns 168 = .ok (.goto (-96), 3) := dq_167 (b1 := 255) (b2 := 160) (by decide +kernel) (by decide)
theorem dX8_byTurns_171 : decode cX8_byTurns 171 = .ok (.aload_n 0, 1) := dq_42 (by decide +kernel)
theorem dX8_byTurns_172 : decode cX8_byTurns 172 = .ok (.getfield 37, 3) := dq_180 (b1 := 0) (b2 := 37) (by decide +kernel) (by decide)
theorem dX8_byTurns_175 : decode cX8_byTurns 175 = .ok (.iload 4, 2) := dq_21 (b1 := 4) (by decide +kernel) (by decide)
theorem dX8_byTurns_177 : decode cX8_byTurns 177 = .ok (.aload_n 0, 1) := dq_42 (by decide +kernel)
theorem dX8_byTurns_178 : decode cX8_byTurns 178 = .ok (.iload_n 2, 1) := dq_28 (by decide +kernel)
theorem dX8_byTurns_179 : decode cX8_byTurns 179 = .ok (.invokevirtual 200, 3) := dq_182 (b1 := 0) (b2 := 200) (by decide +kernel) (by decide)
theorem dX8_byTurns_182 : decode cX8_byTurns 182 = .ok (.iastore, 1) := dq_79 (by decide +kernel)
theorem dX8_byTurns_183 : decode cX8_byTurns 183 = .ok (.iinc 4 1, 3) := dq_132 (b1 := 4) (b2 := 1) (by decide +kernel) (by decide) (by decide)
theorem dX8_byTurns_186 : decode cX8_byTurns 186 = .ok (.goto (-125), 3) := dq_167 (b1 := 255) (b2 := 131) (by decide +kernel) (by decide)
theorem dX8_byTurns_189 : decode cX8_byTurns 189 = .ok (.iload_n 1, 1) := dq_27 (by decide +kernel)
theorem dX8_byTurns_19 : decode cX8_byTurns 19 = .ok (.ifCond .eq 15, 3) := dq_153 (b1 := 0) (b2 := 15) (by decide +kernel) (by decide)
theorem dX8_byTurns_190 : decode cX8_byTurns 190 = .ok (.iconst 1, 1) := dq_4 (by decide +kernel)
theorem dX8_byTurns_191 : decode cX8_byTurns 191 = .ok (.isub, 1) := dq_100 (by decide +kernel)
theorem dX8_byTurns_192 : decode cX8_byTurns 192 = .ok (.istore 4, 2) := dq_54 (b1 := 4) (by decide +kernel) (by decide)
theorem dX8_byTurns_194 : decode cX8_byTurns 194 = .ok (.iload 4, 2) := dq_21 (b1 := 4) (by decide +kernel) (by decide)
theorem dX8_byTurns_196 : decode cX8_byTurns 196 = .ok (.ifCond .lt 92, 3) := dq_155 (b1 := 0) (b2 := 92) (by decide +kernel) (by decide)
theorem dX8_byTurns_199 : decode cX8_byTurns 199 = .ok (.iconst 0, 1) := dq_3 (by decide +kernel)
theorem dX8_byTurns_200 : decode cX8_byTurns 200 = .ok (.istore 5, 2) := dq_54 (b1 := 5) (by decide +kernel) (by decide)
theorem dX8_byTurns_202 : decode cX8_byTurns 202 = .ok (.iload 5, 2) := dq_21 (b1 := 5) (by decide +kernel) (by decide)
theorem dX8_byTurns_204 : decode cX8_byTurns 204 = .ok (.iconst 1, 1) := dq_4 (by decide +kernel)
theorem dX8_byTurns_205 : decode cX8_byTurns 205 = .ok (.iload 4, 2) := dq_21 (b1 := 4) (by decide +kernel) (by decide)
theorem dX8_byTurns_207 : decode cX8_byTurns 207 = .ok (.ishl, 1) := dq_120 (by decide +kernel)
theorem dX8_byTurns_208 : decode cX8_byTurns 208 = .ok (.if_icmp .ge 74, 3) := dq_162 (b1 := 0) (b2 := 74) (by decide +kernel) (by decide)
theorem dX8_byTurns_211 : decode cX8_byTurns 211 = .ok (.aload_n 0, 1) := dq_42 (by decide +kernel)
theorem dX8_byTurns_212 : decode cX8_byTurns 212 = .ok (.getfield 37, 3) := dq_180 (b1 := 0) (b2 := 37) (by decide +kernel) (by decide)
theorem dX8_byTurns_215 : decode cX8_byTurns 215 = .ok (.iconst 2, 1) := dq_5 (by decide +kernel)
theorem dX8_byTurns_216 : decode cX8_byTurns 216 = .ok (.iload 5, 2) := dq_21 (b1 := 5) (by decide +kernel) (by decide)
theorem dX8_byTurns_218 : decode cX8_byTurns 218 = .ok (.imul, 1) := dq_104 (by decide +kernel)
theorem dX8_byTurns_219 : decode cX8_byTurns 219 = .ok (.iaload, 1) := dq_46 (by decide +kernel)
theorem dX8_byTurns_22 : decode cX8_byTurns 22 = .ok (.iload_n 2, 1) := dq_28 (by decide +kernel)
theorem dX8_byTurns_220 : decode cX8_byTurns 220 = .ok (.istore 6, 2) := dq_54 (b1 := 6) (by decide +kernel) (by decide)
theorem dX8_byTurns_222 : decode cX8_byTurns 222 = .ok (.aload_n 0, 1) := dq_42 (by decide +kernel)
theorem dX8_byTurns_223 : decode cX8_byTurns 223 = .ok (.getfield 37, 3) := dq_180 (b1 := 0) (b2 := 37) (by decide +kernel) (by decide)
theorem dX8_byTurns_226 : decode cX8_byTurns 226 = .ok (.iconst 2, 1) := dq_5 (by decide +kernel)
theorem dX8_byTurns_227 : decode cX8_byTurns 227 = .ok (.iload 5, 2) := dq_21 (b1 := 5) (by decide +kernel) (by decide)
theorem dX8_byTurns_229 : decode cX8_byTurns 229 = .ok (.imul, 1) := dq_104 (by decide +kernel)
theorem dX8_byTurns_23 : decode cX8_byTurns 23 = .ok (.i2l, 1) := dq_133 (by decide +kernel)
theorem dX8_byTurns_230 : decode cX8_byTurns 230 = .ok (.iconst 1, 1) := dq_4 (by decide +kernel)
theorem dX8_byTurns_231 : decode cX8_byTurns 231 = .ok (.iadd, 1) := dq_96 (by decide +kernel)
theorem dX8_byTurns_232 : decode cX8_byTurns 232 = .ok (.iaload, 1) := dq_46 (by decide +kernel)
theorem dX8_byTurns_233 : decode cX8_byTurns 233 = .ok (.istore 7, 2) := dq_54 (b1 := 7) (by decide +kernel) (by decide)
theorem dX8_byTurns_235 : decode cX8_byTurns 235 = .ok (.aload_n 0, 1) := dq_42 (by decide +kernel)
theorem dX8_byTurns_236 : decode cX8_byTurns 236 = .ok (.getfield 37, 3) := dq_180 (b1 := 0) (b2 := 37) (by decide +kernel) (by decide)
theorem dX8_byTurns_239 : decode cX8_byTurns 239 = .ok (.iload 5, 2) := dq_21 (b1 := 5) (by decide +kernel) (by decide)
theorem dX8_byTurns_24 : decode cX8_byTurns 24 = .ok (.lconst 1, 1) := dq_10 (by decide +kernel)
theorem dX8_byTurns_241 : decode cX8_byTurns 241 = .ok (.iload 6, 2) := dq_21 (b1 := 6) (by decide +kernel) (by decide)
theorem dX8_byTurns_243 : decode cX8_byTurns 243 = .ok (.iload 7, 2) := dq_21 (b1 := 7) (by decide +kernel) (by decide)
theorem dX8_byTurns_245 : decode cX8_byTurns 245 = .ok (.if_icmp .le 7, 3) := dq_164 (b1 := 0) (b2 := 7) (by decide +kernel) (by decide)
theorem dX8_byTurns_248 : decode cX8_byTurns 248 = .ok (.iconst 1, 1) := dq_4 (by decide +kernel)
theorem dX8_byTurns_249 : decode cX8_byTurns 249 = .ok (.goto 4, 3) := dq_167 (b1 := 0) (b2 := 4) (by decide +kernel) (by decide)
theorem dX8_byTurns_25 : decode cX8_byTurns 25 = .ok (.ldc2_w 176, 3) := dq_20 (b1 := 0) (b2 := 176) (by decide +kernel) (by decide)
theorem dX8_byTurns_252 : decode cX8_byTurns 252 = .ok (.iconst 0, 1) := dq_3 (by decide +kernel)
theorem dX8_byTurns_253 : decode cX8_byTurns 253 = .ok (.iload 4, 2) := dq_21 (b1 := 4) (by decide +kernel) (by decide)
theorem dX8_byTurns_255 : decode cX8_byTurns 255 = .ok (.iconst 2, 1) := dq_5 (by decide +kernel)
theorem dX8_byTurns_256 : decode cX8_byTurns 256 = .ok (.irem, 1) := dq_112 (by decide +kernel)
theorem dX8_byTurns_257 : decode cX8_byTurns 257 = .ok (.ifCond .ne 7, 3) := dq_154 (b1 := 0) (b2 := 7) (by decide +kernel) (by decide)
theorem dX8_byTurns_260 : decode cX8_byTurns 260 = .ok (.iconst 1, 1) := dq_4 (by decide +kernel)
theorem dX8_byTurns_261 : decode cX8_byTurns 261 = .ok (.goto 4, 3) := dq_167 (b1 := 0) (b2 := 4) (by decide +kernel) (by decide)
theorem dX8_byTurns_264 : decode cX8_byTurns 264 = .ok (.iconst 0, 1) := dq_3 (by decide +kernel)
theorem dX8_byTurns_265 : decode cX8_byTurns 265 = .ok (.if_icmp .ne 8, 3) := dq_160 (b1 := 0) (b2 := 8) (by decide +kernel) (by decide)
theorem dX8_byTurns_268 : decode cX8_byTurns 268 = .ok (.iload 6, 2) := dq_21 (b1 := 6) (by decide +kernel) (by decide)
theorem dX8_byTurns_270 : decode cX8_byTurns 270 = .ok (.goto 5, 3) := dq_167 (b1 := 0) (b2 := 5) (by decide +kernel) (by decide)
theorem dX8_byTurns_273 : decode cX8_byTurns 273 = .ok (.iload 7, 2) := dq_21 (b1 := 7) (by decide +kernel) (by decide)
theorem dX8_byTurns_275 : decode cX8_byTurns 275 = .ok (.iastore, 1) := dq_79 (by decide +kernel)
theorem dX8_byTurns_276 : decode cX8_byTurns 276 = .ok (.iinc 5 1, 3) := dq_132 (b1 := 5) (b2 := 1) (by decide +kernel) (by decide) (by decide)
theorem dX8_byTurns_279 : decode cX8_byTurns 279 = .ok (.goto (-77), 3) := dq_167 (b1 := 255) (b2 := 179) (by decide +kernel) (by decide)
theorem dX8_byTurns_28 : decode cX8_byTurns 28 = .ok (.invokestatic 57, 3) := dq_184 (b1 := 0) (b2 := 57) (by decide +kernel) (by decide)
theorem dX8_byTurns_282 : decode cX8_byTurns 282 = .ok (.iinc 4 (-1), 3) := dq_132 (b1 := 4) (b2 := 255) (by decide +kernel) (by decide) (by decide)
theorem dX8_byTurns_285 : decode cX8_byTurns 285 = .ok (.goto (-91), 3) := dq_167 (b1 := 255) (b2 := 165) (by decide +kernel) (by decide)
theorem dX8_byTurns_288 : decode cX8_byTurns 288 = .ok (.aload_n 0, 1) := dq_42 (by decide +kernel)
theorem dX8_byTurns_289 : decode cX8_byTurns 289 = .ok (.getfield 37, 3) := dq_180 (b1 := 0) (b2 := 37) (by decide +kernel) (by decide)
theorem dX8_byTurns_292 : decode cX8_byTurns 292 = .ok (.iconst 0, 1) := dq_3 (by decide +kernel)
theorem dX8_byTurns_293 : decode cX8_byTurns 293 = .ok (.iaload, 1) := dq_46 (by decide +kernel)
theorem dX8_byTurns_294 : decode cX8_byTurns 294 = .ok (.ireturn, 1) := dq_172 (by decide +kernel)
theorem dX8_byTurns_31 : decode cX8_byTurns 31 = .ok (.ifCond .ne 6, 3) := dq_154 (b1 := 0) (b2 := 6) (by decide +kernel) (by decide)
theorem dX8_byTurns_34 : decode cX8_byTurns 34 = .ok (.ldc 67, 2) := dq_18 (b1 := 67) (by decide +kernel) (by decide)
theorem dX8_byTurns_36 : decode cX8_byTurns 36 = .ok (.ireturn, 1) := dq_172 (by decide +kernel)
theorem dX8_byTurns_37 : decode cX8_byTurns 37 = .ok (.aload_n 0, 1) := dq_42 (by decide +kernel)
theorem dX8_byTurns_38 : decode cX8_byTurns 38 = .ok (.invokevirtual 197, 3) := dq_182 (b1 := 0) (b2 := 197) (by decide +kernel) (by decide)
theorem dX8_byTurns_4 : decode cX8_byTurns 4 = .ok (.ifCond .ne 6, 3) := dq_154 (b1 := 0) (b2 := 6) (by decide +kernel) (by decide)
theorem dX8_byTurns_41 : decode cX8_byTurns 41 = .ok (.bipush 8, 2) := dq_16 (b1 := 8) (by decide +kernel) (by decide)
theorem dX8_byTurns_43 : decode cX8_byTurns 43 = .ok (.aload_n 0, 1) := dq_42 (by decide +kernel)
theorem dX8_byTurns_44 : decode cX8_byTurns 44 = .ok (.getfield 19, 3) := dq_180 (b1 := 0) (b2 := 19) (by decide +kernel) (by decide)
theorem dX8_byTurns_47 : decode cX8_byTurns 47 = .ok (.iconst 5, 1) := dq_8 (by decide +kernel)
theorem dX8_byTurns_48 : decode cX8_byTurns 48 = .ok (.iaload, 1) := dq_46 (by decide +kernel)
theorem dX8_byTurns_49 : decode cX8_byTurns 49 = .ok (.aload_n 0, 1) := dq_42 (by decide +kernel)
theorem dX8_byTurns_50 : decode cX8_byTurns 50 = .ok (.getfield 19, 3) := dq_180 (b1 := 0) (b2 := 19) (by decide +kernel) (by decide)
theorem dX8_byTurns_53 : decode cX8_byTurns 53 = .ok (.iconst 3, 1) := dq_6 (by decide +kernel)
theorem dX8_byTurns_54 : decode cX8_byTurns 54 = .ok (.iaload, 1) := dq_46 (by decide +kernel)
theorem dX8_byTurns_55 : decode cX8_byTurns 55 = .ok (.irem, 1) := dq_112 (by decide +kernel)
theorem dX8_byTurns_56 : decode cX8_byTurns 56 = .ok (.iadd, 1) := dq_96 (by decide +kernel)
theorem dX8_byTurns_57 : decode cX8_byTurns 57 = .ok (.istore_n 3, 1) := dq_62 (by decide +kernel)
theorem dX8_byTurns_58 : decode cX8_byTurns 58 = .ok (.iconst 0, 1) := dq_3 (by decide +kernel)
theorem dX8_byTurns_59 : decode cX8_byTurns 59 = .ok (.istore 4, 2) := dq_54 (b1 := 4) (by decide +kernel) (by decide)
theorem dX8_byTurns_61 : decode cX8_byTurns 61 = .ok (.iload 4, 2) := dq_21 (b1 := 4) (by decide +kernel) (by decide)
theorem dX8_byTurns_63 : decode cX8_byTurns 63 = .ok (.iconst 1, 1) := dq_4 (by decide +kernel)
theorem dX8_byTurns_64 : decode cX8_byTurns 64 = .ok (.iload_n 1, 1) := dq_27 (by decide +kernel)
theorem dX8_byTurns_65 : decode cX8_byTurns 65 = .ok (.ishl, 1) := dq_120 (by decide +kernel)
theorem dX8_byTurns_66 : decode cX8_byTurns 66 = .ok (.if_icmp .ge 123, 3) := dq_162 (b1 := 0) (b2 := 123) (by decide +kernel) (by decide)
theorem dX8_byTurns_69 : decode cX8_byTurns 69 = .ok (.iconst 0, 1) := dq_3 (by decide +kernel)
theorem dX8_byTurns_7 : decode cX8_byTurns 7 = .ok (.ldc 161, 2) := dq_18 (b1 := 161) (by decide +kernel) (by decide)
theorem dX8_byTurns_70 : decode cX8_byTurns 70 = .ok (.istore 5, 2) := dq_54 (b1 := 5) (by decide +kernel) (by decide)
theorem dX8_byTurns_72 : decode cX8_byTurns 72 = .ok (.iload 5, 2) := dq_21 (b1 := 5) (by decide +kernel) (by decide)
theorem dX8_byTurns_74 : decode cX8_byTurns 74 = .ok (.iload_n 1, 1) := dq_27 (by decide +kernel)
theorem dX8_byTurns_75 : decode cX8_byTurns 75 = .ok (.if_icmp .ge 96, 3) := dq_162 (b1 := 0) (b2 := 96) (by decide +kernel) (by decide)
theorem dX8_byTurns_78 : decode cX8_byTurns 78 = .ok (.iload 4, 2) := dq_21 (b1 := 4) (by decide +kernel) (by decide)
theorem dX8_byTurns_80 : decode cX8_byTurns 80 = .ok (.iload_n 1, 1) := dq_27 (by decide +kernel)
theorem dX8_byTurns_81 : decode cX8_byTurns 81 = .ok (.iconst 1, 1) := dq_4 (by decide +kernel)
theorem dX8_byTurns_82 : decode cX8_byTurns 82 = .ok (.isub, 1) := dq_100 (by decide +kernel)
theorem dX8_byTurns_83 : decode cX8_byTurns 83 = .ok (.iload 5, 2) := dq_21 (b1 := 5) (by decide +kernel) (by decide)
theorem dX8_byTurns_85 : decode cX8_byTurns 85 = .ok (.isub, 1) := dq_100 (by decide +kernel)
theorem dX8_byTurns_86 : decode cX8_byTurns 86 = .ok (.invokestatic 213, 3) := dq_184 (b1 := 0) (b2 := 213) (by decide +kernel) (by decide)
theorem dX8_byTurns_89 : decode cX8_byTurns 89 = .ok (.istore 6, 2) := dq_54 (b1 := 6) (by decide +kernel) (by decide)
theorem dX8_byTurns_9 : decode cX8_byTurns 9 = .ok (.ireturn, 1) := dq_172 (by decide +kernel)
theorem dX8_byTurns_91 : decode cX8_byTurns 91 = .ok (.aload_n 0, 1) := dq_42 (by decide +kernel)
theorem dX8_byTurns_92 : decode cX8_byTurns 92 = .ok (.getfield 19, 3) := dq_180 (b1 := 0) (b2 := 19) (by decide +kernel) (by decide)
theorem dX8_byTurns_95 : decode cX8_byTurns 95 = .ok (.bipush 6, 2) := dq_16 (b1 := 6) (by decide +kernel) (by decide)
theorem dX8_byTurns_97 : decode cX8_byTurns 97 = .ok (.iload 6, 2) := dq_21 (b1 := 6) (by decide +kernel) (by decide)
theorem dX8_byTurns_99 : decode cX8_byTurns 99 = .ok (.ifCond .eq 22, 3) := dq_153 (b1 := 0) (b2 := 22) (by decide +kernel) (by decide)
theorem dX8_share_0 : decode cX8_share 0 = .ok (.aload_n 0, 1) := dq_42 (by decide +kernel)
theorem dX8_share_1 : decode cX8_share 1 = .ok (.iload_n 1, 1) := dq_27 (by decide +kernel)
theorem dX8_share_10 : decode cX8_share 10 = .ok (.lconst 0, 1) := dq_9 (by decide +kernel)
theorem dX8_share_101 : decode cX8_share 101 = .ok (.iload_n 3, 1) := dq_29 (by decide +kernel)
theorem dX8_share_102 : decode cX8_share 102 = .ok (.iload 7, 2) := dq_21 (b1 := 7) (by decide +kernel) (by decide)
theorem dX8_share_104 : decode cX8_share 104 = .ok (.invokestatic 213, 3) := dq_184 (b1 := 0) (b2 := 213) (by decide +kernel) (by decide)
theorem dX8_share_107 : decode cX8_share 107 = .ok (.ifCond .eq 13, 3) := dq_153 (b1 := 0) (b2 := 13) (by decide +kernel) (by decide)
theorem dX8_share_11 : decode cX8_share 11 = .ok (.ldc2_w 185, 3) := dq_20 (b1 := 0) (b2 := 185) (by decide +kernel) (by decide)
theorem dX8_share_110 : decode cX8_share 110 = .ok (.iload 7, 2) := dq_21 (b1 := 7) (by decide +kernel) (by decide)
theorem dX8_share_112 : decode cX8_share 112 = .ok (.iload_n 1, 1) := dq_27 (by decide +kernel)
theorem dX8_share_113 : decode cX8_share 113 = .ok (.if_icmp .ge 7, 3) := dq_162 (b1 := 0) (b2 := 7) (by decide +kernel) (by decide)
theorem dX8_share_116 : decode cX8_share 116 = .ok (.iconst 1, 1) := dq_4 (by decide +kernel)
theorem dX8_share_117 : decode cX8_share 117 = .ok (.goto 4, 3) := dq_167 (b1 := 0) (b2 := 4) (by decide +kernel) (by decide)
theorem dX8_share_120 : decode cX8_share 120 = .ok (.iconst 0, 1) := dq_3 (by decide +kernel)
theorem dX8_share_121 : decode cX8_share 121 = .ok (.iadd, 1) := dq_96 (by decide +kernel)
theorem dX8_share_122 : decode cX8_share 122 = .ok (.istore 6, 2) := dq_54 (b1 := 6) (by decide +kernel) (by decide)
theorem dX8_share_124 : decode cX8_share 124 = .ok (.iinc 7 1, 3) := dq_132 (b1 := 7) (b2 := 1) (by decide +kernel) (by decide) (by decide)
theorem dX8_share_127 : decode cX8_share 127 = .ok (.goto (-72), 3) := dq_167 (b1 := 255) (b2 := 184) (by decide +kernel) (by decide)
theorem dX8_share_130 : decode cX8_share 130 = .ok (.iload_n 2, 1) := dq_28 (by decide +kernel)
theorem dX8_share_131 : decode cX8_share 131 = .ok (.aload_n 0, 1) := dq_42 (by decide +kernel)
theorem dX8_share_132 : decode cX8_share 132 = .ok (.getfield 19, 3) := dq_180 (b1 := 0) (b2 := 19) (by decide +kernel) (by decide)
theorem dX8_share_135 : decode cX8_share 135 = .ok (.bipush 32, 2) := dq_16 (b1 := 32) (by decide +kernel) (by decide)
theorem dX8_share_137 : decode cX8_share 137 = .ok (.iload_n 1, 1) := dq_27 (by decide +kernel)
theorem dX8_share_138 : decode cX8_share 138 = .ok (.iadd, 1) := dq_96 (by decide +kernel)
theorem dX8_share_139 : decode cX8_share 139 = .ok (.iaload, 1) := dq_46 (by decide +kernel)
theorem dX8_share_14 : decode cX8_share 14 = .ok (.invokestatic 57, 3) := dq_184 (b1 := 0) (b2 := 57) (by decide +kernel) (by decide)
theorem dX8_share_140 : decode cX8_share 140 = .ok (.imul, 1) := dq_104 (by decide +kernel)
theorem dX8_share_141 : decode cX8_share 141 = .ok (.iload 4, 2) := dq_21 (b1 := 4) (by decide +kernel) (by decide)
theorem dX8_share_143 : decode cX8_share 143 = .ok (.idiv, 1) := dq_108 (by decide +kernel)
theorem dX8_share_144 : decode cX8_share 144 = .ok (.iload 5, 2) := dq_21 (b1 := 5) (by decide +kernel) (by decide)
theorem dX8_share_146 : decode cX8_share 146 = .ok (.iload 6, 2) := dq_21 (b1 := 6) (by decide +kernel) (by decide)
theorem dX8_share_148 : decode cX8_share 148 = .ok (.if_icmp .le 7, 3) := dq_164 (b1 := 0) (b2 := 7) (by decide +kernel) (by decide)
theorem dX8_share_151 : decode cX8_share 151 = .ok (.iconst 1, 1) := dq_4 (by decide +kernel)
theorem dX8_share_152 : decode cX8_share 152 = .ok (.goto 4, 3) := dq_167 (b1 := 0) (b2 := 4) (by decide +kernel) (by decide)
theorem dX8_share_155 : decode cX8_share 155 = .ok (.iconst 0, 1) := dq_3 (by decide +kernel)
theorem dX8_share_156 : decode cX8_share 156 = .ok (.iadd, 1) := dq_96 (by decide +kernel)
theorem dX8_share_157 : decode cX8_share 157 = .ok (.ireturn, 1) := dq_172 (by decide +kernel)
theorem dX8_share_17 : decode cX8_share 17 = .ok (.ifCond .ne 6, 3) := dq_154 (b1 := 0) (b2 := 6) (by decide +kernel) (by decide)
theorem dX8_share_2 : decode cX8_share 2 = .ok (.invokevirtual 173, 3) := dq_182 (b1 := 0) (b2 := 173) (by decide +kernel) (by decide)
theorem dX8_share_20 : decode cX8_share 20 = .ok (.ldc 67, 2) := dq_18 (b1 := 67) (by decide +kernel) (by decide)
theorem dX8_share_22 : decode cX8_share 22 = .ok (.ireturn, 1) := dq_172 (by decide +kernel)
theorem dX8_share_23 : decode cX8_share 23 = .ok (.aload_n 0, 1) := dq_42 (by decide +kernel)
theorem dX8_share_24 : decode cX8_share 24 = .ok (.iconst 0, 1) := dq_3 (by decide +kernel)
theorem dX8_share_25 : decode cX8_share 25 = .ok (.invokevirtual 182, 3) := dq_182 (b1 := 0) (b2 := 182) (by decide +kernel) (by decide)
theorem dX8_share_28 : decode cX8_share 28 = .ok (.istore_n 3, 1) := dq_62 (by decide +kernel)
theorem dX8_share_29 : decode cX8_share 29 = .ok (.iload_n 3, 1) := dq_29 (by decide +kernel)
theorem dX8_share_30 : decode cX8_share 30 = .ok (.iload_n 1, 1) := dq_27 (by decide +kernel)
theorem dX8_share_31 : decode cX8_share 31 = .ok (.invokestatic 213, 3) := dq_184 (b1 := 0) (b2 := 213) (by decide +kernel) (by decide)
theorem dX8_share_34 : decode cX8_share 34 = .ok (.ifCond .ne 5, 3) := dq_154 (b1 := 0) (b2 := 5) (by decide +kernel) (by decide)
theorem dX8_share_37 : decode cX8_share 37 = .ok (.iconst 0, 1) := dq_3 (by decide +kernel)
theorem dX8_share_38 : decode cX8_share 38 = .ok (.ireturn, 1) := dq_172 (by decide +kernel)
theorem dX8_share_39 : decode cX8_share 39 = .ok (.aload_n 0, 1) := dq_42 (by decide +kernel)
theorem dX8_share_40 : decode cX8_share 40 = .ok (.iload_n 3, 1) := dq_29 (by decide +kernel)
theorem dX8_share_41 : decode cX8_share 41 = .ok (.invokevirtual 219, 3) := dq_182 (b1 := 0) (b2 := 219) (by decide +kernel) (by decide)
theorem dX8_share_44 : decode cX8_share 44 = .ok (.istore 4, 2) := dq_54 (b1 := 4) (by decide +kernel) (by decide)
theorem dX8_share_46 : decode cX8_share 46 = .ok (.iload_n 2, 1) := dq_28 (by decide +kernel)
theorem dX8_share_47 : decode cX8_share 47 = .ok (.istore 5, 2) := dq_54 (b1 := 5) (by decide +kernel) (by decide)
theorem dX8_share_49 : decode cX8_share 49 = .ok (.iconst 0, 1) := dq_3 (by decide +kernel)
theorem dX8_share_5 : decode cX8_share 5 = .ok (.ifCond .eq 15, 3) := dq_153 (b1 := 0) (b2 := 15) (by decide +kernel) (by decide)
theorem dX8_share_50 : decode cX8_share 50 = .ok (.istore 6, 2) := dq_54 (b1 := 6) (by decide +kernel) (by decide)
theorem dX8_share_52 : decode cX8_share 52 = .ok (.iconst 0, 1) := dq_3 (by decide +kernel)
theorem dX8_share_53 : decode cX8_share 53 = .ok (.istore 7, 2) := dq_54 (b1 := 7) (by decide +kernel) (by decide)
theorem dX8_share_55 : decode cX8_share 55 = .ok (.iload 7, 2) := dq_21 (b1 := 7) (by decide +kernel) (by decide)
theorem dX8_share_57 : decode cX8_share 57 = .ok (.aload_n 0, 1) := dq_42 (by decide +kernel)
theorem dX8_share_58 : decode cX8_share 58 = .ok (.getfield 19, 3) := dq_180 (b1 := 0) (b2 := 19) (by decide +kernel) (by decide)
theorem dX8_share_61 : decode cX8_share 61 = .ok (.iconst 4, 1) := dq_7 (by decide +kernel)
theorem dX8_share_62 : decode cX8_share 62 = .ok (.iaload, 1) := dq_46 (by decide +kernel)
theorem dX8_share_63 : decode cX8_share 63 = .ok (.if_icmp .ge 67, 3) := dq_162 (b1 := 0) (b2 := 67) (by decide +kernel) (by decide)
theorem dX8_share_66 : decode cX8_share 66 = .ok (.iload 5, 2) := dq_21 (b1 := 5) (by decide +kernel) (by decide)
theorem dX8_share_68 : decode cX8_share 68 = .ok (.iload_n 3, 1) := dq_29 (by decide +kernel)
theorem dX8_share_69 : decode cX8_share 69 = .ok (.iload 7, 2) := dq_21 (b1 := 7) (by decide +kernel) (by decide)
theorem dX8_share_71 : decode cX8_share 71 = .ok (.invokestatic 213, 3) := dq_184 (b1 := 0) (b2 := 213) (by decide +kernel) (by decide)
theorem dX8_share_74 : decode cX8_share 74 = .ok (.ifCond .eq 21, 3) := dq_153 (b1 := 0) (b2 := 21) (by decide +kernel) (by decide)
theorem dX8_share_77 : decode cX8_share 77 = .ok (.iload_n 2, 1) := dq_28 (by decide +kernel)
theorem dX8_share_78 : decode cX8_share 78 = .ok (.aload_n 0, 1) := dq_42 (by decide +kernel)
theorem dX8_share_79 : decode cX8_share 79 = .ok (.getfield 19, 3) := dq_180 (b1 := 0) (b2 := 19) (by decide +kernel) (by decide)
theorem dX8_share_8 : decode cX8_share 8 = .ok (.iload_n 2, 1) := dq_28 (by decide +kernel)
theorem dX8_share_82 : decode cX8_share 82 = .ok (.bipush 32, 2) := dq_16 (b1 := 32) (by decide +kernel) (by decide)
theorem dX8_share_84 : decode cX8_share 84 = .ok (.iload 7, 2) := dq_21 (b1 := 7) (by decide +kernel) (by decide)
theorem dX8_share_86 : decode cX8_share 86 = .ok (.iadd, 1) := dq_96 (by decide +kernel)
theorem dX8_share_87 : decode cX8_share 87 = .ok (.iaload, 1) := dq_46 (by decide +kernel)
theorem dX8_share_88 : decode cX8_share 88 = .ok (.imul, 1) := dq_104 (by decide +kernel)
theorem dX8_share_89 : decode cX8_share 89 = .ok (.iload 4, 2) := dq_21 (b1 := 4) (by decide +kernel) (by decide)
theorem dX8_share_9 : decode cX8_share 9 = .ok (.i2l, 1) := dq_133 (by decide +kernel)
theorem dX8_share_91 : decode cX8_share 91 = .ok (.idiv, 1) := dq_108 (by decide +kernel)
theorem dX8_share_92 : decode cX8_share 92 = .ok (.goto 4, 3) := dq_167 (b1 := 0) (b2 := 4) (by decide +kernel) (by decide)
theorem dX8_share_95 : decode cX8_share 95 = .ok (.iconst 0, 1) := dq_3 (by decide +kernel)
theorem dX8_share_96 : decode cX8_share 96 = .ok (.isub, 1) := dq_100 (by decide +kernel)
theorem dX8_share_97 : decode cX8_share 97 = .ok (.istore 5, 2) := dq_54 (b1 := 5) (by decide +kernel) (by decide)
theorem dX8_share_99 : decode cX8_share 99 = .ok (.iload 6, 2) := dq_21 (b1 := 6) (by decide +kernel) (by decide)
theorem mb_X8_byTurns_wsX8_byTurns_r1 {w : Cond} (h : w ∈ wsX8_byTurns_r1) : w ∈ wsX8_byTurns := by unfold wsX8_byTurns; exact List.mem_cons_of_mem _ (List.mem_append_left _ (List.mem_append_left _ (h)))
theorem mx_X8_byTurns_19 : Cond.code yX8_has cX8_has 2 (some .boolean) ∈ wsX8_byTurns := mb_X8_byTurns_wsX8_byTurns_r1 (List.mem_of_getElem? (i := 18) rfl)
theorem ggX8_byTurns_X8_has : GoodIn wsX8_byTurns wsX8_has := goodIn_sub (by unfold wsX8_has; exact List.forall_mem_cons.mpr ⟨mx_X8_byTurns_19, fun _ h_ => absurd h_ List.not_mem_nil⟩) (by decide +kernel)
set_option maxRecDepth 20000 in
theorem gX8_byTurns_X8_has : GoodIn wsX8_byTurns (va_wsS RX8 213 yX8_has wsX8_has) := goodIn_app (goodIn_of _ (by decide +kernel)) ggX8_byTurns_X8_has
theorem mx_X8_byTurns_11 : Cond.code yX8_in cX8_in 6 (some .boolean) ∈ wsX8_byTurns := mb_X8_byTurns_wsX8_byTurns_r1 (List.mem_of_getElem? (i := 10) rfl)
theorem ggX8_byTurns_X8_in : GoodIn wsX8_byTurns wsX8_in := goodIn_sub (by unfold wsX8_in; exact List.forall_mem_cons.mpr ⟨mx_X8_byTurns_11, fun _ h_ => absurd h_ List.not_mem_nil⟩) (by decide +kernel)
set_option maxRecDepth 20000 in
theorem gX8_byTurns_X8_in : GoodIn wsX8_byTurns (va_wsS RX8 57 yX8_in wsX8_in) := goodIn_app (goodIn_of _ (by decide +kernel)) ggX8_byTurns_X8_in
theorem mx_X8_byTurns_23 : Cond.code yX8_mealBehind cX8_mealBehind 3 (some .int) ∈ wsX8_byTurns := mb_X8_byTurns_wsX8_byTurns_r1 (List.mem_of_getElem? (i := 22) rfl)
theorem mx_X8_byTurns_6 : Cond.fieldLink RX8 19 "MillTalkModel" "st" "[I" ∈ wsX8_byTurns := mb_X8_byTurns_wsX8_byTurns_r1 (List.mem_of_getElem? (i := 5) rfl)
theorem mx_X8_byTurns_24 : Cond.methodLink RX8 190 yX8_goOn ∈ wsX8_byTurns := mb_X8_byTurns_wsX8_byTurns_r1 (List.mem_of_getElem? (i := 23) rfl)
theorem mb_X8_byTurns_wsX8_byTurns_r2 {w : Cond} (h : w ∈ wsX8_byTurns_r2) : w ∈ wsX8_byTurns := by unfold wsX8_byTurns; exact List.mem_cons_of_mem _ (List.mem_append_left _ (List.mem_append_right _ (List.mem_append_left _ (h))))
theorem mx_X8_byTurns_25 : Cond.instanceMethod yX8_goOn ∈ wsX8_byTurns := mb_X8_byTurns_wsX8_byTurns_r2 (List.mem_of_getElem? (i := 0) rfl)
theorem mx_X8_byTurns_26 : Cond.selects RX8 yX8_goOn yX8_goOn ∈ wsX8_byTurns := mb_X8_byTurns_wsX8_byTurns_r2 (List.mem_of_getElem? (i := 1) rfl)
theorem mx_X8_byTurns_10 : Cond.initialized RX8 ∈ wsX8_byTurns := mb_X8_byTurns_wsX8_byTurns_r1 (List.mem_of_getElem? (i := 9) rfl)
theorem mx_X8_byTurns_27 : Cond.code yX8_goOn cX8_goOn 3 none ∈ wsX8_byTurns := mb_X8_byTurns_wsX8_byTurns_r2 (List.mem_of_getElem? (i := 2) rfl)
theorem mx_X8_byTurns_28 : Cond.methodLink RX8 167 yX8_oneHour ∈ wsX8_byTurns := mb_X8_byTurns_wsX8_byTurns_r2 (List.mem_of_getElem? (i := 3) rfl)
theorem mx_X8_byTurns_29 : Cond.instanceMethod yX8_oneHour ∈ wsX8_byTurns := mb_X8_byTurns_wsX8_byTurns_r2 (List.mem_of_getElem? (i := 4) rfl)
theorem mx_X8_byTurns_30 : Cond.selects RX8 yX8_oneHour yX8_oneHour ∈ wsX8_byTurns := mb_X8_byTurns_wsX8_byTurns_r2 (List.mem_of_getElem? (i := 5) rfl)
theorem mx_X8_byTurns_31 : Cond.code yX8_oneHour cX8_oneHour 4 (some .int) ∈ wsX8_byTurns := mb_X8_byTurns_wsX8_byTurns_r2 (List.mem_of_getElem? (i := 6) rfl)
theorem mx_X8_byTurns_32 : Cond.methodLink RX8 151 yX8_gustOf ∈ wsX8_byTurns := mb_X8_byTurns_wsX8_byTurns_r2 (List.mem_of_getElem? (i := 7) rfl)
theorem mx_X8_byTurns_33 : Cond.instanceMethod yX8_gustOf ∈ wsX8_byTurns := mb_X8_byTurns_wsX8_byTurns_r2 (List.mem_of_getElem? (i := 8) rfl)
theorem mx_X8_byTurns_34 : Cond.selects RX8 yX8_gustOf yX8_gustOf ∈ wsX8_byTurns := mb_X8_byTurns_wsX8_byTurns_r2 (List.mem_of_getElem? (i := 9) rfl)
theorem mx_X8_byTurns_35 : Cond.code yX8_gustOf cX8_gustOf 2 (some .int) ∈ wsX8_byTurns := mb_X8_byTurns_wsX8_byTurns_r2 (List.mem_of_getElem? (i := 10) rfl)
theorem mx_X8_byTurns_36 : Cond.methodLink RX8 154 yX8_drift ∈ wsX8_byTurns := mb_X8_byTurns_wsX8_byTurns_r2 (List.mem_of_getElem? (i := 11) rfl)
theorem mx_X8_byTurns_37 : Cond.instanceMethod yX8_drift ∈ wsX8_byTurns := mb_X8_byTurns_wsX8_byTurns_r2 (List.mem_of_getElem? (i := 12) rfl)
theorem mx_X8_byTurns_38 : Cond.selects RX8 yX8_drift yX8_drift ∈ wsX8_byTurns := mb_X8_byTurns_wsX8_byTurns_r2 (List.mem_of_getElem? (i := 13) rfl)
theorem mx_X8_byTurns_39 : Cond.code yX8_drift cX8_drift 7 none ∈ wsX8_byTurns := mb_X8_byTurns_wsX8_byTurns_r2 (List.mem_of_getElem? (i := 14) rfl)
theorem mx_X8_byTurns_40 : Cond.methodLink RX8 145 yX8_drifts ∈ wsX8_byTurns := mb_X8_byTurns_wsX8_byTurns_r2 (List.mem_of_getElem? (i := 15) rfl)
theorem mx_X8_byTurns_41 : Cond.static yX8_drifts ∈ wsX8_byTurns := mb_X8_byTurns_wsX8_byTurns_r2 (List.mem_of_getElem? (i := 16) rfl)
theorem mx_X8_byTurns_42 : Cond.code yX8_drifts cX8_drifts 2 (some .int) ∈ wsX8_byTurns := mb_X8_byTurns_wsX8_byTurns_r2 (List.mem_of_getElem? (i := 17) rfl)
theorem mx_X8_byTurns_43 : Cond.methodLink RX8 148 yX8_isCell ∈ wsX8_byTurns := mb_X8_byTurns_wsX8_byTurns_r2 (List.mem_of_getElem? (i := 18) rfl)
theorem mx_X8_byTurns_44 : Cond.instanceMethod yX8_isCell ∈ wsX8_byTurns := mb_X8_byTurns_wsX8_byTurns_r2 (List.mem_of_getElem? (i := 19) rfl)
theorem mx_X8_byTurns_45 : Cond.selects RX8 yX8_isCell yX8_isCell ∈ wsX8_byTurns := mb_X8_byTurns_wsX8_byTurns_r2 (List.mem_of_getElem? (i := 20) rfl)
theorem mx_X8_byTurns_46 : Cond.code yX8_isCell cX8_isCell 2 (some .boolean) ∈ wsX8_byTurns := mb_X8_byTurns_wsX8_byTurns_r2 (List.mem_of_getElem? (i := 21) rfl)
theorem mx_X8_byTurns_8 : Cond.methodLink RX8 57 yX8_in ∈ wsX8_byTurns := mb_X8_byTurns_wsX8_byTurns_r1 (List.mem_of_getElem? (i := 7) rfl)
theorem mx_X8_byTurns_9 : Cond.static yX8_in ∈ wsX8_byTurns := mb_X8_byTurns_wsX8_byTurns_r1 (List.mem_of_getElem? (i := 8) rfl)
theorem mx_X8_byTurns_47 : Cond.methodLink RX8 158 yX8_isAtMill ∈ wsX8_byTurns := mb_X8_byTurns_wsX8_byTurns_r2 (List.mem_of_getElem? (i := 22) rfl)
theorem mx_X8_byTurns_48 : Cond.instanceMethod yX8_isAtMill ∈ wsX8_byTurns := mb_X8_byTurns_wsX8_byTurns_r2 (List.mem_of_getElem? (i := 23) rfl)
theorem mb_X8_byTurns_wsX8_byTurns_r3 {w : Cond} (h : w ∈ wsX8_byTurns_r3) : w ∈ wsX8_byTurns := by unfold wsX8_byTurns; exact List.mem_cons_of_mem _ (List.mem_append_left _ (List.mem_append_right _ (List.mem_append_right _ (h))))
theorem mx_X8_byTurns_49 : Cond.selects RX8 yX8_isAtMill yX8_isAtMill ∈ wsX8_byTurns := mb_X8_byTurns_wsX8_byTurns_r3 (List.mem_of_getElem? (i := 0) rfl)
theorem mx_X8_byTurns_50 : Cond.code yX8_isAtMill cX8_isAtMill 3 (some .boolean) ∈ wsX8_byTurns := mb_X8_byTurns_wsX8_byTurns_r3 (List.mem_of_getElem? (i := 1) rfl)
theorem mx_X8_byTurns_51 : Cond.methodLink RX8 194 yX8_takeBack ∈ wsX8_byTurns := mb_X8_byTurns_wsX8_byTurns_r3 (List.mem_of_getElem? (i := 2) rfl)
theorem mx_X8_byTurns_52 : Cond.instanceMethod yX8_takeBack ∈ wsX8_byTurns := mb_X8_byTurns_wsX8_byTurns_r3 (List.mem_of_getElem? (i := 3) rfl)
theorem mx_X8_byTurns_53 : Cond.selects RX8 yX8_takeBack yX8_takeBack ∈ wsX8_byTurns := mb_X8_byTurns_wsX8_byTurns_r3 (List.mem_of_getElem? (i := 4) rfl)
theorem mx_X8_byTurns_54 : Cond.code yX8_takeBack cX8_takeBack 2 none ∈ wsX8_byTurns := mb_X8_byTurns_wsX8_byTurns_r3 (List.mem_of_getElem? (i := 5) rfl)
theorem mx_X8_byTurns_16 : Cond.fieldLink RX8 34 "MillTalkModel" "aside" "[I" ∈ wsX8_byTurns := mb_X8_byTurns_wsX8_byTurns_r1 (List.mem_of_getElem? (i := 15) rfl)
theorem mb_X8_byTurns_wsX80 {w : Cond} (h : w ∈ wsX80) : w ∈ wsX8_byTurns := by unfold wsX8_byTurns; exact List.mem_cons_of_mem _ (List.mem_append_right _ (h))
theorem ggX8_byTurns_X8_mealBehind : GoodIn wsX8_byTurns wsX8_mealBehind := goodIn_sub (by unfold wsX8_mealBehind; exact List.forall_mem_cons.mpr ⟨mx_X8_byTurns_23, List.forall_mem_append.mpr ⟨List.forall_mem_append.mpr ⟨(by unfold wsX8_mealBehind_r1; exact List.forall_mem_cons.mpr ⟨mx_X8_byTurns_6, List.forall_mem_cons.mpr ⟨mx_X8_byTurns_24, List.forall_mem_cons.mpr ⟨mx_X8_byTurns_25, List.forall_mem_cons.mpr ⟨mx_X8_byTurns_26, List.forall_mem_cons.mpr ⟨mx_X8_byTurns_10, List.forall_mem_cons.mpr ⟨mx_X8_byTurns_27, List.forall_mem_cons.mpr ⟨mx_X8_byTurns_28, List.forall_mem_cons.mpr ⟨mx_X8_byTurns_29, List.forall_mem_cons.mpr ⟨mx_X8_byTurns_30, List.forall_mem_cons.mpr ⟨mx_X8_byTurns_31, List.forall_mem_cons.mpr ⟨mx_X8_byTurns_32, List.forall_mem_cons.mpr ⟨mx_X8_byTurns_33, List.forall_mem_cons.mpr ⟨mx_X8_byTurns_34, List.forall_mem_cons.mpr ⟨mx_X8_byTurns_35, List.forall_mem_cons.mpr ⟨mx_X8_byTurns_36, List.forall_mem_cons.mpr ⟨mx_X8_byTurns_37, List.forall_mem_cons.mpr ⟨mx_X8_byTurns_38, List.forall_mem_cons.mpr ⟨mx_X8_byTurns_39, List.forall_mem_cons.mpr ⟨mx_X8_byTurns_40, List.forall_mem_cons.mpr ⟨mx_X8_byTurns_41, List.forall_mem_cons.mpr ⟨mx_X8_byTurns_42, List.forall_mem_cons.mpr ⟨mx_X8_byTurns_43, List.forall_mem_cons.mpr ⟨mx_X8_byTurns_44, List.forall_mem_cons.mpr ⟨mx_X8_byTurns_45, fun _ h_ => absurd h_ List.not_mem_nil⟩⟩⟩⟩⟩⟩⟩⟩⟩⟩⟩⟩⟩⟩⟩⟩⟩⟩⟩⟩⟩⟩⟩⟩), (by unfold wsX8_mealBehind_r2; exact List.forall_mem_cons.mpr ⟨mx_X8_byTurns_46, List.forall_mem_cons.mpr ⟨mx_X8_byTurns_8, List.forall_mem_cons.mpr ⟨mx_X8_byTurns_9, List.forall_mem_cons.mpr ⟨mx_X8_byTurns_11, List.forall_mem_cons.mpr ⟨mx_X8_byTurns_47, List.forall_mem_cons.mpr ⟨mx_X8_byTurns_48, List.forall_mem_cons.mpr ⟨mx_X8_byTurns_49, List.forall_mem_cons.mpr ⟨mx_X8_byTurns_50, List.forall_mem_cons.mpr ⟨mx_X8_byTurns_51, List.forall_mem_cons.mpr ⟨mx_X8_byTurns_52, List.forall_mem_cons.mpr ⟨mx_X8_byTurns_53, List.forall_mem_cons.mpr ⟨mx_X8_byTurns_54, List.forall_mem_cons.mpr ⟨mx_X8_byTurns_16, fun _ h_ => absurd h_ List.not_mem_nil⟩⟩⟩⟩⟩⟩⟩⟩⟩⟩⟩⟩⟩)⟩, (fun _ h_ => mb_X8_byTurns_wsX80 h_)⟩⟩) (by decide +kernel)
theorem mx_X8_byTurns_20 : Cond.methodLink RX8 200 yX8_mealBehind ∈ wsX8_byTurns := mb_X8_byTurns_wsX8_byTurns_r1 (List.mem_of_getElem? (i := 19) rfl)
theorem mx_X8_byTurns_21 : Cond.instanceMethod yX8_mealBehind ∈ wsX8_byTurns := mb_X8_byTurns_wsX8_byTurns_r1 (List.mem_of_getElem? (i := 20) rfl)
theorem mx_X8_byTurns_22 : Cond.selects RX8 yX8_mealBehind yX8_mealBehind ∈ wsX8_byTurns := mb_X8_byTurns_wsX8_byTurns_r1 (List.mem_of_getElem? (i := 21) rfl)
theorem gX8_byTurns_X8_mealBehind : GoodIn wsX8_byTurns (wsV RX8 200 RX8 yX8_mealBehind wsX8_mealBehind) := goodIn_app (goodIn_sub (List.forall_mem_cons.mpr ⟨mx_X8_byTurns_20, List.forall_mem_cons.mpr ⟨mx_X8_byTurns_21, List.forall_mem_cons.mpr ⟨mx_X8_byTurns_22, List.forall_mem_cons.mpr ⟨mx_X8_byTurns_10, fun _ h_ => absurd h_ List.not_mem_nil⟩⟩⟩⟩) (by decide +kernel)) ggX8_byTurns_X8_mealBehind
theorem mx_X8_byTurns_15 : Cond.code yX8_putAside cX8_putAside 2 none ∈ wsX8_byTurns := mb_X8_byTurns_wsX8_byTurns_r1 (List.mem_of_getElem? (i := 14) rfl)
theorem ggX8_byTurns_X8_putAside : GoodIn wsX8_byTurns wsX8_putAside := goodIn_sub (by unfold wsX8_putAside; exact List.forall_mem_cons.mpr ⟨mx_X8_byTurns_15, List.forall_mem_append.mpr ⟨List.forall_mem_cons.mpr ⟨mx_X8_byTurns_16, List.forall_mem_cons.mpr ⟨mx_X8_byTurns_6, fun _ h_ => absurd h_ List.not_mem_nil⟩⟩, (fun _ h_ => mb_X8_byTurns_wsX80 h_)⟩⟩) (by decide +kernel)
theorem mx_X8_byTurns_12 : Cond.methodLink RX8 197 yX8_putAside ∈ wsX8_byTurns := mb_X8_byTurns_wsX8_byTurns_r1 (List.mem_of_getElem? (i := 11) rfl)
theorem mx_X8_byTurns_13 : Cond.instanceMethod yX8_putAside ∈ wsX8_byTurns := mb_X8_byTurns_wsX8_byTurns_r1 (List.mem_of_getElem? (i := 12) rfl)
theorem mx_X8_byTurns_14 : Cond.selects RX8 yX8_putAside yX8_putAside ∈ wsX8_byTurns := mb_X8_byTurns_wsX8_byTurns_r1 (List.mem_of_getElem? (i := 13) rfl)
theorem gX8_byTurns_X8_putAside : GoodIn wsX8_byTurns (wsV RX8 197 RX8 yX8_putAside wsX8_putAside) := goodIn_app (goodIn_sub (List.forall_mem_cons.mpr ⟨mx_X8_byTurns_12, List.forall_mem_cons.mpr ⟨mx_X8_byTurns_13, List.forall_mem_cons.mpr ⟨mx_X8_byTurns_14, List.forall_mem_cons.mpr ⟨mx_X8_byTurns_10, fun _ h_ => absurd h_ List.not_mem_nil⟩⟩⟩⟩) (by decide +kernel)) ggX8_byTurns_X8_putAside
theorem mx_X8_share_18 : Cond.code yX8_has cX8_has 2 (some .boolean) ∈ wsX8_share := by unfold wsX8_share; exact List.mem_cons_of_mem _ (List.mem_append_left _ (List.mem_of_getElem? (i := 17) rfl))
theorem ggX8_share_X8_has : GoodIn wsX8_share wsX8_has := goodIn_sub (by unfold wsX8_has; exact List.forall_mem_cons.mpr ⟨mx_X8_share_18, fun _ h_ => absurd h_ List.not_mem_nil⟩) (by decide +kernel)
set_option maxRecDepth 20000 in
theorem gX8_share_X8_has : GoodIn wsX8_share (va_wsS RX8 213 yX8_has wsX8_has) := goodIn_app (goodIn_of _ (by decide +kernel)) ggX8_share_X8_has
theorem mx_X8_share_11 : Cond.code yX8_in cX8_in 6 (some .boolean) ∈ wsX8_share := by unfold wsX8_share; exact List.mem_cons_of_mem _ (List.mem_append_left _ (List.mem_of_getElem? (i := 10) rfl))
theorem ggX8_share_X8_in : GoodIn wsX8_share wsX8_in := goodIn_sub (by unfold wsX8_in; exact List.forall_mem_cons.mpr ⟨mx_X8_share_11, fun _ h_ => absurd h_ List.not_mem_nil⟩) (by decide +kernel)
set_option maxRecDepth 20000 in
theorem gX8_share_X8_in : GoodIn wsX8_share (va_wsS RX8 57 yX8_in wsX8_in) := goodIn_app (goodIn_of _ (by decide +kernel)) ggX8_share_X8_in
theorem mx_X8_share_8 : Cond.code yX8_isSound cX8_isSound 2 (some .boolean) ∈ wsX8_share := by unfold wsX8_share; exact List.mem_cons_of_mem _ (List.mem_append_left _ (List.mem_of_getElem? (i := 7) rfl))
theorem mx_X8_share_3 : Cond.fieldLink RX8 19 "MillTalkModel" "st" "[I" ∈ wsX8_share := by unfold wsX8_share; exact List.mem_cons_of_mem _ (List.mem_append_left _ (List.mem_of_getElem? (i := 2) rfl))
theorem mx_X8_share_9 : Cond.methodLink RX8 57 yX8_in ∈ wsX8_share := by unfold wsX8_share; exact List.mem_cons_of_mem _ (List.mem_append_left _ (List.mem_of_getElem? (i := 8) rfl))
theorem mx_X8_share_10 : Cond.static yX8_in ∈ wsX8_share := by unfold wsX8_share; exact List.mem_cons_of_mem _ (List.mem_append_left _ (List.mem_of_getElem? (i := 9) rfl))
theorem mx_X8_share_7 : Cond.initialized RX8 ∈ wsX8_share := by unfold wsX8_share; exact List.mem_cons_of_mem _ (List.mem_append_left _ (List.mem_of_getElem? (i := 6) rfl))
theorem mb_X8_share_wsX80 {w : Cond} (h : w ∈ wsX80) : w ∈ wsX8_share := by unfold wsX8_share; exact List.mem_cons_of_mem _ (List.mem_append_right _ (h))
theorem ggX8_share_X8_isSound : GoodIn wsX8_share wsX8_isSound := goodIn_sub (by unfold wsX8_isSound; exact List.forall_mem_cons.mpr ⟨mx_X8_share_8, List.forall_mem_append.mpr ⟨List.forall_mem_cons.mpr ⟨mx_X8_share_3, List.forall_mem_cons.mpr ⟨mx_X8_share_9, List.forall_mem_cons.mpr ⟨mx_X8_share_10, List.forall_mem_cons.mpr ⟨mx_X8_share_7, List.forall_mem_cons.mpr ⟨mx_X8_share_11, fun _ h_ => absurd h_ List.not_mem_nil⟩⟩⟩⟩⟩, (fun _ h_ => mb_X8_share_wsX80 h_)⟩⟩) (by decide +kernel)
theorem mx_X8_share_4 : Cond.methodLink RX8 173 yX8_isSound ∈ wsX8_share := by unfold wsX8_share; exact List.mem_cons_of_mem _ (List.mem_append_left _ (List.mem_of_getElem? (i := 3) rfl))
theorem mx_X8_share_5 : Cond.instanceMethod yX8_isSound ∈ wsX8_share := by unfold wsX8_share; exact List.mem_cons_of_mem _ (List.mem_append_left _ (List.mem_of_getElem? (i := 4) rfl))
theorem mx_X8_share_6 : Cond.selects RX8 yX8_isSound yX8_isSound ∈ wsX8_share := by unfold wsX8_share; exact List.mem_cons_of_mem _ (List.mem_append_left _ (List.mem_of_getElem? (i := 5) rfl))
theorem gX8_share_X8_isSound : GoodIn wsX8_share (wsV RX8 173 RX8 yX8_isSound wsX8_isSound) := goodIn_app (goodIn_sub (List.forall_mem_cons.mpr ⟨mx_X8_share_4, List.forall_mem_cons.mpr ⟨mx_X8_share_5, List.forall_mem_cons.mpr ⟨mx_X8_share_6, List.forall_mem_cons.mpr ⟨mx_X8_share_7, fun _ h_ => absurd h_ List.not_mem_nil⟩⟩⟩⟩) (by decide +kernel)) ggX8_share_X8_isSound
theorem mx_X8_share_22 : Cond.code yX8_loudOf cX8_loudOf 4 (some .int) ∈ wsX8_share := by unfold wsX8_share; exact List.mem_cons_of_mem _ (List.mem_append_left _ (List.mem_of_getElem? (i := 21) rfl))
theorem mx_X8_share_16 : Cond.methodLink RX8 213 yX8_has ∈ wsX8_share := by unfold wsX8_share; exact List.mem_cons_of_mem _ (List.mem_append_left _ (List.mem_of_getElem? (i := 15) rfl))
theorem mx_X8_share_17 : Cond.static yX8_has ∈ wsX8_share := by unfold wsX8_share; exact List.mem_cons_of_mem _ (List.mem_append_left _ (List.mem_of_getElem? (i := 16) rfl))
theorem ggX8_share_X8_loudOf : GoodIn wsX8_share wsX8_loudOf := goodIn_sub (by unfold wsX8_loudOf; exact List.forall_mem_cons.mpr ⟨mx_X8_share_22, List.forall_mem_append.mpr ⟨List.forall_mem_cons.mpr ⟨mx_X8_share_3, List.forall_mem_cons.mpr ⟨mx_X8_share_16, List.forall_mem_cons.mpr ⟨mx_X8_share_17, List.forall_mem_cons.mpr ⟨mx_X8_share_7, List.forall_mem_cons.mpr ⟨mx_X8_share_18, fun _ h_ => absurd h_ List.not_mem_nil⟩⟩⟩⟩⟩, (fun _ h_ => mb_X8_share_wsX80 h_)⟩⟩) (by decide +kernel)
theorem mx_X8_share_19 : Cond.methodLink RX8 219 yX8_loudOf ∈ wsX8_share := by unfold wsX8_share; exact List.mem_cons_of_mem _ (List.mem_append_left _ (List.mem_of_getElem? (i := 18) rfl))
theorem mx_X8_share_20 : Cond.instanceMethod yX8_loudOf ∈ wsX8_share := by unfold wsX8_share; exact List.mem_cons_of_mem _ (List.mem_append_left _ (List.mem_of_getElem? (i := 19) rfl))
theorem mx_X8_share_21 : Cond.selects RX8 yX8_loudOf yX8_loudOf ∈ wsX8_share := by unfold wsX8_share; exact List.mem_cons_of_mem _ (List.mem_append_left _ (List.mem_of_getElem? (i := 20) rfl))
theorem gX8_share_X8_loudOf : GoodIn wsX8_share (wsV RX8 219 RX8 yX8_loudOf wsX8_loudOf) := goodIn_app (goodIn_sub (List.forall_mem_cons.mpr ⟨mx_X8_share_19, List.forall_mem_cons.mpr ⟨mx_X8_share_20, List.forall_mem_cons.mpr ⟨mx_X8_share_21, List.forall_mem_cons.mpr ⟨mx_X8_share_7, fun _ h_ => absurd h_ List.not_mem_nil⟩⟩⟩⟩) (by decide +kernel)) ggX8_share_X8_loudOf
theorem mx_X8_share_15 : Cond.code yX8_those cX8_those 4 (some .int) ∈ wsX8_share := by unfold wsX8_share; exact List.mem_cons_of_mem _ (List.mem_append_left _ (List.mem_of_getElem? (i := 14) rfl))
theorem ggX8_share_X8_those : GoodIn wsX8_share wsX8_those := goodIn_sub (by unfold wsX8_those; exact List.forall_mem_cons.mpr ⟨mx_X8_share_15, List.forall_mem_append.mpr ⟨List.forall_mem_cons.mpr ⟨mx_X8_share_3, fun _ h_ => absurd h_ List.not_mem_nil⟩, (fun _ h_ => mb_X8_share_wsX80 h_)⟩⟩) (by decide +kernel)
theorem mx_X8_share_12 : Cond.methodLink RX8 182 yX8_those ∈ wsX8_share := by unfold wsX8_share; exact List.mem_cons_of_mem _ (List.mem_append_left _ (List.mem_of_getElem? (i := 11) rfl))
theorem mx_X8_share_13 : Cond.instanceMethod yX8_those ∈ wsX8_share := by unfold wsX8_share; exact List.mem_cons_of_mem _ (List.mem_append_left _ (List.mem_of_getElem? (i := 12) rfl))
theorem mx_X8_share_14 : Cond.selects RX8 yX8_those yX8_those ∈ wsX8_share := by unfold wsX8_share; exact List.mem_cons_of_mem _ (List.mem_append_left _ (List.mem_of_getElem? (i := 13) rfl))
theorem gX8_share_X8_those : GoodIn wsX8_share (wsV RX8 182 RX8 yX8_those wsX8_those) := goodIn_app (goodIn_sub (List.forall_mem_cons.mpr ⟨mx_X8_share_12, List.forall_mem_cons.mpr ⟨mx_X8_share_13, List.forall_mem_cons.mpr ⟨mx_X8_share_14, List.forall_mem_cons.mpr ⟨mx_X8_share_7, fun _ h_ => absurd h_ List.not_mem_nil⟩⟩⟩⟩) (by decide +kernel)) ggX8_share_X8_those
theorem i_X8_byTurns_X8 : ∀ w ∈ u_ws RX8 TX8 24, w ∈ wsX8_byTurns := fun _ h_ => mb_X8_byTurns_wsX80 h_
theorem i_X8_share_X8 : ∀ w ∈ u_ws RX8 TX8 24, w ∈ wsX8_share := fun _ h_ => mb_X8_share_wsX80 h_
theorem mx_X8_share_2 : Cond.constant RX8 67 (-1000001) ∈ wsX8_share := by unfold wsX8_share; exact List.mem_cons_of_mem _ (List.mem_append_left _ (List.mem_of_getElem? (i := 1) rfl))
theorem mx_X8_share_1 : Cond.constantLong RX8 185 (999) ∈ wsX8_share := by unfold wsX8_share; exact List.mem_cons_of_mem _ (List.mem_append_left _ (List.mem_of_getElem? (i := 0) rfl))
theorem mx_X8_byTurns_1 : Cond.fieldLink RX8 138 "MillTalkModel" "isThere" "Z" ∈ wsX8_byTurns := mb_X8_byTurns_wsX8_byTurns_r1 (List.mem_of_getElem? (i := 0) rfl)
theorem mx_X8_byTurns_3 : Cond.constantLong RX8 171 (4) ∈ wsX8_byTurns := mb_X8_byTurns_wsX8_byTurns_r1 (List.mem_of_getElem? (i := 2) rfl)
theorem mx_X8_byTurns_5 : Cond.constant RX8 67 (-1000001) ∈ wsX8_byTurns := mb_X8_byTurns_wsX8_byTurns_r1 (List.mem_of_getElem? (i := 4) rfl)
theorem mx_X8_byTurns_4 : Cond.constantLong RX8 176 (20) ∈ wsX8_byTurns := mb_X8_byTurns_wsX8_byTurns_r1 (List.mem_of_getElem? (i := 3) rfl)
theorem mx_X8_byTurns_7 : Cond.fieldLink RX8 37 "MillTalkModel" "worths" "[I" ∈ wsX8_byTurns := mb_X8_byTurns_wsX8_byTurns_r1 (List.mem_of_getElem? (i := 6) rfl)
theorem mx_X8_byTurns_2 : Cond.constant RX8 161 (-1000002) ∈ wsX8_byTurns := mb_X8_byTurns_wsX8_byTurns_r1 (List.mem_of_getElem? (i := 1) rfl)
-- 51.mod4
theorem lf_X8_share_1 {mt : Int32} {ma : Nat} {fs : Nat → Int32} {w9 : Nat} {k9 : Nat} {h9 : Nat} {a0 : Int32} {a1 : Int32} (hM : okM fs w9 k9 h9) (hT : ¬ mt = 0 → 1 ≤ k9) (h999 : h9 ≤ 999) (hT0 : mt = 0 → fs 0 = 0 ∧ ma = 0) (f_1_0_0 : ¬ sB (nI k9) a0) : (-1000001) = (a_shr (m38 fs) a0 a1) := by
  have h6 := hM.2.2.2.2.1
  first
  | exact shM_n1 hM.2.1 f_1_0_0
  | exact shr_n (Or.inr q_5)
  | exact shM_z hM hj_1 q_5 hz_8_0 hz_8_1 f_9_0_0
  | exact shM_e hM hj_1 q_5 hz_8_0 hz_8_1 f_9_1_0 hz_12_1 hz_12_0 hz_12_2 haf_0 e_95 e_96 e_97 (if_neg (i_nlt.mpr c_98)) e_99
  | exact shM_e hM hj_1 q_5 hz_8_0 hz_8_1 f_9_1_0 hz_12_1 hz_12_0 hz_12_2 haf_0 e_95 e_96 e_97 (if_pos (i_nle.mp c_98)) e_100
theorem lf_X8_share_2 {mt : Int32} {ma : Nat} {fs : Nat → Int32} {w9 : Nat} {k9 : Nat} {h9 : Nat} {a1 : Int32} {j_1 : Nat} (hM : okM fs w9 k9 h9) (hT : ¬ mt = 0 → 1 ≤ k9) (h999 : h9 ≤ 999) (hT0 : mt = 0 → fs 0 = 0 ∧ ma = 0) (hj_1 : j_1 < k9) (hkn1 : 1 ≤ k9) (hw1 : 1 ≤ w9) (h01 : ¬ fs 0 = 0) (f_5_0_0 : ((a1).toInt64 < 0 ∨ 999 < (a1).toInt64)) (q_5 : (a1 < 0 ∨ 999 < a1)) : (-1000001) = (a_shr (m38 fs) (nI j_1) a1) := by
  have h6 := hM.2.2.2.2.1
  first
  | exact shM_n1 hM.2.1 f_1_0_0
  | exact shr_n (Or.inr q_5)
  | exact shM_z hM hj_1 q_5 hz_8_0 hz_8_1 f_9_0_0
  | exact shM_e hM hj_1 q_5 hz_8_0 hz_8_1 f_9_1_0 hz_12_1 hz_12_0 hz_12_2 haf_0 e_95 e_96 e_97 (if_neg (i_nlt.mpr c_98)) e_99
  | exact shM_e hM hj_1 q_5 hz_8_0 hz_8_1 f_9_1_0 hz_12_1 hz_12_0 hz_12_2 haf_0 e_95 e_96 e_97 (if_pos (i_nle.mp c_98)) e_100
theorem lf_X8_share_3 {mt : Int32} {ma : Nat} {fs : Nat → Int32} {w9 : Nat} {k9 : Nat} {h9 : Nat} {j_1 : Nat} {j_5 : Nat} {j_8 : Nat} (hM : okM fs w9 k9 h9) (hT : ¬ mt = 0 → 1 ≤ k9) (h999 : h9 ≤ 999) (hT0 : mt = 0 → fs 0 = 0 ∧ ma = 0) (hj_1 : j_1 < k9) (hkn1 : 1 ≤ k9) (hw1 : 1 ≤ w9) (h01 : ¬ fs 0 = 0) (f_5_1_0 : (¬ (((nI j_5)).toInt64 < 0 ∨ 999 < ((nI j_5)).toInt64))) (q_5 : ¬ ((nI j_5) < 0 ∨ 999 < (nI j_5))) (hj_5 : j_5 ≤ 999) (hz_8_0 : j_8 ≤ 63) (hz_8_1 : nI j_8 = thR (fun s => fs (26 + s)) 0 k9) (f_9_0_0 : ¬ hasB (nI j_8) (nI j_1)) : 0 = (a_shr (m38 fs) (nI j_1) (nI j_5)) := by
  have h6 := hM.2.2.2.2.1
  first
  | exact shM_n1 hM.2.1 f_1_0_0
  | exact shr_n (Or.inr q_5)
  | exact shM_z hM hj_1 q_5 hz_8_0 hz_8_1 f_9_0_0
  | exact shM_e hM hj_1 q_5 hz_8_0 hz_8_1 f_9_1_0 hz_12_1 hz_12_0 hz_12_2 haf_0 e_95 e_96 e_97 (if_neg (i_nlt.mpr c_98)) e_99
  | exact shM_e hM hj_1 q_5 hz_8_0 hz_8_1 f_9_1_0 hz_12_1 hz_12_0 hz_12_2 haf_0 e_95 e_96 e_97 (if_pos (i_nle.mp c_98)) e_100
theorem lf_X8_share_4 {mt : Int32} {ma : Nat} {fs : Nat → Int32} {w9 : Nat} {k9 : Nat} {h9 : Nat} {j_1 : Nat} {j_5 : Nat} {j_8 : Nat} {j_12 : Nat} {w_38 : Int32} {w_39 : Int32} {ii : Nat} {v_71 : Int32} {v_74 : Int32} (hM : okM fs w9 k9 h9) (hT : ¬ mt = 0 → 1 ≤ k9) (h999 : h9 ≤ 999) (hT0 : mt = 0 → fs 0 = 0 ∧ ma = 0) (hj_1 : j_1 < k9) (hkn1 : 1 ≤ k9) (hw1 : 1 ≤ w9) (h01 : ¬ fs 0 = 0) (f_5_1_0 : (¬ (((nI j_5)).toInt64 < 0 ∨ 999 < ((nI j_5)).toInt64))) (q_5 : ¬ ((nI j_5) < 0 ∨ 999 < (nI j_5))) (hj_5 : j_5 ≤ 999) (hz_8_0 : j_8 ≤ 63) (hz_8_1 : nI j_8 = thR (fun s => fs (26 + s)) 0 k9) (f_9_1_0 : hasB (nI j_8) (nI j_1)) (hz_12_0 : j_12 ≤ 120) (hz_12_1 : (∀ s : Nat, s < k9 → hasB (nI j_8) (nI s) → 1 ≤ j_12)) (hz_12_2 : nI j_12 = ldR (fun s => fs (32 + s)) (nI j_8) k9) (hii : ii < k9) (haf_0 : (shF (m38 fs) (nI j_5) (nI j_1) (nI j_12) ii = (w_39, w_38))) (f_69_0_0 : ¬ hasB (nI j_8) (nI ii)) (e_71 : v_71 = (w_39 - 0)) (f_72_0_0 : ¬ hasB (nI j_8) (nI ii)) (e_74 : v_74 = (w_38 + 0)) : shF (m38 fs) (nI j_5) (nI j_1) (nI j_12) (ii + 1) = (v_71, v_74) := by
  have h6 := hM.2.2.2.2.1
  first
  | exact absurd f_72_1_0 f_69_0_0
  | exact absurd f_69_1_0 f_85_0_0
  | exact shM_n hM hii hz_8_0 hz_8_1 f_69_0_0 haf_0 e_71 e_74
  | exact shM_y hM hii hz_8_0 hz_8_1 f_69_1_0 haf_0 e_81 e_82 e_83 e_84 (lt_no (by omega) (by omega) c_89) e_90
  | exact shM_y hM hii hz_8_0 hz_8_1 f_69_1_0 haf_0 e_81 e_82 e_83 e_84 (lt_ye (by omega) (by omega) c_89) e_91
theorem lf_X8_share_5 {mt : Int32} {ma : Nat} {fs : Nat → Int32} {w9 : Nat} {k9 : Nat} {h9 : Nat} {j_1 : Nat} {j_5 : Nat} {j_8 : Nat} {j_12 : Nat} {w_38 : Int32} {w_39 : Int32} {ii : Nat} {v_71 : Int32} {v_77 : Int32} (hM : okM fs w9 k9 h9) (hT : ¬ mt = 0 → 1 ≤ k9) (h999 : h9 ≤ 999) (hT0 : mt = 0 → fs 0 = 0 ∧ ma = 0) (hj_1 : j_1 < k9) (hkn1 : 1 ≤ k9) (hw1 : 1 ≤ w9) (h01 : ¬ fs 0 = 0) (f_5_1_0 : (¬ (((nI j_5)).toInt64 < 0 ∨ 999 < ((nI j_5)).toInt64))) (q_5 : ¬ ((nI j_5) < 0 ∨ 999 < (nI j_5))) (hj_5 : j_5 ≤ 999) (hz_8_0 : j_8 ≤ 63) (hz_8_1 : nI j_8 = thR (fun s => fs (26 + s)) 0 k9) (f_9_1_0 : hasB (nI j_8) (nI j_1)) (hz_12_0 : j_12 ≤ 120) (hz_12_1 : (∀ s : Nat, s < k9 → hasB (nI j_8) (nI s) → 1 ≤ j_12)) (hz_12_2 : nI j_12 = ldR (fun s => fs (32 + s)) (nI j_8) k9) (hii : ii < k9) (haf_0 : (shF (m38 fs) (nI j_5) (nI j_1) (nI j_12) ii = (w_39, w_38))) (f_69_0_0 : ¬ hasB (nI j_8) (nI ii)) (e_71 : v_71 = (w_39 - 0)) (f_72_1_0 : hasB (nI j_8) (nI ii)) (c_76 : j_1 ≤ ii) (e_77 : v_77 = (w_38 + 0)) : shF (m38 fs) (nI j_5) (nI j_1) (nI j_12) (ii + 1) = (v_71, v_77) := by
  have h6 := hM.2.2.2.2.1
  first
  | exact absurd f_72_1_0 f_69_0_0
  | exact absurd f_69_1_0 f_85_0_0
  | exact shM_n hM hii hz_8_0 hz_8_1 f_69_0_0 haf_0 e_71 e_74
  | exact shM_y hM hii hz_8_0 hz_8_1 f_69_1_0 haf_0 e_81 e_82 e_83 e_84 (lt_no (by omega) (by omega) c_89) e_90
  | exact shM_y hM hii hz_8_0 hz_8_1 f_69_1_0 haf_0 e_81 e_82 e_83 e_84 (lt_ye (by omega) (by omega) c_89) e_91
theorem lf_X8_share_6 {mt : Int32} {ma : Nat} {fs : Nat → Int32} {w9 : Nat} {k9 : Nat} {h9 : Nat} {j_1 : Nat} {j_5 : Nat} {j_8 : Nat} {j_12 : Nat} {w_38 : Int32} {w_39 : Int32} {ii : Nat} {v_71 : Int32} {v_78 : Int32} (hM : okM fs w9 k9 h9) (hT : ¬ mt = 0 → 1 ≤ k9) (h999 : h9 ≤ 999) (hT0 : mt = 0 → fs 0 = 0 ∧ ma = 0) (hj_1 : j_1 < k9) (hkn1 : 1 ≤ k9) (hw1 : 1 ≤ w9) (h01 : ¬ fs 0 = 0) (f_5_1_0 : (¬ (((nI j_5)).toInt64 < 0 ∨ 999 < ((nI j_5)).toInt64))) (q_5 : ¬ ((nI j_5) < 0 ∨ 999 < (nI j_5))) (hj_5 : j_5 ≤ 999) (hz_8_0 : j_8 ≤ 63) (hz_8_1 : nI j_8 = thR (fun s => fs (26 + s)) 0 k9) (f_9_1_0 : hasB (nI j_8) (nI j_1)) (hz_12_0 : j_12 ≤ 120) (hz_12_1 : (∀ s : Nat, s < k9 → hasB (nI j_8) (nI s) → 1 ≤ j_12)) (hz_12_2 : nI j_12 = ldR (fun s => fs (32 + s)) (nI j_8) k9) (hii : ii < k9) (haf_0 : (shF (m38 fs) (nI j_5) (nI j_1) (nI j_12) ii = (w_39, w_38))) (f_69_0_0 : ¬ hasB (nI j_8) (nI ii)) (e_71 : v_71 = (w_39 - 0)) (f_72_1_0 : hasB (nI j_8) (nI ii)) (c_76 : ¬ (j_1 ≤ ii)) (e_78 : v_78 = (w_38 + 1)) : shF (m38 fs) (nI j_5) (nI j_1) (nI j_12) (ii + 1) = (v_71, v_78) := by
  have h6 := hM.2.2.2.2.1
  first
  | exact absurd f_72_1_0 f_69_0_0
  | exact absurd f_69_1_0 f_85_0_0
  | exact shM_n hM hii hz_8_0 hz_8_1 f_69_0_0 haf_0 e_71 e_74
  | exact shM_y hM hii hz_8_0 hz_8_1 f_69_1_0 haf_0 e_81 e_82 e_83 e_84 (lt_no (by omega) (by omega) c_89) e_90
  | exact shM_y hM hii hz_8_0 hz_8_1 f_69_1_0 haf_0 e_81 e_82 e_83 e_84 (lt_ye (by omega) (by omega) c_89) e_91
theorem lf_X8_share_7 {mt : Int32} {ma : Nat} {fs : Nat → Int32} {w9 : Nat} {k9 : Nat} {h9 : Nat} {j_1 : Nat} {j_5 : Nat} {j_8 : Nat} {j_12 : Nat} {w_38 : Int32} {w_39 : Int32} {ii : Nat} {v_81 : Int32} {v_82 : Int32} {v_83 : Int32} {v_84 : Int32} {v_87 : Int32} (hM : okM fs w9 k9 h9) (hT : ¬ mt = 0 → 1 ≤ k9) (h999 : h9 ≤ 999) (hT0 : mt = 0 → fs 0 = 0 ∧ ma = 0) (hj_1 : j_1 < k9) (hkn1 : 1 ≤ k9) (hw1 : 1 ≤ w9) (h01 : ¬ fs 0 = 0) (f_5_1_0 : (¬ (((nI j_5)).toInt64 < 0 ∨ 999 < ((nI j_5)).toInt64))) (q_5 : ¬ ((nI j_5) < 0 ∨ 999 < (nI j_5))) (hj_5 : j_5 ≤ 999) (hz_8_0 : j_8 ≤ 63) (hz_8_1 : nI j_8 = thR (fun s => fs (26 + s)) 0 k9) (f_9_1_0 : hasB (nI j_8) (nI j_1)) (hz_12_0 : j_12 ≤ 120) (hz_12_1 : (∀ s : Nat, s < k9 → hasB (nI j_8) (nI s) → 1 ≤ j_12)) (hz_12_2 : nI j_12 = ldR (fun s => fs (32 + s)) (nI j_8) k9) (hii : ii < k9) (haf_0 : (shF (m38 fs) (nI j_5) (nI j_1) (nI j_12) ii = (w_39, w_38))) (f_69_1_0 : hasB (nI j_8) (nI ii)) (e_81 : v_81 = fs (32 + ii)) (e_82 : v_82 = ((nI j_5) * v_81)) (e_83 : v_83 = (v_82 / (nI j_12))) (e_84 : v_84 = (w_39 - v_83)) (f_85_0_0 : ¬ hasB (nI j_8) (nI ii)) (e_87 : v_87 = (w_38 + 0)) : shF (m38 fs) (nI j_5) (nI j_1) (nI j_12) (ii + 1) = (v_84, v_87) := by
  have h6 := hM.2.2.2.2.1
  first
  | exact absurd f_72_1_0 f_69_0_0
  | exact absurd f_69_1_0 f_85_0_0
  | exact shM_n hM hii hz_8_0 hz_8_1 f_69_0_0 haf_0 e_71 e_74
  | exact shM_y hM hii hz_8_0 hz_8_1 f_69_1_0 haf_0 e_81 e_82 e_83 e_84 (lt_no (by omega) (by omega) c_89) e_90
  | exact shM_y hM hii hz_8_0 hz_8_1 f_69_1_0 haf_0 e_81 e_82 e_83 e_84 (lt_ye (by omega) (by omega) c_89) e_91
theorem lf_X8_share_8 {mt : Int32} {ma : Nat} {fs : Nat → Int32} {w9 : Nat} {k9 : Nat} {h9 : Nat} {j_1 : Nat} {j_5 : Nat} {j_8 : Nat} {j_12 : Nat} {w_38 : Int32} {w_39 : Int32} {ii : Nat} {v_81 : Int32} {v_82 : Int32} {v_83 : Int32} {v_84 : Int32} {v_90 : Int32} (hM : okM fs w9 k9 h9) (hT : ¬ mt = 0 → 1 ≤ k9) (h999 : h9 ≤ 999) (hT0 : mt = 0 → fs 0 = 0 ∧ ma = 0) (hj_1 : j_1 < k9) (hkn1 : 1 ≤ k9) (hw1 : 1 ≤ w9) (h01 : ¬ fs 0 = 0) (f_5_1_0 : (¬ (((nI j_5)).toInt64 < 0 ∨ 999 < ((nI j_5)).toInt64))) (q_5 : ¬ ((nI j_5) < 0 ∨ 999 < (nI j_5))) (hj_5 : j_5 ≤ 999) (hz_8_0 : j_8 ≤ 63) (hz_8_1 : nI j_8 = thR (fun s => fs (26 + s)) 0 k9) (f_9_1_0 : hasB (nI j_8) (nI j_1)) (hz_12_0 : j_12 ≤ 120) (hz_12_1 : (∀ s : Nat, s < k9 → hasB (nI j_8) (nI s) → 1 ≤ j_12)) (hz_12_2 : nI j_12 = ldR (fun s => fs (32 + s)) (nI j_8) k9) (hii : ii < k9) (haf_0 : (shF (m38 fs) (nI j_5) (nI j_1) (nI j_12) ii = (w_39, w_38))) (f_69_1_0 : hasB (nI j_8) (nI ii)) (e_81 : v_81 = fs (32 + ii)) (e_82 : v_82 = ((nI j_5) * v_81)) (e_83 : v_83 = (v_82 / (nI j_12))) (e_84 : v_84 = (w_39 - v_83)) (f_85_1_0 : hasB (nI j_8) (nI ii)) (c_89 : j_1 ≤ ii) (e_90 : v_90 = (w_38 + 0)) : shF (m38 fs) (nI j_5) (nI j_1) (nI j_12) (ii + 1) = (v_84, v_90) := by
  have h6 := hM.2.2.2.2.1
  first
  | exact absurd f_72_1_0 f_69_0_0
  | exact absurd f_69_1_0 f_85_0_0
  | exact shM_n hM hii hz_8_0 hz_8_1 f_69_0_0 haf_0 e_71 e_74
  | exact shM_y hM hii hz_8_0 hz_8_1 f_69_1_0 haf_0 e_81 e_82 e_83 e_84 (lt_no (by omega) (by omega) c_89) e_90
  | exact shM_y hM hii hz_8_0 hz_8_1 f_69_1_0 haf_0 e_81 e_82 e_83 e_84 (lt_ye (by omega) (by omega) c_89) e_91
theorem lf_X8_share_9 {mt : Int32} {ma : Nat} {fs : Nat → Int32} {w9 : Nat} {k9 : Nat} {h9 : Nat} {j_1 : Nat} {j_5 : Nat} {j_8 : Nat} {j_12 : Nat} {w_38 : Int32} {w_39 : Int32} {ii : Nat} {v_81 : Int32} {v_82 : Int32} {v_83 : Int32} {v_84 : Int32} {v_91 : Int32} (hM : okM fs w9 k9 h9) (hT : ¬ mt = 0 → 1 ≤ k9) (h999 : h9 ≤ 999) (hT0 : mt = 0 → fs 0 = 0 ∧ ma = 0) (hj_1 : j_1 < k9) (hkn1 : 1 ≤ k9) (hw1 : 1 ≤ w9) (h01 : ¬ fs 0 = 0) (f_5_1_0 : (¬ (((nI j_5)).toInt64 < 0 ∨ 999 < ((nI j_5)).toInt64))) (q_5 : ¬ ((nI j_5) < 0 ∨ 999 < (nI j_5))) (hj_5 : j_5 ≤ 999) (hz_8_0 : j_8 ≤ 63) (hz_8_1 : nI j_8 = thR (fun s => fs (26 + s)) 0 k9) (f_9_1_0 : hasB (nI j_8) (nI j_1)) (hz_12_0 : j_12 ≤ 120) (hz_12_1 : (∀ s : Nat, s < k9 → hasB (nI j_8) (nI s) → 1 ≤ j_12)) (hz_12_2 : nI j_12 = ldR (fun s => fs (32 + s)) (nI j_8) k9) (hii : ii < k9) (haf_0 : (shF (m38 fs) (nI j_5) (nI j_1) (nI j_12) ii = (w_39, w_38))) (f_69_1_0 : hasB (nI j_8) (nI ii)) (e_81 : v_81 = fs (32 + ii)) (e_82 : v_82 = ((nI j_5) * v_81)) (e_83 : v_83 = (v_82 / (nI j_12))) (e_84 : v_84 = (w_39 - v_83)) (f_85_1_0 : hasB (nI j_8) (nI ii)) (c_89 : ¬ (j_1 ≤ ii)) (e_91 : v_91 = (w_38 + 1)) : shF (m38 fs) (nI j_5) (nI j_1) (nI j_12) (ii + 1) = (v_84, v_91) := by
  have h6 := hM.2.2.2.2.1
  first
  | exact absurd f_72_1_0 f_69_0_0
  | exact absurd f_69_1_0 f_85_0_0
  | exact shM_n hM hii hz_8_0 hz_8_1 f_69_0_0 haf_0 e_71 e_74
  | exact shM_y hM hii hz_8_0 hz_8_1 f_69_1_0 haf_0 e_81 e_82 e_83 e_84 (lt_no (by omega) (by omega) c_89) e_90
  | exact shM_y hM hii hz_8_0 hz_8_1 f_69_1_0 haf_0 e_81 e_82 e_83 e_84 (lt_ye (by omega) (by omega) c_89) e_91
theorem lf_X8_share_10 {mt : Int32} {ma : Nat} {fs : Nat → Int32} {w9 : Nat} {k9 : Nat} {h9 : Nat} {j_1 : Nat} {j_5 : Nat} {j_8 : Nat} {j_12 : Nat} {w_38 : Int32} {w_39 : Int32} {v_95 : Int32} {v_96 : Int32} {v_97 : Int32} {v_99 : Int32} (hM : okM fs w9 k9 h9) (hT : ¬ mt = 0 → 1 ≤ k9) (h999 : h9 ≤ 999) (hT0 : mt = 0 → fs 0 = 0 ∧ ma = 0) (hj_1 : j_1 < k9) (hkn1 : 1 ≤ k9) (hw1 : 1 ≤ w9) (h01 : ¬ fs 0 = 0) (f_5_1_0 : (¬ (((nI j_5)).toInt64 < 0 ∨ 999 < ((nI j_5)).toInt64))) (q_5 : ¬ ((nI j_5) < 0 ∨ 999 < (nI j_5))) (hj_5 : j_5 ≤ 999) (hz_8_0 : j_8 ≤ 63) (hz_8_1 : nI j_8 = thR (fun s => fs (26 + s)) 0 k9) (f_9_1_0 : hasB (nI j_8) (nI j_1)) (hz_12_0 : j_12 ≤ 120) (hz_12_1 : (∀ s : Nat, s < k9 → hasB (nI j_8) (nI s) → 1 ≤ j_12)) (hz_12_2 : nI j_12 = ldR (fun s => fs (32 + s)) (nI j_8) k9) (haf_0 : (shF (m38 fs) (nI j_5) (nI j_1) (nI j_12) k9 = (w_39, w_38))) (e_95 : v_95 = fs (32 + j_1)) (e_96 : v_96 = ((nI j_5) * v_95)) (e_97 : v_97 = (v_96 / (nI j_12))) (c_98 : w_39 ≤ w_38) (e_99 : v_99 = (v_97 + 0)) : v_99 = (a_shr (m38 fs) (nI j_1) (nI j_5)) := by
  have h6 := hM.2.2.2.2.1
  first
  | exact shM_n1 hM.2.1 f_1_0_0
  | exact shr_n (Or.inr q_5)
  | exact shM_z hM hj_1 q_5 hz_8_0 hz_8_1 f_9_0_0
  | exact shM_e hM hj_1 q_5 hz_8_0 hz_8_1 f_9_1_0 hz_12_1 hz_12_0 hz_12_2 haf_0 e_95 e_96 e_97 (if_neg (i_nlt.mpr c_98)) e_99
  | exact shM_e hM hj_1 q_5 hz_8_0 hz_8_1 f_9_1_0 hz_12_1 hz_12_0 hz_12_2 haf_0 e_95 e_96 e_97 (if_pos (i_nle.mp c_98)) e_100
theorem lf_X8_share_11 {mt : Int32} {ma : Nat} {fs : Nat → Int32} {w9 : Nat} {k9 : Nat} {h9 : Nat} {j_1 : Nat} {j_5 : Nat} {j_8 : Nat} {j_12 : Nat} {w_38 : Int32} {w_39 : Int32} {v_95 : Int32} {v_96 : Int32} {v_97 : Int32} {v_100 : Int32} (hM : okM fs w9 k9 h9) (hT : ¬ mt = 0 → 1 ≤ k9) (h999 : h9 ≤ 999) (hT0 : mt = 0 → fs 0 = 0 ∧ ma = 0) (hj_1 : j_1 < k9) (hkn1 : 1 ≤ k9) (hw1 : 1 ≤ w9) (h01 : ¬ fs 0 = 0) (f_5_1_0 : (¬ (((nI j_5)).toInt64 < 0 ∨ 999 < ((nI j_5)).toInt64))) (q_5 : ¬ ((nI j_5) < 0 ∨ 999 < (nI j_5))) (hj_5 : j_5 ≤ 999) (hz_8_0 : j_8 ≤ 63) (hz_8_1 : nI j_8 = thR (fun s => fs (26 + s)) 0 k9) (f_9_1_0 : hasB (nI j_8) (nI j_1)) (hz_12_0 : j_12 ≤ 120) (hz_12_1 : (∀ s : Nat, s < k9 → hasB (nI j_8) (nI s) → 1 ≤ j_12)) (hz_12_2 : nI j_12 = ldR (fun s => fs (32 + s)) (nI j_8) k9) (haf_0 : (shF (m38 fs) (nI j_5) (nI j_1) (nI j_12) k9 = (w_39, w_38))) (e_95 : v_95 = fs (32 + j_1)) (e_96 : v_96 = ((nI j_5) * v_95)) (e_97 : v_97 = (v_96 / (nI j_12))) (c_98 : ¬ (w_39 ≤ w_38)) (e_100 : v_100 = (v_97 + 1)) : v_100 = (a_shr (m38 fs) (nI j_1) (nI j_5)) := by
  have h6 := hM.2.2.2.2.1
  first
  | exact shM_n1 hM.2.1 f_1_0_0
  | exact shr_n (Or.inr q_5)
  | exact shM_z hM hj_1 q_5 hz_8_0 hz_8_1 f_9_0_0
  | exact shM_e hM hj_1 q_5 hz_8_0 hz_8_1 f_9_1_0 hz_12_1 hz_12_0 hz_12_2 haf_0 e_95 e_96 e_97 (if_neg (i_nlt.mpr c_98)) e_99
  | exact shM_e hM hj_1 q_5 hz_8_0 hz_8_1 f_9_1_0 hz_12_1 hz_12_0 hz_12_2 haf_0 e_95 e_96 e_97 (if_pos (i_nle.mp c_98)) e_100
set_option maxHeartbeats 4000000 in
set_option maxRecDepth 100000 in
theorem r_X8_share (l : Launch) (dC : Nat → ClassId) (dI : Nat → Nat → Nat) (cI cZ cL cJ : ClassId) (mo : Nat) (m_la : Nat) (m_sz : Nat) (m_it : Nat) (m_st : Nat) (m_mv : Nat) (m_tp : Nat) (m_rd : Nat) (m_ac : Nat) (m_as : Nat) (m_wo : Nat) (m_ik : Nat) (m_ke : Nat) (m_tr : Nat) (ms : Int32) (mt : Int32) (ml : Int32) (mk : Int32) (mv : Int32) (mb : Int32) (mw : Int32) (mz : Nat) (mp : Nat) (ma : Nat) (mx : Nat) (fs : Nat → Int32) (w9 : Nat) (k9 : Nat) (h9 : Nat) (a0 : Int32) (a1 : Int32) (hM : okM fs w9 k9 h9) (hT : ¬ mt = 0 → 1 ≤ k9) (h999 : h9 ≤ 999) (hT0 : mt = 0 → fs 0 = 0 ∧ ma = 0) : Met l yX8_share wsX8_share ({ frames := 2, cells := 0, slots := 0, locals := 46 }) (va_Pc [.ref mo, .int a0, .int a1] (fun U => va_P (dC, dI) vwCl [(xo_8_rrriirrriiiiiiirrirrrrri mo m_la m_sz m_it ms mt m_st m_mv m_tp (nI mz) ml (nI mp) mk mv mb mw m_rd m_ac (nI ma) m_as m_wo m_ik m_ke m_tr (nI mx)), (xI m_st cI 38 fs)] U.heap ∧ va_K (dC, dI) vwCl [(cI, .int), (cZ, .boolean), (cL, .object RX3), (cJ, .array .int)] U)) (vp_Si (fun r => r = (a_shr (m38 fs) a0 a1))) 0 0 (fun _ => False) := by
  refine Met.ofW (cc := cX8_share) (maxL := 8) (ret := (some .int)) (by decide) rfl ?_
  intro p e s m args below meth c s₁ B hml hv
  obtain ⟨rfl, hP, hK⟩ := hv
  have hx := B.exec
  have hb := B.bytes
  have hr := B.returns
  have hts := atoms_spec (ws := wsX8_share) B.pre
  have hown : s.vm.findClass RX8 = some m.cls := findClass_of_methodNamed B.named
  have hlocks := B.notSynchronized
  have hP : va_P (dC, dI) vwCl [(xo_8_rrriirrriiiiiiirrirrrrri mo m_la m_sz m_it ms mt m_st m_mv m_tp (nI mz) ml (nI mp) mk mv mb mw m_rd m_ac (nI ma) m_as m_wo m_ik m_ke m_tr (nI mx)), (xI m_st cI 38 fs)] s.heap := hP
  have hl := lv_entry ([.ref mo, .int a0, .int a1]) (n := 8) (Nat.le_of_ble_eq_true rfl)
  rw [lg_entry_eq]
  generalize (lg_sl ([.ref mo, .int a0, .int a1]) ++ List.replicate (8 - (lg_sl ([.ref mo, .int a0, .int a1])).length) Slot.unset).toArray = ls at hl ⊢
  have hl : lv_has ls 8 [(0, .ref mo), (1, .int a0), (2, .int a1)] := hl
  have hk6 := hM.2.2.2.2.1
  have hw6 := hM.2.2.2.1
  refine lv_aload_n hx hb dX8_share_0 rfl (lv_at hl 0 rfl) ?_
  refine lv_iload_n hx hb dX8_share_1 rfl (lv_at hl 1 rfl) ?_
  have hPc_1 := hP
  refine vp_callSi (W.runV (As := [.int a0]) (rest := []) ⟨hx, hb, hml, hown, hts⟩ (r_X8_isSound l dC dI cI cZ cL cJ mo m_la m_sz m_it m_st m_mv m_tp m_rd m_ac m_as m_wo m_ik m_ke m_tr ms mt ml mk mv mb mw mz mp ma mx fs w9 k9 h9 a0 (hM)) (cwV 1 hts gX8_share_X8_isSound rfl rfl rfl (by decide +kernel) ⟨Nat.le_of_ble_eq_true rfl, Nat.le_of_ble_eq_true rfl⟩) (pvP 8 0 hK hP rfl rfl hPc_1) rfl rfl hl.1 rfl (lv_room (Nat.le_of_ble_eq_true rfl)) dX8_share_2 ⟨Nat.le_of_ble_eq_true rfl, Nat.le_of_ble_eq_true rfl⟩) (fun r_1 h_1 => ?_)
  rcases h_1 with ⟨h_1, f_1_0_0⟩ | ⟨h_1, f_1_1_0⟩
  · subst h_1
    refine lv_if_eq (tgt := 20) hx hb dX8_share_5 (by decide) (fun _ => ?_) (fun c_ => absurd (by decide) c_)
    refine lv_ldc (own := RX8) (v := (-1000001)) hx hb hown (hts _ mx_X8_share_2) dX8_share_20 ?_
    exact W.iret (v := (-1000001)) hx hb hr (fun t ht hW => ⟨(-1000001), rfl, (lf_X8_share_1 hM hT h999 hT0 f_1_0_0), ht⟩) (fun _ h => by cases h) dX8_share_22
  · subst h_1
    obtain ⟨j_1, hj_1, rfl⟩ := vp_in_of f_1_1_0 (by omega)
    have hkn1 : 1 ≤ k9 := by omega
    have hw1 := hM.2.2.2.2.2.1.mp hkn1
    have h01 : ¬ fs 0 = 0 := cell_nz hM hkn1
    refine lv_if_eq (tgt := 20) hx hb dX8_share_5 (by decide) (fun c_ => absurd c_ (by decide)) (fun _ => ?_)
    refine lv_iload_n hx hb dX8_share_8 rfl (lv_at hl 2 rfl) ?_
    refine lv_i2l hx hb dX8_share_9 rfl ?_
    refine lv_lconst (v := 0) hx hb dX8_share_10 (by decide) ?_
    refine lv_ldc2 (own := RX8) (v := 999) hx hb hown (hts _ mx_X8_share_1) dX8_share_11 ?_
    have hPc_5 := hP.sub (ws' := []) [] rfl
    refine vp_callSi (W.runS (As := [.long (a1).toInt64, .long 0, .long 999]) (rest := []) ⟨hx, hb, hml, hown, hts⟩ (r_X8_in l dC dI cI cZ cL cJ ((a1).toInt64) 0 999 ) (va_cwS 3 hts gX8_share_X8_in rfl rfl rfl (by decide +kernel) ⟨Nat.le_of_ble_eq_true rfl, Nat.le_of_ble_eq_true rfl⟩) (psP hK hPc_5) rfl rfl hl.1 rfl (lv_room (Nat.le_of_ble_eq_true rfl)) dX8_share_14 ⟨Nat.le_of_ble_eq_true rfl, Nat.le_of_ble_eq_true rfl⟩) (fun r_5 h_5 => ?_)
    rcases h_5 with ⟨h_5, f_5_0_0⟩ | ⟨h_5, f_5_1_0⟩
    · subst h_5
      have q_5 : (a1 < 0 ∨ 999 < a1) := (in32 (x := a1) (l := 0) (u := 999) (by decide) (by decide)).mp f_5_0_0
      refine lv_if_ne (tgt := 23) hx hb dX8_share_17 (by decide) (fun c_ => absurd (by decide) c_) (fun _ => ?_)
      refine lv_ldc (own := RX8) (v := (-1000001)) hx hb hown (hts _ mx_X8_share_2) dX8_share_20 ?_
      exact W.iret (v := (-1000001)) hx hb hr (fun t ht hW => ⟨(-1000001), rfl, (lf_X8_share_2 hM hT h999 hT0 hj_1 hkn1 hw1 h01 f_5_0_0 q_5), ht⟩) (fun _ h => by cases h) dX8_share_22
    · subst h_5
      have q_5 : ¬ (a1 < 0 ∨ 999 < a1) := fun q_ => f_5_1_0 ((in32 (x := a1) (l := 0) (u := 999) (by decide) (by decide)).mpr q_)
      obtain ⟨j_5, hj_5, hl_5, rfl⟩ := in64 (lo := 0) (n := 999) rfl rfl (by decide) f_5_1_0
      refine lv_if_ne (tgt := 23) hx hb dX8_share_17 (by decide) (fun _ => ?_) (fun c_ => absurd c_ (by decide))
      refine lv_aload_n hx hb dX8_share_23 rfl (lv_at hl 0 rfl) ?_
      refine lv_iconst (v := 0) hx hb dX8_share_24 (by decide) ?_
      have hPc_8 := hP
      refine vp_callSi (W.runV (As := [.int 0]) (rest := []) ⟨hx, hb, hml, hown, hts⟩ (r_X8_those l dC dI cI cZ cL cJ mo m_la m_sz m_it m_st m_mv m_tp m_rd m_ac m_as m_wo m_ik m_ke m_tr ms mt ml mk mv mb mw mz mp ma mx fs w9 k9 h9 0 (hM)) (cwV 1 hts gX8_share_X8_those rfl rfl rfl (by decide +kernel) ⟨Nat.le_of_ble_eq_true rfl, Nat.le_of_ble_eq_true rfl⟩) (pvP 8 0 hK hP rfl rfl hPc_8) rfl rfl hl.1 rfl (lv_room (Nat.le_of_ble_eq_true rfl)) dX8_share_25 ⟨Nat.le_of_ble_eq_true rfl, Nat.le_of_ble_eq_true rfl⟩) (fun r_8 h_8 => ?_)
      obtain ⟨j_8, rfl, hz_8_0, hz_8_1⟩ := h_8
      refine lv_istore_n (lv' := [(3, .int (nI j_8)), (0, .ref mo), (1, .int (nI j_1)), (2, .int (nI j_5))]) hx hb dX8_share_28 rfl hl (by decide) rfl (fun ls hl => ?_)
      refine lv_iload_n hx hb dX8_share_29 rfl (lv_at hl 0 rfl) ?_
      refine lv_iload_n hx hb dX8_share_30 rfl (lv_at hl 2 rfl) ?_
      have hPc_9 := hP.sub (ws' := []) [] rfl
      refine vp_callSi (W.runS (As := [.int (nI j_8), .int (nI j_1)]) (rest := []) ⟨hx, hb, hml, hown, hts⟩ (r_X8_has l dC dI cI cZ cL cJ (nI j_8) (nI j_1) ) (va_cwS 2 hts gX8_share_X8_has rfl rfl rfl (by decide +kernel) ⟨Nat.le_of_ble_eq_true rfl, Nat.le_of_ble_eq_true rfl⟩) (psP hK hPc_9) rfl rfl hl.1 rfl (lv_room (Nat.le_of_ble_eq_true rfl)) dX8_share_31 ⟨Nat.le_of_ble_eq_true rfl, Nat.le_of_ble_eq_true rfl⟩) (fun r_9 h_9 => ?_)
      rcases h_9 with ⟨h_9, f_9_0_0⟩ | ⟨h_9, f_9_1_0⟩
      · subst h_9
        refine lv_if_ne (tgt := 39) hx hb dX8_share_34 (by decide) (fun c_ => absurd (by decide) c_) (fun _ => ?_)
        refine lv_iconst (v := 0) hx hb dX8_share_37 (by decide) ?_
        exact W.iret (v := 0) hx hb hr (fun t ht hW => ⟨0, rfl, (lf_X8_share_3 hM hT h999 hT0 hj_1 hkn1 hw1 h01 f_5_1_0 q_5 hj_5 hz_8_0 hz_8_1 f_9_0_0), ht⟩) (fun _ h => by cases h) dX8_share_38
      · subst h_9
        refine lv_if_ne (tgt := 39) hx hb dX8_share_34 (by decide) (fun _ => ?_) (fun c_ => absurd c_ (by decide))
        refine lv_aload_n hx hb dX8_share_39 rfl (lv_at hl 1 rfl) ?_
        refine lv_iload_n hx hb dX8_share_40 rfl (lv_at hl 0 rfl) ?_
        have hPc_12 := hP
        refine vp_callSi (W.runV (As := [.int (nI j_8)]) (rest := []) ⟨hx, hb, hml, hown, hts⟩ (r_X8_loudOf l dC dI cI cZ cL cJ mo m_la m_sz m_it m_st m_mv m_tp m_rd m_ac m_as m_wo m_ik m_ke m_tr ms mt ml mk mv mb mw mz mp ma mx fs w9 k9 h9 (nI j_8) (hM)) (cwV 1 hts gX8_share_X8_loudOf rfl rfl rfl (by decide +kernel) ⟨Nat.le_of_ble_eq_true rfl, Nat.le_of_ble_eq_true rfl⟩) (pvP 8 0 hK hP rfl rfl hPc_12) rfl rfl hl.1 rfl (lv_room (Nat.le_of_ble_eq_true rfl)) dX8_share_41 ⟨Nat.le_of_ble_eq_true rfl, Nat.le_of_ble_eq_true rfl⟩) (fun r_12 h_12 => ?_)
        obtain ⟨j_12, rfl, hz_12_0, hz_12_1, hz_12_2⟩ := h_12
        have hz1 : 1 ≤ j_12 := hz_12_1 j_1 (by omega) f_9_1_0
        refine lv_istore (lv' := [(4, .int (nI j_12)), (3, .int (nI j_8)), (0, .ref mo), (1, .int (nI j_1)), (2, .int (nI j_5))]) hx hb dX8_share_44 hl (by decide) rfl (fun ls hl => ?_)
        refine lv_iload_n hx hb dX8_share_46 rfl (lv_at hl 4 rfl) ?_
        refine lv_istore (lv' := [(5, .int (nI j_5)), (4, .int (nI j_12)), (3, .int (nI j_8)), (0, .ref mo), (1, .int (nI j_1)), (2, .int (nI j_5))]) hx hb dX8_share_47 hl (by decide) rfl (fun ls hl => ?_)
        refine lv_iconst (v := 0) hx hb dX8_share_49 (by decide) ?_
        refine lv_istore (lv' := [(6, .int 0), (5, .int (nI j_5)), (4, .int (nI j_12)), (3, .int (nI j_8)), (0, .ref mo), (1, .int (nI j_1)), (2, .int (nI j_5))]) hx hb dX8_share_50 hl (by decide) rfl (fun ls hl => ?_)
        refine lv_iconst (v := 0) hx hb dX8_share_52 (by decide) ?_
        refine lv_istore (lv' := [(7, .int 0), (6, .int 0), (5, .int (nI j_5)), (4, .int (nI j_12)), (3, .int (nI j_8)), (0, .ref mo), (1, .int (nI j_1)), (2, .int (nI j_5))]) hx hb dX8_share_53 hl (by decide) rfl (fun ls hl => ?_)
        refine lp_go (σ := (Int32) × (Int32)) (fun ii (st : (Int32) × (Int32)) H locs ls => match st with | (w_38, w_39) => lv_has ls 8 [(7, .int (nI ii)), (6, .int w_38), (5, .int w_39), (4, .int (nI j_12)), (3, .int (nI j_8)), (0, .ref mo), (1, .int (nI j_1)), (2, .int (nI j_5))] ∧ H = s.heap ∧ locs = [] ∧ (shF (m38 fs) (nI j_5) (nI j_1) (nI j_12) ii = (w_39, w_38))) k9 ?_ ?_ 0 (by omega) (0, (nI j_5)) ⟨lv_sub hl [0, 1, 2, 3, 4, 5, 6, 7] rfl, rfl, rfl, rfl⟩
        · rintro ii ⟨w_38, w_39⟩ H locs ls hii ⟨hl, rfl, rfl, haf_0⟩ ih
          refine lv_iload hx hb dX8_share_55 (lv_at hl 0 rfl) ?_
          refine lv_aload_n hx hb dX8_share_57 rfl (lv_at hl 5 rfl) ?_
          refine va_get (D := (dC, dI)) (ci := 8) (v := .ref m_st) (C := RX8) (T := TX8) (N := 24) hx hb hts i_X8_share_X8 hown hK hP 0 rfl rfl 5 (by decide) (hts _ mx_X8_share_3) (fun _ h9 => h9) rfl dX8_share_58 ?_
          refine lv_iconst (v := 4) hx hb dX8_share_61 (by decide) ?_
          refine va_iald hx hb hK hP 1 0 rfl rfl (by unfold vp_in; decide) dX8_share_62 ?_
          refine lv_topi (fun v_67 e_67 => ?_)
          obtain rfl : v_67 = (nI k9) := (e_67).trans hM.2.1
          refine lv_icmp_ge (tgt := 130) hx hb dX8_share_63 (by decide) (fun c_ => absurd c_ (fun q_ => absurd ((nI_leI (a := k9) (b := ii) (by omega) (by omega)).mp q_) (by omega))) (fun _ => ?_)
          refine lv_iload hx hb dX8_share_66 (lv_at hl 2 rfl) ?_
          refine lv_iload_n hx hb dX8_share_68 rfl (lv_at hl 4 rfl) ?_
          refine lv_iload hx hb dX8_share_69 (lv_at hl 0 rfl) ?_
          have hPc_69 := hP.sub (ws' := []) [] rfl
          refine vp_callSi (W.runS (As := [.int (nI j_8), .int (nI ii)]) (rest := [.int w_39]) ⟨hx, hb, hml, hown, hts⟩ (r_X8_has l dC dI cI cZ cL cJ (nI j_8) (nI ii) ) (va_cwS 2 hts gX8_share_X8_has rfl rfl rfl (by decide +kernel) ⟨Nat.le_of_ble_eq_true rfl, Nat.le_of_ble_eq_true rfl⟩) (psP hK hPc_69) rfl rfl hl.1 rfl (lv_room (Nat.le_of_ble_eq_true rfl)) dX8_share_71 ⟨Nat.le_of_ble_eq_true rfl, Nat.le_of_ble_eq_true rfl⟩) (fun r_69 h_69 => ?_)
          rcases h_69 with ⟨h_69, f_69_0_0⟩ | ⟨h_69, f_69_1_0⟩
          · subst h_69
            refine lv_if_eq (tgt := 95) hx hb dX8_share_74 (by decide) (fun _ => ?_) (fun c_ => absurd (by decide) c_)
            refine lv_iconst (v := 0) hx hb dX8_share_95 (by decide) ?_
            refine lv_isub hx hb dX8_share_96 ?_
            refine lv_topi (fun v_71 e_71 => ?_)
            refine lv_istore (lv' := [(5, .int v_71), (7, .int (nI ii)), (6, .int w_38), (4, .int (nI j_12)), (3, .int (nI j_8)), (0, .ref mo), (1, .int (nI j_1)), (2, .int (nI j_5))]) hx hb dX8_share_97 hl (by decide) rfl (fun ls hl => ?_)
            refine lv_iload hx hb dX8_share_99 (lv_at hl 2 rfl) ?_
            refine lv_iload_n hx hb dX8_share_101 rfl (lv_at hl 4 rfl) ?_
            refine lv_iload hx hb dX8_share_102 (lv_at hl 1 rfl) ?_
            have hPc_72 := hP.sub (ws' := []) [] rfl
            refine vp_callSi (W.runS (As := [.int (nI j_8), .int (nI ii)]) (rest := [.int w_38]) ⟨hx, hb, hml, hown, hts⟩ (r_X8_has l dC dI cI cZ cL cJ (nI j_8) (nI ii) ) (va_cwS 2 hts gX8_share_X8_has rfl rfl rfl (by decide +kernel) ⟨Nat.le_of_ble_eq_true rfl, Nat.le_of_ble_eq_true rfl⟩) (psP hK hPc_72) rfl rfl hl.1 rfl (lv_room (Nat.le_of_ble_eq_true rfl)) dX8_share_104 ⟨Nat.le_of_ble_eq_true rfl, Nat.le_of_ble_eq_true rfl⟩) (fun r_72 h_72 => ?_)
            rcases h_72 with ⟨h_72, f_72_0_0⟩ | ⟨h_72, f_72_1_0⟩
            · subst h_72
              refine lv_if_eq (tgt := 120) hx hb dX8_share_107 (by decide) (fun _ => ?_) (fun c_ => absurd (by decide) c_)
              refine lv_iconst (v := 0) hx hb dX8_share_120 (by decide) ?_
              refine lv_iadd hx hb dX8_share_121 ?_
              refine lv_topi (fun v_74 e_74 => ?_)
              refine lv_istore (lv' := [(6, .int v_74), (5, .int v_71), (7, .int (nI ii)), (4, .int (nI j_12)), (3, .int (nI j_8)), (0, .ref mo), (1, .int (nI j_1)), (2, .int (nI j_5))]) hx hb dX8_share_122 hl (by decide) rfl (fun ls hl => ?_)
              refine lv_iinc (v := (nI (ii + 1))) (lv' := [(7, .int (nI (ii + 1))), (6, .int v_74), (5, .int v_71), (4, .int (nI j_12)), (3, .int (nI j_8)), (0, .ref mo), (1, .int (nI j_1)), (2, .int (nI j_5))]) hx hb dX8_share_124 hl (k := 2) rfl (nI_add ii 1) (by decide) rfl (fun ls hl => ?_)
              refine lv_goto (tgt := 55) hx hb dX8_share_127 (by decide) ?_
              exact ih (v_74, v_71) _ _ _ ⟨lv_sub hl [0, 1, 2, 3, 4, 5, 6, 7] rfl, rfl, rfl, (lf_X8_share_4 hM hT h999 hT0 hj_1 hkn1 hw1 h01 f_5_1_0 q_5 hj_5 hz_8_0 hz_8_1 f_9_1_0 hz_12_0 hz_12_1 hz_12_2 hii haf_0 f_69_0_0 e_71 f_72_0_0 e_74)⟩
            · subst h_72
              refine lv_if_eq (tgt := 120) hx hb dX8_share_107 (by decide) (fun c_ => absurd c_ (by decide)) (fun _ => ?_)
              refine lv_iload hx hb dX8_share_110 (lv_at hl 1 rfl) ?_
              refine lv_iload_n hx hb dX8_share_112 rfl (lv_at hl 6 rfl) ?_
              refine lv_icmp_ge (tgt := 120) hx hb dX8_share_113 (by decide) (fun c_76 => ?_) (fun c_76 => ?_)
              · have c_76 : j_1 ≤ ii := (nI_leI (a := j_1) (b := ii) (by omega) (by omega)).mp c_76
                refine lv_iconst (v := 0) hx hb dX8_share_120 (by decide) ?_
                refine lv_iadd hx hb dX8_share_121 ?_
                refine lv_topi (fun v_77 e_77 => ?_)
                refine lv_istore (lv' := [(6, .int v_77), (5, .int v_71), (7, .int (nI ii)), (4, .int (nI j_12)), (3, .int (nI j_8)), (0, .ref mo), (1, .int (nI j_1)), (2, .int (nI j_5))]) hx hb dX8_share_122 hl (by decide) rfl (fun ls hl => ?_)
                refine lv_iinc (v := (nI (ii + 1))) (lv' := [(7, .int (nI (ii + 1))), (6, .int v_77), (5, .int v_71), (4, .int (nI j_12)), (3, .int (nI j_8)), (0, .ref mo), (1, .int (nI j_1)), (2, .int (nI j_5))]) hx hb dX8_share_124 hl (k := 2) rfl (nI_add ii 1) (by decide) rfl (fun ls hl => ?_)
                refine lv_goto (tgt := 55) hx hb dX8_share_127 (by decide) ?_
                exact ih (v_77, v_71) _ _ _ ⟨lv_sub hl [0, 1, 2, 3, 4, 5, 6, 7] rfl, rfl, rfl, (lf_X8_share_5 hM hT h999 hT0 hj_1 hkn1 hw1 h01 f_5_1_0 q_5 hj_5 hz_8_0 hz_8_1 f_9_1_0 hz_12_0 hz_12_1 hz_12_2 hii haf_0 f_69_0_0 e_71 f_72_1_0 c_76 e_77)⟩
              · have c_76 : ¬ (j_1 ≤ ii) := fun q_ => c_76 ((nI_leI (a := j_1) (b := ii) (by omega) (by omega)).mpr q_)
                refine lv_iconst (v := 1) hx hb dX8_share_116 (by decide) ?_
                refine lv_goto (tgt := 121) hx hb dX8_share_117 (by decide) ?_
                refine lv_iadd hx hb dX8_share_121 ?_
                refine lv_topi (fun v_78 e_78 => ?_)
                refine lv_istore (lv' := [(6, .int v_78), (5, .int v_71), (7, .int (nI ii)), (4, .int (nI j_12)), (3, .int (nI j_8)), (0, .ref mo), (1, .int (nI j_1)), (2, .int (nI j_5))]) hx hb dX8_share_122 hl (by decide) rfl (fun ls hl => ?_)
                refine lv_iinc (v := (nI (ii + 1))) (lv' := [(7, .int (nI (ii + 1))), (6, .int v_78), (5, .int v_71), (4, .int (nI j_12)), (3, .int (nI j_8)), (0, .ref mo), (1, .int (nI j_1)), (2, .int (nI j_5))]) hx hb dX8_share_124 hl (k := 2) rfl (nI_add ii 1) (by decide) rfl (fun ls hl => ?_)
                refine lv_goto (tgt := 55) hx hb dX8_share_127 (by decide) ?_
                exact ih (v_78, v_71) _ _ _ ⟨lv_sub hl [0, 1, 2, 3, 4, 5, 6, 7] rfl, rfl, rfl, (lf_X8_share_6 hM hT h999 hT0 hj_1 hkn1 hw1 h01 f_5_1_0 q_5 hj_5 hz_8_0 hz_8_1 f_9_1_0 hz_12_0 hz_12_1 hz_12_2 hii haf_0 f_69_0_0 e_71 f_72_1_0 c_76 e_78)⟩
          · subst h_69
            refine lv_if_eq (tgt := 95) hx hb dX8_share_74 (by decide) (fun c_ => absurd c_ (by decide)) (fun _ => ?_)
            refine lv_iload_n hx hb dX8_share_77 rfl (lv_at hl 7 rfl) ?_
            refine lv_aload_n hx hb dX8_share_78 rfl (lv_at hl 5 rfl) ?_
            refine va_get (D := (dC, dI)) (ci := 8) (v := .ref m_st) (C := RX8) (T := TX8) (N := 24) hx hb hts i_X8_share_X8 hown hK hP 0 rfl rfl 5 (by decide) (hts _ mx_X8_share_3) (fun _ h9 => h9) rfl dX8_share_79 ?_
            refine lv_bipush (v := 32) hx hb dX8_share_82 (by decide) ?_
            refine lv_iload hx hb dX8_share_84 (lv_at hl 0 rfl) ?_
            refine lv_iadd hx hb dX8_share_86 ?_
            refine lv_topi (fun v_80 e_80 => ?_)
            obtain rfl : v_80 = (nI (32 + ii)) := (e_80).trans (nI_add 32 ii)
            refine va_iald hx hb hK hP 1 0 rfl rfl (vp_in_nI (by omega) (by omega)) dX8_share_87 ?_
            refine lv_topi (fun v_81 e_81 => ?_)
            have e_81 : v_81 = fs (32 + ii) := e_81.trans (congrArg fs (nI_clamp (by omega)))
            refine lv_imul hx hb dX8_share_88 ?_
            refine lv_topi (fun v_82 e_82 => ?_)
            refine lv_iload hx hb dX8_share_89 (lv_at hl 3 rfl) ?_
            refine lv_idiv hx hb dX8_share_91 (nI_ne0 (by omega) (by omega)) ?_
            refine lv_topi (fun v_83 e_83 => ?_)
            refine lv_goto (tgt := 96) hx hb dX8_share_92 (by decide) ?_
            refine lv_isub hx hb dX8_share_96 ?_
            refine lv_topi (fun v_84 e_84 => ?_)
            refine lv_istore (lv' := [(5, .int v_84), (7, .int (nI ii)), (6, .int w_38), (4, .int (nI j_12)), (3, .int (nI j_8)), (0, .ref mo), (1, .int (nI j_1)), (2, .int (nI j_5))]) hx hb dX8_share_97 hl (by decide) rfl (fun ls hl => ?_)
            refine lv_iload hx hb dX8_share_99 (lv_at hl 2 rfl) ?_
            refine lv_iload_n hx hb dX8_share_101 rfl (lv_at hl 4 rfl) ?_
            refine lv_iload hx hb dX8_share_102 (lv_at hl 1 rfl) ?_
            have hPc_85 := hP.sub (ws' := []) [] rfl
            refine vp_callSi (W.runS (As := [.int (nI j_8), .int (nI ii)]) (rest := [.int w_38]) ⟨hx, hb, hml, hown, hts⟩ (r_X8_has l dC dI cI cZ cL cJ (nI j_8) (nI ii) ) (va_cwS 2 hts gX8_share_X8_has rfl rfl rfl (by decide +kernel) ⟨Nat.le_of_ble_eq_true rfl, Nat.le_of_ble_eq_true rfl⟩) (psP hK hPc_85) rfl rfl hl.1 rfl (lv_room (Nat.le_of_ble_eq_true rfl)) dX8_share_104 ⟨Nat.le_of_ble_eq_true rfl, Nat.le_of_ble_eq_true rfl⟩) (fun r_85 h_85 => ?_)
            rcases h_85 with ⟨h_85, f_85_0_0⟩ | ⟨h_85, f_85_1_0⟩
            · subst h_85
              refine lv_if_eq (tgt := 120) hx hb dX8_share_107 (by decide) (fun _ => ?_) (fun c_ => absurd (by decide) c_)
              refine lv_iconst (v := 0) hx hb dX8_share_120 (by decide) ?_
              refine lv_iadd hx hb dX8_share_121 ?_
              refine lv_topi (fun v_87 e_87 => ?_)
              refine lv_istore (lv' := [(6, .int v_87), (5, .int v_84), (7, .int (nI ii)), (4, .int (nI j_12)), (3, .int (nI j_8)), (0, .ref mo), (1, .int (nI j_1)), (2, .int (nI j_5))]) hx hb dX8_share_122 hl (by decide) rfl (fun ls hl => ?_)
              refine lv_iinc (v := (nI (ii + 1))) (lv' := [(7, .int (nI (ii + 1))), (6, .int v_87), (5, .int v_84), (4, .int (nI j_12)), (3, .int (nI j_8)), (0, .ref mo), (1, .int (nI j_1)), (2, .int (nI j_5))]) hx hb dX8_share_124 hl (k := 2) rfl (nI_add ii 1) (by decide) rfl (fun ls hl => ?_)
              refine lv_goto (tgt := 55) hx hb dX8_share_127 (by decide) ?_
              exact ih (v_87, v_84) _ _ _ ⟨lv_sub hl [0, 1, 2, 3, 4, 5, 6, 7] rfl, rfl, rfl, (lf_X8_share_7 hM hT h999 hT0 hj_1 hkn1 hw1 h01 f_5_1_0 q_5 hj_5 hz_8_0 hz_8_1 f_9_1_0 hz_12_0 hz_12_1 hz_12_2 hii haf_0 f_69_1_0 e_81 e_82 e_83 e_84 f_85_0_0 e_87)⟩
            · subst h_85
              refine lv_if_eq (tgt := 120) hx hb dX8_share_107 (by decide) (fun c_ => absurd c_ (by decide)) (fun _ => ?_)
              refine lv_iload hx hb dX8_share_110 (lv_at hl 1 rfl) ?_
              refine lv_iload_n hx hb dX8_share_112 rfl (lv_at hl 6 rfl) ?_
              refine lv_icmp_ge (tgt := 120) hx hb dX8_share_113 (by decide) (fun c_89 => ?_) (fun c_89 => ?_)
              · have c_89 : j_1 ≤ ii := (nI_leI (a := j_1) (b := ii) (by omega) (by omega)).mp c_89
                refine lv_iconst (v := 0) hx hb dX8_share_120 (by decide) ?_
                refine lv_iadd hx hb dX8_share_121 ?_
                refine lv_topi (fun v_90 e_90 => ?_)
                refine lv_istore (lv' := [(6, .int v_90), (5, .int v_84), (7, .int (nI ii)), (4, .int (nI j_12)), (3, .int (nI j_8)), (0, .ref mo), (1, .int (nI j_1)), (2, .int (nI j_5))]) hx hb dX8_share_122 hl (by decide) rfl (fun ls hl => ?_)
                refine lv_iinc (v := (nI (ii + 1))) (lv' := [(7, .int (nI (ii + 1))), (6, .int v_90), (5, .int v_84), (4, .int (nI j_12)), (3, .int (nI j_8)), (0, .ref mo), (1, .int (nI j_1)), (2, .int (nI j_5))]) hx hb dX8_share_124 hl (k := 2) rfl (nI_add ii 1) (by decide) rfl (fun ls hl => ?_)
                refine lv_goto (tgt := 55) hx hb dX8_share_127 (by decide) ?_
                exact ih (v_90, v_84) _ _ _ ⟨lv_sub hl [0, 1, 2, 3, 4, 5, 6, 7] rfl, rfl, rfl, (lf_X8_share_8 hM hT h999 hT0 hj_1 hkn1 hw1 h01 f_5_1_0 q_5 hj_5 hz_8_0 hz_8_1 f_9_1_0 hz_12_0 hz_12_1 hz_12_2 hii haf_0 f_69_1_0 e_81 e_82 e_83 e_84 f_85_1_0 c_89 e_90)⟩
              · have c_89 : ¬ (j_1 ≤ ii) := fun q_ => c_89 ((nI_leI (a := j_1) (b := ii) (by omega) (by omega)).mpr q_)
                refine lv_iconst (v := 1) hx hb dX8_share_116 (by decide) ?_
                refine lv_goto (tgt := 121) hx hb dX8_share_117 (by decide) ?_
                refine lv_iadd hx hb dX8_share_121 ?_
                refine lv_topi (fun v_91 e_91 => ?_)
                refine lv_istore (lv' := [(6, .int v_91), (5, .int v_84), (7, .int (nI ii)), (4, .int (nI j_12)), (3, .int (nI j_8)), (0, .ref mo), (1, .int (nI j_1)), (2, .int (nI j_5))]) hx hb dX8_share_122 hl (by decide) rfl (fun ls hl => ?_)
                refine lv_iinc (v := (nI (ii + 1))) (lv' := [(7, .int (nI (ii + 1))), (6, .int v_91), (5, .int v_84), (4, .int (nI j_12)), (3, .int (nI j_8)), (0, .ref mo), (1, .int (nI j_1)), (2, .int (nI j_5))]) hx hb dX8_share_124 hl (k := 2) rfl (nI_add ii 1) (by decide) rfl (fun ls hl => ?_)
                refine lv_goto (tgt := 55) hx hb dX8_share_127 (by decide) ?_
                exact ih (v_91, v_84) _ _ _ ⟨lv_sub hl [0, 1, 2, 3, 4, 5, 6, 7] rfl, rfl, rfl, (lf_X8_share_9 hM hT h999 hT0 hj_1 hkn1 hw1 h01 f_5_1_0 q_5 hj_5 hz_8_0 hz_8_1 f_9_1_0 hz_12_0 hz_12_1 hz_12_2 hii haf_0 f_69_1_0 e_81 e_82 e_83 e_84 f_85_1_0 c_89 e_91)⟩
        · rintro ⟨w_38, w_39⟩ H locs ls ⟨hl, rfl, rfl, haf_0⟩
          refine lv_iload hx hb dX8_share_55 (lv_at hl 0 rfl) ?_
          refine lv_aload_n hx hb dX8_share_57 rfl (lv_at hl 5 rfl) ?_
          refine va_get (D := (dC, dI)) (ci := 8) (v := .ref m_st) (C := RX8) (T := TX8) (N := 24) hx hb hts i_X8_share_X8 hown hK hP 0 rfl rfl 5 (by decide) (hts _ mx_X8_share_3) (fun _ h9 => h9) rfl dX8_share_58 ?_
          refine lv_iconst (v := 4) hx hb dX8_share_61 (by decide) ?_
          refine va_iald hx hb hK hP 1 0 rfl rfl (by unfold vp_in; decide) dX8_share_62 ?_
          refine lv_topi (fun v_92 e_92 => ?_)
          obtain rfl : v_92 = (nI k9) := (e_92).trans hM.2.1
          refine lv_icmp_ge (tgt := 130) hx hb dX8_share_63 (by decide) (fun _ => ?_) (fun c_ => absurd ((nI_leI (a := k9) (b := k9) (by omega) (by omega)).mpr (by omega)) c_)
          refine lv_iload_n hx hb dX8_share_130 rfl (lv_at hl 7 rfl) ?_
          refine lv_aload_n hx hb dX8_share_131 rfl (lv_at hl 5 rfl) ?_
          refine va_get (D := (dC, dI)) (ci := 8) (v := .ref m_st) (C := RX8) (T := TX8) (N := 24) hx hb hts i_X8_share_X8 hown hK hP 0 rfl rfl 5 (by decide) (hts _ mx_X8_share_3) (fun _ h9 => h9) rfl dX8_share_132 ?_
          refine lv_bipush (v := 32) hx hb dX8_share_135 (by decide) ?_
          refine lv_iload_n hx hb dX8_share_137 rfl (lv_at hl 6 rfl) ?_
          refine lv_iadd hx hb dX8_share_138 ?_
          refine lv_topi (fun v_94 e_94 => ?_)
          obtain rfl : v_94 = (nI (32 + j_1)) := (e_94).trans (nI_add 32 j_1)
          refine va_iald hx hb hK hP 1 0 rfl rfl (vp_in_nI (by omega) (by omega)) dX8_share_139 ?_
          refine lv_topi (fun v_95 e_95 => ?_)
          have e_95 : v_95 = fs (32 + j_1) := e_95.trans (congrArg fs (nI_clamp (by omega)))
          refine lv_imul hx hb dX8_share_140 ?_
          refine lv_topi (fun v_96 e_96 => ?_)
          refine lv_iload hx hb dX8_share_141 (lv_at hl 3 rfl) ?_
          refine lv_idiv hx hb dX8_share_143 (nI_ne0 (by omega) (by omega)) ?_
          refine lv_topi (fun v_97 e_97 => ?_)
          refine lv_iload hx hb dX8_share_144 (lv_at hl 2 rfl) ?_
          refine lv_iload hx hb dX8_share_146 (lv_at hl 1 rfl) ?_
          refine lv_icmp_le (tgt := 155) hx hb dX8_share_148 (by decide) (fun c_98 => ?_) (fun c_98 => ?_)
          · skip
            refine lv_iconst (v := 0) hx hb dX8_share_155 (by decide) ?_
            refine lv_iadd hx hb dX8_share_156 ?_
            refine lv_topi (fun v_99 e_99 => ?_)
            exact W.iret (v := v_99) hx hb hr (fun t ht hW => ⟨v_99, rfl, (lf_X8_share_10 hM hT h999 hT0 hj_1 hkn1 hw1 h01 f_5_1_0 q_5 hj_5 hz_8_0 hz_8_1 f_9_1_0 hz_12_0 hz_12_1 hz_12_2 haf_0 e_95 e_96 e_97 c_98 e_99), ht⟩) (fun _ h => by cases h) dX8_share_157
          · skip
            refine lv_iconst (v := 1) hx hb dX8_share_151 (by decide) ?_
            refine lv_goto (tgt := 156) hx hb dX8_share_152 (by decide) ?_
            refine lv_iadd hx hb dX8_share_156 ?_
            refine lv_topi (fun v_100 e_100 => ?_)
            exact W.iret (v := v_100) hx hb hr (fun t ht hW => ⟨v_100, rfl, (lf_X8_share_11 hM hT h999 hT0 hj_1 hkn1 hw1 h01 f_5_1_0 q_5 hj_5 hz_8_0 hz_8_1 f_9_1_0 hz_12_0 hz_12_1 hz_12_2 haf_0 e_95 e_96 e_97 c_98 e_100), ht⟩) (fun _ h => by cases h) dX8_share_157
theorem lf_X8_byTurns_1 {mt : Int32} {ma : Nat} {fs : Nat → Int32} {w9 : Nat} {k9 : Nat} {h9 : Nat} {a0 : Int32} {a1 : Int32} (hM : okM fs w9 k9 h9) (hT : ¬ mt = 0 → 1 ≤ k9) (h999 : h9 ≤ 999) (hT0 : mt = 0 → fs 0 = 0 ∧ ma = 0) (c_1 : ¬ (mt = 0)) (hkn1 : 1 ≤ k9) (hw1 : 1 ≤ w9) (h01 : ¬ fs 0 = 0) (f_2_0_0 : ((a0).toInt64 < 0 ∨ 4 < (a0).toInt64)) (q_2 : (a0 < 0 ∨ 4 < a0)) : (-1000001) = (a_byt (m38 fs) a0 a1) := by
  first
  | exact byt_0 h00
  | exact byt_n h01 (Or.inl q_2)
  | exact byt_n h01 (Or.inr q_5)
theorem lf_X8_byTurns_2 {mt : Int32} {ma : Nat} {fs : Nat → Int32} {w9 : Nat} {k9 : Nat} {h9 : Nat} {a1 : Int32} {j_2 : Nat} (hM : okM fs w9 k9 h9) (hT : ¬ mt = 0 → 1 ≤ k9) (h999 : h9 ≤ 999) (hT0 : mt = 0 → fs 0 = 0 ∧ ma = 0) (c_1 : ¬ (mt = 0)) (hkn1 : 1 ≤ k9) (hw1 : 1 ≤ w9) (h01 : ¬ fs 0 = 0) (f_2_1_0 : (¬ (((nI j_2)).toInt64 < 0 ∨ 4 < ((nI j_2)).toInt64))) (q_2 : ¬ ((nI j_2) < 0 ∨ 4 < (nI j_2))) (hj_2 : j_2 ≤ 4) (f_5_0_0 : ((a1).toInt64 < 1 ∨ 20 < (a1).toInt64)) (q_5 : (a1 < 1 ∨ 20 < a1)) : (-1000001) = (a_byt (m38 fs) (nI j_2) a1) := by
  first
  | exact byt_0 h00
  | exact byt_n h01 (Or.inl q_2)
  | exact byt_n h01 (Or.inr q_5)
theorem lf_X8_byTurns_3 {mt : Int32} {ma : Nat} {fs : Nat → Int32} {w9 : Nat} {k9 : Nat} {h9 : Nat} {j_2 : Nat} {j_5 : Nat} {fan_8 : Nat → Int32} {sh : Nat} {z_11 : Nat} {w_122 : Nat → Int32} {w_123 : Nat → Int32} {ii : Nat} {w_271 : Nat → Int32} {ii1 : Nat} {v_308 : Int32} {v_309 : Int32} {v_312 : Int32} {g_313 : Nat → Int32} {v_315 : Int32} {g_316 : Nat → Int32} (hM : okM fs w9 k9 h9) (hT : ¬ mt = 0 → 1 ≤ k9) (h999 : h9 ≤ 999) (hT0 : mt = 0 → fs 0 = 0 ∧ ma = 0) (c_1 : ¬ (mt = 0)) (hkn1 : 1 ≤ k9) (hw1 : 1 ≤ w9) (h01 : ¬ fs 0 = 0) (f_2_1_0 : (¬ (((nI j_2)).toInt64 < 0 ∨ 4 < ((nI j_2)).toInt64))) (q_2 : ¬ ((nI j_2) < 0 ∨ 4 < (nI j_2))) (hj_2 : j_2 ≤ 4) (f_5_1_0 : (¬ (((nI j_5)).toInt64 < 1 ∨ 20 < ((nI j_5)).toInt64))) (q_5 : ¬ ((nI j_5) < 1 ∨ 20 < (nI j_5))) (hj_5 : j_5 ≤ 20) (hF_8_0 : (∀ j : Nat, j < 38 → fan_8 j = fs j)) (hsh : (1 : Int32) <<< (nI j_2 &&& 31) = nI sh) (hs4 : (j_2 ≤ 4 → sh ≤ 16)) (hz_11 : z_11 < w9) (hze_11 : z_11 = h9 % w9) (hii : ii < sh) (haf_0 : (∀ q : Nat, q < ii → w_122 q = wVV j_5 j_2 (m38 fs) j_2 q)) (haf_1 : (m38 w_123 = m38 fs)) (hii1 : ii1 < j_2) (haii1_0 : (m38 w_271 = plS (m38 fs) ii1 (ii / 2 ^ (j_2 - ii1)))) (hMl : okM w_271 w9 k9 h9) (e_308 : v_308 = ((nI j_2) - 1)) (e_309 : v_309 = (v_308 - (nI ii1))) (f_310_0_0 : ¬ hasB (nI ii) v_309) (e_312 : v_312 = w_271 6) (hu_313 : g_313 = upd w_271 6 v_312) (e_315 : v_315 = g_313 (8 + z_11)) (hu_316 : g_316 = upd g_313 (8 + z_11) v_315) : (m38 g_316 = plS (m38 fs) (ii1 + 1) (ii / 2 ^ (j_2 - (ii1 + 1)))) := by
  first
  | (rw [by_same e_312 hu_313 e_315 hu_316]; exact pl_no (pl_has hj_2 hii1 hsh (hs4 hj_2) hii e_308 e_309) f_310_0_0 hii1 haii1_0)
  | (exfalso; omega)
theorem lf_X8_byTurns_4 {mt : Int32} {ma : Nat} {fs : Nat → Int32} {w9 : Nat} {k9 : Nat} {h9 : Nat} {j_2 : Nat} {j_5 : Nat} {fan_8 : Nat → Int32} {sh : Nat} {z_11 : Nat} {w_122 : Nat → Int32} {w_123 : Nat → Int32} {ii : Nat} {w_271 : Nat → Int32} {ii1 : Nat} {v_308 : Int32} {v_309 : Int32} {z_318 : Nat} {v_320 : Int32} {g_321 : Nat → Int32} {z_323 : Nat} {v_325 : Int32} {g_326 : Nat → Int32} (hM : okM fs w9 k9 h9) (hT : ¬ mt = 0 → 1 ≤ k9) (h999 : h9 ≤ 999) (hT0 : mt = 0 → fs 0 = 0 ∧ ma = 0) (c_1 : ¬ (mt = 0)) (hkn1 : 1 ≤ k9) (hw1 : 1 ≤ w9) (h01 : ¬ fs 0 = 0) (f_2_1_0 : (¬ (((nI j_2)).toInt64 < 0 ∨ 4 < ((nI j_2)).toInt64))) (q_2 : ¬ ((nI j_2) < 0 ∨ 4 < (nI j_2))) (hj_2 : j_2 ≤ 4) (f_5_1_0 : (¬ (((nI j_5)).toInt64 < 1 ∨ 20 < ((nI j_5)).toInt64))) (q_5 : ¬ ((nI j_5) < 1 ∨ 20 < (nI j_5))) (hj_5 : j_5 ≤ 20) (hF_8_0 : (∀ j : Nat, j < 38 → fan_8 j = fs j)) (hsh : (1 : Int32) <<< (nI j_2 &&& 31) = nI sh) (hs4 : (j_2 ≤ 4 → sh ≤ 16)) (hz_11 : z_11 < w9) (hze_11 : z_11 = h9 % w9) (hii : ii < sh) (haf_0 : (∀ q : Nat, q < ii → w_122 q = wVV j_5 j_2 (m38 fs) j_2 q)) (haf_1 : (m38 w_123 = m38 fs)) (hii1 : ii1 < j_2) (haii1_0 : (m38 w_271 = plS (m38 fs) ii1 (ii / 2 ^ (j_2 - ii1)))) (hMl : okM w_271 w9 k9 h9) (e_308 : v_308 = ((nI j_2) - 1)) (e_309 : v_309 = (v_308 - (nI ii1))) (f_310_1_0 : hasB (nI ii) v_309) (hz_318 : z_318 < 2) (hze_318 : z_318 = ii1 % 2) (c_319 : ¬ (z_318 = 0)) (e_320 : v_320 = w_271 6) (hu_321 : g_321 = upd w_271 6 v_320) (hz_323 : z_323 < 2) (hze_323 : z_323 = ii1 % 2) (c_324 : ¬ (z_323 = 1)) (e_325 : v_325 = g_321 (8 + z_11)) (hu_326 : g_326 = upd g_321 (8 + z_11) v_325) : (m38 g_326 = plS (m38 fs) (ii1 + 1) (ii / 2 ^ (j_2 - (ii1 + 1)))) := by
  (exfalso; omega)
theorem lf_X8_byTurns_5 {mt : Int32} {ma : Nat} {fs : Nat → Int32} {w9 : Nat} {k9 : Nat} {h9 : Nat} {j_2 : Nat} {j_5 : Nat} {fan_8 : Nat → Int32} {sh : Nat} {z_11 : Nat} {w_122 : Nat → Int32} {w_123 : Nat → Int32} {ii : Nat} {w_271 : Nat → Int32} {ii1 : Nat} {v_308 : Int32} {v_309 : Int32} {z_318 : Nat} {v_320 : Int32} {g_321 : Nat → Int32} {z_323 : Nat} {v_327 : Int32} {v_328 : Int32} {g_329 : Nat → Int32} (hM : okM fs w9 k9 h9) (hT : ¬ mt = 0 → 1 ≤ k9) (h999 : h9 ≤ 999) (hT0 : mt = 0 → fs 0 = 0 ∧ ma = 0) (c_1 : ¬ (mt = 0)) (hkn1 : 1 ≤ k9) (hw1 : 1 ≤ w9) (h01 : ¬ fs 0 = 0) (f_2_1_0 : (¬ (((nI j_2)).toInt64 < 0 ∨ 4 < ((nI j_2)).toInt64))) (q_2 : ¬ ((nI j_2) < 0 ∨ 4 < (nI j_2))) (hj_2 : j_2 ≤ 4) (f_5_1_0 : (¬ (((nI j_5)).toInt64 < 1 ∨ 20 < ((nI j_5)).toInt64))) (q_5 : ¬ ((nI j_5) < 1 ∨ 20 < (nI j_5))) (hj_5 : j_5 ≤ 20) (hF_8_0 : (∀ j : Nat, j < 38 → fan_8 j = fs j)) (hsh : (1 : Int32) <<< (nI j_2 &&& 31) = nI sh) (hs4 : (j_2 ≤ 4 → sh ≤ 16)) (hz_11 : z_11 < w9) (hze_11 : z_11 = h9 % w9) (hii : ii < sh) (haf_0 : (∀ q : Nat, q < ii → w_122 q = wVV j_5 j_2 (m38 fs) j_2 q)) (haf_1 : (m38 w_123 = m38 fs)) (hii1 : ii1 < j_2) (haii1_0 : (m38 w_271 = plS (m38 fs) ii1 (ii / 2 ^ (j_2 - ii1)))) (hMl : okM w_271 w9 k9 h9) (e_308 : v_308 = ((nI j_2) - 1)) (e_309 : v_309 = (v_308 - (nI ii1))) (f_310_1_0 : hasB (nI ii) v_309) (hz_318 : z_318 < 2) (hze_318 : z_318 = ii1 % 2) (c_319 : ¬ (z_318 = 0)) (e_320 : v_320 = w_271 6) (hu_321 : g_321 = upd w_271 6 v_320) (hz_323 : z_323 < 2) (hze_323 : z_323 = ii1 % 2) (c_324 : z_323 = 1) (e_327 : v_327 = g_321 (8 + z_11)) (e_328 : v_328 = (4 - v_327)) (hu_329 : g_329 = upd g_321 (8 + z_11) v_328) : (m38 g_329 = plS (m38 fs) (ii1 + 1) (ii / 2 ^ (j_2 - (ii1 + 1)))) := by
  first
  | (exfalso; omega)
  | exact pl_ye (pl_has hj_2 hii1 hsh (hs4 hj_2) hii e_308 e_309) f_310_1_0 hii1 haii1_0 (by_wnd hMl hw1 h999 e_320 hu_321 e_327 e_328 hu_329 hze_11 (by omega))
theorem lf_X8_byTurns_6 {mt : Int32} {ma : Nat} {fs : Nat → Int32} {w9 : Nat} {k9 : Nat} {h9 : Nat} {j_2 : Nat} {j_5 : Nat} {fan_8 : Nat → Int32} {sh : Nat} {z_11 : Nat} {w_122 : Nat → Int32} {w_123 : Nat → Int32} {ii : Nat} {w_271 : Nat → Int32} {ii1 : Nat} {v_308 : Int32} {v_309 : Int32} {z_318 : Nat} {v_330 : Int32} {v_331 : Int32} {g_332 : Nat → Int32} {z_334 : Nat} {v_336 : Int32} {g_337 : Nat → Int32} (hM : okM fs w9 k9 h9) (hT : ¬ mt = 0 → 1 ≤ k9) (h999 : h9 ≤ 999) (hT0 : mt = 0 → fs 0 = 0 ∧ ma = 0) (c_1 : ¬ (mt = 0)) (hkn1 : 1 ≤ k9) (hw1 : 1 ≤ w9) (h01 : ¬ fs 0 = 0) (f_2_1_0 : (¬ (((nI j_2)).toInt64 < 0 ∨ 4 < ((nI j_2)).toInt64))) (q_2 : ¬ ((nI j_2) < 0 ∨ 4 < (nI j_2))) (hj_2 : j_2 ≤ 4) (f_5_1_0 : (¬ (((nI j_5)).toInt64 < 1 ∨ 20 < ((nI j_5)).toInt64))) (q_5 : ¬ ((nI j_5) < 1 ∨ 20 < (nI j_5))) (hj_5 : j_5 ≤ 20) (hF_8_0 : (∀ j : Nat, j < 38 → fan_8 j = fs j)) (hsh : (1 : Int32) <<< (nI j_2 &&& 31) = nI sh) (hs4 : (j_2 ≤ 4 → sh ≤ 16)) (hz_11 : z_11 < w9) (hze_11 : z_11 = h9 % w9) (hii : ii < sh) (haf_0 : (∀ q : Nat, q < ii → w_122 q = wVV j_5 j_2 (m38 fs) j_2 q)) (haf_1 : (m38 w_123 = m38 fs)) (hii1 : ii1 < j_2) (haii1_0 : (m38 w_271 = plS (m38 fs) ii1 (ii / 2 ^ (j_2 - ii1)))) (hMl : okM w_271 w9 k9 h9) (e_308 : v_308 = ((nI j_2) - 1)) (e_309 : v_309 = (v_308 - (nI ii1))) (f_310_1_0 : hasB (nI ii) v_309) (hz_318 : z_318 < 2) (hze_318 : z_318 = ii1 % 2) (c_319 : z_318 = 0) (e_330 : v_330 = w_271 6) (e_331 : v_331 = (1 - v_330)) (hu_332 : g_332 = upd w_271 6 v_331) (hz_334 : z_334 < 2) (hze_334 : z_334 = ii1 % 2) (c_335 : ¬ (z_334 = 1)) (e_336 : v_336 = g_332 (8 + z_11)) (hu_337 : g_337 = upd g_332 (8 + z_11) v_336) : (m38 g_337 = plS (m38 fs) (ii1 + 1) (ii / 2 ^ (j_2 - (ii1 + 1)))) := by
  first
  | (exfalso; omega)
  | exact pl_ye (pl_has hj_2 hii1 hsh (hs4 hj_2) hii e_308 e_309) f_310_1_0 hii1 haii1_0 (by_cap e_330 e_331 hu_332 e_336 hu_337 (by omega))
theorem lf_X8_byTurns_7 {mt : Int32} {ma : Nat} {fs : Nat → Int32} {w9 : Nat} {k9 : Nat} {h9 : Nat} {j_2 : Nat} {j_5 : Nat} {fan_8 : Nat → Int32} {sh : Nat} {z_11 : Nat} {w_122 : Nat → Int32} {w_123 : Nat → Int32} {ii : Nat} {w_271 : Nat → Int32} {ii1 : Nat} {v_308 : Int32} {v_309 : Int32} {z_318 : Nat} {v_330 : Int32} {v_331 : Int32} {g_332 : Nat → Int32} {z_334 : Nat} {v_338 : Int32} {v_339 : Int32} {g_340 : Nat → Int32} (hM : okM fs w9 k9 h9) (hT : ¬ mt = 0 → 1 ≤ k9) (h999 : h9 ≤ 999) (hT0 : mt = 0 → fs 0 = 0 ∧ ma = 0) (c_1 : ¬ (mt = 0)) (hkn1 : 1 ≤ k9) (hw1 : 1 ≤ w9) (h01 : ¬ fs 0 = 0) (f_2_1_0 : (¬ (((nI j_2)).toInt64 < 0 ∨ 4 < ((nI j_2)).toInt64))) (q_2 : ¬ ((nI j_2) < 0 ∨ 4 < (nI j_2))) (hj_2 : j_2 ≤ 4) (f_5_1_0 : (¬ (((nI j_5)).toInt64 < 1 ∨ 20 < ((nI j_5)).toInt64))) (q_5 : ¬ ((nI j_5) < 1 ∨ 20 < (nI j_5))) (hj_5 : j_5 ≤ 20) (hF_8_0 : (∀ j : Nat, j < 38 → fan_8 j = fs j)) (hsh : (1 : Int32) <<< (nI j_2 &&& 31) = nI sh) (hs4 : (j_2 ≤ 4 → sh ≤ 16)) (hz_11 : z_11 < w9) (hze_11 : z_11 = h9 % w9) (hii : ii < sh) (haf_0 : (∀ q : Nat, q < ii → w_122 q = wVV j_5 j_2 (m38 fs) j_2 q)) (haf_1 : (m38 w_123 = m38 fs)) (hii1 : ii1 < j_2) (haii1_0 : (m38 w_271 = plS (m38 fs) ii1 (ii / 2 ^ (j_2 - ii1)))) (hMl : okM w_271 w9 k9 h9) (e_308 : v_308 = ((nI j_2) - 1)) (e_309 : v_309 = (v_308 - (nI ii1))) (f_310_1_0 : hasB (nI ii) v_309) (hz_318 : z_318 < 2) (hze_318 : z_318 = ii1 % 2) (c_319 : z_318 = 0) (e_330 : v_330 = w_271 6) (e_331 : v_331 = (1 - v_330)) (hu_332 : g_332 = upd w_271 6 v_331) (hz_334 : z_334 < 2) (hze_334 : z_334 = ii1 % 2) (c_335 : z_334 = 1) (e_338 : v_338 = g_332 (8 + z_11)) (e_339 : v_339 = (4 - v_338)) (hu_340 : g_340 = upd g_332 (8 + z_11) v_339) : (m38 g_340 = plS (m38 fs) (ii1 + 1) (ii / 2 ^ (j_2 - (ii1 + 1)))) := by
  (exfalso; omega)
theorem lf_X8_byTurns_8 {mt : Int32} {ma : Nat} {fs : Nat → Int32} {w9 : Nat} {k9 : Nat} {h9 : Nat} {j_2 : Nat} {j_5 : Nat} {fan_8 : Nat → Int32} {sh : Nat} {z_11 : Nat} {w_122 : Nat → Int32} {w_123 : Nat → Int32} {ii : Nat} {w_271 : Nat → Int32} {fsn_342 : Nat → Int32} {r_342 : Int32} {g_343 : Nat → Int32} (hM : okM fs w9 k9 h9) (hT : ¬ mt = 0 → 1 ≤ k9) (h999 : h9 ≤ 999) (hT0 : mt = 0 → fs 0 = 0 ∧ ma = 0) (c_1 : ¬ (mt = 0)) (hkn1 : 1 ≤ k9) (hw1 : 1 ≤ w9) (h01 : ¬ fs 0 = 0) (f_2_1_0 : (¬ (((nI j_2)).toInt64 < 0 ∨ 4 < ((nI j_2)).toInt64))) (q_2 : ¬ ((nI j_2) < 0 ∨ 4 < (nI j_2))) (hj_2 : j_2 ≤ 4) (f_5_1_0 : (¬ (((nI j_5)).toInt64 < 1 ∨ 20 < ((nI j_5)).toInt64))) (q_5 : ¬ ((nI j_5) < 1 ∨ 20 < (nI j_5))) (hj_5 : j_5 ≤ 20) (hF_8_0 : (∀ j : Nat, j < 38 → fan_8 j = fs j)) (hsh : (1 : Int32) <<< (nI j_2 &&& 31) = nI sh) (hs4 : (j_2 ≤ 4 → sh ≤ 16)) (hz_11 : z_11 < w9) (hze_11 : z_11 = h9 % w9) (hii : ii < sh) (haf_0 : (∀ q : Nat, q < ii → w_122 q = wVV j_5 j_2 (m38 fs) j_2 q)) (haf_1 : (m38 w_123 = m38 fs)) (haii1_0 : (m38 w_271 = plS (m38 fs) j_2 (ii / 2 ^ (j_2 - j_2)))) (hMl : okM w_271 w9 k9 h9) (hF_342_0 : (∀ j_5 : Nat, j_5 < 38 → fsn_342 j_5 = fan_8 j_5)) (h_342 : r_342 = (mGo j_5 w_271 7)) (hu_343 : g_343 = upd w_122 ii r_342) : (∀ q : Nat, q < (ii + 1) → g_343 q = wVV j_5 j_2 (m38 fs) j_2 q) := by
  exact by_row hMl hw1 haf_0 haii1_0 h_342 hu_343
theorem lf_X8_byTurns_9 {mt : Int32} {ma : Nat} {fs : Nat → Int32} {w9 : Nat} {k9 : Nat} {h9 : Nat} {j_2 : Nat} {j_5 : Nat} {fan_8 : Nat → Int32} {sh : Nat} {z_11 : Nat} {w_122 : Nat → Int32} {w_123 : Nat → Int32} {v_346 : Int32} (hM : okM fs w9 k9 h9) (hT : ¬ mt = 0 → 1 ≤ k9) (h999 : h9 ≤ 999) (hT0 : mt = 0 → fs 0 = 0 ∧ ma = 0) (c_1 : ¬ (mt = 0)) (hkn1 : 1 ≤ k9) (hw1 : 1 ≤ w9) (h01 : ¬ fs 0 = 0) (f_2_1_0 : (¬ (((nI j_2)).toInt64 < 0 ∨ 4 < ((nI j_2)).toInt64))) (q_2 : ¬ ((nI j_2) < 0 ∨ 4 < (nI j_2))) (hj_2 : j_2 ≤ 4) (f_5_1_0 : (¬ (((nI j_5)).toInt64 < 1 ∨ 20 < ((nI j_5)).toInt64))) (q_5 : ¬ ((nI j_5) < 1 ∨ 20 < (nI j_5))) (hj_5 : j_5 ≤ 20) (hF_8_0 : (∀ j : Nat, j < 38 → fan_8 j = fs j)) (hsh : (1 : Int32) <<< (nI j_2 &&& 31) = nI sh) (hs4 : (j_2 ≤ 4 → sh ≤ 16)) (hz_11 : z_11 < w9) (hze_11 : z_11 = h9 % w9) (haf_0 : (∀ q : Nat, q < sh → w_122 q = wVV j_5 j_2 (m38 fs) j_2 q)) (haf_1 : (m38 w_123 = m38 fs)) (hMl : okM w_123 w9 k9 h9) (e_346 : v_346 = ((nI j_2) - 1)) : (∀ q : Nat, q < 2 ^ (j_2 - 0) → w_122 q = wVV j_5 j_2 (m38 fs) (j_2 - 0) q) := by
  exact by_i3 hj_2 hsh (hs4 hj_2) haf_0
theorem lf_X8_byTurns_10 {mt : Int32} {ma : Nat} {fs : Nat → Int32} {w9 : Nat} {k9 : Nat} {h9 : Nat} {j_2 : Nat} {j_5 : Nat} {fan_8 : Nat → Int32} {sh : Nat} {z_11 : Nat} {w_122 : Nat → Int32} {w_123 : Nat → Int32} {v_346 : Int32} {w_412 : Nat → Int32} {ii1 : Nat} {sd : Nat} {w_500 : Nat → Int32} {ii2 : Nat} {v_525 : Int32} {v_528 : Int32} {v_530 : Int32} {g_533 : Nat → Int32} (hM : okM fs w9 k9 h9) (hT : ¬ mt = 0 → 1 ≤ k9) (h999 : h9 ≤ 999) (hT0 : mt = 0 → fs 0 = 0 ∧ ma = 0) (c_1 : ¬ (mt = 0)) (hkn1 : 1 ≤ k9) (hw1 : 1 ≤ w9) (h01 : ¬ fs 0 = 0) (f_2_1_0 : (¬ (((nI j_2)).toInt64 < 0 ∨ 4 < ((nI j_2)).toInt64))) (q_2 : ¬ ((nI j_2) < 0 ∨ 4 < (nI j_2))) (hj_2 : j_2 ≤ 4) (f_5_1_0 : (¬ (((nI j_5)).toInt64 < 1 ∨ 20 < ((nI j_5)).toInt64))) (q_5 : ¬ ((nI j_5) < 1 ∨ 20 < (nI j_5))) (hj_5 : j_5 ≤ 20) (hF_8_0 : (∀ j : Nat, j < 38 → fan_8 j = fs j)) (hsh : (1 : Int32) <<< (nI j_2 &&& 31) = nI sh) (hs4 : (j_2 ≤ 4 → sh ≤ 16)) (hz_11 : z_11 < w9) (hze_11 : z_11 = h9 % w9) (haf_0 : (∀ q : Nat, q < sh → w_122 q = wVV j_5 j_2 (m38 fs) j_2 q)) (haf_1 : (m38 w_123 = m38 fs)) (e_346 : v_346 = ((nI j_2) - 1)) (hii1 : ii1 < j_2) (haii1_0 : (∀ q : Nat, q < 2 ^ (j_2 - ii1) → w_412 q = wVV j_5 j_2 (m38 fs) (j_2 - ii1) q)) (hsd : (1 : Int32) <<< (cdn j_2 ii1 &&& 31) = nI sd) (hsd8 : sd ≤ 8) (hii2 : ii2 < sd) (haii2_0 : (∀ q : Nat, q < ii2 → w_500 q = wVV j_5 j_2 (m38 fs) (j_2 - 1 - ii1) q)) (haii2_1 : (∀ q : Nat, 2 * ii2 ≤ q → q < 2 ^ (j_2 - ii1) → w_500 q = wVV j_5 j_2 (m38 fs) (j_2 - ii1) q)) (hMl : okM w_123 w9 k9 h9) (e_525 : v_525 = w_500 (2 * ii2)) (e_528 : v_528 = w_500 ((2 * ii2) + 1)) (c_529 : v_525 ≤ v_528) (e_530 : v_530 = ((cdn j_2 ii1) - (cdn j_2 ii1) / 2 * 2)) (c_531 : ¬ (v_530 = 0)) (hu_533 : g_533 = upd w_500 ii2 v_525) : (∀ q : Nat, q < (ii2 + 1) → g_533 q = wVV j_5 j_2 (m38 fs) (j_2 - 1 - ii1) q) := by
  exact by_4 haii2_0 hu_533 ((cmb_1 _ c_529 (ev_f (fun q => c_531 ((cd_2 hj_2 hii1 e_530).mpr q)))).trans (by_two hii1 (by rw [← by_sd hj_2 hii1 hsd hsd8]; exact hii2) haii2_1 e_525 e_528).symm)
theorem lf_X8_byTurns_11 {mt : Int32} {ma : Nat} {fs : Nat → Int32} {w9 : Nat} {k9 : Nat} {h9 : Nat} {j_2 : Nat} {j_5 : Nat} {fan_8 : Nat → Int32} {sh : Nat} {z_11 : Nat} {w_122 : Nat → Int32} {w_123 : Nat → Int32} {v_346 : Int32} {w_412 : Nat → Int32} {ii1 : Nat} {sd : Nat} {w_500 : Nat → Int32} {ii2 : Nat} {v_525 : Int32} {v_528 : Int32} {v_530 : Int32} {g_533 : Nat → Int32} (hM : okM fs w9 k9 h9) (hT : ¬ mt = 0 → 1 ≤ k9) (h999 : h9 ≤ 999) (hT0 : mt = 0 → fs 0 = 0 ∧ ma = 0) (c_1 : ¬ (mt = 0)) (hkn1 : 1 ≤ k9) (hw1 : 1 ≤ w9) (h01 : ¬ fs 0 = 0) (f_2_1_0 : (¬ (((nI j_2)).toInt64 < 0 ∨ 4 < ((nI j_2)).toInt64))) (q_2 : ¬ ((nI j_2) < 0 ∨ 4 < (nI j_2))) (hj_2 : j_2 ≤ 4) (f_5_1_0 : (¬ (((nI j_5)).toInt64 < 1 ∨ 20 < ((nI j_5)).toInt64))) (q_5 : ¬ ((nI j_5) < 1 ∨ 20 < (nI j_5))) (hj_5 : j_5 ≤ 20) (hF_8_0 : (∀ j : Nat, j < 38 → fan_8 j = fs j)) (hsh : (1 : Int32) <<< (nI j_2 &&& 31) = nI sh) (hs4 : (j_2 ≤ 4 → sh ≤ 16)) (hz_11 : z_11 < w9) (hze_11 : z_11 = h9 % w9) (haf_0 : (∀ q : Nat, q < sh → w_122 q = wVV j_5 j_2 (m38 fs) j_2 q)) (haf_1 : (m38 w_123 = m38 fs)) (e_346 : v_346 = ((nI j_2) - 1)) (hii1 : ii1 < j_2) (haii1_0 : (∀ q : Nat, q < 2 ^ (j_2 - ii1) → w_412 q = wVV j_5 j_2 (m38 fs) (j_2 - ii1) q)) (hsd : (1 : Int32) <<< (cdn j_2 ii1 &&& 31) = nI sd) (hsd8 : sd ≤ 8) (hii2 : ii2 < sd) (haii2_0 : (∀ q : Nat, q < ii2 → w_500 q = wVV j_5 j_2 (m38 fs) (j_2 - 1 - ii1) q)) (haii2_1 : (∀ q : Nat, 2 * ii2 ≤ q → q < 2 ^ (j_2 - ii1) → w_500 q = wVV j_5 j_2 (m38 fs) (j_2 - ii1) q)) (hMl : okM w_123 w9 k9 h9) (e_525 : v_525 = w_500 (2 * ii2)) (e_528 : v_528 = w_500 ((2 * ii2) + 1)) (c_529 : v_525 ≤ v_528) (e_530 : v_530 = ((cdn j_2 ii1) - (cdn j_2 ii1) / 2 * 2)) (c_531 : ¬ (v_530 = 0)) (hu_533 : g_533 = upd w_500 ii2 v_525) : (∀ q : Nat, 2 * (ii2 + 1) ≤ q → q < 2 ^ (j_2 - ii1) → g_533 q = wVV j_5 j_2 (m38 fs) (j_2 - ii1) q) := by
  exact by_5 haii2_1 hu_533
theorem lf_X8_byTurns_12 {mt : Int32} {ma : Nat} {fs : Nat → Int32} {w9 : Nat} {k9 : Nat} {h9 : Nat} {j_2 : Nat} {j_5 : Nat} {fan_8 : Nat → Int32} {sh : Nat} {z_11 : Nat} {w_122 : Nat → Int32} {w_123 : Nat → Int32} {v_346 : Int32} {w_412 : Nat → Int32} {ii1 : Nat} {sd : Nat} {w_500 : Nat → Int32} {ii2 : Nat} {v_525 : Int32} {v_528 : Int32} {v_530 : Int32} {g_535 : Nat → Int32} (hM : okM fs w9 k9 h9) (hT : ¬ mt = 0 → 1 ≤ k9) (h999 : h9 ≤ 999) (hT0 : mt = 0 → fs 0 = 0 ∧ ma = 0) (c_1 : ¬ (mt = 0)) (hkn1 : 1 ≤ k9) (hw1 : 1 ≤ w9) (h01 : ¬ fs 0 = 0) (f_2_1_0 : (¬ (((nI j_2)).toInt64 < 0 ∨ 4 < ((nI j_2)).toInt64))) (q_2 : ¬ ((nI j_2) < 0 ∨ 4 < (nI j_2))) (hj_2 : j_2 ≤ 4) (f_5_1_0 : (¬ (((nI j_5)).toInt64 < 1 ∨ 20 < ((nI j_5)).toInt64))) (q_5 : ¬ ((nI j_5) < 1 ∨ 20 < (nI j_5))) (hj_5 : j_5 ≤ 20) (hF_8_0 : (∀ j : Nat, j < 38 → fan_8 j = fs j)) (hsh : (1 : Int32) <<< (nI j_2 &&& 31) = nI sh) (hs4 : (j_2 ≤ 4 → sh ≤ 16)) (hz_11 : z_11 < w9) (hze_11 : z_11 = h9 % w9) (haf_0 : (∀ q : Nat, q < sh → w_122 q = wVV j_5 j_2 (m38 fs) j_2 q)) (haf_1 : (m38 w_123 = m38 fs)) (e_346 : v_346 = ((nI j_2) - 1)) (hii1 : ii1 < j_2) (haii1_0 : (∀ q : Nat, q < 2 ^ (j_2 - ii1) → w_412 q = wVV j_5 j_2 (m38 fs) (j_2 - ii1) q)) (hsd : (1 : Int32) <<< (cdn j_2 ii1 &&& 31) = nI sd) (hsd8 : sd ≤ 8) (hii2 : ii2 < sd) (haii2_0 : (∀ q : Nat, q < ii2 → w_500 q = wVV j_5 j_2 (m38 fs) (j_2 - 1 - ii1) q)) (haii2_1 : (∀ q : Nat, 2 * ii2 ≤ q → q < 2 ^ (j_2 - ii1) → w_500 q = wVV j_5 j_2 (m38 fs) (j_2 - ii1) q)) (hMl : okM w_123 w9 k9 h9) (e_525 : v_525 = w_500 (2 * ii2)) (e_528 : v_528 = w_500 ((2 * ii2) + 1)) (c_529 : v_525 ≤ v_528) (e_530 : v_530 = ((cdn j_2 ii1) - (cdn j_2 ii1) / 2 * 2)) (c_531 : v_530 = 0) (hu_535 : g_535 = upd w_500 ii2 v_528) : (∀ q : Nat, q < (ii2 + 1) → g_535 q = wVV j_5 j_2 (m38 fs) (j_2 - 1 - ii1) q) := by
  exact by_4 haii2_0 hu_535 ((cmb_2 _ c_529 ((cd_2 hj_2 hii1 e_530).mp c_531)).trans (by_two hii1 (by rw [← by_sd hj_2 hii1 hsd hsd8]; exact hii2) haii2_1 e_525 e_528).symm)
theorem lf_X8_byTurns_13 {mt : Int32} {ma : Nat} {fs : Nat → Int32} {w9 : Nat} {k9 : Nat} {h9 : Nat} {j_2 : Nat} {j_5 : Nat} {fan_8 : Nat → Int32} {sh : Nat} {z_11 : Nat} {w_122 : Nat → Int32} {w_123 : Nat → Int32} {v_346 : Int32} {w_412 : Nat → Int32} {ii1 : Nat} {sd : Nat} {w_500 : Nat → Int32} {ii2 : Nat} {v_525 : Int32} {v_528 : Int32} {v_530 : Int32} {g_535 : Nat → Int32} (hM : okM fs w9 k9 h9) (hT : ¬ mt = 0 → 1 ≤ k9) (h999 : h9 ≤ 999) (hT0 : mt = 0 → fs 0 = 0 ∧ ma = 0) (c_1 : ¬ (mt = 0)) (hkn1 : 1 ≤ k9) (hw1 : 1 ≤ w9) (h01 : ¬ fs 0 = 0) (f_2_1_0 : (¬ (((nI j_2)).toInt64 < 0 ∨ 4 < ((nI j_2)).toInt64))) (q_2 : ¬ ((nI j_2) < 0 ∨ 4 < (nI j_2))) (hj_2 : j_2 ≤ 4) (f_5_1_0 : (¬ (((nI j_5)).toInt64 < 1 ∨ 20 < ((nI j_5)).toInt64))) (q_5 : ¬ ((nI j_5) < 1 ∨ 20 < (nI j_5))) (hj_5 : j_5 ≤ 20) (hF_8_0 : (∀ j : Nat, j < 38 → fan_8 j = fs j)) (hsh : (1 : Int32) <<< (nI j_2 &&& 31) = nI sh) (hs4 : (j_2 ≤ 4 → sh ≤ 16)) (hz_11 : z_11 < w9) (hze_11 : z_11 = h9 % w9) (haf_0 : (∀ q : Nat, q < sh → w_122 q = wVV j_5 j_2 (m38 fs) j_2 q)) (haf_1 : (m38 w_123 = m38 fs)) (e_346 : v_346 = ((nI j_2) - 1)) (hii1 : ii1 < j_2) (haii1_0 : (∀ q : Nat, q < 2 ^ (j_2 - ii1) → w_412 q = wVV j_5 j_2 (m38 fs) (j_2 - ii1) q)) (hsd : (1 : Int32) <<< (cdn j_2 ii1 &&& 31) = nI sd) (hsd8 : sd ≤ 8) (hii2 : ii2 < sd) (haii2_0 : (∀ q : Nat, q < ii2 → w_500 q = wVV j_5 j_2 (m38 fs) (j_2 - 1 - ii1) q)) (haii2_1 : (∀ q : Nat, 2 * ii2 ≤ q → q < 2 ^ (j_2 - ii1) → w_500 q = wVV j_5 j_2 (m38 fs) (j_2 - ii1) q)) (hMl : okM w_123 w9 k9 h9) (e_525 : v_525 = w_500 (2 * ii2)) (e_528 : v_528 = w_500 ((2 * ii2) + 1)) (c_529 : v_525 ≤ v_528) (e_530 : v_530 = ((cdn j_2 ii1) - (cdn j_2 ii1) / 2 * 2)) (c_531 : v_530 = 0) (hu_535 : g_535 = upd w_500 ii2 v_528) : (∀ q : Nat, 2 * (ii2 + 1) ≤ q → q < 2 ^ (j_2 - ii1) → g_535 q = wVV j_5 j_2 (m38 fs) (j_2 - ii1) q) := by
  exact by_5 haii2_1 hu_535
theorem lf_X8_byTurns_14 {mt : Int32} {ma : Nat} {fs : Nat → Int32} {w9 : Nat} {k9 : Nat} {h9 : Nat} {j_2 : Nat} {j_5 : Nat} {fan_8 : Nat → Int32} {sh : Nat} {z_11 : Nat} {w_122 : Nat → Int32} {w_123 : Nat → Int32} {v_346 : Int32} {w_412 : Nat → Int32} {ii1 : Nat} {sd : Nat} {w_500 : Nat → Int32} {ii2 : Nat} {v_525 : Int32} {v_528 : Int32} {v_536 : Int32} {g_539 : Nat → Int32} (hM : okM fs w9 k9 h9) (hT : ¬ mt = 0 → 1 ≤ k9) (h999 : h9 ≤ 999) (hT0 : mt = 0 → fs 0 = 0 ∧ ma = 0) (c_1 : ¬ (mt = 0)) (hkn1 : 1 ≤ k9) (hw1 : 1 ≤ w9) (h01 : ¬ fs 0 = 0) (f_2_1_0 : (¬ (((nI j_2)).toInt64 < 0 ∨ 4 < ((nI j_2)).toInt64))) (q_2 : ¬ ((nI j_2) < 0 ∨ 4 < (nI j_2))) (hj_2 : j_2 ≤ 4) (f_5_1_0 : (¬ (((nI j_5)).toInt64 < 1 ∨ 20 < ((nI j_5)).toInt64))) (q_5 : ¬ ((nI j_5) < 1 ∨ 20 < (nI j_5))) (hj_5 : j_5 ≤ 20) (hF_8_0 : (∀ j : Nat, j < 38 → fan_8 j = fs j)) (hsh : (1 : Int32) <<< (nI j_2 &&& 31) = nI sh) (hs4 : (j_2 ≤ 4 → sh ≤ 16)) (hz_11 : z_11 < w9) (hze_11 : z_11 = h9 % w9) (haf_0 : (∀ q : Nat, q < sh → w_122 q = wVV j_5 j_2 (m38 fs) j_2 q)) (haf_1 : (m38 w_123 = m38 fs)) (e_346 : v_346 = ((nI j_2) - 1)) (hii1 : ii1 < j_2) (haii1_0 : (∀ q : Nat, q < 2 ^ (j_2 - ii1) → w_412 q = wVV j_5 j_2 (m38 fs) (j_2 - ii1) q)) (hsd : (1 : Int32) <<< (cdn j_2 ii1 &&& 31) = nI sd) (hsd8 : sd ≤ 8) (hii2 : ii2 < sd) (haii2_0 : (∀ q : Nat, q < ii2 → w_500 q = wVV j_5 j_2 (m38 fs) (j_2 - 1 - ii1) q)) (haii2_1 : (∀ q : Nat, 2 * ii2 ≤ q → q < 2 ^ (j_2 - ii1) → w_500 q = wVV j_5 j_2 (m38 fs) (j_2 - ii1) q)) (hMl : okM w_123 w9 k9 h9) (e_525 : v_525 = w_500 (2 * ii2)) (e_528 : v_528 = w_500 ((2 * ii2) + 1)) (c_529 : ¬ (v_525 ≤ v_528)) (e_536 : v_536 = ((cdn j_2 ii1) - (cdn j_2 ii1) / 2 * 2)) (c_537 : ¬ (v_536 = 0)) (hu_539 : g_539 = upd w_500 ii2 v_528) : (∀ q : Nat, q < (ii2 + 1) → g_539 q = wVV j_5 j_2 (m38 fs) (j_2 - 1 - ii1) q) := by
  exact by_4 haii2_0 hu_539 ((cmb_3 _ c_529 (ev_f (fun q => c_537 ((cd_2 hj_2 hii1 e_536).mpr q)))).trans (by_two hii1 (by rw [← by_sd hj_2 hii1 hsd hsd8]; exact hii2) haii2_1 e_525 e_528).symm)
theorem lf_X8_byTurns_15 {mt : Int32} {ma : Nat} {fs : Nat → Int32} {w9 : Nat} {k9 : Nat} {h9 : Nat} {j_2 : Nat} {j_5 : Nat} {fan_8 : Nat → Int32} {sh : Nat} {z_11 : Nat} {w_122 : Nat → Int32} {w_123 : Nat → Int32} {v_346 : Int32} {w_412 : Nat → Int32} {ii1 : Nat} {sd : Nat} {w_500 : Nat → Int32} {ii2 : Nat} {v_525 : Int32} {v_528 : Int32} {v_536 : Int32} {g_539 : Nat → Int32} (hM : okM fs w9 k9 h9) (hT : ¬ mt = 0 → 1 ≤ k9) (h999 : h9 ≤ 999) (hT0 : mt = 0 → fs 0 = 0 ∧ ma = 0) (c_1 : ¬ (mt = 0)) (hkn1 : 1 ≤ k9) (hw1 : 1 ≤ w9) (h01 : ¬ fs 0 = 0) (f_2_1_0 : (¬ (((nI j_2)).toInt64 < 0 ∨ 4 < ((nI j_2)).toInt64))) (q_2 : ¬ ((nI j_2) < 0 ∨ 4 < (nI j_2))) (hj_2 : j_2 ≤ 4) (f_5_1_0 : (¬ (((nI j_5)).toInt64 < 1 ∨ 20 < ((nI j_5)).toInt64))) (q_5 : ¬ ((nI j_5) < 1 ∨ 20 < (nI j_5))) (hj_5 : j_5 ≤ 20) (hF_8_0 : (∀ j : Nat, j < 38 → fan_8 j = fs j)) (hsh : (1 : Int32) <<< (nI j_2 &&& 31) = nI sh) (hs4 : (j_2 ≤ 4 → sh ≤ 16)) (hz_11 : z_11 < w9) (hze_11 : z_11 = h9 % w9) (haf_0 : (∀ q : Nat, q < sh → w_122 q = wVV j_5 j_2 (m38 fs) j_2 q)) (haf_1 : (m38 w_123 = m38 fs)) (e_346 : v_346 = ((nI j_2) - 1)) (hii1 : ii1 < j_2) (haii1_0 : (∀ q : Nat, q < 2 ^ (j_2 - ii1) → w_412 q = wVV j_5 j_2 (m38 fs) (j_2 - ii1) q)) (hsd : (1 : Int32) <<< (cdn j_2 ii1 &&& 31) = nI sd) (hsd8 : sd ≤ 8) (hii2 : ii2 < sd) (haii2_0 : (∀ q : Nat, q < ii2 → w_500 q = wVV j_5 j_2 (m38 fs) (j_2 - 1 - ii1) q)) (haii2_1 : (∀ q : Nat, 2 * ii2 ≤ q → q < 2 ^ (j_2 - ii1) → w_500 q = wVV j_5 j_2 (m38 fs) (j_2 - ii1) q)) (hMl : okM w_123 w9 k9 h9) (e_525 : v_525 = w_500 (2 * ii2)) (e_528 : v_528 = w_500 ((2 * ii2) + 1)) (c_529 : ¬ (v_525 ≤ v_528)) (e_536 : v_536 = ((cdn j_2 ii1) - (cdn j_2 ii1) / 2 * 2)) (c_537 : ¬ (v_536 = 0)) (hu_539 : g_539 = upd w_500 ii2 v_528) : (∀ q : Nat, 2 * (ii2 + 1) ≤ q → q < 2 ^ (j_2 - ii1) → g_539 q = wVV j_5 j_2 (m38 fs) (j_2 - ii1) q) := by
  exact by_5 haii2_1 hu_539
theorem lf_X8_byTurns_16 {mt : Int32} {ma : Nat} {fs : Nat → Int32} {w9 : Nat} {k9 : Nat} {h9 : Nat} {j_2 : Nat} {j_5 : Nat} {fan_8 : Nat → Int32} {sh : Nat} {z_11 : Nat} {w_122 : Nat → Int32} {w_123 : Nat → Int32} {v_346 : Int32} {w_412 : Nat → Int32} {ii1 : Nat} {sd : Nat} {w_500 : Nat → Int32} {ii2 : Nat} {v_525 : Int32} {v_528 : Int32} {v_536 : Int32} {g_541 : Nat → Int32} (hM : okM fs w9 k9 h9) (hT : ¬ mt = 0 → 1 ≤ k9) (h999 : h9 ≤ 999) (hT0 : mt = 0 → fs 0 = 0 ∧ ma = 0) (c_1 : ¬ (mt = 0)) (hkn1 : 1 ≤ k9) (hw1 : 1 ≤ w9) (h01 : ¬ fs 0 = 0) (f_2_1_0 : (¬ (((nI j_2)).toInt64 < 0 ∨ 4 < ((nI j_2)).toInt64))) (q_2 : ¬ ((nI j_2) < 0 ∨ 4 < (nI j_2))) (hj_2 : j_2 ≤ 4) (f_5_1_0 : (¬ (((nI j_5)).toInt64 < 1 ∨ 20 < ((nI j_5)).toInt64))) (q_5 : ¬ ((nI j_5) < 1 ∨ 20 < (nI j_5))) (hj_5 : j_5 ≤ 20) (hF_8_0 : (∀ j : Nat, j < 38 → fan_8 j = fs j)) (hsh : (1 : Int32) <<< (nI j_2 &&& 31) = nI sh) (hs4 : (j_2 ≤ 4 → sh ≤ 16)) (hz_11 : z_11 < w9) (hze_11 : z_11 = h9 % w9) (haf_0 : (∀ q : Nat, q < sh → w_122 q = wVV j_5 j_2 (m38 fs) j_2 q)) (haf_1 : (m38 w_123 = m38 fs)) (e_346 : v_346 = ((nI j_2) - 1)) (hii1 : ii1 < j_2) (haii1_0 : (∀ q : Nat, q < 2 ^ (j_2 - ii1) → w_412 q = wVV j_5 j_2 (m38 fs) (j_2 - ii1) q)) (hsd : (1 : Int32) <<< (cdn j_2 ii1 &&& 31) = nI sd) (hsd8 : sd ≤ 8) (hii2 : ii2 < sd) (haii2_0 : (∀ q : Nat, q < ii2 → w_500 q = wVV j_5 j_2 (m38 fs) (j_2 - 1 - ii1) q)) (haii2_1 : (∀ q : Nat, 2 * ii2 ≤ q → q < 2 ^ (j_2 - ii1) → w_500 q = wVV j_5 j_2 (m38 fs) (j_2 - ii1) q)) (hMl : okM w_123 w9 k9 h9) (e_525 : v_525 = w_500 (2 * ii2)) (e_528 : v_528 = w_500 ((2 * ii2) + 1)) (c_529 : ¬ (v_525 ≤ v_528)) (e_536 : v_536 = ((cdn j_2 ii1) - (cdn j_2 ii1) / 2 * 2)) (c_537 : v_536 = 0) (hu_541 : g_541 = upd w_500 ii2 v_525) : (∀ q : Nat, q < (ii2 + 1) → g_541 q = wVV j_5 j_2 (m38 fs) (j_2 - 1 - ii1) q) := by
  exact by_4 haii2_0 hu_541 ((cmb_4 _ c_529 ((cd_2 hj_2 hii1 e_536).mp c_537)).trans (by_two hii1 (by rw [← by_sd hj_2 hii1 hsd hsd8]; exact hii2) haii2_1 e_525 e_528).symm)
theorem lf_X8_byTurns_17 {mt : Int32} {ma : Nat} {fs : Nat → Int32} {w9 : Nat} {k9 : Nat} {h9 : Nat} {j_2 : Nat} {j_5 : Nat} {fan_8 : Nat → Int32} {sh : Nat} {z_11 : Nat} {w_122 : Nat → Int32} {w_123 : Nat → Int32} {v_346 : Int32} {w_412 : Nat → Int32} {ii1 : Nat} {sd : Nat} {w_500 : Nat → Int32} {ii2 : Nat} {v_525 : Int32} {v_528 : Int32} {v_536 : Int32} {g_541 : Nat → Int32} (hM : okM fs w9 k9 h9) (hT : ¬ mt = 0 → 1 ≤ k9) (h999 : h9 ≤ 999) (hT0 : mt = 0 → fs 0 = 0 ∧ ma = 0) (c_1 : ¬ (mt = 0)) (hkn1 : 1 ≤ k9) (hw1 : 1 ≤ w9) (h01 : ¬ fs 0 = 0) (f_2_1_0 : (¬ (((nI j_2)).toInt64 < 0 ∨ 4 < ((nI j_2)).toInt64))) (q_2 : ¬ ((nI j_2) < 0 ∨ 4 < (nI j_2))) (hj_2 : j_2 ≤ 4) (f_5_1_0 : (¬ (((nI j_5)).toInt64 < 1 ∨ 20 < ((nI j_5)).toInt64))) (q_5 : ¬ ((nI j_5) < 1 ∨ 20 < (nI j_5))) (hj_5 : j_5 ≤ 20) (hF_8_0 : (∀ j : Nat, j < 38 → fan_8 j = fs j)) (hsh : (1 : Int32) <<< (nI j_2 &&& 31) = nI sh) (hs4 : (j_2 ≤ 4 → sh ≤ 16)) (hz_11 : z_11 < w9) (hze_11 : z_11 = h9 % w9) (haf_0 : (∀ q : Nat, q < sh → w_122 q = wVV j_5 j_2 (m38 fs) j_2 q)) (haf_1 : (m38 w_123 = m38 fs)) (e_346 : v_346 = ((nI j_2) - 1)) (hii1 : ii1 < j_2) (haii1_0 : (∀ q : Nat, q < 2 ^ (j_2 - ii1) → w_412 q = wVV j_5 j_2 (m38 fs) (j_2 - ii1) q)) (hsd : (1 : Int32) <<< (cdn j_2 ii1 &&& 31) = nI sd) (hsd8 : sd ≤ 8) (hii2 : ii2 < sd) (haii2_0 : (∀ q : Nat, q < ii2 → w_500 q = wVV j_5 j_2 (m38 fs) (j_2 - 1 - ii1) q)) (haii2_1 : (∀ q : Nat, 2 * ii2 ≤ q → q < 2 ^ (j_2 - ii1) → w_500 q = wVV j_5 j_2 (m38 fs) (j_2 - ii1) q)) (hMl : okM w_123 w9 k9 h9) (e_525 : v_525 = w_500 (2 * ii2)) (e_528 : v_528 = w_500 ((2 * ii2) + 1)) (c_529 : ¬ (v_525 ≤ v_528)) (e_536 : v_536 = ((cdn j_2 ii1) - (cdn j_2 ii1) / 2 * 2)) (c_537 : v_536 = 0) (hu_541 : g_541 = upd w_500 ii2 v_525) : (∀ q : Nat, 2 * (ii2 + 1) ≤ q → q < 2 ^ (j_2 - ii1) → g_541 q = wVV j_5 j_2 (m38 fs) (j_2 - ii1) q) := by
  exact by_5 haii2_1 hu_541
theorem lf_X8_byTurns_18 {mt : Int32} {ma : Nat} {fs : Nat → Int32} {w9 : Nat} {k9 : Nat} {h9 : Nat} {j_2 : Nat} {j_5 : Nat} {fan_8 : Nat → Int32} {sh : Nat} {z_11 : Nat} {w_122 : Nat → Int32} {w_123 : Nat → Int32} {v_346 : Int32} {w_412 : Nat → Int32} {ii1 : Nat} {sd : Nat} {w_500 : Nat → Int32} (hM : okM fs w9 k9 h9) (hT : ¬ mt = 0 → 1 ≤ k9) (h999 : h9 ≤ 999) (hT0 : mt = 0 → fs 0 = 0 ∧ ma = 0) (c_1 : ¬ (mt = 0)) (hkn1 : 1 ≤ k9) (hw1 : 1 ≤ w9) (h01 : ¬ fs 0 = 0) (f_2_1_0 : (¬ (((nI j_2)).toInt64 < 0 ∨ 4 < ((nI j_2)).toInt64))) (q_2 : ¬ ((nI j_2) < 0 ∨ 4 < (nI j_2))) (hj_2 : j_2 ≤ 4) (f_5_1_0 : (¬ (((nI j_5)).toInt64 < 1 ∨ 20 < ((nI j_5)).toInt64))) (q_5 : ¬ ((nI j_5) < 1 ∨ 20 < (nI j_5))) (hj_5 : j_5 ≤ 20) (hF_8_0 : (∀ j : Nat, j < 38 → fan_8 j = fs j)) (hsh : (1 : Int32) <<< (nI j_2 &&& 31) = nI sh) (hs4 : (j_2 ≤ 4 → sh ≤ 16)) (hz_11 : z_11 < w9) (hze_11 : z_11 = h9 % w9) (haf_0 : (∀ q : Nat, q < sh → w_122 q = wVV j_5 j_2 (m38 fs) j_2 q)) (haf_1 : (m38 w_123 = m38 fs)) (e_346 : v_346 = ((nI j_2) - 1)) (hii1 : ii1 < j_2) (haii1_0 : (∀ q : Nat, q < 2 ^ (j_2 - ii1) → w_412 q = wVV j_5 j_2 (m38 fs) (j_2 - ii1) q)) (hsd : (1 : Int32) <<< (cdn j_2 ii1 &&& 31) = nI sd) (hsd8 : sd ≤ 8) (haii2_0 : (∀ q : Nat, q < sd → w_500 q = wVV j_5 j_2 (m38 fs) (j_2 - 1 - ii1) q)) (haii2_1 : (∀ q : Nat, 2 * sd ≤ q → q < 2 ^ (j_2 - ii1) → w_500 q = wVV j_5 j_2 (m38 fs) (j_2 - ii1) q)) (hMl : okM w_123 w9 k9 h9) : (∀ q : Nat, q < 2 ^ (j_2 - (ii1 + 1)) → w_500 q = wVV j_5 j_2 (m38 fs) (j_2 - (ii1 + 1)) q) := by
  exact by_3 hj_2 hii1 hsd hsd8 haii2_0
theorem lf_X8_byTurns_19 {mt : Int32} {ma : Nat} {fs : Nat → Int32} {w9 : Nat} {k9 : Nat} {h9 : Nat} {j_2 : Nat} {j_5 : Nat} {fan_8 : Nat → Int32} {sh : Nat} {z_11 : Nat} {w_122 : Nat → Int32} {w_123 : Nat → Int32} {v_346 : Int32} {w_412 : Nat → Int32} {v_545 : Int32} (hM : okM fs w9 k9 h9) (hT : ¬ mt = 0 → 1 ≤ k9) (h999 : h9 ≤ 999) (hT0 : mt = 0 → fs 0 = 0 ∧ ma = 0) (c_1 : ¬ (mt = 0)) (hkn1 : 1 ≤ k9) (hw1 : 1 ≤ w9) (h01 : ¬ fs 0 = 0) (f_2_1_0 : (¬ (((nI j_2)).toInt64 < 0 ∨ 4 < ((nI j_2)).toInt64))) (q_2 : ¬ ((nI j_2) < 0 ∨ 4 < (nI j_2))) (hj_2 : j_2 ≤ 4) (f_5_1_0 : (¬ (((nI j_5)).toInt64 < 1 ∨ 20 < ((nI j_5)).toInt64))) (q_5 : ¬ ((nI j_5) < 1 ∨ 20 < (nI j_5))) (hj_5 : j_5 ≤ 20) (hF_8_0 : (∀ j : Nat, j < 38 → fan_8 j = fs j)) (hsh : (1 : Int32) <<< (nI j_2 &&& 31) = nI sh) (hs4 : (j_2 ≤ 4 → sh ≤ 16)) (hz_11 : z_11 < w9) (hze_11 : z_11 = h9 % w9) (haf_0 : (∀ q : Nat, q < sh → w_122 q = wVV j_5 j_2 (m38 fs) j_2 q)) (haf_1 : (m38 w_123 = m38 fs)) (e_346 : v_346 = ((nI j_2) - 1)) (haii1_0 : (∀ q : Nat, q < 2 ^ (j_2 - j_2) → w_412 q = wVV j_5 j_2 (m38 fs) (j_2 - j_2) q)) (hMl : okM w_123 w9 k9 h9) (e_545 : v_545 = w_412 0) : v_545 = (a_byt (m38 fs) (nI j_2) (nI j_5)) := by
  first
  | exact byt_0 h00
  | exact byt_n h01 (Or.inl q_2)
  | exact byt_n h01 (Or.inr q_5)
  | exact by_e h01 q_2 q_5 hj_2 hj_5 haii1_0 e_545
theorem lf_X8_byTurns_20 {mt : Int32} {ma : Nat} {fs : Nat → Int32} {w9 : Nat} {k9 : Nat} {h9 : Nat} {a0 : Int32} {a1 : Int32} (hM : okM fs w9 k9 h9) (hT : ¬ mt = 0 → 1 ≤ k9) (h999 : h9 ≤ 999) (hT0 : mt = 0 → fs 0 = 0 ∧ ma = 0) (c_1 : mt = 0) (h00 : fs 0 = 0) : (-1000002) = (a_byt (m38 fs) a0 a1) := by
  first
  | exact byt_0 h00
  | exact byt_n h01 (Or.inl q_2)
  | exact byt_n h01 (Or.inr q_5)
set_option maxHeartbeats 4000000 in
set_option maxRecDepth 100000 in
theorem r_X8_byTurns (l : Launch) (dC : Nat → ClassId) (dI : Nat → Nat → Nat) (cI cZ cL cJ : ClassId) (sz : Nat) (mo : Nat) (m_la : Nat) (m_sz : Nat) (m_it : Nat) (m_st : Nat) (m_mv : Nat) (m_tp : Nat) (m_rd : Nat) (m_ac : Nat) (m_as : Nat) (m_wo : Nat) (m_ik : Nat) (m_ke : Nat) (m_tr : Nat) (ms : Int32) (mt : Int32) (ml : Int32) (mk : Int32) (mv : Int32) (mb : Int32) (mw : Int32) (mz : Nat) (mp : Nat) (ma : Nat) (mx : Nat) (fs : Nat → Int32) (w9 : Nat) (k9 : Nat) (h9 : Nat) (fa : Nat → Int32) (fw : Nat → Int32) (a0 : Int32) (a1 : Int32) (hM : okM fs w9 k9 h9) (hT : ¬ mt = 0 → 1 ≤ k9) (h999 : h9 ≤ 999) (hT0 : mt = 0 → fs 0 = 0 ∧ ma = 0) : Met l yX8_byTurns wsX8_byTurns ({ frames := 6, cells := 0, slots := 0, locals := 139 }) (va_Pc [.ref mo, .int a0, .int a1] (fun U => U.heap.size = sz ∧ va_P (dC, dI) vwCl [(xo_8_rrriirrriiiiiiirrirrrrri mo m_la m_sz m_it ms mt m_st m_mv m_tp (nI mz) ml (nI mp) mk mv mb mw m_rd m_ac (nI ma) m_as m_wo m_ik m_ke m_tr (nI mx)), (xI m_st cI 38 fs), (xI m_as cI 38 fa), (xI m_wo cI 16 fw)] U.heap ∧ va_K (dC, dI) vwCl [(cI, .int), (cZ, .boolean), (cL, .object RX3), (cJ, .array .int)] U ∧ va_D (fun _ => True) [(xo_8_rrriirrriiiiiiirrirrrrri mo m_la m_sz m_it ms mt m_st m_mv m_tp (nI mz) ml (nI mp) mk mv mb mw m_rd m_ac (nI ma) m_as m_wo m_ik m_ke m_tr (nI mx)), (xI m_st cI 38 fs), (xI m_as cI 38 fa), (xI m_wo cI 16 fw)])) (va_Qi (fun r (_ : Unit) => r = (a_byt (m38 fs) a0 a1)) (fun (_ : Unit) t => ∃ (fsn : Nat → Int32) (fan : Nat → Int32) (fwn : Nat → Int32), va_P (dC, dI) vwCl [(xo_8_rrriirrriiiiiiirrirrrrri mo m_la m_sz m_it ms mt m_st m_mv m_tp (nI mz) ml (nI mp) mk mv mb mw m_rd m_ac (nI ma) m_as m_wo m_ik m_ke m_tr (nI mx)), (xI m_st cI 38 fsn), (xI m_as cI 38 fan), (xI m_wo cI 16 fwn)] t.heap ∧ va_D (va_A [(xo_8_rrriirrriiiiiiirrirrrrri mo m_la m_sz m_it ms mt m_st m_mv m_tp (nI mz) ml (nI mp) mk mv mb mw m_rd m_ac (nI ma) m_as m_wo m_ik m_ke m_tr (nI mx)), (xI m_st cI 38 fs), (xI m_as cI 38 fa), (xI m_wo cI 16 fw)] sz) [(xo_8_rrriirrriiiiiiirrirrrrri mo m_la m_sz m_it ms mt m_st m_mv m_tp (nI mz) ml (nI mp) mk mv mb mw m_rd m_ac (nI ma) m_as m_wo m_ik m_ke m_tr (nI mx)), (xI m_st cI 38 fsn), (xI m_as cI 38 fan), (xI m_wo cI 16 fwn)] ∧ okM fsn w9 k9 h9 ∧ m38 fsn = m38 fs) (va_A [(xo_8_rrriirrriiiiiiirrirrrrri mo m_la m_sz m_it ms mt m_st m_mv m_tp (nI mz) ml (nI mp) mk mv mb mw m_rd m_ac (nI ma) m_as m_wo m_ik m_ke m_tr (nI mx)), (xI m_st cI 38 fs), (xI m_as cI 38 fa), (xI m_wo cI 16 fw)] sz)) 0 0 (va_A [(xo_8_rrriirrriiiiiiirrirrrrri mo m_la m_sz m_it ms mt m_st m_mv m_tp (nI mz) ml (nI mp) mk mv mb mw m_rd m_ac (nI ma) m_as m_wo m_ik m_ke m_tr (nI mx)), (xI m_st cI 38 fs), (xI m_as cI 38 fa), (xI m_wo cI 16 fw)] sz) := by
  refine Met.ofW (cc := cX8_byTurns) (maxL := 8) (ret := (some .int)) (by decide) rfl ?_
  intro p e s m args below meth c s₁ B hml hv
  obtain ⟨rfl, hsz, hP, hK, hD0⟩ := hv
  have hx := B.exec
  have hb := B.bytes
  have hr := B.returns
  have hts := atoms_spec (ws := wsX8_byTurns) B.pre
  have hown : s.vm.findClass RX8 = some m.cls := findClass_of_methodNamed B.named
  have hlocks := B.notSynchronized
  subst hsz
  have hD := hD0.self (sz := s.heap.size)
  generalize hAe : va_A [(xo_8_rrriirrriiiiiiirrirrrrri mo m_la m_sz m_it ms mt m_st m_mv m_tp (nI mz) ml (nI mp) mk mv mb mw m_rd m_ac (nI ma) m_as m_wo m_ik m_ke m_tr (nI mx)), (xI m_st cI 38 fs), (xI m_as cI 38 fa), (xI m_wo cI 16 fw)] s.heap.size = A at hD ⊢
  have hA : ∀ q : Nat, s.heap.size ≤ q → A q := fun q h => by rw [← hAe]; exact Or.inr h
  have hS : va_S A s.heap s.heap [] := va_S.rf
  have hP : va_P (dC, dI) vwCl [(xo_8_rrriirrriiiiiiirrirrrrri mo m_la m_sz m_it ms mt m_st m_mv m_tp (nI mz) ml (nI mp) mk mv mb mw m_rd m_ac (nI ma) m_as m_wo m_ik m_ke m_tr (nI mx)), (xI m_st cI 38 fs), (xI m_as cI 38 fa), (xI m_wo cI 16 fw)] s.heap := hP
  have hl := lv_entry ([.ref mo, .int a0, .int a1]) (n := 8) (Nat.le_of_ble_eq_true rfl)
  rw [lg_entry_eq]
  generalize (lg_sl ([.ref mo, .int a0, .int a1]) ++ List.replicate (8 - (lg_sl ([.ref mo, .int a0, .int a1])).length) Slot.unset).toArray = ls at hl ⊢
  have hl : lv_has ls 8 [(0, .ref mo), (1, .int a0), (2, .int a1)] := hl
  have hk6 := hM.2.2.2.2.1
  have hw6 := hM.2.2.2.1
  refine lv_aload_n hx hb dX8_byTurns_0 rfl (lv_at hl 0 rfl) ?_
  refine va_get (D := (dC, dI)) (ci := 8) (v := .int mt) (C := RX8) (T := TX8) (N := 24) hx hb hts i_X8_byTurns_X8 hown hK hP 0 rfl rfl 4 (by decide) (hts _ mx_X8_byTurns_1) (fun _ h9 => h9) rfl dX8_byTurns_1 ?_
  refine lv_if_ne (tgt := 10) hx hb dX8_byTurns_4 (by decide) (fun c_1 => ?_) (fun c_1 => ?_)
  · skip
    have hkn1 := hT c_1
    have hw1 := hM.2.2.2.2.2.1.mp hkn1
    have h01 : ¬ fs 0 = 0 := cell_nz hM hkn1
    refine lv_iload_n hx hb dX8_byTurns_10 rfl (lv_at hl 1 rfl) ?_
    refine lv_i2l hx hb dX8_byTurns_11 rfl ?_
    refine lv_lconst (v := 0) hx hb dX8_byTurns_12 (by decide) ?_
    refine lv_ldc2 (own := RX8) (v := 4) hx hb hown (hts _ mx_X8_byTurns_3) dX8_byTurns_13 ?_
    have hPc_2 := hP.sub (ws' := []) [] rfl
    refine vp_callSi (W.runS (As := [.long (a0).toInt64, .long 0, .long 4]) (rest := []) ⟨hx, hb, hml, hown, hts⟩ (r_X8_in l dC dI cI cZ cL cJ ((a0).toInt64) 0 4 ) (va_cwS 3 hts gX8_byTurns_X8_in rfl rfl rfl (by decide +kernel) ⟨Nat.le_of_ble_eq_true rfl, Nat.le_of_ble_eq_true rfl⟩) (psP hK hPc_2) rfl rfl hl.1 rfl (lv_room (Nat.le_of_ble_eq_true rfl)) dX8_byTurns_16 ⟨Nat.le_of_ble_eq_true rfl, Nat.le_of_ble_eq_true rfl⟩) (fun r_2 h_2 => ?_)
    rcases h_2 with ⟨h_2, f_2_0_0⟩ | ⟨h_2, f_2_1_0⟩
    · subst h_2
      have q_2 : (a0 < 0 ∨ 4 < a0) := (in32 (x := a0) (l := 0) (u := 4) (by decide) (by decide)).mp f_2_0_0
      refine lv_if_eq (tgt := 34) hx hb dX8_byTurns_19 (by decide) (fun _ => ?_) (fun c_ => absurd (by decide) c_)
      refine lv_ldc (own := RX8) (v := (-1000001)) hx hb hown (hts _ mx_X8_byTurns_5) dX8_byTurns_34 ?_
      have hX9 := cut2 (wc := [(xo_8_rrriirrriiiiiiirrirrrrri mo m_la m_sz m_it ms mt m_st m_mv m_tp (nI mz) ml (nI mp) mk mv mb mw m_rd m_ac (nI ma) m_as m_wo m_ik m_ke m_tr (nI mx)), (xI m_st cI 38 fs), (xI m_as cI 38 fa), (xI m_wo cI 16 fw)]) hP hD [0, 1, 2, 3] (by decide +kernel) rfl
      exact W.iret (v := (-1000001)) hx hb hr (fun t ht hW => ⟨⟨(-1000001), (), rfl, (lf_X8_byTurns_1 hM hT h999 hT0 c_1 hkn1 hw1 h01 f_2_0_0 q_2), ⟨fs, fa, fw, va_Ht ht hX9.1, hX9.2, hM, rfl⟩⟩, hS.F ht⟩) hS.2.2 dX8_byTurns_36
    · subst h_2
      have q_2 : ¬ (a0 < 0 ∨ 4 < a0) := fun q_ => f_2_1_0 ((in32 (x := a0) (l := 0) (u := 4) (by decide) (by decide)).mpr q_)
      obtain ⟨j_2, hj_2, hl_2, rfl⟩ := in64 (lo := 0) (n := 4) rfl rfl (by decide) f_2_1_0
      refine lv_if_eq (tgt := 34) hx hb dX8_byTurns_19 (by decide) (fun c_ => absurd c_ (by decide)) (fun _ => ?_)
      refine lv_iload_n hx hb dX8_byTurns_22 rfl (lv_at hl 2 rfl) ?_
      refine lv_i2l hx hb dX8_byTurns_23 rfl ?_
      refine lv_lconst (v := 1) hx hb dX8_byTurns_24 (by decide) ?_
      refine lv_ldc2 (own := RX8) (v := 20) hx hb hown (hts _ mx_X8_byTurns_4) dX8_byTurns_25 ?_
      have hPc_5 := hP.sub (ws' := []) [] rfl
      refine vp_callSi (W.runS (As := [.long (a1).toInt64, .long 1, .long 20]) (rest := []) ⟨hx, hb, hml, hown, hts⟩ (r_X8_in l dC dI cI cZ cL cJ ((a1).toInt64) 1 20 ) (va_cwS 3 hts gX8_byTurns_X8_in rfl rfl rfl (by decide +kernel) ⟨Nat.le_of_ble_eq_true rfl, Nat.le_of_ble_eq_true rfl⟩) (psP hK hPc_5) rfl rfl hl.1 rfl (lv_room (Nat.le_of_ble_eq_true rfl)) dX8_byTurns_28 ⟨Nat.le_of_ble_eq_true rfl, Nat.le_of_ble_eq_true rfl⟩) (fun r_5 h_5 => ?_)
      rcases h_5 with ⟨h_5, f_5_0_0⟩ | ⟨h_5, f_5_1_0⟩
      · subst h_5
        have q_5 : (a1 < 1 ∨ 20 < a1) := (in32 (x := a1) (l := 1) (u := 20) (by decide) (by decide)).mp f_5_0_0
        refine lv_if_ne (tgt := 37) hx hb dX8_byTurns_31 (by decide) (fun c_ => absurd (by decide) c_) (fun _ => ?_)
        refine lv_ldc (own := RX8) (v := (-1000001)) hx hb hown (hts _ mx_X8_byTurns_5) dX8_byTurns_34 ?_
        have hX9 := cut2 (wc := [(xo_8_rrriirrriiiiiiirrirrrrri mo m_la m_sz m_it ms mt m_st m_mv m_tp (nI mz) ml (nI mp) mk mv mb mw m_rd m_ac (nI ma) m_as m_wo m_ik m_ke m_tr (nI mx)), (xI m_st cI 38 fs), (xI m_as cI 38 fa), (xI m_wo cI 16 fw)]) hP hD [0, 1, 2, 3] (by decide +kernel) rfl
        exact W.iret (v := (-1000001)) hx hb hr (fun t ht hW => ⟨⟨(-1000001), (), rfl, (lf_X8_byTurns_2 hM hT h999 hT0 c_1 hkn1 hw1 h01 f_2_1_0 q_2 hj_2 f_5_0_0 q_5), ⟨fs, fa, fw, va_Ht ht hX9.1, hX9.2, hM, rfl⟩⟩, hS.F ht⟩) hS.2.2 dX8_byTurns_36
      · subst h_5
        have q_5 : ¬ (a1 < 1 ∨ 20 < a1) := fun q_ => f_5_1_0 ((in32 (x := a1) (l := 1) (u := 20) (by decide) (by decide)).mpr q_)
        obtain ⟨j_5, hj_5, hl_5, rfl⟩ := in64 (lo := 1) (n := 20) rfl rfl (by decide) f_5_1_0
        refine lv_if_ne (tgt := 37) hx hb dX8_byTurns_31 (by decide) (fun _ => ?_) (fun c_ => absurd c_ (by decide))
        refine lv_aload_n hx hb dX8_byTurns_37 rfl (lv_at hl 0 rfl) ?_
        have hc_8 := cutW (wc := [(xo_8_rrriirrriiiiiiirrirrrrri mo m_la m_sz m_it ms mt m_st m_mv m_tp (nI mz) ml (nI mp) mk mv mb mw m_rd m_ac (nI ma) m_as m_wo m_ik m_ke m_tr (nI mx)), (xI m_st cI 38 fs), (xI m_as cI 38 fa)]) hP hD hS hA [0, 1, 2] (by decide +kernel) rfl
        refine va_callv (va_runV (As := []) (rest := []) ⟨hx, hb, hml, hown, hts⟩ (r_X8_putAside l dC dI cI cZ cL cJ s.heap.size mo m_la m_sz m_it m_st m_mv m_tp m_rd m_ac m_as m_wo m_ik m_ke m_tr ms mt ml mk mv mb mw mz mp ma mx fs fa ) (cwV 0 hts gX8_byTurns_X8_putAside rfl rfl rfl (by decide +kernel) ⟨Nat.le_of_ble_eq_true rfl, Nat.le_of_ble_eq_true rfl⟩) (pvW 8 0 hK hP rfl rfl hc_8) rfl rfl hl.1 rfl (lv_room (Nat.le_of_ble_eq_true rfl)) dX8_byTurns_38 ⟨Nat.le_of_ble_eq_true rfl, Nat.le_of_ble_eq_true rfl⟩) hS (fun q _ h => hc_8.2.2 q h) hc_8.2.2 (fun u_8 t_8 H1 locs ht hvm h_8 hB hz1 hk1 hS => ?_)
        refine xl_1_3 hB (fun fan_8 hP1 hD1 hF_8_0 => ?_)
        clear hB
        rw [ht] at hP1
        obtain ⟨hP, hD⟩ := va_join (wr := [(xI m_wo cI 16 fw)]) (w1 := [(xo_8_rrriirrriiiiiiirrirrrrri mo m_la m_sz m_it ms mt m_st m_mv m_tp (nI mz) ml (nI mp) mk mv mb mw m_rd m_ac (nI ma) m_as m_wo m_ik m_ke m_tr (nI mx)), (xI m_st cI 38 fs), (xI m_as cI 38 fan_8)]) hP hD [0, 1, 2] [3] rfl rfl (by decide +kernel) (by decide +kernel) hk1 hc_8.2.2 hP1 hD1
        generalize H1 = H at hP hS ⊢
        have hP : va_P (dC, dI) vwCl [(xI m_wo cI 16 fw), (xo_8_rrriirrriiiiiiirrirrrrri mo m_la m_sz m_it ms mt m_st m_mv m_tp (nI mz) ml (nI mp) mk mv mb mw m_rd m_ac (nI ma) m_as m_wo m_ik m_ke m_tr (nI mx)), (xI m_st cI 38 fs), (xI m_as cI 38 fan_8)] H := hP
        have hD := dto hP hD
        have hA_8 := okM_eq hM hF_8_0
        obtain ⟨sh, hsh, hsb, hs4, hs5, hs6⟩ := shl8 j_2 (by omega)
        refine lv_bipush (v := 8) hx hb dX8_byTurns_41 (by decide) ?_
        refine lv_aload_n hx hb dX8_byTurns_43 rfl (lv_at hl 0 rfl) ?_
        refine va_get (D := (dC, dI)) (ci := 8) (v := .ref m_st) (C := RX8) (T := TX8) (N := 24) hx hb hts i_X8_byTurns_X8 hown hK hP 1 rfl rfl 5 (by decide) (hts _ mx_X8_byTurns_6) (fun _ h9 => h9) rfl dX8_byTurns_44 ?_
        refine lv_iconst (v := 5) hx hb dX8_byTurns_47 (by decide) ?_
        refine va_iald hx hb hK hP 2 0 rfl rfl (by unfold vp_in; decide) dX8_byTurns_48 ?_
        refine lv_topi (fun v_9 e_9 => ?_)
        obtain rfl : v_9 = (nI h9) := (e_9).trans hM.2.2.1
        refine lv_aload_n hx hb dX8_byTurns_49 rfl (lv_at hl 0 rfl) ?_
        refine va_get (D := (dC, dI)) (ci := 8) (v := .ref m_st) (C := RX8) (T := TX8) (N := 24) hx hb hts i_X8_byTurns_X8 hown hK hP 1 rfl rfl 5 (by decide) (hts _ mx_X8_byTurns_6) (fun _ h9 => h9) rfl dX8_byTurns_50 ?_
        refine lv_iconst (v := 3) hx hb dX8_byTurns_53 (by decide) ?_
        refine va_iald hx hb hK hP 2 0 rfl rfl (by unfold vp_in; decide) dX8_byTurns_54 ?_
        refine lv_topi (fun v_10 e_10 => ?_)
        obtain rfl : v_10 = (nI w9) := (e_10).trans hM.1
        refine lv_irem hx hb dX8_byTurns_55 (nI_ne0 (by omega) (by omega)) ?_
        refine lv_topi (fun v_11 e_11 => ?_)
        obtain ⟨z_11, hz_11, hze_11, rfl⟩ : ∃ z : Nat, z < w9 ∧ z = h9 % w9 ∧ v_11 = nI z := ⟨h9 % w9, Nat.mod_lt _ (by omega), rfl, e_11.trans (pk_rem (a := h9) (d := w9) (by omega) (by omega) (by omega))⟩
        refine lv_iadd hx hb dX8_byTurns_56 ?_
        refine lv_topi (fun v_12 e_12 => ?_)
        obtain rfl : v_12 = (nI (8 + z_11)) := (e_12).trans (nI_add 8 z_11)
        refine lv_istore_n (lv' := [(3, .int (nI (8 + z_11))), (0, .ref mo), (1, .int (nI j_2)), (2, .int (nI j_5))]) hx hb dX8_byTurns_57 rfl hl (by decide) rfl (fun ls hl => ?_)
        refine lv_iconst (v := 0) hx hb dX8_byTurns_58 (by decide) ?_
        refine lv_istore (lv' := [(4, .int 0), (3, .int (nI (8 + z_11))), (0, .ref mo), (1, .int (nI j_2)), (2, .int (nI j_5))]) hx hb dX8_byTurns_59 hl (by decide) rfl (fun ls hl => ?_)
        refine lp_go (σ := (Nat → Int32) × (Nat → Int32)) (fun ii (st : (Nat → Int32) × (Nat → Int32)) H locs ls => match st with | (w_122, w_123) => lv_has ls 8 [(4, .int (nI ii)), (3, .int (nI (8 + z_11))), (0, .ref mo), (1, .int (nI j_2)), (2, .int (nI j_5))] ∧ va_P (dC, dI) vwCl [(xI m_wo cI 16 w_122), (xo_8_rrriirrriiiiiiirrirrrrri mo m_la m_sz m_it ms mt m_st m_mv m_tp (nI mz) ml (nI mp) mk mv mb mw m_rd m_ac (nI ma) m_as m_wo m_ik m_ke m_tr (nI mx)), (xI m_st cI 38 w_123), (xI m_as cI 38 fan_8)] H ∧ va_D A [(xI m_wo cI 16 w_122), (xo_8_rrriirrriiiiiiirrirrrrri mo m_la m_sz m_it ms mt m_st m_mv m_tp (nI mz) ml (nI mp) mk mv mb mw m_rd m_ac (nI ma) m_as m_wo m_ik m_ke m_tr (nI mx)), (xI m_st cI 38 w_123), (xI m_as cI 38 fan_8)] ∧ va_S A s.heap H locs ∧ okM w_123 w9 k9 h9 ∧ (∀ q : Nat, q < ii → w_122 q = wVV j_5 j_2 (m38 fs) j_2 q) ∧ (m38 w_123 = m38 fs)) sh ?_ ?_ 0 (by omega) (fw, fs) ⟨lv_sub hl [0, 1, 2, 3, 4] rfl, hP.sub (ws' := [(xI m_wo cI 16 fw), (xo_8_rrriirrriiiiiiirrirrrrri mo m_la m_sz m_it ms mt m_st m_mv m_tp (nI mz) ml (nI mp) mk mv mb mw m_rd m_ac (nI ma) m_as m_wo m_ik m_ke m_tr (nI mx)), (xI m_st cI 38 fs), (xI m_as cI 38 fan_8)]) [0, 1, 2, 3] rfl, hD.sub (ws' := [(xI m_wo cI 16 fw), (xo_8_rrriirrriiiiiiirrirrrrri mo m_la m_sz m_it ms mt m_st m_mv m_tp (nI mz) ml (nI mp) mk mv mb mw m_rd m_ac (nI ma) m_as m_wo m_ik m_ke m_tr (nI mx)), (xI m_st cI 38 fs), (xI m_as cI 38 fan_8)]) [0, 1, 2, 3] (by decide +kernel) rfl, hS, hM, (fun q h_ => absurd h_ (Nat.not_lt_zero q)), rfl⟩
        · rintro ii ⟨w_122, w_123⟩ H locs ls hii ⟨hl, hP, hD, hS, hMl, haf_0, haf_1⟩ ih
          refine lv_iload hx hb dX8_byTurns_61 (lv_at hl 0 rfl) ?_
          refine lv_iconst (v := 1) hx hb dX8_byTurns_63 (by decide) ?_
          refine lv_iload_n hx hb dX8_byTurns_64 rfl (lv_at hl 3 rfl) ?_
          refine lv_ishl hx hb dX8_byTurns_65 ?_
          refine lv_topi (fun v_235 e_235 => ?_)
          obtain rfl : v_235 = (nI sh) := (e_235).trans hsh
          refine lv_icmp_ge (tgt := 189) hx hb dX8_byTurns_66 (by decide) (fun c_ => absurd c_ (fun q_ => absurd ((nI_leI (a := sh) (b := ii) (by omega) (by omega)).mp q_) (by omega))) (fun _ => ?_)
          refine lv_iconst (v := 0) hx hb dX8_byTurns_69 (by decide) ?_
          refine lv_istore (lv' := [(5, .int 0), (4, .int (nI ii)), (3, .int (nI (8 + z_11))), (0, .ref mo), (1, .int (nI j_2)), (2, .int (nI j_5))]) hx hb dX8_byTurns_70 hl (by decide) rfl (fun ls hl => ?_)
          refine lp_go (σ := (Nat → Int32)) (fun ii1 (st : (Nat → Int32)) H locs ls => match st with | w_271 => lv_has ls 8 [(5, .int (nI ii1)), (4, .int (nI ii)), (3, .int (nI (8 + z_11))), (0, .ref mo), (1, .int (nI j_2)), (2, .int (nI j_5))] ∧ va_P (dC, dI) vwCl [(xI m_wo cI 16 w_122), (xo_8_rrriirrriiiiiiirrirrrrri mo m_la m_sz m_it ms mt m_st m_mv m_tp (nI mz) ml (nI mp) mk mv mb mw m_rd m_ac (nI ma) m_as m_wo m_ik m_ke m_tr (nI mx)), (xI m_st cI 38 w_271), (xI m_as cI 38 fan_8)] H ∧ va_D A [(xI m_wo cI 16 w_122), (xo_8_rrriirrriiiiiiirrirrrrri mo m_la m_sz m_it ms mt m_st m_mv m_tp (nI mz) ml (nI mp) mk mv mb mw m_rd m_ac (nI ma) m_as m_wo m_ik m_ke m_tr (nI mx)), (xI m_st cI 38 w_271), (xI m_as cI 38 fan_8)] ∧ va_S A s.heap H locs ∧ okM w_271 w9 k9 h9 ∧ (m38 w_271 = plS (m38 fs) ii1 (ii / 2 ^ (j_2 - ii1)))) j_2 ?_ ?_ 0 (by omega) (w_123) ⟨lv_sub hl [0, 1, 2, 3, 4, 5] rfl, hP.sub (ws' := [(xI m_wo cI 16 w_122), (xo_8_rrriirrriiiiiiirrirrrrri mo m_la m_sz m_it ms mt m_st m_mv m_tp (nI mz) ml (nI mp) mk mv mb mw m_rd m_ac (nI ma) m_as m_wo m_ik m_ke m_tr (nI mx)), (xI m_st cI 38 w_123), (xI m_as cI 38 fan_8)]) [0, 1, 2, 3] rfl, hD.sub (ws' := [(xI m_wo cI 16 w_122), (xo_8_rrriirrriiiiiiirrirrrrri mo m_la m_sz m_it ms mt m_st m_mv m_tp (nI mz) ml (nI mp) mk mv mb mw m_rd m_ac (nI ma) m_as m_wo m_ik m_ke m_tr (nI mx)), (xI m_st cI 38 w_123), (xI m_as cI 38 fan_8)]) [0, 1, 2, 3] (by decide +kernel) rfl, hS, hMl, haf_1⟩
          · rintro ii1 w_271 H locs ls hii1 ⟨hl, hP, hD, hS, hMl, haii1_0⟩ ih
            refine lv_iload hx hb dX8_byTurns_72 (lv_at hl 0 rfl) ?_
            refine lv_iload_n hx hb dX8_byTurns_74 rfl (lv_at hl 4 rfl) ?_
            refine lv_icmp_ge (tgt := 171) hx hb dX8_byTurns_75 (by decide) (fun c_ => absurd c_ (fun q_ => absurd ((nI_leI (a := j_2) (b := ii1) (by omega) (by omega)).mp q_) (by omega))) (fun _ => ?_)
            refine lv_iload hx hb dX8_byTurns_78 (lv_at hl 1 rfl) ?_
            refine lv_iload_n hx hb dX8_byTurns_80 rfl (lv_at hl 4 rfl) ?_
            refine lv_iconst (v := 1) hx hb dX8_byTurns_81 (by decide) ?_
            refine lv_isub hx hb dX8_byTurns_82 ?_
            refine lv_topi (fun v_308 e_308 => ?_)
            refine lv_iload hx hb dX8_byTurns_83 (lv_at hl 0 rfl) ?_
            refine lv_isub hx hb dX8_byTurns_85 ?_
            refine lv_topi (fun v_309 e_309 => ?_)
            have hPc_310 := hP.sub (ws' := []) [] rfl
            refine vp_callSi (W.runS (As := [.int (nI ii), .int v_309]) (rest := []) ⟨hx, hb, hml, hown, hts⟩ (r_X8_has l dC dI cI cZ cL cJ (nI ii) v_309 ) (va_cwS 2 hts gX8_byTurns_X8_has rfl rfl rfl (by decide +kernel) ⟨Nat.le_of_ble_eq_true rfl, Nat.le_of_ble_eq_true rfl⟩) (psP hK hPc_310) rfl rfl hl.1 rfl (lv_room (Nat.le_of_ble_eq_true rfl)) dX8_byTurns_86 ⟨Nat.le_of_ble_eq_true rfl, Nat.le_of_ble_eq_true rfl⟩) (fun r_310 h_310 => ?_)
            rcases h_310 with ⟨h_310, f_310_0_0⟩ | ⟨h_310, f_310_1_0⟩
            · subst h_310
              refine lv_istore (lv' := [(6, .int 0), (5, .int (nI ii1)), (4, .int (nI ii)), (3, .int (nI (8 + z_11))), (0, .ref mo), (1, .int (nI j_2)), (2, .int (nI j_5))]) hx hb dX8_byTurns_89 hl (by decide) rfl (fun ls hl => ?_)
              refine lv_aload_n hx hb dX8_byTurns_91 rfl (lv_at hl 4 rfl) ?_
              refine va_get (D := (dC, dI)) (ci := 8) (v := .ref m_st) (C := RX8) (T := TX8) (N := 24) hx hb hts i_X8_byTurns_X8 hown hK hP 1 rfl rfl 5 (by decide) (hts _ mx_X8_byTurns_6) (fun _ h9 => h9) rfl dX8_byTurns_92 ?_
              refine lv_bipush (v := 6) hx hb dX8_byTurns_95 (by decide) ?_
              refine lv_iload hx hb dX8_byTurns_97 (lv_at hl 0 rfl) ?_
              refine lv_if_eq (tgt := 121) hx hb dX8_byTurns_99 (by decide) (fun _ => ?_) (fun c_ => absurd (by decide) c_)
              refine lv_aload_n hx hb dX8_byTurns_121 rfl (lv_at hl 4 rfl) ?_
              refine va_get (D := (dC, dI)) (ci := 8) (v := .ref m_st) (C := RX8) (T := TX8) (N := 24) hx hb hts i_X8_byTurns_X8 hown hK hP 1 rfl rfl 5 (by decide) (hts _ mx_X8_byTurns_6) (fun _ h9 => h9) rfl dX8_byTurns_122 ?_
              refine lv_bipush (v := 6) hx hb dX8_byTurns_125 (by decide) ?_
              refine va_iald hx hb hK hP 2 0 rfl rfl (by unfold vp_in; decide) dX8_byTurns_127 ?_
              refine lv_topi (fun v_312 e_312 => ?_)
              have e_312 : v_312 = w_271 6 := e_312
              refine va_iast hx hb hK hP hD hS 2 0 rfl rfl (by unfold vp_in; decide) dX8_byTurns_128 (fun H locs hP hD hS => ?_)
              generalize hg_313 : upd w_271 (6 : Int32).toNatClampNeg v_312 = g_313 at hP hD
              have hu_313 : g_313 = upd w_271 6 v_312 := hg_313.symm
              have hM_313 : okM g_313 w9 k9 h9 := okM_off (i := 6) hMl hg_313 (by omega) (by omega) (by omega) (by omega) (by omega)
              have hP : va_P (dC, dI) vwCl [(xI m_wo cI 16 w_122), (xo_8_rrriirrriiiiiiirrirrrrri mo m_la m_sz m_it ms mt m_st m_mv m_tp (nI mz) ml (nI mp) mk mv mb mw m_rd m_ac (nI ma) m_as m_wo m_ik m_ke m_tr (nI mx)), (xI m_st cI 38 g_313), (xI m_as cI 38 fan_8)] H := hP
              have hD := dto hP hD
              refine lv_aload_n hx hb dX8_byTurns_129 rfl (lv_at hl 4 rfl) ?_
              refine va_get (D := (dC, dI)) (ci := 8) (v := .ref m_st) (C := RX8) (T := TX8) (N := 24) hx hb hts i_X8_byTurns_X8 hown hK hP 1 rfl rfl 5 (by decide) (hts _ mx_X8_byTurns_6) (fun _ h9 => h9) rfl dX8_byTurns_130 ?_
              refine lv_iload_n hx hb dX8_byTurns_133 rfl (lv_at hl 3 rfl) ?_
              refine lv_iload hx hb dX8_byTurns_134 (lv_at hl 0 rfl) ?_
              refine lv_if_eq (tgt := 158) hx hb dX8_byTurns_136 (by decide) (fun _ => ?_) (fun c_ => absurd (by decide) c_)
              refine lv_aload_n hx hb dX8_byTurns_158 rfl (lv_at hl 4 rfl) ?_
              refine va_get (D := (dC, dI)) (ci := 8) (v := .ref m_st) (C := RX8) (T := TX8) (N := 24) hx hb hts i_X8_byTurns_X8 hown hK hP 1 rfl rfl 5 (by decide) (hts _ mx_X8_byTurns_6) (fun _ h9 => h9) rfl dX8_byTurns_159 ?_
              refine lv_iload_n hx hb dX8_byTurns_162 rfl (lv_at hl 3 rfl) ?_
              refine va_iald hx hb hK hP 2 0 rfl rfl (vp_in_nI (by omega) (by omega)) dX8_byTurns_163 ?_
              refine lv_topi (fun v_315 e_315 => ?_)
              have e_315 : v_315 = g_313 (8 + z_11) := e_315.trans (congrArg g_313 (nI_clamp (by omega)))
              refine va_iast hx hb hK hP hD hS 2 0 rfl rfl (vp_in_nI (by omega) (by omega)) dX8_byTurns_164 (fun H locs hP hD hS => ?_)
              generalize hg_316 : upd g_313 ((nI (8 + z_11)) : Int32).toNatClampNeg v_315 = g_316 at hP hD
              have hu_316 : g_316 = upd g_313 (8 + z_11) v_315 := (by rw [← hg_316, nI_clamp (by omega)])
              have hM_316 : okM g_316 w9 k9 h9 := okM_off (i := (8 + z_11)) hM_313 hg_316 (by omega) (by omega) (by omega) (by omega) (by omega)
              have hP : va_P (dC, dI) vwCl [(xI m_wo cI 16 w_122), (xo_8_rrriirrriiiiiiirrirrrrri mo m_la m_sz m_it ms mt m_st m_mv m_tp (nI mz) ml (nI mp) mk mv mb mw m_rd m_ac (nI ma) m_as m_wo m_ik m_ke m_tr (nI mx)), (xI m_st cI 38 g_316), (xI m_as cI 38 fan_8)] H := hP
              have hD := dto hP hD
              refine lv_iinc (v := (nI (ii1 + 1))) (lv' := [(5, .int (nI (ii1 + 1))), (6, .int 0), (4, .int (nI ii)), (3, .int (nI (8 + z_11))), (0, .ref mo), (1, .int (nI j_2)), (2, .int (nI j_5))]) hx hb dX8_byTurns_165 hl (k := 1) rfl (nI_add ii1 1) (by decide) rfl (fun ls hl => ?_)
              refine lv_goto (tgt := 72) hx hb dX8_byTurns_168 (by decide) ?_
              exact ih (g_316) _ _ _ ⟨lv_sub hl [0, 2, 3, 4, 5, 6] rfl, hP.sub (ws' := [(xI m_wo cI 16 w_122), (xo_8_rrriirrriiiiiiirrirrrrri mo m_la m_sz m_it ms mt m_st m_mv m_tp (nI mz) ml (nI mp) mk mv mb mw m_rd m_ac (nI ma) m_as m_wo m_ik m_ke m_tr (nI mx)), (xI m_st cI 38 g_316), (xI m_as cI 38 fan_8)]) [0, 1, 2, 3] rfl, hD.sub (ws' := [(xI m_wo cI 16 w_122), (xo_8_rrriirrriiiiiiirrirrrrri mo m_la m_sz m_it ms mt m_st m_mv m_tp (nI mz) ml (nI mp) mk mv mb mw m_rd m_ac (nI ma) m_as m_wo m_ik m_ke m_tr (nI mx)), (xI m_st cI 38 g_316), (xI m_as cI 38 fan_8)]) [0, 1, 2, 3] (by decide +kernel) rfl, hS, hM_316, (lf_X8_byTurns_3 hM hT h999 hT0 c_1 hkn1 hw1 h01 f_2_1_0 q_2 hj_2 f_5_1_0 q_5 hj_5 hF_8_0 hsh hs4 hz_11 hze_11 hii haf_0 haf_1 hii1 haii1_0 hMl e_308 e_309 f_310_0_0 e_312 hu_313 e_315 hu_316)⟩
            · subst h_310
              refine lv_istore (lv' := [(6, .int 1), (5, .int (nI ii1)), (4, .int (nI ii)), (3, .int (nI (8 + z_11))), (0, .ref mo), (1, .int (nI j_2)), (2, .int (nI j_5))]) hx hb dX8_byTurns_89 hl (by decide) rfl (fun ls hl => ?_)
              refine lv_aload_n hx hb dX8_byTurns_91 rfl (lv_at hl 4 rfl) ?_
              refine va_get (D := (dC, dI)) (ci := 8) (v := .ref m_st) (C := RX8) (T := TX8) (N := 24) hx hb hts i_X8_byTurns_X8 hown hK hP 1 rfl rfl 5 (by decide) (hts _ mx_X8_byTurns_6) (fun _ h9 => h9) rfl dX8_byTurns_92 ?_
              refine lv_bipush (v := 6) hx hb dX8_byTurns_95 (by decide) ?_
              refine lv_iload hx hb dX8_byTurns_97 (lv_at hl 0 rfl) ?_
              refine lv_if_eq (tgt := 121) hx hb dX8_byTurns_99 (by decide) (fun c_ => absurd c_ (by decide)) (fun _ => ?_)
              refine lv_iload hx hb dX8_byTurns_102 (lv_at hl 1 rfl) ?_
              refine lv_iconst (v := 2) hx hb dX8_byTurns_104 (by decide) ?_
              refine lv_irem hx hb dX8_byTurns_105 (by decide) ?_
              refine lv_topi (fun v_318 e_318 => ?_)
              obtain ⟨z_318, hz_318, hze_318, rfl⟩ : ∃ z : Nat, z < 2 ∧ z = ii1 % 2 ∧ v_318 = nI z := ⟨ii1 % 2, Nat.mod_lt _ (by omega), rfl, e_318.trans (pk_rem (a := ii1) (d := 2) (by omega) (by omega) (by omega))⟩
              refine lv_if_ne (tgt := 121) hx hb dX8_byTurns_106 (by decide) (fun c_319 => ?_) (fun c_319 => ?_)
              · have c_319 : ¬ (z_318 = 0) := fun q_ => c_319 ((nI_eq (a := z_318) (b := 0) (by omega) (by omega)).mpr q_)
                refine lv_aload_n hx hb dX8_byTurns_121 rfl (lv_at hl 4 rfl) ?_
                refine va_get (D := (dC, dI)) (ci := 8) (v := .ref m_st) (C := RX8) (T := TX8) (N := 24) hx hb hts i_X8_byTurns_X8 hown hK hP 1 rfl rfl 5 (by decide) (hts _ mx_X8_byTurns_6) (fun _ h9 => h9) rfl dX8_byTurns_122 ?_
                refine lv_bipush (v := 6) hx hb dX8_byTurns_125 (by decide) ?_
                refine va_iald hx hb hK hP 2 0 rfl rfl (by unfold vp_in; decide) dX8_byTurns_127 ?_
                refine lv_topi (fun v_320 e_320 => ?_)
                have e_320 : v_320 = w_271 6 := e_320
                refine va_iast hx hb hK hP hD hS 2 0 rfl rfl (by unfold vp_in; decide) dX8_byTurns_128 (fun H locs hP hD hS => ?_)
                generalize hg_321 : upd w_271 (6 : Int32).toNatClampNeg v_320 = g_321 at hP hD
                have hu_321 : g_321 = upd w_271 6 v_320 := hg_321.symm
                have hM_321 : okM g_321 w9 k9 h9 := okM_off (i := 6) hMl hg_321 (by omega) (by omega) (by omega) (by omega) (by omega)
                have hP : va_P (dC, dI) vwCl [(xI m_wo cI 16 w_122), (xo_8_rrriirrriiiiiiirrirrrrri mo m_la m_sz m_it ms mt m_st m_mv m_tp (nI mz) ml (nI mp) mk mv mb mw m_rd m_ac (nI ma) m_as m_wo m_ik m_ke m_tr (nI mx)), (xI m_st cI 38 g_321), (xI m_as cI 38 fan_8)] H := hP
                have hD := dto hP hD
                refine lv_aload_n hx hb dX8_byTurns_129 rfl (lv_at hl 4 rfl) ?_
                refine va_get (D := (dC, dI)) (ci := 8) (v := .ref m_st) (C := RX8) (T := TX8) (N := 24) hx hb hts i_X8_byTurns_X8 hown hK hP 1 rfl rfl 5 (by decide) (hts _ mx_X8_byTurns_6) (fun _ h9 => h9) rfl dX8_byTurns_130 ?_
                refine lv_iload_n hx hb dX8_byTurns_133 rfl (lv_at hl 3 rfl) ?_
                refine lv_iload hx hb dX8_byTurns_134 (lv_at hl 0 rfl) ?_
                refine lv_if_eq (tgt := 158) hx hb dX8_byTurns_136 (by decide) (fun c_ => absurd c_ (by decide)) (fun _ => ?_)
                refine lv_iload hx hb dX8_byTurns_139 (lv_at hl 1 rfl) ?_
                refine lv_iconst (v := 2) hx hb dX8_byTurns_141 (by decide) ?_
                refine lv_irem hx hb dX8_byTurns_142 (by decide) ?_
                refine lv_topi (fun v_323 e_323 => ?_)
                obtain ⟨z_323, hz_323, hze_323, rfl⟩ : ∃ z : Nat, z < 2 ∧ z = ii1 % 2 ∧ v_323 = nI z := ⟨ii1 % 2, Nat.mod_lt _ (by omega), rfl, e_323.trans (pk_rem (a := ii1) (d := 2) (by omega) (by omega) (by omega))⟩
                refine lv_iconst (v := 1) hx hb dX8_byTurns_143 (by decide) ?_
                refine lv_icmp_ne (tgt := 158) hx hb dX8_byTurns_144 (by decide) (fun c_324 => ?_) (fun c_324 => ?_)
                · have c_324 : ¬ (z_323 = 1) := fun q_ => c_324 ((nI_eq (a := z_323) (b := 1) (by omega) (by omega)).mpr q_)
                  refine lv_aload_n hx hb dX8_byTurns_158 rfl (lv_at hl 4 rfl) ?_
                  refine va_get (D := (dC, dI)) (ci := 8) (v := .ref m_st) (C := RX8) (T := TX8) (N := 24) hx hb hts i_X8_byTurns_X8 hown hK hP 1 rfl rfl 5 (by decide) (hts _ mx_X8_byTurns_6) (fun _ h9 => h9) rfl dX8_byTurns_159 ?_
                  refine lv_iload_n hx hb dX8_byTurns_162 rfl (lv_at hl 3 rfl) ?_
                  refine va_iald hx hb hK hP 2 0 rfl rfl (vp_in_nI (by omega) (by omega)) dX8_byTurns_163 ?_
                  refine lv_topi (fun v_325 e_325 => ?_)
                  have e_325 : v_325 = g_321 (8 + z_11) := e_325.trans (congrArg g_321 (nI_clamp (by omega)))
                  refine va_iast hx hb hK hP hD hS 2 0 rfl rfl (vp_in_nI (by omega) (by omega)) dX8_byTurns_164 (fun H locs hP hD hS => ?_)
                  generalize hg_326 : upd g_321 ((nI (8 + z_11)) : Int32).toNatClampNeg v_325 = g_326 at hP hD
                  have hu_326 : g_326 = upd g_321 (8 + z_11) v_325 := (by rw [← hg_326, nI_clamp (by omega)])
                  have hM_326 : okM g_326 w9 k9 h9 := okM_off (i := (8 + z_11)) hM_321 hg_326 (by omega) (by omega) (by omega) (by omega) (by omega)
                  have hP : va_P (dC, dI) vwCl [(xI m_wo cI 16 w_122), (xo_8_rrriirrriiiiiiirrirrrrri mo m_la m_sz m_it ms mt m_st m_mv m_tp (nI mz) ml (nI mp) mk mv mb mw m_rd m_ac (nI ma) m_as m_wo m_ik m_ke m_tr (nI mx)), (xI m_st cI 38 g_326), (xI m_as cI 38 fan_8)] H := hP
                  have hD := dto hP hD
                  refine lv_iinc (v := (nI (ii1 + 1))) (lv' := [(5, .int (nI (ii1 + 1))), (6, .int 1), (4, .int (nI ii)), (3, .int (nI (8 + z_11))), (0, .ref mo), (1, .int (nI j_2)), (2, .int (nI j_5))]) hx hb dX8_byTurns_165 hl (k := 1) rfl (nI_add ii1 1) (by decide) rfl (fun ls hl => ?_)
                  refine lv_goto (tgt := 72) hx hb dX8_byTurns_168 (by decide) ?_
                  exact ih (g_326) _ _ _ ⟨lv_sub hl [0, 2, 3, 4, 5, 6] rfl, hP.sub (ws' := [(xI m_wo cI 16 w_122), (xo_8_rrriirrriiiiiiirrirrrrri mo m_la m_sz m_it ms mt m_st m_mv m_tp (nI mz) ml (nI mp) mk mv mb mw m_rd m_ac (nI ma) m_as m_wo m_ik m_ke m_tr (nI mx)), (xI m_st cI 38 g_326), (xI m_as cI 38 fan_8)]) [0, 1, 2, 3] rfl, hD.sub (ws' := [(xI m_wo cI 16 w_122), (xo_8_rrriirrriiiiiiirrirrrrri mo m_la m_sz m_it ms mt m_st m_mv m_tp (nI mz) ml (nI mp) mk mv mb mw m_rd m_ac (nI ma) m_as m_wo m_ik m_ke m_tr (nI mx)), (xI m_st cI 38 g_326), (xI m_as cI 38 fan_8)]) [0, 1, 2, 3] (by decide +kernel) rfl, hS, hM_326, (lf_X8_byTurns_4 hM hT h999 hT0 c_1 hkn1 hw1 h01 f_2_1_0 q_2 hj_2 f_5_1_0 q_5 hj_5 hF_8_0 hsh hs4 hz_11 hze_11 hii haf_0 haf_1 hii1 haii1_0 hMl e_308 e_309 f_310_1_0 hz_318 hze_318 c_319 e_320 hu_321 hz_323 hze_323 c_324 e_325 hu_326)⟩
                · have c_324 : z_323 = 1 := (nI_eq (a := z_323) (b := 1) (by omega) (by omega)).mp c_324
                  refine lv_iconst (v := 4) hx hb dX8_byTurns_147 (by decide) ?_
                  refine lv_aload_n hx hb dX8_byTurns_148 rfl (lv_at hl 4 rfl) ?_
                  refine va_get (D := (dC, dI)) (ci := 8) (v := .ref m_st) (C := RX8) (T := TX8) (N := 24) hx hb hts i_X8_byTurns_X8 hown hK hP 1 rfl rfl 5 (by decide) (hts _ mx_X8_byTurns_6) (fun _ h9 => h9) rfl dX8_byTurns_149 ?_
                  refine lv_iload_n hx hb dX8_byTurns_152 rfl (lv_at hl 3 rfl) ?_
                  refine va_iald hx hb hK hP 2 0 rfl rfl (vp_in_nI (by omega) (by omega)) dX8_byTurns_153 ?_
                  refine lv_topi (fun v_327 e_327 => ?_)
                  have e_327 : v_327 = g_321 (8 + z_11) := e_327.trans (congrArg g_321 (nI_clamp (by omega)))
                  refine lv_isub hx hb dX8_byTurns_154 ?_
                  refine lv_topi (fun v_328 e_328 => ?_)
                  refine lv_goto (tgt := 164) hx hb dX8_byTurns_155 (by decide) ?_
                  refine va_iast hx hb hK hP hD hS 2 0 rfl rfl (vp_in_nI (by omega) (by omega)) dX8_byTurns_164 (fun H locs hP hD hS => ?_)
                  generalize hg_329 : upd g_321 ((nI (8 + z_11)) : Int32).toNatClampNeg v_328 = g_329 at hP hD
                  have hu_329 : g_329 = upd g_321 (8 + z_11) v_328 := (by rw [← hg_329, nI_clamp (by omega)])
                  have hM_329 : okM g_329 w9 k9 h9 := okM_off (i := (8 + z_11)) hM_321 hg_329 (by omega) (by omega) (by omega) (by omega) (by omega)
                  have hP : va_P (dC, dI) vwCl [(xI m_wo cI 16 w_122), (xo_8_rrriirrriiiiiiirrirrrrri mo m_la m_sz m_it ms mt m_st m_mv m_tp (nI mz) ml (nI mp) mk mv mb mw m_rd m_ac (nI ma) m_as m_wo m_ik m_ke m_tr (nI mx)), (xI m_st cI 38 g_329), (xI m_as cI 38 fan_8)] H := hP
                  have hD := dto hP hD
                  refine lv_iinc (v := (nI (ii1 + 1))) (lv' := [(5, .int (nI (ii1 + 1))), (6, .int 1), (4, .int (nI ii)), (3, .int (nI (8 + z_11))), (0, .ref mo), (1, .int (nI j_2)), (2, .int (nI j_5))]) hx hb dX8_byTurns_165 hl (k := 1) rfl (nI_add ii1 1) (by decide) rfl (fun ls hl => ?_)
                  refine lv_goto (tgt := 72) hx hb dX8_byTurns_168 (by decide) ?_
                  exact ih (g_329) _ _ _ ⟨lv_sub hl [0, 2, 3, 4, 5, 6] rfl, hP.sub (ws' := [(xI m_wo cI 16 w_122), (xo_8_rrriirrriiiiiiirrirrrrri mo m_la m_sz m_it ms mt m_st m_mv m_tp (nI mz) ml (nI mp) mk mv mb mw m_rd m_ac (nI ma) m_as m_wo m_ik m_ke m_tr (nI mx)), (xI m_st cI 38 g_329), (xI m_as cI 38 fan_8)]) [0, 1, 2, 3] rfl, hD.sub (ws' := [(xI m_wo cI 16 w_122), (xo_8_rrriirrriiiiiiirrirrrrri mo m_la m_sz m_it ms mt m_st m_mv m_tp (nI mz) ml (nI mp) mk mv mb mw m_rd m_ac (nI ma) m_as m_wo m_ik m_ke m_tr (nI mx)), (xI m_st cI 38 g_329), (xI m_as cI 38 fan_8)]) [0, 1, 2, 3] (by decide +kernel) rfl, hS, hM_329, (lf_X8_byTurns_5 hM hT h999 hT0 c_1 hkn1 hw1 h01 f_2_1_0 q_2 hj_2 f_5_1_0 q_5 hj_5 hF_8_0 hsh hs4 hz_11 hze_11 hii haf_0 haf_1 hii1 haii1_0 hMl e_308 e_309 f_310_1_0 hz_318 hze_318 c_319 e_320 hu_321 hz_323 hze_323 c_324 e_327 e_328 hu_329)⟩
              · have c_319 : z_318 = 0 := (nI_eq (a := z_318) (b := 0) (by omega) (by omega)).mp c_319
                refine lv_iconst (v := 1) hx hb dX8_byTurns_109 (by decide) ?_
                refine lv_aload_n hx hb dX8_byTurns_110 rfl (lv_at hl 4 rfl) ?_
                refine va_get (D := (dC, dI)) (ci := 8) (v := .ref m_st) (C := RX8) (T := TX8) (N := 24) hx hb hts i_X8_byTurns_X8 hown hK hP 1 rfl rfl 5 (by decide) (hts _ mx_X8_byTurns_6) (fun _ h9 => h9) rfl dX8_byTurns_111 ?_
                refine lv_bipush (v := 6) hx hb dX8_byTurns_114 (by decide) ?_
                refine va_iald hx hb hK hP 2 0 rfl rfl (by unfold vp_in; decide) dX8_byTurns_116 ?_
                refine lv_topi (fun v_330 e_330 => ?_)
                have e_330 : v_330 = w_271 6 := e_330
                refine lv_isub hx hb dX8_byTurns_117 ?_
                refine lv_topi (fun v_331 e_331 => ?_)
                refine lv_goto (tgt := 128) hx hb dX8_byTurns_118 (by decide) ?_
                refine va_iast hx hb hK hP hD hS 2 0 rfl rfl (by unfold vp_in; decide) dX8_byTurns_128 (fun H locs hP hD hS => ?_)
                generalize hg_332 : upd w_271 (6 : Int32).toNatClampNeg v_331 = g_332 at hP hD
                have hu_332 : g_332 = upd w_271 6 v_331 := hg_332.symm
                have hM_332 : okM g_332 w9 k9 h9 := okM_off (i := 6) hMl hg_332 (by omega) (by omega) (by omega) (by omega) (by omega)
                have hP : va_P (dC, dI) vwCl [(xI m_wo cI 16 w_122), (xo_8_rrriirrriiiiiiirrirrrrri mo m_la m_sz m_it ms mt m_st m_mv m_tp (nI mz) ml (nI mp) mk mv mb mw m_rd m_ac (nI ma) m_as m_wo m_ik m_ke m_tr (nI mx)), (xI m_st cI 38 g_332), (xI m_as cI 38 fan_8)] H := hP
                have hD := dto hP hD
                refine lv_aload_n hx hb dX8_byTurns_129 rfl (lv_at hl 4 rfl) ?_
                refine va_get (D := (dC, dI)) (ci := 8) (v := .ref m_st) (C := RX8) (T := TX8) (N := 24) hx hb hts i_X8_byTurns_X8 hown hK hP 1 rfl rfl 5 (by decide) (hts _ mx_X8_byTurns_6) (fun _ h9 => h9) rfl dX8_byTurns_130 ?_
                refine lv_iload_n hx hb dX8_byTurns_133 rfl (lv_at hl 3 rfl) ?_
                refine lv_iload hx hb dX8_byTurns_134 (lv_at hl 0 rfl) ?_
                refine lv_if_eq (tgt := 158) hx hb dX8_byTurns_136 (by decide) (fun c_ => absurd c_ (by decide)) (fun _ => ?_)
                refine lv_iload hx hb dX8_byTurns_139 (lv_at hl 1 rfl) ?_
                refine lv_iconst (v := 2) hx hb dX8_byTurns_141 (by decide) ?_
                refine lv_irem hx hb dX8_byTurns_142 (by decide) ?_
                refine lv_topi (fun v_334 e_334 => ?_)
                obtain ⟨z_334, hz_334, hze_334, rfl⟩ : ∃ z : Nat, z < 2 ∧ z = ii1 % 2 ∧ v_334 = nI z := ⟨ii1 % 2, Nat.mod_lt _ (by omega), rfl, e_334.trans (pk_rem (a := ii1) (d := 2) (by omega) (by omega) (by omega))⟩
                refine lv_iconst (v := 1) hx hb dX8_byTurns_143 (by decide) ?_
                refine lv_icmp_ne (tgt := 158) hx hb dX8_byTurns_144 (by decide) (fun c_335 => ?_) (fun c_335 => ?_)
                · have c_335 : ¬ (z_334 = 1) := fun q_ => c_335 ((nI_eq (a := z_334) (b := 1) (by omega) (by omega)).mpr q_)
                  refine lv_aload_n hx hb dX8_byTurns_158 rfl (lv_at hl 4 rfl) ?_
                  refine va_get (D := (dC, dI)) (ci := 8) (v := .ref m_st) (C := RX8) (T := TX8) (N := 24) hx hb hts i_X8_byTurns_X8 hown hK hP 1 rfl rfl 5 (by decide) (hts _ mx_X8_byTurns_6) (fun _ h9 => h9) rfl dX8_byTurns_159 ?_
                  refine lv_iload_n hx hb dX8_byTurns_162 rfl (lv_at hl 3 rfl) ?_
                  refine va_iald hx hb hK hP 2 0 rfl rfl (vp_in_nI (by omega) (by omega)) dX8_byTurns_163 ?_
                  refine lv_topi (fun v_336 e_336 => ?_)
                  have e_336 : v_336 = g_332 (8 + z_11) := e_336.trans (congrArg g_332 (nI_clamp (by omega)))
                  refine va_iast hx hb hK hP hD hS 2 0 rfl rfl (vp_in_nI (by omega) (by omega)) dX8_byTurns_164 (fun H locs hP hD hS => ?_)
                  generalize hg_337 : upd g_332 ((nI (8 + z_11)) : Int32).toNatClampNeg v_336 = g_337 at hP hD
                  have hu_337 : g_337 = upd g_332 (8 + z_11) v_336 := (by rw [← hg_337, nI_clamp (by omega)])
                  have hM_337 : okM g_337 w9 k9 h9 := okM_off (i := (8 + z_11)) hM_332 hg_337 (by omega) (by omega) (by omega) (by omega) (by omega)
                  have hP : va_P (dC, dI) vwCl [(xI m_wo cI 16 w_122), (xo_8_rrriirrriiiiiiirrirrrrri mo m_la m_sz m_it ms mt m_st m_mv m_tp (nI mz) ml (nI mp) mk mv mb mw m_rd m_ac (nI ma) m_as m_wo m_ik m_ke m_tr (nI mx)), (xI m_st cI 38 g_337), (xI m_as cI 38 fan_8)] H := hP
                  have hD := dto hP hD
                  refine lv_iinc (v := (nI (ii1 + 1))) (lv' := [(5, .int (nI (ii1 + 1))), (6, .int 1), (4, .int (nI ii)), (3, .int (nI (8 + z_11))), (0, .ref mo), (1, .int (nI j_2)), (2, .int (nI j_5))]) hx hb dX8_byTurns_165 hl (k := 1) rfl (nI_add ii1 1) (by decide) rfl (fun ls hl => ?_)
                  refine lv_goto (tgt := 72) hx hb dX8_byTurns_168 (by decide) ?_
                  exact ih (g_337) _ _ _ ⟨lv_sub hl [0, 2, 3, 4, 5, 6] rfl, hP.sub (ws' := [(xI m_wo cI 16 w_122), (xo_8_rrriirrriiiiiiirrirrrrri mo m_la m_sz m_it ms mt m_st m_mv m_tp (nI mz) ml (nI mp) mk mv mb mw m_rd m_ac (nI ma) m_as m_wo m_ik m_ke m_tr (nI mx)), (xI m_st cI 38 g_337), (xI m_as cI 38 fan_8)]) [0, 1, 2, 3] rfl, hD.sub (ws' := [(xI m_wo cI 16 w_122), (xo_8_rrriirrriiiiiiirrirrrrri mo m_la m_sz m_it ms mt m_st m_mv m_tp (nI mz) ml (nI mp) mk mv mb mw m_rd m_ac (nI ma) m_as m_wo m_ik m_ke m_tr (nI mx)), (xI m_st cI 38 g_337), (xI m_as cI 38 fan_8)]) [0, 1, 2, 3] (by decide +kernel) rfl, hS, hM_337, (lf_X8_byTurns_6 hM hT h999 hT0 c_1 hkn1 hw1 h01 f_2_1_0 q_2 hj_2 f_5_1_0 q_5 hj_5 hF_8_0 hsh hs4 hz_11 hze_11 hii haf_0 haf_1 hii1 haii1_0 hMl e_308 e_309 f_310_1_0 hz_318 hze_318 c_319 e_330 e_331 hu_332 hz_334 hze_334 c_335 e_336 hu_337)⟩
                · have c_335 : z_334 = 1 := (nI_eq (a := z_334) (b := 1) (by omega) (by omega)).mp c_335
                  refine lv_iconst (v := 4) hx hb dX8_byTurns_147 (by decide) ?_
                  refine lv_aload_n hx hb dX8_byTurns_148 rfl (lv_at hl 4 rfl) ?_
                  refine va_get (D := (dC, dI)) (ci := 8) (v := .ref m_st) (C := RX8) (T := TX8) (N := 24) hx hb hts i_X8_byTurns_X8 hown hK hP 1 rfl rfl 5 (by decide) (hts _ mx_X8_byTurns_6) (fun _ h9 => h9) rfl dX8_byTurns_149 ?_
                  refine lv_iload_n hx hb dX8_byTurns_152 rfl (lv_at hl 3 rfl) ?_
                  refine va_iald hx hb hK hP 2 0 rfl rfl (vp_in_nI (by omega) (by omega)) dX8_byTurns_153 ?_
                  refine lv_topi (fun v_338 e_338 => ?_)
                  have e_338 : v_338 = g_332 (8 + z_11) := e_338.trans (congrArg g_332 (nI_clamp (by omega)))
                  refine lv_isub hx hb dX8_byTurns_154 ?_
                  refine lv_topi (fun v_339 e_339 => ?_)
                  refine lv_goto (tgt := 164) hx hb dX8_byTurns_155 (by decide) ?_
                  refine va_iast hx hb hK hP hD hS 2 0 rfl rfl (vp_in_nI (by omega) (by omega)) dX8_byTurns_164 (fun H locs hP hD hS => ?_)
                  generalize hg_340 : upd g_332 ((nI (8 + z_11)) : Int32).toNatClampNeg v_339 = g_340 at hP hD
                  have hu_340 : g_340 = upd g_332 (8 + z_11) v_339 := (by rw [← hg_340, nI_clamp (by omega)])
                  have hM_340 : okM g_340 w9 k9 h9 := okM_off (i := (8 + z_11)) hM_332 hg_340 (by omega) (by omega) (by omega) (by omega) (by omega)
                  have hP : va_P (dC, dI) vwCl [(xI m_wo cI 16 w_122), (xo_8_rrriirrriiiiiiirrirrrrri mo m_la m_sz m_it ms mt m_st m_mv m_tp (nI mz) ml (nI mp) mk mv mb mw m_rd m_ac (nI ma) m_as m_wo m_ik m_ke m_tr (nI mx)), (xI m_st cI 38 g_340), (xI m_as cI 38 fan_8)] H := hP
                  have hD := dto hP hD
                  refine lv_iinc (v := (nI (ii1 + 1))) (lv' := [(5, .int (nI (ii1 + 1))), (6, .int 1), (4, .int (nI ii)), (3, .int (nI (8 + z_11))), (0, .ref mo), (1, .int (nI j_2)), (2, .int (nI j_5))]) hx hb dX8_byTurns_165 hl (k := 1) rfl (nI_add ii1 1) (by decide) rfl (fun ls hl => ?_)
                  refine lv_goto (tgt := 72) hx hb dX8_byTurns_168 (by decide) ?_
                  exact ih (g_340) _ _ _ ⟨lv_sub hl [0, 2, 3, 4, 5, 6] rfl, hP.sub (ws' := [(xI m_wo cI 16 w_122), (xo_8_rrriirrriiiiiiirrirrrrri mo m_la m_sz m_it ms mt m_st m_mv m_tp (nI mz) ml (nI mp) mk mv mb mw m_rd m_ac (nI ma) m_as m_wo m_ik m_ke m_tr (nI mx)), (xI m_st cI 38 g_340), (xI m_as cI 38 fan_8)]) [0, 1, 2, 3] rfl, hD.sub (ws' := [(xI m_wo cI 16 w_122), (xo_8_rrriirrriiiiiiirrirrrrri mo m_la m_sz m_it ms mt m_st m_mv m_tp (nI mz) ml (nI mp) mk mv mb mw m_rd m_ac (nI ma) m_as m_wo m_ik m_ke m_tr (nI mx)), (xI m_st cI 38 g_340), (xI m_as cI 38 fan_8)]) [0, 1, 2, 3] (by decide +kernel) rfl, hS, hM_340, (lf_X8_byTurns_7 hM hT h999 hT0 c_1 hkn1 hw1 h01 f_2_1_0 q_2 hj_2 f_5_1_0 q_5 hj_5 hF_8_0 hsh hs4 hz_11 hze_11 hii haf_0 haf_1 hii1 haii1_0 hMl e_308 e_309 f_310_1_0 hz_318 hze_318 c_319 e_330 e_331 hu_332 hz_334 hze_334 c_335 e_338 e_339 hu_340)⟩
          · rintro w_271 H locs ls ⟨hl, hP, hD, hS, hMl, haii1_0⟩
            refine lv_iload hx hb dX8_byTurns_72 (lv_at hl 0 rfl) ?_
            refine lv_iload_n hx hb dX8_byTurns_74 rfl (lv_at hl 4 rfl) ?_
            refine lv_icmp_ge (tgt := 171) hx hb dX8_byTurns_75 (by decide) (fun _ => ?_) (fun c_ => absurd ((nI_leI (a := j_2) (b := j_2) (by omega) (by omega)).mpr (by omega)) c_)
            refine lv_aload_n hx hb dX8_byTurns_171 rfl (lv_at hl 3 rfl) ?_
            refine va_get (D := (dC, dI)) (ci := 8) (v := .ref m_wo) (C := RX8) (T := TX8) (N := 24) hx hb hts i_X8_byTurns_X8 hown hK hP 1 rfl rfl 19 (by decide) (hts _ mx_X8_byTurns_7) (fun _ h9 => h9) rfl dX8_byTurns_172 ?_
            refine lv_iload hx hb dX8_byTurns_175 (lv_at hl 1 rfl) ?_
            refine lv_aload_n hx hb dX8_byTurns_177 rfl (lv_at hl 3 rfl) ?_
            refine lv_iload_n hx hb dX8_byTurns_178 rfl (lv_at hl 5 rfl) ?_
            have hc_342 := cutW (wc := [(xo_8_rrriirrriiiiiiirrirrrrri mo m_la m_sz m_it ms mt m_st m_mv m_tp (nI mz) ml (nI mp) mk mv mb mw m_rd m_ac (nI ma) m_as m_wo m_ik m_ke m_tr (nI mx)), (xI m_st cI 38 w_271), (xI m_as cI 38 fan_8)]) hP hD hS hA [1, 2, 3] (by decide +kernel) rfl
            refine va_calli (va_runV (As := [.int (nI j_5)]) (rest := [.int (nI ii), .ref m_wo]) ⟨hx, hb, hml, hown, hts⟩ (r_X8_mealBehind l dC dI cI cZ cL cJ H.size mo m_la m_sz m_it m_st m_mv m_tp m_rd m_ac m_as m_wo m_ik m_ke m_tr ms mt ml mk mv mb mw mz mp ma mx w_271 w9 k9 h9 fan_8 j_5 (hMl) (by omega) (by omega) (by omega)) (cwV 1 hts gX8_byTurns_X8_mealBehind rfl rfl rfl (by decide +kernel) ⟨Nat.le_of_ble_eq_true rfl, Nat.le_of_ble_eq_true rfl⟩) (pvW 8 1 hK hP rfl rfl hc_342) rfl rfl hl.1 rfl (lv_room (Nat.le_of_ble_eq_true rfl)) dX8_byTurns_179 ⟨Nat.le_of_ble_eq_true rfl, Nat.le_of_ble_eq_true rfl⟩) hS (fun q _ h => hc_342.2.2 q h) hc_342.2.2 (fun r_342 u_342 t_342 H1 locs ht hvm h_342 hB hz1 hk1 hS => ?_)
            refine xl_1_3 hB (fun fsn_342 hP1 hD1 hF_342_0 => ?_)
            clear hB
            rw [ht] at hP1
            obtain ⟨hP, hD⟩ := va_join (wr := [(xI m_wo cI 16 w_122)]) (w1 := [(xo_8_rrriirrriiiiiiirrirrrrri mo m_la m_sz m_it ms mt m_st m_mv m_tp (nI mz) ml (nI mp) mk mv mb mw m_rd m_ac (nI ma) m_as m_wo m_ik m_ke m_tr (nI mx)), (xI m_st cI 38 fsn_342), (xI m_as cI 38 fan_8)]) hP hD [1, 2, 3] [0] rfl rfl (by decide +kernel) (by decide +kernel) hk1 hc_342.2.2 hP1 hD1
            generalize H1 = H at hP hS ⊢
            have hP : va_P (dC, dI) vwCl [(xI m_wo cI 16 w_122), (xo_8_rrriirrriiiiiiirrirrrrri mo m_la m_sz m_it ms mt m_st m_mv m_tp (nI mz) ml (nI mp) mk mv mb mw m_rd m_ac (nI ma) m_as m_wo m_ik m_ke m_tr (nI mx)), (xI m_st cI 38 fsn_342), (xI m_as cI 38 fan_8)] H := hP
            have hD := dto hP hD
            have hT_342 := okM_eq hA_8 hF_342_0
            refine va_iast hx hb hK hP hD hS 0 0 rfl rfl (vp_in_nI (by omega) (by omega)) dX8_byTurns_182 (fun H locs hP hD hS => ?_)
            generalize hg_343 : upd w_122 ((nI ii) : Int32).toNatClampNeg r_342 = g_343 at hP hD
            have hu_343 : g_343 = upd w_122 ii r_342 := (by rw [← hg_343, nI_clamp (by omega)])
            have hP : va_P (dC, dI) vwCl [(xI m_wo cI 16 g_343), (xo_8_rrriirrriiiiiiirrirrrrri mo m_la m_sz m_it ms mt m_st m_mv m_tp (nI mz) ml (nI mp) mk mv mb mw m_rd m_ac (nI ma) m_as m_wo m_ik m_ke m_tr (nI mx)), (xI m_st cI 38 fsn_342), (xI m_as cI 38 fan_8)] H := hP
            have hD := dto hP hD
            refine lv_iinc (v := (nI (ii + 1))) (lv' := [(4, .int (nI (ii + 1))), (5, .int (nI j_2)), (3, .int (nI (8 + z_11))), (0, .ref mo), (1, .int (nI j_2)), (2, .int (nI j_5))]) hx hb dX8_byTurns_183 hl (k := 1) rfl (nI_add ii 1) (by decide) rfl (fun ls hl => ?_)
            refine lv_goto (tgt := 61) hx hb dX8_byTurns_186 (by decide) ?_
            exact ih (g_343, fsn_342) _ _ _ ⟨lv_sub hl [0, 2, 3, 4, 5] rfl, hP.sub (ws' := [(xI m_wo cI 16 g_343), (xo_8_rrriirrriiiiiiirrirrrrri mo m_la m_sz m_it ms mt m_st m_mv m_tp (nI mz) ml (nI mp) mk mv mb mw m_rd m_ac (nI ma) m_as m_wo m_ik m_ke m_tr (nI mx)), (xI m_st cI 38 fsn_342), (xI m_as cI 38 fan_8)]) [0, 1, 2, 3] rfl, hD.sub (ws' := [(xI m_wo cI 16 g_343), (xo_8_rrriirrriiiiiiirrirrrrri mo m_la m_sz m_it ms mt m_st m_mv m_tp (nI mz) ml (nI mp) mk mv mb mw m_rd m_ac (nI ma) m_as m_wo m_ik m_ke m_tr (nI mx)), (xI m_st cI 38 fsn_342), (xI m_as cI 38 fan_8)]) [0, 1, 2, 3] (by decide +kernel) rfl, hS, hT_342, (lf_X8_byTurns_8 hM hT h999 hT0 c_1 hkn1 hw1 h01 f_2_1_0 q_2 hj_2 f_5_1_0 q_5 hj_5 hF_8_0 hsh hs4 hz_11 hze_11 hii haf_0 haf_1 haii1_0 hMl hF_342_0 h_342 hu_343), ((m38_eq hF_342_0).trans ((m38_eq hF_8_0).trans rfl))⟩
        · rintro ⟨w_122, w_123⟩ H locs ls ⟨hl, hP, hD, hS, hMl, haf_0, haf_1⟩
          refine lv_iload hx hb dX8_byTurns_61 (lv_at hl 0 rfl) ?_
          refine lv_iconst (v := 1) hx hb dX8_byTurns_63 (by decide) ?_
          refine lv_iload_n hx hb dX8_byTurns_64 rfl (lv_at hl 3 rfl) ?_
          refine lv_ishl hx hb dX8_byTurns_65 ?_
          refine lv_topi (fun v_344 e_344 => ?_)
          obtain rfl : v_344 = (nI sh) := (e_344).trans hsh
          refine lv_icmp_ge (tgt := 189) hx hb dX8_byTurns_66 (by decide) (fun _ => ?_) (fun c_ => absurd ((nI_leI (a := sh) (b := sh) (by omega) (by omega)).mpr (by omega)) c_)
          refine lv_iload_n hx hb dX8_byTurns_189 rfl (lv_at hl 3 rfl) ?_
          refine lv_iconst (v := 1) hx hb dX8_byTurns_190 (by decide) ?_
          refine lv_isub hx hb dX8_byTurns_191 ?_
          refine lv_topi (fun v_346 e_346 => ?_)
          obtain rfl : v_346 = cdn j_2 0 := e_346.trans (cdn_0 j_2)
          refine lv_istore (lv' := [(4, .int (cdn j_2 0)), (3, .int (nI (8 + z_11))), (0, .ref mo), (1, .int (nI j_2)), (2, .int (nI j_5))]) hx hb dX8_byTurns_192 hl (by decide) rfl (fun ls hl => ?_)
          refine lp_go (σ := (Nat → Int32)) (fun ii1 (st : (Nat → Int32)) H locs ls => match st with | w_412 => lv_has ls 8 [(4, .int (cdn j_2 ii1)), (3, .int (nI (8 + z_11))), (0, .ref mo), (1, .int (nI j_2)), (2, .int (nI j_5))] ∧ va_P (dC, dI) vwCl [(xI m_wo cI 16 w_412), (xo_8_rrriirrriiiiiiirrirrrrri mo m_la m_sz m_it ms mt m_st m_mv m_tp (nI mz) ml (nI mp) mk mv mb mw m_rd m_ac (nI ma) m_as m_wo m_ik m_ke m_tr (nI mx)), (xI m_st cI 38 w_123), (xI m_as cI 38 fan_8)] H ∧ va_D A [(xI m_wo cI 16 w_412), (xo_8_rrriirrriiiiiiirrirrrrri mo m_la m_sz m_it ms mt m_st m_mv m_tp (nI mz) ml (nI mp) mk mv mb mw m_rd m_ac (nI ma) m_as m_wo m_ik m_ke m_tr (nI mx)), (xI m_st cI 38 w_123), (xI m_as cI 38 fan_8)] ∧ va_S A s.heap H locs ∧ okM w_123 w9 k9 h9 ∧ (∀ q : Nat, q < 2 ^ (j_2 - ii1) → w_412 q = wVV j_5 j_2 (m38 fs) (j_2 - ii1) q)) j_2 ?_ ?_ 0 (by omega) (w_122) ⟨lv_sub hl [0, 1, 2, 3, 4] rfl, hP.sub (ws' := [(xI m_wo cI 16 w_122), (xo_8_rrriirrriiiiiiirrirrrrri mo m_la m_sz m_it ms mt m_st m_mv m_tp (nI mz) ml (nI mp) mk mv mb mw m_rd m_ac (nI ma) m_as m_wo m_ik m_ke m_tr (nI mx)), (xI m_st cI 38 w_123), (xI m_as cI 38 fan_8)]) [0, 1, 2, 3] rfl, hD.sub (ws' := [(xI m_wo cI 16 w_122), (xo_8_rrriirrriiiiiiirrirrrrri mo m_la m_sz m_it ms mt m_st m_mv m_tp (nI mz) ml (nI mp) mk mv mb mw m_rd m_ac (nI ma) m_as m_wo m_ik m_ke m_tr (nI mx)), (xI m_st cI 38 w_123), (xI m_as cI 38 fan_8)]) [0, 1, 2, 3] (by decide +kernel) rfl, hS, hMl, (lf_X8_byTurns_9 hM hT h999 hT0 c_1 hkn1 hw1 h01 f_2_1_0 q_2 hj_2 f_5_1_0 q_5 hj_5 hF_8_0 hsh hs4 hz_11 hze_11 haf_0 haf_1 hMl e_346)⟩
          · rintro ii1 w_412 H locs ls hii1 ⟨hl, hP, hD, hS, hMl, haii1_0⟩ ih
            refine lv_iload hx hb dX8_byTurns_194 (lv_at hl 0 rfl) ?_
            refine lv_if_lt (tgt := 288) hx hb dX8_byTurns_196 (by decide) (fun c_ => absurd c_ (cdn_lt (by omega) hii1)) (fun _ => ?_)
            obtain ⟨sd, hsd, hsd8⟩ := cdn_shl (n := j_2) (i := ii1) (by omega) hii1
            refine lv_iconst (v := 0) hx hb dX8_byTurns_199 (by decide) ?_
            refine lv_istore (lv' := [(5, .int 0), (4, .int (cdn j_2 ii1)), (3, .int (nI (8 + z_11))), (0, .ref mo), (1, .int (nI j_2)), (2, .int (nI j_5))]) hx hb dX8_byTurns_200 hl (by decide) rfl (fun ls hl => ?_)
            refine lp_go (σ := (Nat → Int32)) (fun ii2 (st : (Nat → Int32)) H locs ls => match st with | w_500 => lv_has ls 8 [(5, .int (nI ii2)), (4, .int (cdn j_2 ii1)), (3, .int (nI (8 + z_11))), (0, .ref mo), (1, .int (nI j_2)), (2, .int (nI j_5))] ∧ va_P (dC, dI) vwCl [(xI m_wo cI 16 w_500), (xo_8_rrriirrriiiiiiirrirrrrri mo m_la m_sz m_it ms mt m_st m_mv m_tp (nI mz) ml (nI mp) mk mv mb mw m_rd m_ac (nI ma) m_as m_wo m_ik m_ke m_tr (nI mx)), (xI m_st cI 38 w_123), (xI m_as cI 38 fan_8)] H ∧ va_D A [(xI m_wo cI 16 w_500), (xo_8_rrriirrriiiiiiirrirrrrri mo m_la m_sz m_it ms mt m_st m_mv m_tp (nI mz) ml (nI mp) mk mv mb mw m_rd m_ac (nI ma) m_as m_wo m_ik m_ke m_tr (nI mx)), (xI m_st cI 38 w_123), (xI m_as cI 38 fan_8)] ∧ va_S A s.heap H locs ∧ okM w_123 w9 k9 h9 ∧ (∀ q : Nat, q < ii2 → w_500 q = wVV j_5 j_2 (m38 fs) (j_2 - 1 - ii1) q) ∧ (∀ q : Nat, 2 * ii2 ≤ q → q < 2 ^ (j_2 - ii1) → w_500 q = wVV j_5 j_2 (m38 fs) (j_2 - ii1) q)) sd ?_ ?_ 0 (by omega) (w_412) ⟨lv_sub hl [0, 1, 2, 3, 4, 5] rfl, hP.sub (ws' := [(xI m_wo cI 16 w_412), (xo_8_rrriirrriiiiiiirrirrrrri mo m_la m_sz m_it ms mt m_st m_mv m_tp (nI mz) ml (nI mp) mk mv mb mw m_rd m_ac (nI ma) m_as m_wo m_ik m_ke m_tr (nI mx)), (xI m_st cI 38 w_123), (xI m_as cI 38 fan_8)]) [0, 1, 2, 3] rfl, hD.sub (ws' := [(xI m_wo cI 16 w_412), (xo_8_rrriirrriiiiiiirrirrrrri mo m_la m_sz m_it ms mt m_st m_mv m_tp (nI mz) ml (nI mp) mk mv mb mw m_rd m_ac (nI ma) m_as m_wo m_ik m_ke m_tr (nI mx)), (xI m_st cI 38 w_123), (xI m_as cI 38 fan_8)]) [0, 1, 2, 3] (by decide +kernel) rfl, hS, hMl, (fun q h_ => absurd h_ (Nat.not_lt_zero q)), (fun q _ h_ => haii1_0 q h_)⟩
            · rintro ii2 w_500 H locs ls hii2 ⟨hl, hP, hD, hS, hMl, haii2_0, haii2_1⟩ ih
              refine lv_iload hx hb dX8_byTurns_202 (lv_at hl 0 rfl) ?_
              refine lv_iconst (v := 1) hx hb dX8_byTurns_204 (by decide) ?_
              refine lv_iload hx hb dX8_byTurns_205 (lv_at hl 1 rfl) ?_
              refine lv_ishl hx hb dX8_byTurns_207 ?_
              refine lv_topi (fun v_522 e_522 => ?_)
              obtain rfl : v_522 = (nI sd) := (e_522).trans hsd
              refine lv_icmp_ge (tgt := 282) hx hb dX8_byTurns_208 (by decide) (fun c_ => absurd c_ (fun q_ => absurd ((nI_leI (a := sd) (b := ii2) (by omega) (by omega)).mp q_) (by omega))) (fun _ => ?_)
              refine lv_aload_n hx hb dX8_byTurns_211 rfl (lv_at hl 3 rfl) ?_
              refine va_get (D := (dC, dI)) (ci := 8) (v := .ref m_wo) (C := RX8) (T := TX8) (N := 24) hx hb hts i_X8_byTurns_X8 hown hK hP 1 rfl rfl 19 (by decide) (hts _ mx_X8_byTurns_7) (fun _ h9 => h9) rfl dX8_byTurns_212 ?_
              refine lv_iconst (v := 2) hx hb dX8_byTurns_215 (by decide) ?_
              refine lv_iload hx hb dX8_byTurns_216 (lv_at hl 0 rfl) ?_
              refine lv_imul hx hb dX8_byTurns_218 ?_
              refine lv_topi (fun v_524 e_524 => ?_)
              obtain rfl : v_524 = (nI (2 * ii2)) := (e_524).trans (pk_mul 2 ii2)
              refine va_iald hx hb hK hP 0 0 rfl rfl (vp_in_nI (by omega) (by omega)) dX8_byTurns_219 ?_
              refine lv_topi (fun v_525 e_525 => ?_)
              have e_525 : v_525 = w_500 (2 * ii2) := e_525.trans (congrArg w_500 (nI_clamp (by omega)))
              refine lv_istore (lv' := [(6, .int v_525), (5, .int (nI ii2)), (4, .int (cdn j_2 ii1)), (3, .int (nI (8 + z_11))), (0, .ref mo), (1, .int (nI j_2)), (2, .int (nI j_5))]) hx hb dX8_byTurns_220 hl (by decide) rfl (fun ls hl => ?_)
              refine lv_aload_n hx hb dX8_byTurns_222 rfl (lv_at hl 4 rfl) ?_
              refine va_get (D := (dC, dI)) (ci := 8) (v := .ref m_wo) (C := RX8) (T := TX8) (N := 24) hx hb hts i_X8_byTurns_X8 hown hK hP 1 rfl rfl 19 (by decide) (hts _ mx_X8_byTurns_7) (fun _ h9 => h9) rfl dX8_byTurns_223 ?_
              refine lv_iconst (v := 2) hx hb dX8_byTurns_226 (by decide) ?_
              refine lv_iload hx hb dX8_byTurns_227 (lv_at hl 1 rfl) ?_
              refine lv_imul hx hb dX8_byTurns_229 ?_
              refine lv_topi (fun v_526 e_526 => ?_)
              obtain rfl : v_526 = (nI (2 * ii2)) := (e_526).trans (pk_mul 2 ii2)
              refine lv_iconst (v := 1) hx hb dX8_byTurns_230 (by decide) ?_
              refine lv_iadd hx hb dX8_byTurns_231 ?_
              refine lv_topi (fun v_527 e_527 => ?_)
              obtain rfl : v_527 = (nI ((2 * ii2) + 1)) := (e_527).trans (nI_add (2 * ii2) 1)
              refine va_iald hx hb hK hP 0 0 rfl rfl (vp_in_nI (by omega) (by omega)) dX8_byTurns_232 ?_
              refine lv_topi (fun v_528 e_528 => ?_)
              have e_528 : v_528 = w_500 ((2 * ii2) + 1) := e_528.trans (congrArg w_500 (nI_clamp (by omega)))
              refine lv_istore (lv' := [(7, .int v_528), (6, .int v_525), (5, .int (nI ii2)), (4, .int (cdn j_2 ii1)), (3, .int (nI (8 + z_11))), (0, .ref mo), (1, .int (nI j_2)), (2, .int (nI j_5))]) hx hb dX8_byTurns_233 hl (by decide) rfl (fun ls hl => ?_)
              refine lv_aload_n hx hb dX8_byTurns_235 rfl (lv_at hl 5 rfl) ?_
              refine va_get (D := (dC, dI)) (ci := 8) (v := .ref m_wo) (C := RX8) (T := TX8) (N := 24) hx hb hts i_X8_byTurns_X8 hown hK hP 1 rfl rfl 19 (by decide) (hts _ mx_X8_byTurns_7) (fun _ h9 => h9) rfl dX8_byTurns_236 ?_
              refine lv_iload hx hb dX8_byTurns_239 (lv_at hl 2 rfl) ?_
              refine lv_iload hx hb dX8_byTurns_241 (lv_at hl 1 rfl) ?_
              refine lv_iload hx hb dX8_byTurns_243 (lv_at hl 0 rfl) ?_
              refine lv_icmp_le (tgt := 252) hx hb dX8_byTurns_245 (by decide) (fun c_529 => ?_) (fun c_529 => ?_)
              · skip
                refine lv_iconst (v := 0) hx hb dX8_byTurns_252 (by decide) ?_
                refine lv_iload hx hb dX8_byTurns_253 (lv_at hl 3 rfl) ?_
                refine lv_iconst (v := 2) hx hb dX8_byTurns_255 (by decide) ?_
                refine lv_irem hx hb dX8_byTurns_256 (by decide) ?_
                refine lv_topi (fun v_530 e_530 => ?_)
                refine lv_if_ne (tgt := 264) hx hb dX8_byTurns_257 (by decide) (fun c_531 => ?_) (fun c_531 => ?_)
                · skip
                  refine lv_iconst (v := 0) hx hb dX8_byTurns_264 (by decide) ?_
                  refine lv_icmp_ne (tgt := 273) hx hb dX8_byTurns_265 (by decide) (fun c_ => absurd (by decide) c_) (fun _ => ?_)
                  refine lv_iload hx hb dX8_byTurns_268 (lv_at hl 1 rfl) ?_
                  refine lv_goto (tgt := 275) hx hb dX8_byTurns_270 (by decide) ?_
                  refine va_iast hx hb hK hP hD hS 0 0 rfl rfl (vp_in_nI (by omega) (by omega)) dX8_byTurns_275 (fun H locs hP hD hS => ?_)
                  generalize hg_533 : upd w_500 ((nI ii2) : Int32).toNatClampNeg v_525 = g_533 at hP hD
                  have hu_533 : g_533 = upd w_500 ii2 v_525 := (by rw [← hg_533, nI_clamp (by omega)])
                  have hP : va_P (dC, dI) vwCl [(xI m_wo cI 16 g_533), (xo_8_rrriirrriiiiiiirrirrrrri mo m_la m_sz m_it ms mt m_st m_mv m_tp (nI mz) ml (nI mp) mk mv mb mw m_rd m_ac (nI ma) m_as m_wo m_ik m_ke m_tr (nI mx)), (xI m_st cI 38 w_123), (xI m_as cI 38 fan_8)] H := hP
                  have hD := dto hP hD
                  refine lv_iinc (v := (nI (ii2 + 1))) (lv' := [(5, .int (nI (ii2 + 1))), (7, .int v_528), (6, .int v_525), (4, .int (cdn j_2 ii1)), (3, .int (nI (8 + z_11))), (0, .ref mo), (1, .int (nI j_2)), (2, .int (nI j_5))]) hx hb dX8_byTurns_276 hl (k := 2) rfl (nI_add ii2 1) (by decide) rfl (fun ls hl => ?_)
                  refine lv_goto (tgt := 202) hx hb dX8_byTurns_279 (by decide) ?_
                  exact ih (g_533) _ _ _ ⟨lv_sub hl [0, 3, 4, 5, 6, 7] rfl, hP.sub (ws' := [(xI m_wo cI 16 g_533), (xo_8_rrriirrriiiiiiirrirrrrri mo m_la m_sz m_it ms mt m_st m_mv m_tp (nI mz) ml (nI mp) mk mv mb mw m_rd m_ac (nI ma) m_as m_wo m_ik m_ke m_tr (nI mx)), (xI m_st cI 38 w_123), (xI m_as cI 38 fan_8)]) [0, 1, 2, 3] rfl, hD.sub (ws' := [(xI m_wo cI 16 g_533), (xo_8_rrriirrriiiiiiirrirrrrri mo m_la m_sz m_it ms mt m_st m_mv m_tp (nI mz) ml (nI mp) mk mv mb mw m_rd m_ac (nI ma) m_as m_wo m_ik m_ke m_tr (nI mx)), (xI m_st cI 38 w_123), (xI m_as cI 38 fan_8)]) [0, 1, 2, 3] (by decide +kernel) rfl, hS, hMl, (lf_X8_byTurns_10 hM hT h999 hT0 c_1 hkn1 hw1 h01 f_2_1_0 q_2 hj_2 f_5_1_0 q_5 hj_5 hF_8_0 hsh hs4 hz_11 hze_11 haf_0 haf_1 e_346 hii1 haii1_0 hsd hsd8 hii2 haii2_0 haii2_1 hMl e_525 e_528 c_529 e_530 c_531 hu_533), (lf_X8_byTurns_11 hM hT h999 hT0 c_1 hkn1 hw1 h01 f_2_1_0 q_2 hj_2 f_5_1_0 q_5 hj_5 hF_8_0 hsh hs4 hz_11 hze_11 haf_0 haf_1 e_346 hii1 haii1_0 hsd hsd8 hii2 haii2_0 haii2_1 hMl e_525 e_528 c_529 e_530 c_531 hu_533)⟩
                · skip
                  refine lv_iconst (v := 1) hx hb dX8_byTurns_260 (by decide) ?_
                  refine lv_goto (tgt := 265) hx hb dX8_byTurns_261 (by decide) ?_
                  refine lv_icmp_ne (tgt := 273) hx hb dX8_byTurns_265 (by decide) (fun _ => ?_) (fun c_ => absurd c_ (by decide))
                  refine lv_iload hx hb dX8_byTurns_273 (lv_at hl 0 rfl) ?_
                  refine va_iast hx hb hK hP hD hS 0 0 rfl rfl (vp_in_nI (by omega) (by omega)) dX8_byTurns_275 (fun H locs hP hD hS => ?_)
                  generalize hg_535 : upd w_500 ((nI ii2) : Int32).toNatClampNeg v_528 = g_535 at hP hD
                  have hu_535 : g_535 = upd w_500 ii2 v_528 := (by rw [← hg_535, nI_clamp (by omega)])
                  have hP : va_P (dC, dI) vwCl [(xI m_wo cI 16 g_535), (xo_8_rrriirrriiiiiiirrirrrrri mo m_la m_sz m_it ms mt m_st m_mv m_tp (nI mz) ml (nI mp) mk mv mb mw m_rd m_ac (nI ma) m_as m_wo m_ik m_ke m_tr (nI mx)), (xI m_st cI 38 w_123), (xI m_as cI 38 fan_8)] H := hP
                  have hD := dto hP hD
                  refine lv_iinc (v := (nI (ii2 + 1))) (lv' := [(5, .int (nI (ii2 + 1))), (7, .int v_528), (6, .int v_525), (4, .int (cdn j_2 ii1)), (3, .int (nI (8 + z_11))), (0, .ref mo), (1, .int (nI j_2)), (2, .int (nI j_5))]) hx hb dX8_byTurns_276 hl (k := 2) rfl (nI_add ii2 1) (by decide) rfl (fun ls hl => ?_)
                  refine lv_goto (tgt := 202) hx hb dX8_byTurns_279 (by decide) ?_
                  exact ih (g_535) _ _ _ ⟨lv_sub hl [0, 3, 4, 5, 6, 7] rfl, hP.sub (ws' := [(xI m_wo cI 16 g_535), (xo_8_rrriirrriiiiiiirrirrrrri mo m_la m_sz m_it ms mt m_st m_mv m_tp (nI mz) ml (nI mp) mk mv mb mw m_rd m_ac (nI ma) m_as m_wo m_ik m_ke m_tr (nI mx)), (xI m_st cI 38 w_123), (xI m_as cI 38 fan_8)]) [0, 1, 2, 3] rfl, hD.sub (ws' := [(xI m_wo cI 16 g_535), (xo_8_rrriirrriiiiiiirrirrrrri mo m_la m_sz m_it ms mt m_st m_mv m_tp (nI mz) ml (nI mp) mk mv mb mw m_rd m_ac (nI ma) m_as m_wo m_ik m_ke m_tr (nI mx)), (xI m_st cI 38 w_123), (xI m_as cI 38 fan_8)]) [0, 1, 2, 3] (by decide +kernel) rfl, hS, hMl, (lf_X8_byTurns_12 hM hT h999 hT0 c_1 hkn1 hw1 h01 f_2_1_0 q_2 hj_2 f_5_1_0 q_5 hj_5 hF_8_0 hsh hs4 hz_11 hze_11 haf_0 haf_1 e_346 hii1 haii1_0 hsd hsd8 hii2 haii2_0 haii2_1 hMl e_525 e_528 c_529 e_530 c_531 hu_535), (lf_X8_byTurns_13 hM hT h999 hT0 c_1 hkn1 hw1 h01 f_2_1_0 q_2 hj_2 f_5_1_0 q_5 hj_5 hF_8_0 hsh hs4 hz_11 hze_11 haf_0 haf_1 e_346 hii1 haii1_0 hsd hsd8 hii2 haii2_0 haii2_1 hMl e_525 e_528 c_529 e_530 c_531 hu_535)⟩
              · skip
                refine lv_iconst (v := 1) hx hb dX8_byTurns_248 (by decide) ?_
                refine lv_goto (tgt := 253) hx hb dX8_byTurns_249 (by decide) ?_
                refine lv_iload hx hb dX8_byTurns_253 (lv_at hl 3 rfl) ?_
                refine lv_iconst (v := 2) hx hb dX8_byTurns_255 (by decide) ?_
                refine lv_irem hx hb dX8_byTurns_256 (by decide) ?_
                refine lv_topi (fun v_536 e_536 => ?_)
                refine lv_if_ne (tgt := 264) hx hb dX8_byTurns_257 (by decide) (fun c_537 => ?_) (fun c_537 => ?_)
                · skip
                  refine lv_iconst (v := 0) hx hb dX8_byTurns_264 (by decide) ?_
                  refine lv_icmp_ne (tgt := 273) hx hb dX8_byTurns_265 (by decide) (fun _ => ?_) (fun c_ => absurd c_ (by decide))
                  refine lv_iload hx hb dX8_byTurns_273 (lv_at hl 0 rfl) ?_
                  refine va_iast hx hb hK hP hD hS 0 0 rfl rfl (vp_in_nI (by omega) (by omega)) dX8_byTurns_275 (fun H locs hP hD hS => ?_)
                  generalize hg_539 : upd w_500 ((nI ii2) : Int32).toNatClampNeg v_528 = g_539 at hP hD
                  have hu_539 : g_539 = upd w_500 ii2 v_528 := (by rw [← hg_539, nI_clamp (by omega)])
                  have hP : va_P (dC, dI) vwCl [(xI m_wo cI 16 g_539), (xo_8_rrriirrriiiiiiirrirrrrri mo m_la m_sz m_it ms mt m_st m_mv m_tp (nI mz) ml (nI mp) mk mv mb mw m_rd m_ac (nI ma) m_as m_wo m_ik m_ke m_tr (nI mx)), (xI m_st cI 38 w_123), (xI m_as cI 38 fan_8)] H := hP
                  have hD := dto hP hD
                  refine lv_iinc (v := (nI (ii2 + 1))) (lv' := [(5, .int (nI (ii2 + 1))), (7, .int v_528), (6, .int v_525), (4, .int (cdn j_2 ii1)), (3, .int (nI (8 + z_11))), (0, .ref mo), (1, .int (nI j_2)), (2, .int (nI j_5))]) hx hb dX8_byTurns_276 hl (k := 2) rfl (nI_add ii2 1) (by decide) rfl (fun ls hl => ?_)
                  refine lv_goto (tgt := 202) hx hb dX8_byTurns_279 (by decide) ?_
                  exact ih (g_539) _ _ _ ⟨lv_sub hl [0, 3, 4, 5, 6, 7] rfl, hP.sub (ws' := [(xI m_wo cI 16 g_539), (xo_8_rrriirrriiiiiiirrirrrrri mo m_la m_sz m_it ms mt m_st m_mv m_tp (nI mz) ml (nI mp) mk mv mb mw m_rd m_ac (nI ma) m_as m_wo m_ik m_ke m_tr (nI mx)), (xI m_st cI 38 w_123), (xI m_as cI 38 fan_8)]) [0, 1, 2, 3] rfl, hD.sub (ws' := [(xI m_wo cI 16 g_539), (xo_8_rrriirrriiiiiiirrirrrrri mo m_la m_sz m_it ms mt m_st m_mv m_tp (nI mz) ml (nI mp) mk mv mb mw m_rd m_ac (nI ma) m_as m_wo m_ik m_ke m_tr (nI mx)), (xI m_st cI 38 w_123), (xI m_as cI 38 fan_8)]) [0, 1, 2, 3] (by decide +kernel) rfl, hS, hMl, (lf_X8_byTurns_14 hM hT h999 hT0 c_1 hkn1 hw1 h01 f_2_1_0 q_2 hj_2 f_5_1_0 q_5 hj_5 hF_8_0 hsh hs4 hz_11 hze_11 haf_0 haf_1 e_346 hii1 haii1_0 hsd hsd8 hii2 haii2_0 haii2_1 hMl e_525 e_528 c_529 e_536 c_537 hu_539), (lf_X8_byTurns_15 hM hT h999 hT0 c_1 hkn1 hw1 h01 f_2_1_0 q_2 hj_2 f_5_1_0 q_5 hj_5 hF_8_0 hsh hs4 hz_11 hze_11 haf_0 haf_1 e_346 hii1 haii1_0 hsd hsd8 hii2 haii2_0 haii2_1 hMl e_525 e_528 c_529 e_536 c_537 hu_539)⟩
                · skip
                  refine lv_iconst (v := 1) hx hb dX8_byTurns_260 (by decide) ?_
                  refine lv_goto (tgt := 265) hx hb dX8_byTurns_261 (by decide) ?_
                  refine lv_icmp_ne (tgt := 273) hx hb dX8_byTurns_265 (by decide) (fun c_ => absurd (by decide) c_) (fun _ => ?_)
                  refine lv_iload hx hb dX8_byTurns_268 (lv_at hl 1 rfl) ?_
                  refine lv_goto (tgt := 275) hx hb dX8_byTurns_270 (by decide) ?_
                  refine va_iast hx hb hK hP hD hS 0 0 rfl rfl (vp_in_nI (by omega) (by omega)) dX8_byTurns_275 (fun H locs hP hD hS => ?_)
                  generalize hg_541 : upd w_500 ((nI ii2) : Int32).toNatClampNeg v_525 = g_541 at hP hD
                  have hu_541 : g_541 = upd w_500 ii2 v_525 := (by rw [← hg_541, nI_clamp (by omega)])
                  have hP : va_P (dC, dI) vwCl [(xI m_wo cI 16 g_541), (xo_8_rrriirrriiiiiiirrirrrrri mo m_la m_sz m_it ms mt m_st m_mv m_tp (nI mz) ml (nI mp) mk mv mb mw m_rd m_ac (nI ma) m_as m_wo m_ik m_ke m_tr (nI mx)), (xI m_st cI 38 w_123), (xI m_as cI 38 fan_8)] H := hP
                  have hD := dto hP hD
                  refine lv_iinc (v := (nI (ii2 + 1))) (lv' := [(5, .int (nI (ii2 + 1))), (7, .int v_528), (6, .int v_525), (4, .int (cdn j_2 ii1)), (3, .int (nI (8 + z_11))), (0, .ref mo), (1, .int (nI j_2)), (2, .int (nI j_5))]) hx hb dX8_byTurns_276 hl (k := 2) rfl (nI_add ii2 1) (by decide) rfl (fun ls hl => ?_)
                  refine lv_goto (tgt := 202) hx hb dX8_byTurns_279 (by decide) ?_
                  exact ih (g_541) _ _ _ ⟨lv_sub hl [0, 3, 4, 5, 6, 7] rfl, hP.sub (ws' := [(xI m_wo cI 16 g_541), (xo_8_rrriirrriiiiiiirrirrrrri mo m_la m_sz m_it ms mt m_st m_mv m_tp (nI mz) ml (nI mp) mk mv mb mw m_rd m_ac (nI ma) m_as m_wo m_ik m_ke m_tr (nI mx)), (xI m_st cI 38 w_123), (xI m_as cI 38 fan_8)]) [0, 1, 2, 3] rfl, hD.sub (ws' := [(xI m_wo cI 16 g_541), (xo_8_rrriirrriiiiiiirrirrrrri mo m_la m_sz m_it ms mt m_st m_mv m_tp (nI mz) ml (nI mp) mk mv mb mw m_rd m_ac (nI ma) m_as m_wo m_ik m_ke m_tr (nI mx)), (xI m_st cI 38 w_123), (xI m_as cI 38 fan_8)]) [0, 1, 2, 3] (by decide +kernel) rfl, hS, hMl, (lf_X8_byTurns_16 hM hT h999 hT0 c_1 hkn1 hw1 h01 f_2_1_0 q_2 hj_2 f_5_1_0 q_5 hj_5 hF_8_0 hsh hs4 hz_11 hze_11 haf_0 haf_1 e_346 hii1 haii1_0 hsd hsd8 hii2 haii2_0 haii2_1 hMl e_525 e_528 c_529 e_536 c_537 hu_541), (lf_X8_byTurns_17 hM hT h999 hT0 c_1 hkn1 hw1 h01 f_2_1_0 q_2 hj_2 f_5_1_0 q_5 hj_5 hF_8_0 hsh hs4 hz_11 hze_11 haf_0 haf_1 e_346 hii1 haii1_0 hsd hsd8 hii2 haii2_0 haii2_1 hMl e_525 e_528 c_529 e_536 c_537 hu_541)⟩
            · rintro w_500 H locs ls ⟨hl, hP, hD, hS, hMl, haii2_0, haii2_1⟩
              refine lv_iload hx hb dX8_byTurns_202 (lv_at hl 0 rfl) ?_
              refine lv_iconst (v := 1) hx hb dX8_byTurns_204 (by decide) ?_
              refine lv_iload hx hb dX8_byTurns_205 (lv_at hl 1 rfl) ?_
              refine lv_ishl hx hb dX8_byTurns_207 ?_
              refine lv_topi (fun v_542 e_542 => ?_)
              obtain rfl : v_542 = (nI sd) := (e_542).trans hsd
              refine lv_icmp_ge (tgt := 282) hx hb dX8_byTurns_208 (by decide) (fun _ => ?_) (fun c_ => absurd ((nI_leI (a := sd) (b := sd) (by omega) (by omega)).mpr (by omega)) c_)
              refine lv_iinc (v := (cdn j_2 (ii1 + 1))) (lv' := [(4, .int (cdn j_2 (ii1 + 1))), (5, .int (nI sd)), (3, .int (nI (8 + z_11))), (0, .ref mo), (1, .int (nI j_2)), (2, .int (nI j_5))]) hx hb dX8_byTurns_282 hl (k := 1) rfl (cdn_s (by omega) hii1) (by decide) rfl (fun ls hl => ?_)
              refine lv_goto (tgt := 194) hx hb dX8_byTurns_285 (by decide) ?_
              exact ih (w_500) _ _ _ ⟨lv_sub hl [0, 2, 3, 4, 5] rfl, hP.sub (ws' := [(xI m_wo cI 16 w_500), (xo_8_rrriirrriiiiiiirrirrrrri mo m_la m_sz m_it ms mt m_st m_mv m_tp (nI mz) ml (nI mp) mk mv mb mw m_rd m_ac (nI ma) m_as m_wo m_ik m_ke m_tr (nI mx)), (xI m_st cI 38 w_123), (xI m_as cI 38 fan_8)]) [0, 1, 2, 3] rfl, hD.sub (ws' := [(xI m_wo cI 16 w_500), (xo_8_rrriirrriiiiiiirrirrrrri mo m_la m_sz m_it ms mt m_st m_mv m_tp (nI mz) ml (nI mp) mk mv mb mw m_rd m_ac (nI ma) m_as m_wo m_ik m_ke m_tr (nI mx)), (xI m_st cI 38 w_123), (xI m_as cI 38 fan_8)]) [0, 1, 2, 3] (by decide +kernel) rfl, hS, hMl, (lf_X8_byTurns_18 hM hT h999 hT0 c_1 hkn1 hw1 h01 f_2_1_0 q_2 hj_2 f_5_1_0 q_5 hj_5 hF_8_0 hsh hs4 hz_11 hze_11 haf_0 haf_1 e_346 hii1 haii1_0 hsd hsd8 haii2_0 haii2_1 hMl)⟩
          · rintro w_412 H locs ls ⟨hl, hP, hD, hS, hMl, haii1_0⟩
            refine lv_iload hx hb dX8_byTurns_194 (lv_at hl 0 rfl) ?_
            refine lv_if_lt (tgt := 288) hx hb dX8_byTurns_196 (by decide) (fun _ => ?_) (fun c_ => absurd (cdn_end (by omega)) c_)
            refine lv_aload_n hx hb dX8_byTurns_288 rfl (lv_at hl 2 rfl) ?_
            refine va_get (D := (dC, dI)) (ci := 8) (v := .ref m_wo) (C := RX8) (T := TX8) (N := 24) hx hb hts i_X8_byTurns_X8 hown hK hP 1 rfl rfl 19 (by decide) (hts _ mx_X8_byTurns_7) (fun _ h9 => h9) rfl dX8_byTurns_289 ?_
            refine lv_iconst (v := 0) hx hb dX8_byTurns_292 (by decide) ?_
            refine va_iald hx hb hK hP 0 0 rfl rfl (by unfold vp_in; decide) dX8_byTurns_293 ?_
            refine lv_topi (fun v_545 e_545 => ?_)
            have e_545 : v_545 = w_412 0 := e_545
            have hX9 := cut2 (wc := [(xo_8_rrriirrriiiiiiirrirrrrri mo m_la m_sz m_it ms mt m_st m_mv m_tp (nI mz) ml (nI mp) mk mv mb mw m_rd m_ac (nI ma) m_as m_wo m_ik m_ke m_tr (nI mx)), (xI m_st cI 38 w_123), (xI m_as cI 38 fan_8), (xI m_wo cI 16 w_412)]) hP hD [1, 2, 3, 0] (by decide +kernel) rfl
            exact W.iret (v := v_545) hx hb hr (fun t ht hW => ⟨⟨v_545, (), rfl, (lf_X8_byTurns_19 hM hT h999 hT0 c_1 hkn1 hw1 h01 f_2_1_0 q_2 hj_2 f_5_1_0 q_5 hj_5 hF_8_0 hsh hs4 hz_11 hze_11 haf_0 haf_1 e_346 haii1_0 hMl e_545), ⟨w_123, fan_8, w_412, va_Ht ht hX9.1, hX9.2, hMl, haf_1⟩⟩, hS.F ht⟩) hS.2.2 dX8_byTurns_294
  · skip
    have h00 : fs 0 = 0 := (hT0 c_1).1
    refine lv_ldc (own := RX8) (v := (-1000002)) hx hb hown (hts _ mx_X8_byTurns_2) dX8_byTurns_7 ?_
    have hX9 := cut2 (wc := [(xo_8_rrriirrriiiiiiirrirrrrri mo m_la m_sz m_it ms mt m_st m_mv m_tp (nI mz) ml (nI mp) mk mv mb mw m_rd m_ac (nI ma) m_as m_wo m_ik m_ke m_tr (nI mx)), (xI m_st cI 38 fs), (xI m_as cI 38 fa), (xI m_wo cI 16 fw)]) hP hD [0, 1, 2, 3] (by decide +kernel) rfl
    exact W.iret (v := (-1000002)) hx hb hr (fun t ht hW => ⟨⟨(-1000002), (), rfl, (lf_X8_byTurns_20 hM hT h999 hT0 c_1 h00), ⟨fs, fa, fw, va_Ht ht hX9.1, hX9.2, hM, rfl⟩⟩, hS.F ht⟩) hS.2.2 dX8_byTurns_9
