set_option maxHeartbeats 4000000 in
set_option maxRecDepth 100000 in
theorem r_X8_note (l : Launch) (dC : Nat → ClassId) (dI : Nat → Nat → Nat) (cI cZ cL cJ : ClassId) (sz : Nat) (mo : Nat) (m_la : Nat) (m_sz : Nat) (m_it : Nat) (m_st : Nat) (m_mv : Nat) (m_tp : Nat) (m_rd : Nat) (m_ac : Nat) (m_as : Nat) (m_wo : Nat) (m_ik : Nat) (m_ke : Nat) (m_tr : Nat) (ms : Int32) (mt : Int32) (ml : Int32) (mk : Int32) (mv : Int32) (mb : Int32) (mw : Int32) (mz : Nat) (mp : Nat) (ma : Nat) (mx : Nat) (fs : Nat → Int32) (fc : Nat → Int32) (hac : okA fc ma) (hma : ma ≤ 24) (hKs : okK fs) : Met l yX8_note wsX8_note ({ frames := 0, cells := 0, slots := 0, locals := 0 }) (va_Pc [.ref mo] (fun U => U.heap.size = sz ∧ va_P (dC, dI) vwCl [(xo_8_rrriirrriiiiiiirrirrrrri mo m_la m_sz m_it ms mt m_st m_mv m_tp (nI mz) ml (nI mp) mk mv mb mw m_rd m_ac (nI ma) m_as m_wo m_ik m_ke m_tr (nI mx)), (xI m_st cI 38 fs), (xI m_ac cI 912 fc)] U.heap ∧ va_K (dC, dI) vwCl [(cI, .int), (cZ, .boolean), (cL, .object RX3), (cJ, .array .int)] U ∧ va_D (fun _ => True) [(xo_8_rrriirrriiiiiiirrirrrrri mo m_la m_sz m_it ms mt m_st m_mv m_tp (nI mz) ml (nI mp) mk mv mb mw m_rd m_ac (nI ma) m_as m_wo m_ik m_ke m_tr (nI mx)), (xI m_st cI 38 fs), (xI m_ac cI 912 fc)])) (va_Qv (fun (_ : Unit) => True) (fun (_ : Unit) t => ∃ (fcn : Nat → Int32) (man : Nat), va_P (dC, dI) vwCl [(xo_8_rrriirrriiiiiiirrirrrrri mo m_la m_sz m_it ms mt m_st m_mv m_tp (nI mz) ml (nI mp) mk mv mb mw m_rd m_ac (nI man) m_as m_wo m_ik m_ke m_tr (nI mx)), (xI m_st cI 38 fs), (xI m_ac cI 912 fcn)] t.heap ∧ va_D (va_A [(xo_8_rrriirrriiiiiiirrirrrrri mo m_la m_sz m_it ms mt m_st m_mv m_tp (nI mz) ml (nI mp) mk mv mb mw m_rd m_ac (nI ma) m_as m_wo m_ik m_ke m_tr (nI mx)), (xI m_st cI 38 fs), (xI m_ac cI 912 fc)] sz) [(xo_8_rrriirrriiiiiiirrirrrrri mo m_la m_sz m_it ms mt m_st m_mv m_tp (nI mz) ml (nI mp) mk mv mb mw m_rd m_ac (nI man) m_as m_wo m_ik m_ke m_tr (nI mx)), (xI m_st cI 38 fs), (xI m_ac cI 912 fcn)] ∧ okA fcn man ∧ man ≤ 24 ∧ 1 ≤ man ∧ acM fcn man = ntA (m38 fs) ma (acM fc ma) ∧ man = ntN ma) (va_A [(xo_8_rrriirrriiiiiiirrirrrrri mo m_la m_sz m_it ms mt m_st m_mv m_tp (nI mz) ml (nI mp) mk mv mb mw m_rd m_ac (nI ma) m_as m_wo m_ik m_ke m_tr (nI mx)), (xI m_st cI 38 fs), (xI m_ac cI 912 fc)] sz)) 0 0 (va_A [(xo_8_rrriirrriiiiiiirrirrrrri mo m_la m_sz m_it ms mt m_st m_mv m_tp (nI mz) ml (nI mp) mk mv mb mw m_rd m_ac (nI ma) m_as m_wo m_ik m_ke m_tr (nI mx)), (xI m_st cI 38 fs), (xI m_ac cI 912 fc)] sz) := by
  refine Met.ofW (cc := cX8_note) (maxL := 2) (ret := none) (by decide) rfl ?_
  intro p e s m args below meth c s₁ B hml hv
  obtain ⟨rfl, hsz, hP, hK, hD0⟩ := hv
  have hx := B.exec
  have hb := B.bytes
  have hr := B.returns
  have hts := atoms_spec (ws := wsX8_note) B.pre
  have hown : s.vm.findClass RX8 = some m.cls := findClass_of_methodNamed B.named
  have hlocks := B.notSynchronized
  subst hsz
  have hD := hD0.self (sz := s.heap.size)
  generalize hAe : va_A [(xo_8_rrriirrriiiiiiirrirrrrri mo m_la m_sz m_it ms mt m_st m_mv m_tp (nI mz) ml (nI mp) mk mv mb mw m_rd m_ac (nI ma) m_as m_wo m_ik m_ke m_tr (nI mx)), (xI m_st cI 38 fs), (xI m_ac cI 912 fc)] s.heap.size = A at hD ⊢
  have hA : ∀ q : Nat, s.heap.size ≤ q → A q := fun q h => by rw [← hAe]; exact Or.inr h
  have hS : va_S A s.heap s.heap [] := va_S.rf
  have hP : va_P (dC, dI) vwCl [(xo_8_rrriirrriiiiiiirrirrrrri mo m_la m_sz m_it ms mt m_st m_mv m_tp (nI mz) ml (nI mp) mk mv mb mw m_rd m_ac (nI ma) m_as m_wo m_ik m_ke m_tr (nI mx)), (xI m_st cI 38 fs), (xI m_ac cI 912 fc)] s.heap := hP
  have hl := lv_entry ([.ref mo]) (n := 2) (Nat.le_of_ble_eq_true rfl)
  rw [lg_entry_eq]
  generalize (lg_sl ([.ref mo]) ++ List.replicate (2 - (lg_sl ([.ref mo])).length) Slot.unset).toArray = ls at hl ⊢
  have hl : lv_has ls 2 [(0, .ref mo)] := hl
  refine lv_aload_n hx hb dX8_note_0 rfl (lv_at hl 0 rfl) ?_
  refine va_get (D := (dC, dI)) (ci := 8) (v := .int (nI ma)) (C := RX8) (T := TX8) (N := 24) hx hb hts i_X8_note_X8 hown hK hP 0 rfl rfl 17 (by decide) (hts _ mx_X8_note_1) (fun _ h9 => h9) rfl dX8_note_1 ?_
  refine lv_bipush (v := 24) hx hb dX8_note_4 (by decide) ?_
  refine lv_icmp_ne (tgt := 49) hx hb dX8_note_6 (by decide) (fun c_1 => ?_) (fun c_1 => ?_)
  · have c_1 : ¬ (ma = 24) := fun q_ => c_1 ((nI_eq (a := ma) (b := 24) (by omega) (by omega)).mpr q_)
    refine lv_iconst (v := 0) hx hb dX8_note_49 (by decide) ?_
    refine lv_istore_n (lv' := [(1, .int 0), (0, .ref mo)]) hx hb dX8_note_50 rfl hl (by decide) rfl (fun ls hl => ?_)
    refine lp_go (σ := (Nat → Int32)) (fun ii (st : (Nat → Int32)) H locs ls => match st with | w_7 => lv_has ls 2 [(1, .int (nI ii)), (0, .ref mo)] ∧ va_P (dC, dI) vwCl [(xo_8_rrriirrriiiiiiirrirrrrri mo m_la m_sz m_it ms mt m_st m_mv m_tp (nI mz) ml (nI mp) mk mv mb mw m_rd m_ac (nI ma) m_as m_wo m_ik m_ke m_tr (nI mx)), (xI m_st cI 38 fs), (xI m_ac cI 912 w_7)] H ∧ va_D A [(xo_8_rrriirrriiiiiiirrirrrrri mo m_la m_sz m_it ms mt m_st m_mv m_tp (nI mz) ml (nI mp) mk mv mb mw m_rd m_ac (nI ma) m_as m_wo m_ik m_ke m_tr (nI mx)), (xI m_st cI 38 fs), (xI m_ac cI 912 w_7)] ∧ va_S A s.heap H locs ∧ (∀ j : Nat, j < ii → w_7 (38 * ma + j) = fs j) ∧ (∀ j : Nat, j < 38 * ma ∨ 38 * ma + 38 ≤ j → w_7 j = fc j)) 38 ?_ ?_ 0 (by omega) (fc) ⟨lv_sub hl [0, 1] rfl, hP.sub (ws' := [(xo_8_rrriirrriiiiiiirrirrrrri mo m_la m_sz m_it ms mt m_st m_mv m_tp (nI mz) ml (nI mp) mk mv mb mw m_rd m_ac (nI ma) m_as m_wo m_ik m_ke m_tr (nI mx)), (xI m_st cI 38 fs), (xI m_ac cI 912 fc)]) [0, 1, 2] rfl, hD.sub (ws' := [(xo_8_rrriirrriiiiiiirrirrrrri mo m_la m_sz m_it ms mt m_st m_mv m_tp (nI mz) ml (nI mp) mk mv mb mw m_rd m_ac (nI ma) m_as m_wo m_ik m_ke m_tr (nI mx)), (xI m_st cI 38 fs), (xI m_ac cI 912 fc)]) [0, 1, 2] (by decide +kernel) rfl, hS, (fun j h_ => absurd h_ (Nat.not_lt_zero j)), (fun j _ => rfl)⟩
    · rintro ii w_7 H locs ls hii ⟨hl, hP, hD, hS, haf_0, haf_1⟩ ih
      refine lv_iload_n hx hb dX8_note_51 rfl (lv_at hl 0 rfl) ?_
      refine lv_bipush (v := 38) hx hb dX8_note_52 (by decide) ?_
      refine lv_icmp_ge (tgt := 83) hx hb dX8_note_54 (by decide) (fun c_ => absurd c_ (fun q_ => absurd ((nI_leI (a := 38) (b := ii) (by omega) (by omega)).mp q_) (by omega))) (fun _ => ?_)
      refine lv_aload_n hx hb dX8_note_57 rfl (lv_at hl 1 rfl) ?_
      refine va_get (D := (dC, dI)) (ci := 8) (v := .ref m_ac) (C := RX8) (T := TX8) (N := 24) hx hb hts i_X8_note_X8 hown hK hP 0 rfl rfl 16 (by decide) (hts _ mx_X8_note_2) (fun _ h9 => h9) rfl dX8_note_58 ?_
      refine lv_bipush (v := 38) hx hb dX8_note_61 (by decide) ?_
      refine lv_aload_n hx hb dX8_note_63 rfl (lv_at hl 1 rfl) ?_
      refine va_get (D := (dC, dI)) (ci := 8) (v := .int (nI ma)) (C := RX8) (T := TX8) (N := 24) hx hb hts i_X8_note_X8 hown hK hP 0 rfl rfl 17 (by decide) (hts _ mx_X8_note_1) (fun _ h9 => h9) rfl dX8_note_64 ?_
      refine lv_imul hx hb dX8_note_67 ?_
      refine lv_topi (fun v_15 e_15 => ?_)
      obtain rfl : v_15 = (nI (38 * ma)) := (e_15).trans (pk_mul 38 ma)
      refine lv_iload_n hx hb dX8_note_68 rfl (lv_at hl 0 rfl) ?_
      refine lv_iadd hx hb dX8_note_69 ?_
      refine lv_topi (fun v_16 e_16 => ?_)
      obtain rfl : v_16 = (nI ((38 * ma) + ii)) := (e_16).trans (nI_add (38 * ma) ii)
      refine lv_aload_n hx hb dX8_note_70 rfl (lv_at hl 1 rfl) ?_
      refine va_get (D := (dC, dI)) (ci := 8) (v := .ref m_st) (C := RX8) (T := TX8) (N := 24) hx hb hts i_X8_note_X8 hown hK hP 0 rfl rfl 5 (by decide) (hts _ mx_X8_note_3) (fun _ h9 => h9) rfl dX8_note_71 ?_
      refine lv_iload_n hx hb dX8_note_74 rfl (lv_at hl 0 rfl) ?_
      refine va_iald hx hb hK hP 1 0 rfl rfl (vp_in_nI (by omega) (by omega)) dX8_note_75 ?_
      refine lv_topi (fun v_17 e_17 => ?_)
      refine va_iast hx hb hK hP hD hS 2 0 rfl rfl (vp_in_nI (by omega) (by omega)) dX8_note_76 (fun H locs hP hD hS => ?_)
      generalize hg_18 : upd w_7 ((nI ((38 * ma) + ii)) : Int32).toNatClampNeg v_17 = g_18 at hP hD
      have hP : va_P (dC, dI) vwCl [(xo_8_rrriirrriiiiiiirrirrrrri mo m_la m_sz m_it ms mt m_st m_mv m_tp (nI mz) ml (nI mp) mk mv mb mw m_rd m_ac (nI ma) m_as m_wo m_ik m_ke m_tr (nI mx)), (xI m_st cI 38 fs), (xI m_ac cI 912 g_18)] H := hP
      have hD := dto hP hD
      refine lv_iinc (v := (nI (ii + 1))) (lv' := [(1, .int (nI (ii + 1))), (0, .ref mo)]) hx hb dX8_note_77 hl (k := 0) rfl (nI_add ii 1) (by decide) rfl (fun ls hl => ?_)
      refine lv_goto (tgt := 51) hx hb dX8_note_80 (by decide) ?_
      exact ih (g_18) _ _ _ ⟨lv_sub hl [0, 1] rfl, hP.sub (ws' := [(xo_8_rrriirrriiiiiiirrirrrrri mo m_la m_sz m_it ms mt m_st m_mv m_tp (nI mz) ml (nI mp) mk mv mb mw m_rd m_ac (nI ma) m_as m_wo m_ik m_ke m_tr (nI mx)), (xI m_st cI 38 fs), (xI m_ac cI 912 g_18)]) [0, 1, 2] rfl, hD.sub (ws' := [(xo_8_rrriirrriiiiiiirrirrrrri mo m_la m_sz m_it ms mt m_st m_mv m_tp (nI mz) ml (nI mp) mk mv mb mw m_rd m_ac (nI ma) m_as m_wo m_ik m_ke m_tr (nI mx)), (xI m_st cI 38 fs), (xI m_ac cI 912 g_18)]) [0, 1, 2] (by decide +kernel) rfl, hS, (cp_d (a := 38 * ma) haf_0 (by omega) e_17 hg_18), (cp_do (a := 38 * ma) (n := 38) haf_1 (by omega) (by omega) hg_18)⟩
    · rintro w_7 H locs ls ⟨hl, hP, hD, hS, haf_0, haf_1⟩
      refine lv_iload_n hx hb dX8_note_51 rfl (lv_at hl 0 rfl) ?_
      refine lv_bipush (v := 38) hx hb dX8_note_52 (by decide) ?_
      refine lv_icmp_ge (tgt := 83) hx hb dX8_note_54 (by decide) (fun _ => ?_) (fun c_ => absurd ((nI_leI (a := 38) (b := 38) (by omega) (by omega)).mpr (by omega)) c_)
      have hpu := okA_push (n := ma) hac hKs haf_0 haf_1
      refine lv_aload_n hx hb dX8_note_83 rfl (lv_at hl 1 rfl) ?_
      refine lv_dup hx hb dX8_note_84 rfl ?_
      refine va_get (D := (dC, dI)) (ci := 8) (v := .int (nI ma)) (C := RX8) (T := TX8) (N := 24) hx hb hts i_X8_note_X8 hown hK hP 0 rfl rfl 17 (by decide) (hts _ mx_X8_note_1) (fun _ h9 => h9) rfl dX8_note_85 ?_
      refine lv_iconst (v := 1) hx hb dX8_note_88 (by decide) ?_
      refine lv_iadd hx hb dX8_note_89 ?_
      refine lv_topi (fun v_20 e_20 => ?_)
      obtain rfl : v_20 = (nI (ma + 1)) := (e_20).trans (nI_add ma 1)
      refine va_put (D := (dC, dI)) (ci := 8) (v := .int (nI (ma + 1))) (ty := .int) (C := RX8) (T := TX8) (N := 24) hx hb hts i_X8_note_X8 tyX8 tyX8_ok nmX8 hown hK hP hD hS 0 rfl rfl 17 (by decide) (hts _ mx_X8_note_1) (fun _ h9 => h9) rfl (by decide +kernel) rfl rfl (Nat.le_of_ble_eq_true rfl) dX8_note_90 (fun H locs hP hD hS => ?_)
      have hP : va_P (dC, dI) vwCl [(xo_8_rrriirrriiiiiiirrirrrrri mo m_la m_sz m_it ms mt m_st m_mv m_tp (nI mz) ml (nI mp) mk mv mb mw m_rd m_ac (nI (ma + 1)) m_as m_wo m_ik m_ke m_tr (nI mx)), (xI m_st cI 38 fs), (xI m_ac cI 912 w_7)] H := hP
      have hD := dto hP hD
      have hX9 := cut2 (wc := [(xo_8_rrriirrriiiiiiirrirrrrri mo m_la m_sz m_it ms mt m_st m_mv m_tp (nI mz) ml (nI mp) mk mv mb mw m_rd m_ac (nI (ma + 1)) m_as m_wo m_ik m_ke m_tr (nI mx)), (xI m_st cI 38 fs), (xI m_ac cI 912 w_7)]) hP hD [0, 1, 2] (by decide +kernel) rfl
      exact W.vret hx hb hr (fun t ht hW => ⟨⟨(), rfl, trivial, ⟨w_7, (ma + 1), va_Ht ht hX9.1, hX9.2, hpu, (by omega), (by omega), (acM_push (by omega) haf_0 haf_1), (by unfold ntN; split <;> omega)⟩⟩, hS.F ht⟩) hS.2.2 dX8_note_93
  · have c_1 : ma = 24 := (nI_eq (a := ma) (b := 24) (by omega) (by omega)).mp c_1
    have e24_ : ma = 24 := by omega
    have hac24 : okA fc 24 := e24_ ▸ hac
    refine lv_iconst (v := 0) hx hb dX8_note_9 (by decide) ?_
    refine lv_istore_n (lv' := [(1, .int 0), (0, .ref mo)]) hx hb dX8_note_10 rfl hl (by decide) rfl (fun ls hl => ?_)
    refine lp_go (σ := (Nat → Int32)) (fun ii (st : (Nat → Int32)) H locs ls => match st with | w_25 => lv_has ls 2 [(1, .int (nI ii)), (0, .ref mo)] ∧ va_P (dC, dI) vwCl [(xo_8_rrriirrriiiiiiirrirrrrri mo m_la m_sz m_it ms mt m_st m_mv m_tp (nI mz) ml (nI mp) mk mv mb mw m_rd m_ac (nI ma) m_as m_wo m_ik m_ke m_tr (nI mx)), (xI m_st cI 38 fs), (xI m_ac cI 912 w_25)] H ∧ va_D A [(xo_8_rrriirrriiiiiiirrirrrrri mo m_la m_sz m_it ms mt m_st m_mv m_tp (nI mz) ml (nI mp) mk mv mb mw m_rd m_ac (nI ma) m_as m_wo m_ik m_ke m_tr (nI mx)), (xI m_st cI 38 fs), (xI m_ac cI 912 w_25)] ∧ va_S A s.heap H locs ∧ ((∀ j : Nat, j < ii → w_25 j = fc (j + 38)) ∧ ∀ j : Nat, ii ≤ j → w_25 j = fc j)) 874 ?_ ?_ 0 (by omega) (fc) ⟨lv_sub hl [0, 1] rfl, hP.sub (ws' := [(xo_8_rrriirrriiiiiiirrirrrrri mo m_la m_sz m_it ms mt m_st m_mv m_tp (nI mz) ml (nI mp) mk mv mb mw m_rd m_ac (nI ma) m_as m_wo m_ik m_ke m_tr (nI mx)), (xI m_st cI 38 fs), (xI m_ac cI 912 fc)]) [0, 1, 2] rfl, hD.sub (ws' := [(xo_8_rrriirrriiiiiiirrirrrrri mo m_la m_sz m_it ms mt m_st m_mv m_tp (nI mz) ml (nI mp) mk mv mb mw m_rd m_ac (nI ma) m_as m_wo m_ik m_ke m_tr (nI mx)), (xI m_st cI 38 fs), (xI m_ac cI 912 fc)]) [0, 1, 2] (by decide +kernel) rfl, hS, ⟨fun j h_ => absurd h_ (Nat.not_lt_zero j), fun j _ => rfl⟩⟩
    · rintro ii w_25 H locs ls hii ⟨hl, hP, hD, hS, haf_0⟩ ih
      refine lv_iload_n hx hb dX8_note_11 rfl (lv_at hl 0 rfl) ?_
      refine lv_sipush (v := 874) hx hb dX8_note_12 (by decide) ?_
      refine lv_icmp_ge (tgt := 39) hx hb dX8_note_15 (by decide) (fun c_ => absurd c_ (fun q_ => absurd ((nI_leI (a := 874) (b := ii) (by omega) (by omega)).mp q_) (by omega))) (fun _ => ?_)
      refine lv_aload_n hx hb dX8_note_18 rfl (lv_at hl 1 rfl) ?_
      refine va_get (D := (dC, dI)) (ci := 8) (v := .ref m_ac) (C := RX8) (T := TX8) (N := 24) hx hb hts i_X8_note_X8 hown hK hP 0 rfl rfl 16 (by decide) (hts _ mx_X8_note_2) (fun _ h9 => h9) rfl dX8_note_19 ?_
      refine lv_iload_n hx hb dX8_note_22 rfl (lv_at hl 0 rfl) ?_
      refine lv_aload_n hx hb dX8_note_23 rfl (lv_at hl 1 rfl) ?_
      refine va_get (D := (dC, dI)) (ci := 8) (v := .ref m_ac) (C := RX8) (T := TX8) (N := 24) hx hb hts i_X8_note_X8 hown hK hP 0 rfl rfl 16 (by decide) (hts _ mx_X8_note_2) (fun _ h9 => h9) rfl dX8_note_24 ?_
      refine lv_iload_n hx hb dX8_note_27 rfl (lv_at hl 0 rfl) ?_
      refine lv_bipush (v := 38) hx hb dX8_note_28 (by decide) ?_
      refine lv_iadd hx hb dX8_note_30 ?_
      refine lv_topi (fun v_32 e_32 => ?_)
      obtain rfl : v_32 = (nI (ii + 38)) := (e_32).trans (nI_add ii 38)
      refine va_iald hx hb hK hP 2 0 rfl rfl (vp_in_nI (by omega) (by omega)) dX8_note_31 ?_
      refine lv_topi (fun v_33 e_33 => ?_)
      refine va_iast hx hb hK hP hD hS 2 0 rfl rfl (vp_in_nI (by omega) (by omega)) dX8_note_32 (fun H locs hP hD hS => ?_)
      generalize hg_34 : upd w_25 ((nI ii) : Int32).toNatClampNeg v_33 = g_34 at hP hD
      have hP : va_P (dC, dI) vwCl [(xo_8_rrriirrriiiiiiirrirrrrri mo m_la m_sz m_it ms mt m_st m_mv m_tp (nI mz) ml (nI mp) mk mv mb mw m_rd m_ac (nI ma) m_as m_wo m_ik m_ke m_tr (nI mx)), (xI m_st cI 38 fs), (xI m_ac cI 912 g_34)] H := hP
      have hD := dto hP hD
      refine lv_iinc (v := (nI (ii + 1))) (lv' := [(1, .int (nI (ii + 1))), (0, .ref mo)]) hx hb dX8_note_33 hl (k := 0) rfl (nI_add ii 1) (by decide) rfl (fun ls hl => ?_)
      refine lv_goto (tgt := 11) hx hb dX8_note_36 (by decide) ?_
      exact ih (g_34) _ _ _ ⟨lv_sub hl [0, 1] rfl, hP.sub (ws' := [(xo_8_rrriirrriiiiiiirrirrrrri mo m_la m_sz m_it ms mt m_st m_mv m_tp (nI mz) ml (nI mp) mk mv mb mw m_rd m_ac (nI ma) m_as m_wo m_ik m_ke m_tr (nI mx)), (xI m_st cI 38 fs), (xI m_ac cI 912 g_34)]) [0, 1, 2] rfl, hD.sub (ws' := [(xo_8_rrriirrriiiiiiirrirrrrri mo m_la m_sz m_it ms mt m_st m_mv m_tp (nI mz) ml (nI mp) mk mv mb mw m_rd m_ac (nI ma) m_as m_wo m_ik m_ke m_tr (nI mx)), (xI m_st cI 38 fs), (xI m_ac cI 912 g_34)]) [0, 1, 2] (by decide +kernel) rfl, hS, (cp_sh haf_0 (by omega) e_33 hg_34)⟩
    · rintro w_25 H locs ls ⟨hl, hP, hD, hS, haf_0⟩
      refine lv_iload_n hx hb dX8_note_11 rfl (lv_at hl 0 rfl) ?_
      refine lv_sipush (v := 874) hx hb dX8_note_12 (by decide) ?_
      refine lv_icmp_ge (tgt := 39) hx hb dX8_note_15 (by decide) (fun _ => ?_) (fun c_ => absurd ((nI_leI (a := 874) (b := 874) (by omega) (by omega)).mpr (by omega)) c_)
      have hsh := okA_sh hac24 haf_0 (by assumption)
      have haf_s := haf_0
      refine lv_aload_n hx hb dX8_note_39 rfl (lv_at hl 1 rfl) ?_
      refine lv_dup hx hb dX8_note_40 rfl ?_
      refine va_get (D := (dC, dI)) (ci := 8) (v := .int (nI ma)) (C := RX8) (T := TX8) (N := 24) hx hb hts i_X8_note_X8 hown hK hP 0 rfl rfl 17 (by decide) (hts _ mx_X8_note_1) (fun _ h9 => h9) rfl dX8_note_41 ?_
      refine lv_iconst (v := 1) hx hb dX8_note_44 (by decide) ?_
      refine lv_isub hx hb dX8_note_45 ?_
      refine lv_topi (fun v_36 e_36 => ?_)
      obtain rfl : v_36 = (nI (ma - 1)) := (e_36).trans (pk_sub (a := ma) (b := 1) (by omega))
      refine va_put (D := (dC, dI)) (ci := 8) (v := .int (nI (ma - 1))) (ty := .int) (C := RX8) (T := TX8) (N := 24) hx hb hts i_X8_note_X8 tyX8 tyX8_ok nmX8 hown hK hP hD hS 0 rfl rfl 17 (by decide) (hts _ mx_X8_note_1) (fun _ h9 => h9) rfl (by decide +kernel) rfl rfl (Nat.le_of_ble_eq_true rfl) dX8_note_46 (fun H locs hP hD hS => ?_)
      have hP : va_P (dC, dI) vwCl [(xo_8_rrriirrriiiiiiirrirrrrri mo m_la m_sz m_it ms mt m_st m_mv m_tp (nI mz) ml (nI mp) mk mv mb mw m_rd m_ac (nI (ma - 1)) m_as m_wo m_ik m_ke m_tr (nI mx)), (xI m_st cI 38 fs), (xI m_ac cI 912 w_25)] H := hP
      have hD := dto hP hD
      refine lv_iconst (v := 0) hx hb dX8_note_49 (by decide) ?_
      refine lv_istore_n (lv' := [(1, .int 0), (0, .ref mo)]) hx hb dX8_note_50 rfl hl (by decide) rfl (fun ls hl => ?_)
      refine lp_go (σ := (Nat → Int32)) (fun ii (st : (Nat → Int32)) H locs ls => match st with | w_42 => lv_has ls 2 [(1, .int (nI ii)), (0, .ref mo)] ∧ va_P (dC, dI) vwCl [(xo_8_rrriirrriiiiiiirrirrrrri mo m_la m_sz m_it ms mt m_st m_mv m_tp (nI mz) ml (nI mp) mk mv mb mw m_rd m_ac (nI (ma - 1)) m_as m_wo m_ik m_ke m_tr (nI mx)), (xI m_st cI 38 fs), (xI m_ac cI 912 w_42)] H ∧ va_D A [(xo_8_rrriirrriiiiiiirrirrrrri mo m_la m_sz m_it ms mt m_st m_mv m_tp (nI mz) ml (nI mp) mk mv mb mw m_rd m_ac (nI (ma - 1)) m_as m_wo m_ik m_ke m_tr (nI mx)), (xI m_st cI 38 fs), (xI m_ac cI 912 w_42)] ∧ va_S A s.heap H locs ∧ (∀ j : Nat, j < ii → w_42 (38 * (ma - 1) + j) = fs j) ∧ (∀ j : Nat, j < 38 * (ma - 1) ∨ 38 * (ma - 1) + 38 ≤ j → w_42 j = w_25 j)) 38 ?_ ?_ 0 (by omega) (w_25) ⟨lv_sub hl [0, 1] rfl, hP.sub (ws' := [(xo_8_rrriirrriiiiiiirrirrrrri mo m_la m_sz m_it ms mt m_st m_mv m_tp (nI mz) ml (nI mp) mk mv mb mw m_rd m_ac (nI (ma - 1)) m_as m_wo m_ik m_ke m_tr (nI mx)), (xI m_st cI 38 fs), (xI m_ac cI 912 w_25)]) [0, 1, 2] rfl, hD.sub (ws' := [(xo_8_rrriirrriiiiiiirrirrrrri mo m_la m_sz m_it ms mt m_st m_mv m_tp (nI mz) ml (nI mp) mk mv mb mw m_rd m_ac (nI (ma - 1)) m_as m_wo m_ik m_ke m_tr (nI mx)), (xI m_st cI 38 fs), (xI m_ac cI 912 w_25)]) [0, 1, 2] (by decide +kernel) rfl, hS, (fun j h_ => absurd h_ (Nat.not_lt_zero j)), (fun j _ => rfl)⟩
      · rintro ii w_42 H locs ls hii ⟨hl, hP, hD, hS, haf_0, haf_1⟩ ih
        refine lv_iload_n hx hb dX8_note_51 rfl (lv_at hl 0 rfl) ?_
        refine lv_bipush (v := 38) hx hb dX8_note_52 (by decide) ?_
        refine lv_icmp_ge (tgt := 83) hx hb dX8_note_54 (by decide) (fun c_ => absurd c_ (fun q_ => absurd ((nI_leI (a := 38) (b := ii) (by omega) (by omega)).mp q_) (by omega))) (fun _ => ?_)
        refine lv_aload_n hx hb dX8_note_57 rfl (lv_at hl 1 rfl) ?_
        refine va_get (D := (dC, dI)) (ci := 8) (v := .ref m_ac) (C := RX8) (T := TX8) (N := 24) hx hb hts i_X8_note_X8 hown hK hP 0 rfl rfl 16 (by decide) (hts _ mx_X8_note_2) (fun _ h9 => h9) rfl dX8_note_58 ?_
        refine lv_bipush (v := 38) hx hb dX8_note_61 (by decide) ?_
        refine lv_aload_n hx hb dX8_note_63 rfl (lv_at hl 1 rfl) ?_
        refine va_get (D := (dC, dI)) (ci := 8) (v := .int (nI (ma - 1))) (C := RX8) (T := TX8) (N := 24) hx hb hts i_X8_note_X8 hown hK hP 0 rfl rfl 17 (by decide) (hts _ mx_X8_note_1) (fun _ h9 => h9) rfl dX8_note_64 ?_
        refine lv_imul hx hb dX8_note_67 ?_
        refine lv_topi (fun v_50 e_50 => ?_)
        obtain rfl : v_50 = (nI (38 * (ma - 1))) := (e_50).trans (pk_mul 38 (ma - 1))
        refine lv_iload_n hx hb dX8_note_68 rfl (lv_at hl 0 rfl) ?_
        refine lv_iadd hx hb dX8_note_69 ?_
        refine lv_topi (fun v_51 e_51 => ?_)
        obtain rfl : v_51 = (nI ((38 * (ma - 1)) + ii)) := (e_51).trans (nI_add (38 * (ma - 1)) ii)
        refine lv_aload_n hx hb dX8_note_70 rfl (lv_at hl 1 rfl) ?_
        refine va_get (D := (dC, dI)) (ci := 8) (v := .ref m_st) (C := RX8) (T := TX8) (N := 24) hx hb hts i_X8_note_X8 hown hK hP 0 rfl rfl 5 (by decide) (hts _ mx_X8_note_3) (fun _ h9 => h9) rfl dX8_note_71 ?_
        refine lv_iload_n hx hb dX8_note_74 rfl (lv_at hl 0 rfl) ?_
        refine va_iald hx hb hK hP 1 0 rfl rfl (vp_in_nI (by omega) (by omega)) dX8_note_75 ?_
        refine lv_topi (fun v_52 e_52 => ?_)
        refine va_iast hx hb hK hP hD hS 2 0 rfl rfl (vp_in_nI (by omega) (by omega)) dX8_note_76 (fun H locs hP hD hS => ?_)
        generalize hg_53 : upd w_42 ((nI ((38 * (ma - 1)) + ii)) : Int32).toNatClampNeg v_52 = g_53 at hP hD
        have hP : va_P (dC, dI) vwCl [(xo_8_rrriirrriiiiiiirrirrrrri mo m_la m_sz m_it ms mt m_st m_mv m_tp (nI mz) ml (nI mp) mk mv mb mw m_rd m_ac (nI (ma - 1)) m_as m_wo m_ik m_ke m_tr (nI mx)), (xI m_st cI 38 fs), (xI m_ac cI 912 g_53)] H := hP
        have hD := dto hP hD
        refine lv_iinc (v := (nI (ii + 1))) (lv' := [(1, .int (nI (ii + 1))), (0, .ref mo)]) hx hb dX8_note_77 hl (k := 0) rfl (nI_add ii 1) (by decide) rfl (fun ls hl => ?_)
        refine lv_goto (tgt := 51) hx hb dX8_note_80 (by decide) ?_
        exact ih (g_53) _ _ _ ⟨lv_sub hl [0, 1] rfl, hP.sub (ws' := [(xo_8_rrriirrriiiiiiirrirrrrri mo m_la m_sz m_it ms mt m_st m_mv m_tp (nI mz) ml (nI mp) mk mv mb mw m_rd m_ac (nI (ma - 1)) m_as m_wo m_ik m_ke m_tr (nI mx)), (xI m_st cI 38 fs), (xI m_ac cI 912 g_53)]) [0, 1, 2] rfl, hD.sub (ws' := [(xo_8_rrriirrriiiiiiirrirrrrri mo m_la m_sz m_it ms mt m_st m_mv m_tp (nI mz) ml (nI mp) mk mv mb mw m_rd m_ac (nI (ma - 1)) m_as m_wo m_ik m_ke m_tr (nI mx)), (xI m_st cI 38 fs), (xI m_ac cI 912 g_53)]) [0, 1, 2] (by decide +kernel) rfl, hS, (cp_d (a := 38 * (ma - 1)) haf_0 (by omega) e_52 hg_53), (cp_do (a := 38 * (ma - 1)) (n := 38) haf_1 (by omega) (by omega) hg_53)⟩
      · rintro w_42 H locs ls ⟨hl, hP, hD, hS, haf_0, haf_1⟩
        refine lv_iload_n hx hb dX8_note_51 rfl (lv_at hl 0 rfl) ?_
        refine lv_bipush (v := 38) hx hb dX8_note_52 (by decide) ?_
        refine lv_icmp_ge (tgt := 83) hx hb dX8_note_54 (by decide) (fun _ => ?_) (fun c_ => absurd ((nI_leI (a := 38) (b := 38) (by omega) (by omega)).mpr (by omega)) c_)
        have hpu := okA_push (n := (ma - 1)) hsh hKs haf_0 haf_1
        refine lv_aload_n hx hb dX8_note_83 rfl (lv_at hl 1 rfl) ?_
        refine lv_dup hx hb dX8_note_84 rfl ?_
        refine va_get (D := (dC, dI)) (ci := 8) (v := .int (nI (ma - 1))) (C := RX8) (T := TX8) (N := 24) hx hb hts i_X8_note_X8 hown hK hP 0 rfl rfl 17 (by decide) (hts _ mx_X8_note_1) (fun _ h9 => h9) rfl dX8_note_85 ?_
        refine lv_iconst (v := 1) hx hb dX8_note_88 (by decide) ?_
        refine lv_iadd hx hb dX8_note_89 ?_
        refine lv_topi (fun v_55 e_55 => ?_)
        obtain rfl : v_55 = (nI ((ma - 1) + 1)) := (e_55).trans (nI_add (ma - 1) 1)
        refine va_put (D := (dC, dI)) (ci := 8) (v := .int (nI ((ma - 1) + 1))) (ty := .int) (C := RX8) (T := TX8) (N := 24) hx hb hts i_X8_note_X8 tyX8 tyX8_ok nmX8 hown hK hP hD hS 0 rfl rfl 17 (by decide) (hts _ mx_X8_note_1) (fun _ h9 => h9) rfl (by decide +kernel) rfl rfl (Nat.le_of_ble_eq_true rfl) dX8_note_90 (fun H locs hP hD hS => ?_)
        have hP : va_P (dC, dI) vwCl [(xo_8_rrriirrriiiiiiirrirrrrri mo m_la m_sz m_it ms mt m_st m_mv m_tp (nI mz) ml (nI mp) mk mv mb mw m_rd m_ac (nI ((ma - 1) + 1)) m_as m_wo m_ik m_ke m_tr (nI mx)), (xI m_st cI 38 fs), (xI m_ac cI 912 w_42)] H := hP
        have hD := dto hP hD
        have hX9 := cut2 (wc := [(xo_8_rrriirrriiiiiiirrirrrrri mo m_la m_sz m_it ms mt m_st m_mv m_tp (nI mz) ml (nI mp) mk mv mb mw m_rd m_ac (nI ((ma - 1) + 1)) m_as m_wo m_ik m_ke m_tr (nI mx)), (xI m_st cI 38 fs), (xI m_ac cI 912 w_42)]) hP hD [0, 1, 2] (by decide +kernel) rfl
        exact W.vret hx hb hr (fun t ht hW => ⟨⟨(), rfl, trivial, ⟨w_42, ((ma - 1) + 1), va_Ht ht hX9.1, hX9.2, hpu, (by omega), (by omega), (by subst e24_; exact acM_shift haf_s haf_0 haf_1), (by unfold ntN; split <;> omega)⟩⟩, hS.F ht⟩) hS.2.2 dX8_note_93
theorem lf_X8_cap_1 {mt : Int32} {ma : Nat} {fs : Nat → Int32} {w9 : Nat} {k9 : Nat} {h9 : Nat} {fc : Nat → Int32} {fcn_2 : Nat → Int32} {man_2 : Nat} {v_3 : Int32} {v_4 : Int32} {g_5 : Nat → Int32} {v_6 : Int32} (hM : okM fs w9 k9 h9) (hT : ¬ mt = 0 → 1 ≤ k9) (h999 : h9 ≤ 999) (hT0 : mt = 0 → fs 0 = 0 ∧ ma = 0) (hac : okA fc ma) (hma : ma ≤ 24) (c_1 : ¬ (mt = 0)) (hkn1 : 1 ≤ k9) (hw1 : 1 ≤ w9) (h01 : ¬ fs 0 = 0) (hF_2_0 : okA fcn_2 man_2) (hF_2_1 : man_2 ≤ 24) (hF_2_2 : 1 ≤ man_2) (hF_2_3 : acM fcn_2 man_2 = ntA (m38 fs) ma (acM fc ma)) (hF_2_4 : man_2 = ntN ma) (e_3 : v_3 = fs 6) (e_4 : v_4 = (1 - v_3)) (hu_5 : g_5 = upd fs 6 v_4) (e_6 : v_6 = g_5 6) : (mt = 0 → g_5 0 = 0 ∧ man_2 = 0) := by
  have hw6 := hM.2.2.2.1
  have hk6 := hM.2.2.2.2.1
  first
  | exact hT0
  | (intro h_; exact absurd (hT0 h_).1 h01)
  | (intro h_; have h9 := (hT0 h_).2; omega)
  | exact (capM_n (ma := ma) (A := acM fc ma) h00).1
  | exact (capM_n (ma := ma) (A := acM fc ma) h00).2.1
  | exact (capM_n (ma := ma) (A := acM fc ma) h00).2.2.1
  | exact (capM_n (ma := ma) (A := acM fc ma) h00).2.2.2
  | exact (capM_d h01 (by assumption) (by assumption) (by assumption) (by assumption) (by assumption) (by assumption)).1
  | exact (capM_d h01 (by assumption) (by assumption) (by assumption) (by assumption) (by assumption) (by assumption)).2.1
  | exact (capM_d h01 (by assumption) (by assumption) (by assumption) (by assumption) (by assumption) (by assumption)).2.2.1
  | exact (capM_d h01 (by assumption) (by assumption) (by assumption) (by assumption) (by assumption) (by assumption)).2.2.2
theorem lf_X8_cap_2 {mt : Int32} {ma : Nat} {fs : Nat → Int32} {w9 : Nat} {k9 : Nat} {h9 : Nat} {fc : Nat → Int32} {fcn_2 : Nat → Int32} {man_2 : Nat} {v_3 : Int32} {v_4 : Int32} {g_5 : Nat → Int32} {v_6 : Int32} (hM : okM fs w9 k9 h9) (hT : ¬ mt = 0 → 1 ≤ k9) (h999 : h9 ≤ 999) (hT0 : mt = 0 → fs 0 = 0 ∧ ma = 0) (hac : okA fc ma) (hma : ma ≤ 24) (c_1 : ¬ (mt = 0)) (hkn1 : 1 ≤ k9) (hw1 : 1 ≤ w9) (h01 : ¬ fs 0 = 0) (hF_2_0 : okA fcn_2 man_2) (hF_2_1 : man_2 ≤ 24) (hF_2_2 : 1 ≤ man_2) (hF_2_3 : acM fcn_2 man_2 = ntA (m38 fs) ma (acM fc ma)) (hF_2_4 : man_2 = ntN ma) (e_3 : v_3 = fs 6) (e_4 : v_4 = (1 - v_3)) (hu_5 : g_5 = upd fs 6 v_4) (e_6 : v_6 = g_5 6) : m38 g_5 = n_cap (m38 fs) := by
  have hw6 := hM.2.2.2.1
  have hk6 := hM.2.2.2.2.1
  first
  | exact hT0
  | (intro h_; exact absurd (hT0 h_).1 h01)
  | (intro h_; have h9 := (hT0 h_).2; omega)
  | exact (capM_n (ma := ma) (A := acM fc ma) h00).1
  | exact (capM_n (ma := ma) (A := acM fc ma) h00).2.1
  | exact (capM_n (ma := ma) (A := acM fc ma) h00).2.2.1
  | exact (capM_n (ma := ma) (A := acM fc ma) h00).2.2.2
  | exact (capM_d h01 (by assumption) (by assumption) (by assumption) (by assumption) (by assumption) (by assumption)).1
  | exact (capM_d h01 (by assumption) (by assumption) (by assumption) (by assumption) (by assumption) (by assumption)).2.1
  | exact (capM_d h01 (by assumption) (by assumption) (by assumption) (by assumption) (by assumption) (by assumption)).2.2.1
  | exact (capM_d h01 (by assumption) (by assumption) (by assumption) (by assumption) (by assumption) (by assumption)).2.2.2
theorem lf_X8_cap_3 {mt : Int32} {ma : Nat} {fs : Nat → Int32} {w9 : Nat} {k9 : Nat} {h9 : Nat} {fc : Nat → Int32} {fcn_2 : Nat → Int32} {man_2 : Nat} {v_3 : Int32} {v_4 : Int32} {g_5 : Nat → Int32} {v_6 : Int32} (hM : okM fs w9 k9 h9) (hT : ¬ mt = 0 → 1 ≤ k9) (h999 : h9 ≤ 999) (hT0 : mt = 0 → fs 0 = 0 ∧ ma = 0) (hac : okA fc ma) (hma : ma ≤ 24) (c_1 : ¬ (mt = 0)) (hkn1 : 1 ≤ k9) (hw1 : 1 ≤ w9) (h01 : ¬ fs 0 = 0) (hF_2_0 : okA fcn_2 man_2) (hF_2_1 : man_2 ≤ 24) (hF_2_2 : 1 ≤ man_2) (hF_2_3 : acM fcn_2 man_2 = ntA (m38 fs) ma (acM fc ma)) (hF_2_4 : man_2 = ntN ma) (e_3 : v_3 = fs 6) (e_4 : v_4 = (1 - v_3)) (hu_5 : g_5 = upd fs 6 v_4) (e_6 : v_6 = g_5 6) : man_2 = kpN (gd_cap (m38 fs)) ma := by
  have hw6 := hM.2.2.2.1
  have hk6 := hM.2.2.2.2.1
  first
  | exact hT0
  | (intro h_; exact absurd (hT0 h_).1 h01)
  | (intro h_; have h9 := (hT0 h_).2; omega)
  | exact (capM_n (ma := ma) (A := acM fc ma) h00).1
  | exact (capM_n (ma := ma) (A := acM fc ma) h00).2.1
  | exact (capM_n (ma := ma) (A := acM fc ma) h00).2.2.1
  | exact (capM_n (ma := ma) (A := acM fc ma) h00).2.2.2
  | exact (capM_d h01 (by assumption) (by assumption) (by assumption) (by assumption) (by assumption) (by assumption)).1
  | exact (capM_d h01 (by assumption) (by assumption) (by assumption) (by assumption) (by assumption) (by assumption)).2.1
  | exact (capM_d h01 (by assumption) (by assumption) (by assumption) (by assumption) (by assumption) (by assumption)).2.2.1
  | exact (capM_d h01 (by assumption) (by assumption) (by assumption) (by assumption) (by assumption) (by assumption)).2.2.2
theorem lf_X8_cap_4 {mt : Int32} {ma : Nat} {fs : Nat → Int32} {w9 : Nat} {k9 : Nat} {h9 : Nat} {fc : Nat → Int32} {fcn_2 : Nat → Int32} {man_2 : Nat} {v_3 : Int32} {v_4 : Int32} {g_5 : Nat → Int32} {v_6 : Int32} (hM : okM fs w9 k9 h9) (hT : ¬ mt = 0 → 1 ≤ k9) (h999 : h9 ≤ 999) (hT0 : mt = 0 → fs 0 = 0 ∧ ma = 0) (hac : okA fc ma) (hma : ma ≤ 24) (c_1 : ¬ (mt = 0)) (hkn1 : 1 ≤ k9) (hw1 : 1 ≤ w9) (h01 : ¬ fs 0 = 0) (hF_2_0 : okA fcn_2 man_2) (hF_2_1 : man_2 ≤ 24) (hF_2_2 : 1 ≤ man_2) (hF_2_3 : acM fcn_2 man_2 = ntA (m38 fs) ma (acM fc ma)) (hF_2_4 : man_2 = ntN ma) (e_3 : v_3 = fs 6) (e_4 : v_4 = (1 - v_3)) (hu_5 : g_5 = upd fs 6 v_4) (e_6 : v_6 = g_5 6) : acM fcn_2 man_2 = kpA (gd_cap (m38 fs)) (m38 fs) ma (acM fc ma) := by
  have hw6 := hM.2.2.2.1
  have hk6 := hM.2.2.2.2.1
  first
  | exact hT0
  | (intro h_; exact absurd (hT0 h_).1 h01)
  | (intro h_; have h9 := (hT0 h_).2; omega)
  | exact (capM_n (ma := ma) (A := acM fc ma) h00).1
  | exact (capM_n (ma := ma) (A := acM fc ma) h00).2.1
  | exact (capM_n (ma := ma) (A := acM fc ma) h00).2.2.1
  | exact (capM_n (ma := ma) (A := acM fc ma) h00).2.2.2
  | exact (capM_d h01 (by assumption) (by assumption) (by assumption) (by assumption) (by assumption) (by assumption)).1
  | exact (capM_d h01 (by assumption) (by assumption) (by assumption) (by assumption) (by assumption) (by assumption)).2.1
  | exact (capM_d h01 (by assumption) (by assumption) (by assumption) (by assumption) (by assumption) (by assumption)).2.2.1
  | exact (capM_d h01 (by assumption) (by assumption) (by assumption) (by assumption) (by assumption) (by assumption)).2.2.2
theorem lf_X8_cap_5 {mt : Int32} {ma : Nat} {fs : Nat → Int32} {w9 : Nat} {k9 : Nat} {h9 : Nat} {fc : Nat → Int32} {fcn_2 : Nat → Int32} {man_2 : Nat} {v_3 : Int32} {v_4 : Int32} {g_5 : Nat → Int32} {v_6 : Int32} (hM : okM fs w9 k9 h9) (hT : ¬ mt = 0 → 1 ≤ k9) (h999 : h9 ≤ 999) (hT0 : mt = 0 → fs 0 = 0 ∧ ma = 0) (hac : okA fc ma) (hma : ma ≤ 24) (c_1 : ¬ (mt = 0)) (hkn1 : 1 ≤ k9) (hw1 : 1 ≤ w9) (h01 : ¬ fs 0 = 0) (hF_2_0 : okA fcn_2 man_2) (hF_2_1 : man_2 ≤ 24) (hF_2_2 : 1 ≤ man_2) (hF_2_3 : acM fcn_2 man_2 = ntA (m38 fs) ma (acM fc ma)) (hF_2_4 : man_2 = ntN ma) (e_3 : v_3 = fs 6) (e_4 : v_4 = (1 - v_3)) (hu_5 : g_5 = upd fs 6 v_4) (e_6 : v_6 = g_5 6) : v_6 = (a_cap (m38 fs)) := by
  have hw6 := hM.2.2.2.1
  have hk6 := hM.2.2.2.2.1
  first
  | exact hT0
  | (intro h_; exact absurd (hT0 h_).1 h01)
  | (intro h_; have h9 := (hT0 h_).2; omega)
  | exact (capM_n (ma := ma) (A := acM fc ma) h00).1
  | exact (capM_n (ma := ma) (A := acM fc ma) h00).2.1
  | exact (capM_n (ma := ma) (A := acM fc ma) h00).2.2.1
  | exact (capM_n (ma := ma) (A := acM fc ma) h00).2.2.2
  | exact (capM_d h01 (by assumption) (by assumption) (by assumption) (by assumption) (by assumption) (by assumption)).1
  | exact (capM_d h01 (by assumption) (by assumption) (by assumption) (by assumption) (by assumption) (by assumption)).2.1
  | exact (capM_d h01 (by assumption) (by assumption) (by assumption) (by assumption) (by assumption) (by assumption)).2.2.1
  | exact (capM_d h01 (by assumption) (by assumption) (by assumption) (by assumption) (by assumption) (by assumption)).2.2.2
theorem lf_X8_cap_6 {mt : Int32} {ma : Nat} {fs : Nat → Int32} {w9 : Nat} {k9 : Nat} {h9 : Nat} {fc : Nat → Int32} (hM : okM fs w9 k9 h9) (hT : ¬ mt = 0 → 1 ≤ k9) (h999 : h9 ≤ 999) (hT0 : mt = 0 → fs 0 = 0 ∧ ma = 0) (hac : okA fc ma) (hma : ma ≤ 24) (c_1 : mt = 0) (h00 : fs 0 = 0) : (mt = 0 → fs 0 = 0 ∧ ma = 0) := by
  have hw6 := hM.2.2.2.1
  have hk6 := hM.2.2.2.2.1
  first
  | exact hT0
  | (intro h_; exact absurd (hT0 h_).1 h01)
  | (intro h_; have h9 := (hT0 h_).2; omega)
  | exact (capM_n (ma := ma) (A := acM fc ma) h00).1
  | exact (capM_n (ma := ma) (A := acM fc ma) h00).2.1
  | exact (capM_n (ma := ma) (A := acM fc ma) h00).2.2.1
  | exact (capM_n (ma := ma) (A := acM fc ma) h00).2.2.2
  | exact (capM_d h01 (by assumption) (by assumption) (by assumption) (by assumption) (by assumption) (by assumption)).1
  | exact (capM_d h01 (by assumption) (by assumption) (by assumption) (by assumption) (by assumption) (by assumption)).2.1
  | exact (capM_d h01 (by assumption) (by assumption) (by assumption) (by assumption) (by assumption) (by assumption)).2.2.1
  | exact (capM_d h01 (by assumption) (by assumption) (by assumption) (by assumption) (by assumption) (by assumption)).2.2.2
theorem lf_X8_cap_7 {mt : Int32} {ma : Nat} {fs : Nat → Int32} {w9 : Nat} {k9 : Nat} {h9 : Nat} {fc : Nat → Int32} (hM : okM fs w9 k9 h9) (hT : ¬ mt = 0 → 1 ≤ k9) (h999 : h9 ≤ 999) (hT0 : mt = 0 → fs 0 = 0 ∧ ma = 0) (hac : okA fc ma) (hma : ma ≤ 24) (c_1 : mt = 0) (h00 : fs 0 = 0) : m38 fs = n_cap (m38 fs) := by
  have hw6 := hM.2.2.2.1
  have hk6 := hM.2.2.2.2.1
  first
  | exact hT0
  | (intro h_; exact absurd (hT0 h_).1 h01)
  | (intro h_; have h9 := (hT0 h_).2; omega)
  | exact (capM_n (ma := ma) (A := acM fc ma) h00).1
  | exact (capM_n (ma := ma) (A := acM fc ma) h00).2.1
  | exact (capM_n (ma := ma) (A := acM fc ma) h00).2.2.1
  | exact (capM_n (ma := ma) (A := acM fc ma) h00).2.2.2
  | exact (capM_d h01 (by assumption) (by assumption) (by assumption) (by assumption) (by assumption) (by assumption)).1
  | exact (capM_d h01 (by assumption) (by assumption) (by assumption) (by assumption) (by assumption) (by assumption)).2.1
  | exact (capM_d h01 (by assumption) (by assumption) (by assumption) (by assumption) (by assumption) (by assumption)).2.2.1
  | exact (capM_d h01 (by assumption) (by assumption) (by assumption) (by assumption) (by assumption) (by assumption)).2.2.2
theorem lf_X8_cap_8 {mt : Int32} {ma : Nat} {fs : Nat → Int32} {w9 : Nat} {k9 : Nat} {h9 : Nat} {fc : Nat → Int32} (hM : okM fs w9 k9 h9) (hT : ¬ mt = 0 → 1 ≤ k9) (h999 : h9 ≤ 999) (hT0 : mt = 0 → fs 0 = 0 ∧ ma = 0) (hac : okA fc ma) (hma : ma ≤ 24) (c_1 : mt = 0) (h00 : fs 0 = 0) : ma = kpN (gd_cap (m38 fs)) ma := by
  have hw6 := hM.2.2.2.1
  have hk6 := hM.2.2.2.2.1
  first
  | exact hT0
  | (intro h_; exact absurd (hT0 h_).1 h01)
  | (intro h_; have h9 := (hT0 h_).2; omega)
  | exact (capM_n (ma := ma) (A := acM fc ma) h00).1
  | exact (capM_n (ma := ma) (A := acM fc ma) h00).2.1
  | exact (capM_n (ma := ma) (A := acM fc ma) h00).2.2.1
  | exact (capM_n (ma := ma) (A := acM fc ma) h00).2.2.2
  | exact (capM_d h01 (by assumption) (by assumption) (by assumption) (by assumption) (by assumption) (by assumption)).1
  | exact (capM_d h01 (by assumption) (by assumption) (by assumption) (by assumption) (by assumption) (by assumption)).2.1
  | exact (capM_d h01 (by assumption) (by assumption) (by assumption) (by assumption) (by assumption) (by assumption)).2.2.1
  | exact (capM_d h01 (by assumption) (by assumption) (by assumption) (by assumption) (by assumption) (by assumption)).2.2.2
theorem lf_X8_cap_9 {mt : Int32} {ma : Nat} {fs : Nat → Int32} {w9 : Nat} {k9 : Nat} {h9 : Nat} {fc : Nat → Int32} (hM : okM fs w9 k9 h9) (hT : ¬ mt = 0 → 1 ≤ k9) (h999 : h9 ≤ 999) (hT0 : mt = 0 → fs 0 = 0 ∧ ma = 0) (hac : okA fc ma) (hma : ma ≤ 24) (c_1 : mt = 0) (h00 : fs 0 = 0) : acM fc ma = kpA (gd_cap (m38 fs)) (m38 fs) ma (acM fc ma) := by
  have hw6 := hM.2.2.2.1
  have hk6 := hM.2.2.2.2.1
  first
  | exact hT0
  | (intro h_; exact absurd (hT0 h_).1 h01)
  | (intro h_; have h9 := (hT0 h_).2; omega)
  | exact (capM_n (ma := ma) (A := acM fc ma) h00).1
  | exact (capM_n (ma := ma) (A := acM fc ma) h00).2.1
  | exact (capM_n (ma := ma) (A := acM fc ma) h00).2.2.1
  | exact (capM_n (ma := ma) (A := acM fc ma) h00).2.2.2
  | exact (capM_d h01 (by assumption) (by assumption) (by assumption) (by assumption) (by assumption) (by assumption)).1
  | exact (capM_d h01 (by assumption) (by assumption) (by assumption) (by assumption) (by assumption) (by assumption)).2.1
  | exact (capM_d h01 (by assumption) (by assumption) (by assumption) (by assumption) (by assumption) (by assumption)).2.2.1
  | exact (capM_d h01 (by assumption) (by assumption) (by assumption) (by assumption) (by assumption) (by assumption)).2.2.2
theorem lf_X8_cap_10 {mt : Int32} {ma : Nat} {fs : Nat → Int32} {w9 : Nat} {k9 : Nat} {h9 : Nat} {fc : Nat → Int32} (hM : okM fs w9 k9 h9) (hT : ¬ mt = 0 → 1 ≤ k9) (h999 : h9 ≤ 999) (hT0 : mt = 0 → fs 0 = 0 ∧ ma = 0) (hac : okA fc ma) (hma : ma ≤ 24) (c_1 : mt = 0) (h00 : fs 0 = 0) : (-1000002) = (a_cap (m38 fs)) := by
  have hw6 := hM.2.2.2.1
  have hk6 := hM.2.2.2.2.1
  first
  | exact hT0
  | (intro h_; exact absurd (hT0 h_).1 h01)
  | (intro h_; have h9 := (hT0 h_).2; omega)
  | exact (capM_n (ma := ma) (A := acM fc ma) h00).1
  | exact (capM_n (ma := ma) (A := acM fc ma) h00).2.1
  | exact (capM_n (ma := ma) (A := acM fc ma) h00).2.2.1
  | exact (capM_n (ma := ma) (A := acM fc ma) h00).2.2.2
  | exact (capM_d h01 (by assumption) (by assumption) (by assumption) (by assumption) (by assumption) (by assumption)).1
  | exact (capM_d h01 (by assumption) (by assumption) (by assumption) (by assumption) (by assumption) (by assumption)).2.1
  | exact (capM_d h01 (by assumption) (by assumption) (by assumption) (by assumption) (by assumption) (by assumption)).2.2.1
  | exact (capM_d h01 (by assumption) (by assumption) (by assumption) (by assumption) (by assumption) (by assumption)).2.2.2
set_option maxHeartbeats 4000000 in
set_option maxRecDepth 100000 in
theorem r_X8_cap (l : Launch) (dC : Nat → ClassId) (dI : Nat → Nat → Nat) (cI cZ cL cJ : ClassId) (sz : Nat) (mo : Nat) (m_la : Nat) (m_sz : Nat) (m_it : Nat) (m_st : Nat) (m_mv : Nat) (m_tp : Nat) (m_rd : Nat) (m_ac : Nat) (m_as : Nat) (m_wo : Nat) (m_ik : Nat) (m_ke : Nat) (m_tr : Nat) (ms : Int32) (mt : Int32) (ml : Int32) (mk : Int32) (mv : Int32) (mb : Int32) (mw : Int32) (mz : Nat) (mp : Nat) (ma : Nat) (mx : Nat) (fs : Nat → Int32) (w9 : Nat) (k9 : Nat) (h9 : Nat) (fc : Nat → Int32) (hM : okM fs w9 k9 h9) (hT : ¬ mt = 0 → 1 ≤ k9) (h999 : h9 ≤ 999) (hT0 : mt = 0 → fs 0 = 0 ∧ ma = 0) (hac : okA fc ma) (hma : ma ≤ 24) : Met l yX8_cap wsX8_cap ({ frames := 1, cells := 0, slots := 0, locals := 21 }) (va_Pc [.ref mo] (fun U => U.heap.size = sz ∧ va_P (dC, dI) vwCl [(xo_8_rrriirrriiiiiiirrirrrrri mo m_la m_sz m_it ms mt m_st m_mv m_tp (nI mz) ml (nI mp) mk mv mb mw m_rd m_ac (nI ma) m_as m_wo m_ik m_ke m_tr (nI mx)), (xI m_st cI 38 fs), (xI m_ac cI 912 fc)] U.heap ∧ va_K (dC, dI) vwCl [(cI, .int), (cZ, .boolean), (cL, .object RX3), (cJ, .array .int)] U ∧ va_D (fun _ => True) [(xo_8_rrriirrriiiiiiirrirrrrri mo m_la m_sz m_it ms mt m_st m_mv m_tp (nI mz) ml (nI mp) mk mv mb mw m_rd m_ac (nI ma) m_as m_wo m_ik m_ke m_tr (nI mx)), (xI m_st cI 38 fs), (xI m_ac cI 912 fc)])) (va_Qi (fun r (_ : Unit) => r = (a_cap (m38 fs))) (fun (_ : Unit) t => ∃ (fsn : Nat → Int32) (fcn : Nat → Int32) (man : Nat) (w9n : Nat) (k9n : Nat) (h9n : Nat), va_P (dC, dI) vwCl [(xo_8_rrriirrriiiiiiirrirrrrri mo m_la m_sz m_it ms mt m_st m_mv m_tp (nI mz) ml (nI mp) mk mv mb mw m_rd m_ac (nI man) m_as m_wo m_ik m_ke m_tr (nI mx)), (xI m_st cI 38 fsn), (xI m_ac cI 912 fcn)] t.heap ∧ va_D (va_A [(xo_8_rrriirrriiiiiiirrirrrrri mo m_la m_sz m_it ms mt m_st m_mv m_tp (nI mz) ml (nI mp) mk mv mb mw m_rd m_ac (nI ma) m_as m_wo m_ik m_ke m_tr (nI mx)), (xI m_st cI 38 fs), (xI m_ac cI 912 fc)] sz) [(xo_8_rrriirrriiiiiiirrirrrrri mo m_la m_sz m_it ms mt m_st m_mv m_tp (nI mz) ml (nI mp) mk mv mb mw m_rd m_ac (nI man) m_as m_wo m_ik m_ke m_tr (nI mx)), (xI m_st cI 38 fsn), (xI m_ac cI 912 fcn)] ∧ okM fsn w9n k9n h9n ∧ (¬ mt = 0 → 1 ≤ k9n) ∧ h9n ≤ 999 ∧ okA fcn man ∧ man ≤ 24 ∧ (mt = 0 → fsn 0 = 0 ∧ man = 0) ∧ m38 fsn = n_cap (m38 fs) ∧ man = kpN (gd_cap (m38 fs)) ma ∧ acM fcn man = kpA (gd_cap (m38 fs)) (m38 fs) ma (acM fc ma)) (va_A [(xo_8_rrriirrriiiiiiirrirrrrri mo m_la m_sz m_it ms mt m_st m_mv m_tp (nI mz) ml (nI mp) mk mv mb mw m_rd m_ac (nI ma) m_as m_wo m_ik m_ke m_tr (nI mx)), (xI m_st cI 38 fs), (xI m_ac cI 912 fc)] sz)) 0 0 (va_A [(xo_8_rrriirrriiiiiiirrirrrrri mo m_la m_sz m_it ms mt m_st m_mv m_tp (nI mz) ml (nI mp) mk mv mb mw m_rd m_ac (nI ma) m_as m_wo m_ik m_ke m_tr (nI mx)), (xI m_st cI 38 fs), (xI m_ac cI 912 fc)] sz) := by
  refine Met.ofW (cc := cX8_cap) (maxL := 1) (ret := (some .int)) (by decide) rfl ?_
  intro p e s m args below meth c s₁ B hml hv
  obtain ⟨rfl, hsz, hP, hK, hD0⟩ := hv
  have hx := B.exec
  have hb := B.bytes
  have hr := B.returns
  have hts := atoms_spec (ws := wsX8_cap) B.pre
  have hown : s.vm.findClass RX8 = some m.cls := findClass_of_methodNamed B.named
  have hlocks := B.notSynchronized
  subst hsz
  have hD := hD0.self (sz := s.heap.size)
  generalize hAe : va_A [(xo_8_rrriirrriiiiiiirrirrrrri mo m_la m_sz m_it ms mt m_st m_mv m_tp (nI mz) ml (nI mp) mk mv mb mw m_rd m_ac (nI ma) m_as m_wo m_ik m_ke m_tr (nI mx)), (xI m_st cI 38 fs), (xI m_ac cI 912 fc)] s.heap.size = A at hD ⊢
  have hA : ∀ q : Nat, s.heap.size ≤ q → A q := fun q h => by rw [← hAe]; exact Or.inr h
  have hS : va_S A s.heap s.heap [] := va_S.rf
  have hP : va_P (dC, dI) vwCl [(xo_8_rrriirrriiiiiiirrirrrrri mo m_la m_sz m_it ms mt m_st m_mv m_tp (nI mz) ml (nI mp) mk mv mb mw m_rd m_ac (nI ma) m_as m_wo m_ik m_ke m_tr (nI mx)), (xI m_st cI 38 fs), (xI m_ac cI 912 fc)] s.heap := hP
  have hl := lv_entry ([.ref mo]) (n := 1) (Nat.le_of_ble_eq_true rfl)
  rw [lg_entry_eq]
  generalize (lg_sl ([.ref mo]) ++ List.replicate (1 - (lg_sl ([.ref mo])).length) Slot.unset).toArray = ls at hl ⊢
  have hl : lv_has ls 1 [(0, .ref mo)] := hl
  have hk6 := hM.2.2.2.2.1
  have hw6 := hM.2.2.2.1
  refine lv_aload_n hx hb dX8_cap_0 rfl (lv_at hl 0 rfl) ?_
  refine va_get (D := (dC, dI)) (ci := 8) (v := .int mt) (C := RX8) (T := TX8) (N := 24) hx hb hts i_X8_cap_X8 hown hK hP 0 rfl rfl 4 (by decide) (hts _ mx_X8_cap_1) (fun _ h9 => h9) rfl dX8_cap_1 ?_
  refine lv_if_ne (tgt := 10) hx hb dX8_cap_4 (by decide) (fun c_1 => ?_) (fun c_1 => ?_)
  · skip
    have hkn1 := hT c_1
    have hw1 := hM.2.2.2.2.2.1.mp hkn1
    have h01 : ¬ fs 0 = 0 := cell_nz hM hkn1
    refine lv_aload_n hx hb dX8_cap_10 rfl (lv_at hl 0 rfl) ?_
    have hc_2 := cutW (wc := [(xo_8_rrriirrriiiiiiirrirrrrri mo m_la m_sz m_it ms mt m_st m_mv m_tp (nI mz) ml (nI mp) mk mv mb mw m_rd m_ac (nI ma) m_as m_wo m_ik m_ke m_tr (nI mx)), (xI m_st cI 38 fs), (xI m_ac cI 912 fc)]) hP hD hS hA [0, 1, 2] (by decide +kernel) rfl
    refine va_callv (va_runV (As := []) (rest := []) ⟨hx, hb, hml, hown, hts⟩ (r_X8_note l dC dI cI cZ cL cJ s.heap.size mo m_la m_sz m_it m_st m_mv m_tp m_rd m_ac m_as m_wo m_ik m_ke m_tr ms mt ml mk mv mb mw mz mp ma mx fs fc (hac) (by omega) (⟨w9, k9, h9, hM, hkn1, by omega⟩)) (cwV 0 hts gX8_cap_X8_note rfl rfl rfl (by decide +kernel) ⟨Nat.le_of_ble_eq_true rfl, Nat.le_of_ble_eq_true rfl⟩) (pvW 8 0 hK hP rfl rfl hc_2) rfl rfl hl.1 rfl (lv_room (Nat.le_of_ble_eq_true rfl)) dX8_cap_11 ⟨Nat.le_of_ble_eq_true rfl, Nat.le_of_ble_eq_true rfl⟩) hS (fun q _ h => hc_2.2.2 q h) hc_2.2.2 (fun u_2 t_2 H1 locs ht hvm h_2 hB hz1 hk1 hS => ?_)
    refine xl_2_7 hB (fun fcn_2 man_2 hP1 hD1 hF_2_0 hF_2_1 hF_2_2 hF_2_3 hF_2_4 => ?_)
    clear hB
    rw [ht] at hP1
    obtain ⟨hP, hD⟩ := va_join (wr := []) (w1 := [(xo_8_rrriirrriiiiiiirrirrrrri mo m_la m_sz m_it ms mt m_st m_mv m_tp (nI mz) ml (nI mp) mk mv mb mw m_rd m_ac (nI man_2) m_as m_wo m_ik m_ke m_tr (nI mx)), (xI m_st cI 38 fs), (xI m_ac cI 912 fcn_2)]) hP hD [0, 1, 2] [] rfl rfl (by decide +kernel) (by decide +kernel) hk1 hc_2.2.2 hP1 hD1
    generalize H1 = H at hP hS ⊢
    have hP : va_P (dC, dI) vwCl [(xo_8_rrriirrriiiiiiirrirrrrri mo m_la m_sz m_it ms mt m_st m_mv m_tp (nI mz) ml (nI mp) mk mv mb mw m_rd m_ac (nI man_2) m_as m_wo m_ik m_ke m_tr (nI mx)), (xI m_st cI 38 fs), (xI m_ac cI 912 fcn_2)] H := hP
    have hD := dto hP hD
    refine lv_aload_n hx hb dX8_cap_14 rfl (lv_at hl 0 rfl) ?_
    refine va_get (D := (dC, dI)) (ci := 8) (v := .ref m_st) (C := RX8) (T := TX8) (N := 24) hx hb hts i_X8_cap_X8 hown hK hP 0 rfl rfl 5 (by decide) (hts _ mx_X8_cap_3) (fun _ h9 => h9) rfl dX8_cap_15 ?_
    refine lv_bipush (v := 6) hx hb dX8_cap_18 (by decide) ?_
    refine lv_iconst (v := 1) hx hb dX8_cap_20 (by decide) ?_
    refine lv_aload_n hx hb dX8_cap_21 rfl (lv_at hl 0 rfl) ?_
    refine va_get (D := (dC, dI)) (ci := 8) (v := .ref m_st) (C := RX8) (T := TX8) (N := 24) hx hb hts i_X8_cap_X8 hown hK hP 0 rfl rfl 5 (by decide) (hts _ mx_X8_cap_3) (fun _ h9 => h9) rfl dX8_cap_22 ?_
    refine lv_bipush (v := 6) hx hb dX8_cap_25 (by decide) ?_
    refine va_iald hx hb hK hP 1 0 rfl rfl (by unfold vp_in; decide) dX8_cap_27 ?_
    refine lv_topi (fun v_3 e_3 => ?_)
    have e_3 : v_3 = fs 6 := e_3
    refine lv_isub hx hb dX8_cap_28 ?_
    refine lv_topi (fun v_4 e_4 => ?_)
    refine va_iast hx hb hK hP hD hS 1 0 rfl rfl (by unfold vp_in; decide) dX8_cap_29 (fun H locs hP hD hS => ?_)
    generalize hg_5 : upd fs (6 : Int32).toNatClampNeg v_4 = g_5 at hP hD
    have hu_5 : g_5 = upd fs 6 v_4 := hg_5.symm
    have hM_5 : okM g_5 w9 k9 h9 := okM_off (i := 6) hM hg_5 (by omega) (by omega) (by omega) (by omega) (by omega)
    have hP : va_P (dC, dI) vwCl [(xo_8_rrriirrriiiiiiirrirrrrri mo m_la m_sz m_it ms mt m_st m_mv m_tp (nI mz) ml (nI mp) mk mv mb mw m_rd m_ac (nI man_2) m_as m_wo m_ik m_ke m_tr (nI mx)), (xI m_st cI 38 g_5), (xI m_ac cI 912 fcn_2)] H := hP
    have hD := dto hP hD
    refine lv_aload_n hx hb dX8_cap_30 rfl (lv_at hl 0 rfl) ?_
    refine va_get (D := (dC, dI)) (ci := 8) (v := .ref m_st) (C := RX8) (T := TX8) (N := 24) hx hb hts i_X8_cap_X8 hown hK hP 0 rfl rfl 5 (by decide) (hts _ mx_X8_cap_3) (fun _ h9 => h9) rfl dX8_cap_31 ?_
    refine lv_bipush (v := 6) hx hb dX8_cap_34 (by decide) ?_
    refine va_iald hx hb hK hP 1 0 rfl rfl (by unfold vp_in; decide) dX8_cap_36 ?_
    refine lv_topi (fun v_6 e_6 => ?_)
    have e_6 : v_6 = g_5 6 := e_6
    have hX9 := cut2 (wc := [(xo_8_rrriirrriiiiiiirrirrrrri mo m_la m_sz m_it ms mt m_st m_mv m_tp (nI mz) ml (nI mp) mk mv mb mw m_rd m_ac (nI man_2) m_as m_wo m_ik m_ke m_tr (nI mx)), (xI m_st cI 38 g_5), (xI m_ac cI 912 fcn_2)]) hP hD [0, 1, 2] (by decide +kernel) rfl
    exact W.iret (v := v_6) hx hb hr (fun t ht hW => ⟨⟨v_6, (), rfl, (lf_X8_cap_5 hM hT h999 hT0 hac hma c_1 hkn1 hw1 h01 hF_2_0 hF_2_1 hF_2_2 hF_2_3 hF_2_4 e_3 e_4 hu_5 e_6), ⟨g_5, fcn_2, man_2, w9, k9, h9, va_Ht ht hX9.1, hX9.2, hM_5, hT, (by omega), hF_2_0, (by omega), (lf_X8_cap_1 hM hT h999 hT0 hac hma c_1 hkn1 hw1 h01 hF_2_0 hF_2_1 hF_2_2 hF_2_3 hF_2_4 e_3 e_4 hu_5 e_6), (lf_X8_cap_2 hM hT h999 hT0 hac hma c_1 hkn1 hw1 h01 hF_2_0 hF_2_1 hF_2_2 hF_2_3 hF_2_4 e_3 e_4 hu_5 e_6), (lf_X8_cap_3 hM hT h999 hT0 hac hma c_1 hkn1 hw1 h01 hF_2_0 hF_2_1 hF_2_2 hF_2_3 hF_2_4 e_3 e_4 hu_5 e_6), (lf_X8_cap_4 hM hT h999 hT0 hac hma c_1 hkn1 hw1 h01 hF_2_0 hF_2_1 hF_2_2 hF_2_3 hF_2_4 e_3 e_4 hu_5 e_6)⟩⟩, hS.F ht⟩) hS.2.2 dX8_cap_37
  · skip
    have h00 : fs 0 = 0 := (hT0 c_1).1
    refine lv_ldc (own := RX8) (v := (-1000002)) hx hb hown (hts _ mx_X8_cap_2) dX8_cap_7 ?_
    have hX9 := cut2 (wc := [(xo_8_rrriirrriiiiiiirrirrrrri mo m_la m_sz m_it ms mt m_st m_mv m_tp (nI mz) ml (nI mp) mk mv mb mw m_rd m_ac (nI ma) m_as m_wo m_ik m_ke m_tr (nI mx)), (xI m_st cI 38 fs), (xI m_ac cI 912 fc)]) hP hD [0, 1, 2] (by decide +kernel) rfl
    exact W.iret (v := (-1000002)) hx hb hr (fun t ht hW => ⟨⟨(-1000002), (), rfl, (lf_X8_cap_10 hM hT h999 hT0 hac hma c_1 h00), ⟨fs, fc, ma, w9, k9, h9, va_Ht ht hX9.1, hX9.2, hM, hT, (by omega), hac, (by omega), (lf_X8_cap_6 hM hT h999 hT0 hac hma c_1 h00), (lf_X8_cap_7 hM hT h999 hT0 hac hma c_1 h00), (lf_X8_cap_8 hM hT h999 hT0 hac hma c_1 h00), (lf_X8_cap_9 hM hT h999 hT0 hac hma c_1 h00)⟩⟩, hS.F ht⟩) hS.2.2 dX8_cap_9
theorem lf_X8_wind_1 {mt : Int32} {ma : Nat} {fs : Nat → Int32} {w9 : Nat} {k9 : Nat} {h9 : Nat} {fc : Nat → Int32} {a0 : Int32} {v_2 : Int32} (hM : okM fs w9 k9 h9) (hT : ¬ mt = 0 → 1 ≤ k9) (h999 : h9 ≤ 999) (hT0 : mt = 0 → fs 0 = 0 ∧ ma = 0) (hac : okA fc ma) (hma : ma ≤ 24) (e_2 : v_2 = ((nI w9) - 1)) (f_3_0_0 : ((a0).toInt64 < 0 ∨ (v_2).toInt64 < (a0).toInt64)) (q_3 : (a0 < 0 ∨ v_2 < a0)) : (mt = 0 → fs 0 = 0 ∧ ma = 0) := by
  have hw6 := hM.2.2.2.1
  have hk6 := hM.2.2.2.2.1
  first
  | exact hT0
  | (intro h_; exact absurd (hT0 h_).1 h01)
  | (intro h_; have h9 := (hT0 h_).2; omega)
  | exact (windM_n (ma := ma) (A := acM fc ma) (windM_g hM.1 (Or.inl (sB_no e_2 (by omega) q_3)))).1
  | exact (windM_n (ma := ma) (A := acM fc ma) (windM_g hM.1 (Or.inl (sB_no e_2 (by omega) q_3)))).2.1
  | exact (windM_n (ma := ma) (A := acM fc ma) (windM_g hM.1 (Or.inl (sB_no e_2 (by omega) q_3)))).2.2.1
  | exact (windM_n (ma := ma) (A := acM fc ma) (windM_g hM.1 (Or.inl (sB_no e_2 (by omega) q_3)))).2.2.2
  | exact (windM_n (ma := ma) (A := acM fc ma) (windM_g hM.1 (Or.inr q_6))).1
  | exact (windM_n (ma := ma) (A := acM fc ma) (windM_g hM.1 (Or.inr q_6))).2.1
  | exact (windM_n (ma := ma) (A := acM fc ma) (windM_g hM.1 (Or.inr q_6))).2.2.1
  | exact (windM_n (ma := ma) (A := acM fc ma) (windM_g hM.1 (Or.inr q_6))).2.2.2
  | exact (windM_d hM.1 hw6 hj_3 q_6 (by assumption) (by assumption) (by assumption) (by assumption)).1
  | exact (windM_d hM.1 hw6 hj_3 q_6 (by assumption) (by assumption) (by assumption) (by assumption)).2.1
  | exact (windM_d hM.1 hw6 hj_3 q_6 (by assumption) (by assumption) (by assumption) (by assumption)).2.2.1
  | exact (windM_d hM.1 hw6 hj_3 q_6 (by assumption) (by assumption) (by assumption) (by assumption)).2.2.2
theorem lf_X8_wind_2 {mt : Int32} {ma : Nat} {fs : Nat → Int32} {w9 : Nat} {k9 : Nat} {h9 : Nat} {fc : Nat → Int32} {a0 : Int32} {a1 : Int32} {v_2 : Int32} (hM : okM fs w9 k9 h9) (hT : ¬ mt = 0 → 1 ≤ k9) (h999 : h9 ≤ 999) (hT0 : mt = 0 → fs 0 = 0 ∧ ma = 0) (hac : okA fc ma) (hma : ma ≤ 24) (e_2 : v_2 = ((nI w9) - 1)) (f_3_0_0 : ((a0).toInt64 < 0 ∨ (v_2).toInt64 < (a0).toInt64)) (q_3 : (a0 < 0 ∨ v_2 < a0)) : m38 fs = n_wind (m38 fs) a0 a1 := by
  have hw6 := hM.2.2.2.1
  have hk6 := hM.2.2.2.2.1
  first
  | exact hT0
  | (intro h_; exact absurd (hT0 h_).1 h01)
  | (intro h_; have h9 := (hT0 h_).2; omega)
  | exact (windM_n (ma := ma) (A := acM fc ma) (windM_g hM.1 (Or.inl (sB_no e_2 (by omega) q_3)))).1
  | exact (windM_n (ma := ma) (A := acM fc ma) (windM_g hM.1 (Or.inl (sB_no e_2 (by omega) q_3)))).2.1
  | exact (windM_n (ma := ma) (A := acM fc ma) (windM_g hM.1 (Or.inl (sB_no e_2 (by omega) q_3)))).2.2.1
  | exact (windM_n (ma := ma) (A := acM fc ma) (windM_g hM.1 (Or.inl (sB_no e_2 (by omega) q_3)))).2.2.2
  | exact (windM_n (ma := ma) (A := acM fc ma) (windM_g hM.1 (Or.inr q_6))).1
  | exact (windM_n (ma := ma) (A := acM fc ma) (windM_g hM.1 (Or.inr q_6))).2.1
  | exact (windM_n (ma := ma) (A := acM fc ma) (windM_g hM.1 (Or.inr q_6))).2.2.1
  | exact (windM_n (ma := ma) (A := acM fc ma) (windM_g hM.1 (Or.inr q_6))).2.2.2
  | exact (windM_d hM.1 hw6 hj_3 q_6 (by assumption) (by assumption) (by assumption) (by assumption)).1
  | exact (windM_d hM.1 hw6 hj_3 q_6 (by assumption) (by assumption) (by assumption) (by assumption)).2.1
  | exact (windM_d hM.1 hw6 hj_3 q_6 (by assumption) (by assumption) (by assumption) (by assumption)).2.2.1
  | exact (windM_d hM.1 hw6 hj_3 q_6 (by assumption) (by assumption) (by assumption) (by assumption)).2.2.2
theorem lf_X8_wind_3 {mt : Int32} {ma : Nat} {fs : Nat → Int32} {w9 : Nat} {k9 : Nat} {h9 : Nat} {fc : Nat → Int32} {a0 : Int32} {a1 : Int32} {v_2 : Int32} (hM : okM fs w9 k9 h9) (hT : ¬ mt = 0 → 1 ≤ k9) (h999 : h9 ≤ 999) (hT0 : mt = 0 → fs 0 = 0 ∧ ma = 0) (hac : okA fc ma) (hma : ma ≤ 24) (e_2 : v_2 = ((nI w9) - 1)) (f_3_0_0 : ((a0).toInt64 < 0 ∨ (v_2).toInt64 < (a0).toInt64)) (q_3 : (a0 < 0 ∨ v_2 < a0)) : ma = kpN (gd_wind (m38 fs) a0 a1) ma := by
  have hw6 := hM.2.2.2.1
  have hk6 := hM.2.2.2.2.1
  first
  | exact hT0
  | (intro h_; exact absurd (hT0 h_).1 h01)
  | (intro h_; have h9 := (hT0 h_).2; omega)
  | exact (windM_n (ma := ma) (A := acM fc ma) (windM_g hM.1 (Or.inl (sB_no e_2 (by omega) q_3)))).1
  | exact (windM_n (ma := ma) (A := acM fc ma) (windM_g hM.1 (Or.inl (sB_no e_2 (by omega) q_3)))).2.1
  | exact (windM_n (ma := ma) (A := acM fc ma) (windM_g hM.1 (Or.inl (sB_no e_2 (by omega) q_3)))).2.2.1
  | exact (windM_n (ma := ma) (A := acM fc ma) (windM_g hM.1 (Or.inl (sB_no e_2 (by omega) q_3)))).2.2.2
  | exact (windM_n (ma := ma) (A := acM fc ma) (windM_g hM.1 (Or.inr q_6))).1
  | exact (windM_n (ma := ma) (A := acM fc ma) (windM_g hM.1 (Or.inr q_6))).2.1
  | exact (windM_n (ma := ma) (A := acM fc ma) (windM_g hM.1 (Or.inr q_6))).2.2.1
  | exact (windM_n (ma := ma) (A := acM fc ma) (windM_g hM.1 (Or.inr q_6))).2.2.2
  | exact (windM_d hM.1 hw6 hj_3 q_6 (by assumption) (by assumption) (by assumption) (by assumption)).1
  | exact (windM_d hM.1 hw6 hj_3 q_6 (by assumption) (by assumption) (by assumption) (by assumption)).2.1
  | exact (windM_d hM.1 hw6 hj_3 q_6 (by assumption) (by assumption) (by assumption) (by assumption)).2.2.1
  | exact (windM_d hM.1 hw6 hj_3 q_6 (by assumption) (by assumption) (by assumption) (by assumption)).2.2.2
theorem lf_X8_wind_4 {mt : Int32} {ma : Nat} {fs : Nat → Int32} {w9 : Nat} {k9 : Nat} {h9 : Nat} {fc : Nat → Int32} {a0 : Int32} {a1 : Int32} {v_2 : Int32} (hM : okM fs w9 k9 h9) (hT : ¬ mt = 0 → 1 ≤ k9) (h999 : h9 ≤ 999) (hT0 : mt = 0 → fs 0 = 0 ∧ ma = 0) (hac : okA fc ma) (hma : ma ≤ 24) (e_2 : v_2 = ((nI w9) - 1)) (f_3_0_0 : ((a0).toInt64 < 0 ∨ (v_2).toInt64 < (a0).toInt64)) (q_3 : (a0 < 0 ∨ v_2 < a0)) : acM fc ma = kpA (gd_wind (m38 fs) a0 a1) (m38 fs) ma (acM fc ma) := by
  have hw6 := hM.2.2.2.1
  have hk6 := hM.2.2.2.2.1
  first
  | exact hT0
  | (intro h_; exact absurd (hT0 h_).1 h01)
  | (intro h_; have h9 := (hT0 h_).2; omega)
  | exact (windM_n (ma := ma) (A := acM fc ma) (windM_g hM.1 (Or.inl (sB_no e_2 (by omega) q_3)))).1
  | exact (windM_n (ma := ma) (A := acM fc ma) (windM_g hM.1 (Or.inl (sB_no e_2 (by omega) q_3)))).2.1
  | exact (windM_n (ma := ma) (A := acM fc ma) (windM_g hM.1 (Or.inl (sB_no e_2 (by omega) q_3)))).2.2.1
  | exact (windM_n (ma := ma) (A := acM fc ma) (windM_g hM.1 (Or.inl (sB_no e_2 (by omega) q_3)))).2.2.2
  | exact (windM_n (ma := ma) (A := acM fc ma) (windM_g hM.1 (Or.inr q_6))).1
  | exact (windM_n (ma := ma) (A := acM fc ma) (windM_g hM.1 (Or.inr q_6))).2.1
  | exact (windM_n (ma := ma) (A := acM fc ma) (windM_g hM.1 (Or.inr q_6))).2.2.1
  | exact (windM_n (ma := ma) (A := acM fc ma) (windM_g hM.1 (Or.inr q_6))).2.2.2
  | exact (windM_d hM.1 hw6 hj_3 q_6 (by assumption) (by assumption) (by assumption) (by assumption)).1
  | exact (windM_d hM.1 hw6 hj_3 q_6 (by assumption) (by assumption) (by assumption) (by assumption)).2.1
  | exact (windM_d hM.1 hw6 hj_3 q_6 (by assumption) (by assumption) (by assumption) (by assumption)).2.2.1
  | exact (windM_d hM.1 hw6 hj_3 q_6 (by assumption) (by assumption) (by assumption) (by assumption)).2.2.2
theorem lf_X8_wind_5 {mt : Int32} {ma : Nat} {fs : Nat → Int32} {w9 : Nat} {k9 : Nat} {h9 : Nat} {fc : Nat → Int32} {a0 : Int32} {a1 : Int32} {v_2 : Int32} (hM : okM fs w9 k9 h9) (hT : ¬ mt = 0 → 1 ≤ k9) (h999 : h9 ≤ 999) (hT0 : mt = 0 → fs 0 = 0 ∧ ma = 0) (hac : okA fc ma) (hma : ma ≤ 24) (e_2 : v_2 = ((nI w9) - 1)) (f_3_0_0 : ((a0).toInt64 < 0 ∨ (v_2).toInt64 < (a0).toInt64)) (q_3 : (a0 < 0 ∨ v_2 < a0)) : (-1000001) = (a_wind (m38 fs) a0 a1) := by
  have hw6 := hM.2.2.2.1
  have hk6 := hM.2.2.2.2.1
  first
  | exact hT0
  | (intro h_; exact absurd (hT0 h_).1 h01)
  | (intro h_; have h9 := (hT0 h_).2; omega)
  | exact (windM_n (ma := ma) (A := acM fc ma) (windM_g hM.1 (Or.inl (sB_no e_2 (by omega) q_3)))).1
  | exact (windM_n (ma := ma) (A := acM fc ma) (windM_g hM.1 (Or.inl (sB_no e_2 (by omega) q_3)))).2.1
  | exact (windM_n (ma := ma) (A := acM fc ma) (windM_g hM.1 (Or.inl (sB_no e_2 (by omega) q_3)))).2.2.1
  | exact (windM_n (ma := ma) (A := acM fc ma) (windM_g hM.1 (Or.inl (sB_no e_2 (by omega) q_3)))).2.2.2
  | exact (windM_n (ma := ma) (A := acM fc ma) (windM_g hM.1 (Or.inr q_6))).1
  | exact (windM_n (ma := ma) (A := acM fc ma) (windM_g hM.1 (Or.inr q_6))).2.1
  | exact (windM_n (ma := ma) (A := acM fc ma) (windM_g hM.1 (Or.inr q_6))).2.2.1
  | exact (windM_n (ma := ma) (A := acM fc ma) (windM_g hM.1 (Or.inr q_6))).2.2.2
  | exact (windM_d hM.1 hw6 hj_3 q_6 (by assumption) (by assumption) (by assumption) (by assumption)).1
  | exact (windM_d hM.1 hw6 hj_3 q_6 (by assumption) (by assumption) (by assumption) (by assumption)).2.1
  | exact (windM_d hM.1 hw6 hj_3 q_6 (by assumption) (by assumption) (by assumption) (by assumption)).2.2.1
  | exact (windM_d hM.1 hw6 hj_3 q_6 (by assumption) (by assumption) (by assumption) (by assumption)).2.2.2
theorem lf_X8_wind_6 {mt : Int32} {ma : Nat} {fs : Nat → Int32} {w9 : Nat} {k9 : Nat} {h9 : Nat} {fc : Nat → Int32} {a1 : Int32} {v_2 : Int32} {j_3 : Nat} (hM : okM fs w9 k9 h9) (hT : ¬ mt = 0 → 1 ≤ k9) (h999 : h9 ≤ 999) (hT0 : mt = 0 → fs 0 = 0 ∧ ma = 0) (hac : okA fc ma) (hma : ma ≤ 24) (e_2 : v_2 = ((nI w9) - 1)) (f_3_1_0 : (¬ (((nI j_3)).toInt64 < 0 ∨ (v_2).toInt64 < ((nI j_3)).toInt64))) (q_3 : ¬ ((nI j_3) < 0 ∨ v_2 < (nI j_3))) (hj_3 : j_3 < w9) (hkn1 : 1 ≤ k9) (hw1 : 1 ≤ w9) (h01 : ¬ fs 0 = 0) (f_6_0_0 : ((a1).toInt64 < 0 ∨ 4 < (a1).toInt64)) (q_6 : (a1 < 0 ∨ 4 < a1)) : (mt = 0 → fs 0 = 0 ∧ ma = 0) := by
  have hw6 := hM.2.2.2.1
  have hk6 := hM.2.2.2.2.1
  first
  | exact hT0
  | (intro h_; exact absurd (hT0 h_).1 h01)
  | (intro h_; have h9 := (hT0 h_).2; omega)
  | exact (windM_n (ma := ma) (A := acM fc ma) (windM_g hM.1 (Or.inl (sB_no e_2 (by omega) q_3)))).1
  | exact (windM_n (ma := ma) (A := acM fc ma) (windM_g hM.1 (Or.inl (sB_no e_2 (by omega) q_3)))).2.1
  | exact (windM_n (ma := ma) (A := acM fc ma) (windM_g hM.1 (Or.inl (sB_no e_2 (by omega) q_3)))).2.2.1
  | exact (windM_n (ma := ma) (A := acM fc ma) (windM_g hM.1 (Or.inl (sB_no e_2 (by omega) q_3)))).2.2.2
  | exact (windM_n (ma := ma) (A := acM fc ma) (windM_g hM.1 (Or.inr q_6))).1
  | exact (windM_n (ma := ma) (A := acM fc ma) (windM_g hM.1 (Or.inr q_6))).2.1
  | exact (windM_n (ma := ma) (A := acM fc ma) (windM_g hM.1 (Or.inr q_6))).2.2.1
  | exact (windM_n (ma := ma) (A := acM fc ma) (windM_g hM.1 (Or.inr q_6))).2.2.2
  | exact (windM_d hM.1 hw6 hj_3 q_6 (by assumption) (by assumption) (by assumption) (by assumption)).1
  | exact (windM_d hM.1 hw6 hj_3 q_6 (by assumption) (by assumption) (by assumption) (by assumption)).2.1
  | exact (windM_d hM.1 hw6 hj_3 q_6 (by assumption) (by assumption) (by assumption) (by assumption)).2.2.1
  | exact (windM_d hM.1 hw6 hj_3 q_6 (by assumption) (by assumption) (by assumption) (by assumption)).2.2.2
theorem lf_X8_wind_7 {mt : Int32} {ma : Nat} {fs : Nat → Int32} {w9 : Nat} {k9 : Nat} {h9 : Nat} {fc : Nat → Int32} {a1 : Int32} {v_2 : Int32} {j_3 : Nat} (hM : okM fs w9 k9 h9) (hT : ¬ mt = 0 → 1 ≤ k9) (h999 : h9 ≤ 999) (hT0 : mt = 0 → fs 0 = 0 ∧ ma = 0) (hac : okA fc ma) (hma : ma ≤ 24) (e_2 : v_2 = ((nI w9) - 1)) (f_3_1_0 : (¬ (((nI j_3)).toInt64 < 0 ∨ (v_2).toInt64 < ((nI j_3)).toInt64))) (q_3 : ¬ ((nI j_3) < 0 ∨ v_2 < (nI j_3))) (hj_3 : j_3 < w9) (hkn1 : 1 ≤ k9) (hw1 : 1 ≤ w9) (h01 : ¬ fs 0 = 0) (f_6_0_0 : ((a1).toInt64 < 0 ∨ 4 < (a1).toInt64)) (q_6 : (a1 < 0 ∨ 4 < a1)) : m38 fs = n_wind (m38 fs) (nI j_3) a1 := by
  have hw6 := hM.2.2.2.1
  have hk6 := hM.2.2.2.2.1
  first
  | exact hT0
  | (intro h_; exact absurd (hT0 h_).1 h01)
  | (intro h_; have h9 := (hT0 h_).2; omega)
  | exact (windM_n (ma := ma) (A := acM fc ma) (windM_g hM.1 (Or.inl (sB_no e_2 (by omega) q_3)))).1
  | exact (windM_n (ma := ma) (A := acM fc ma) (windM_g hM.1 (Or.inl (sB_no e_2 (by omega) q_3)))).2.1
  | exact (windM_n (ma := ma) (A := acM fc ma) (windM_g hM.1 (Or.inl (sB_no e_2 (by omega) q_3)))).2.2.1
  | exact (windM_n (ma := ma) (A := acM fc ma) (windM_g hM.1 (Or.inl (sB_no e_2 (by omega) q_3)))).2.2.2
  | exact (windM_n (ma := ma) (A := acM fc ma) (windM_g hM.1 (Or.inr q_6))).1
  | exact (windM_n (ma := ma) (A := acM fc ma) (windM_g hM.1 (Or.inr q_6))).2.1
  | exact (windM_n (ma := ma) (A := acM fc ma) (windM_g hM.1 (Or.inr q_6))).2.2.1
  | exact (windM_n (ma := ma) (A := acM fc ma) (windM_g hM.1 (Or.inr q_6))).2.2.2
  | exact (windM_d hM.1 hw6 hj_3 q_6 (by assumption) (by assumption) (by assumption) (by assumption)).1
  | exact (windM_d hM.1 hw6 hj_3 q_6 (by assumption) (by assumption) (by assumption) (by assumption)).2.1
  | exact (windM_d hM.1 hw6 hj_3 q_6 (by assumption) (by assumption) (by assumption) (by assumption)).2.2.1
  | exact (windM_d hM.1 hw6 hj_3 q_6 (by assumption) (by assumption) (by assumption) (by assumption)).2.2.2
theorem lf_X8_wind_8 {mt : Int32} {ma : Nat} {fs : Nat → Int32} {w9 : Nat} {k9 : Nat} {h9 : Nat} {fc : Nat → Int32} {a1 : Int32} {v_2 : Int32} {j_3 : Nat} (hM : okM fs w9 k9 h9) (hT : ¬ mt = 0 → 1 ≤ k9) (h999 : h9 ≤ 999) (hT0 : mt = 0 → fs 0 = 0 ∧ ma = 0) (hac : okA fc ma) (hma : ma ≤ 24) (e_2 : v_2 = ((nI w9) - 1)) (f_3_1_0 : (¬ (((nI j_3)).toInt64 < 0 ∨ (v_2).toInt64 < ((nI j_3)).toInt64))) (q_3 : ¬ ((nI j_3) < 0 ∨ v_2 < (nI j_3))) (hj_3 : j_3 < w9) (hkn1 : 1 ≤ k9) (hw1 : 1 ≤ w9) (h01 : ¬ fs 0 = 0) (f_6_0_0 : ((a1).toInt64 < 0 ∨ 4 < (a1).toInt64)) (q_6 : (a1 < 0 ∨ 4 < a1)) : ma = kpN (gd_wind (m38 fs) (nI j_3) a1) ma := by
  have hw6 := hM.2.2.2.1
  have hk6 := hM.2.2.2.2.1
  first
  | exact hT0
  | (intro h_; exact absurd (hT0 h_).1 h01)
  | (intro h_; have h9 := (hT0 h_).2; omega)
  | exact (windM_n (ma := ma) (A := acM fc ma) (windM_g hM.1 (Or.inl (sB_no e_2 (by omega) q_3)))).1
  | exact (windM_n (ma := ma) (A := acM fc ma) (windM_g hM.1 (Or.inl (sB_no e_2 (by omega) q_3)))).2.1
  | exact (windM_n (ma := ma) (A := acM fc ma) (windM_g hM.1 (Or.inl (sB_no e_2 (by omega) q_3)))).2.2.1
  | exact (windM_n (ma := ma) (A := acM fc ma) (windM_g hM.1 (Or.inl (sB_no e_2 (by omega) q_3)))).2.2.2
  | exact (windM_n (ma := ma) (A := acM fc ma) (windM_g hM.1 (Or.inr q_6))).1
  | exact (windM_n (ma := ma) (A := acM fc ma) (windM_g hM.1 (Or.inr q_6))).2.1
  | exact (windM_n (ma := ma) (A := acM fc ma) (windM_g hM.1 (Or.inr q_6))).2.2.1
  | exact (windM_n (ma := ma) (A := acM fc ma) (windM_g hM.1 (Or.inr q_6))).2.2.2
  | exact (windM_d hM.1 hw6 hj_3 q_6 (by assumption) (by assumption) (by assumption) (by assumption)).1
  | exact (windM_d hM.1 hw6 hj_3 q_6 (by assumption) (by assumption) (by assumption) (by assumption)).2.1
  | exact (windM_d hM.1 hw6 hj_3 q_6 (by assumption) (by assumption) (by assumption) (by assumption)).2.2.1
  | exact (windM_d hM.1 hw6 hj_3 q_6 (by assumption) (by assumption) (by assumption) (by assumption)).2.2.2
theorem lf_X8_wind_9 {mt : Int32} {ma : Nat} {fs : Nat → Int32} {w9 : Nat} {k9 : Nat} {h9 : Nat} {fc : Nat → Int32} {a1 : Int32} {v_2 : Int32} {j_3 : Nat} (hM : okM fs w9 k9 h9) (hT : ¬ mt = 0 → 1 ≤ k9) (h999 : h9 ≤ 999) (hT0 : mt = 0 → fs 0 = 0 ∧ ma = 0) (hac : okA fc ma) (hma : ma ≤ 24) (e_2 : v_2 = ((nI w9) - 1)) (f_3_1_0 : (¬ (((nI j_3)).toInt64 < 0 ∨ (v_2).toInt64 < ((nI j_3)).toInt64))) (q_3 : ¬ ((nI j_3) < 0 ∨ v_2 < (nI j_3))) (hj_3 : j_3 < w9) (hkn1 : 1 ≤ k9) (hw1 : 1 ≤ w9) (h01 : ¬ fs 0 = 0) (f_6_0_0 : ((a1).toInt64 < 0 ∨ 4 < (a1).toInt64)) (q_6 : (a1 < 0 ∨ 4 < a1)) : acM fc ma = kpA (gd_wind (m38 fs) (nI j_3) a1) (m38 fs) ma (acM fc ma) := by
  have hw6 := hM.2.2.2.1
  have hk6 := hM.2.2.2.2.1
  first
  | exact hT0
  | (intro h_; exact absurd (hT0 h_).1 h01)
  | (intro h_; have h9 := (hT0 h_).2; omega)
  | exact (windM_n (ma := ma) (A := acM fc ma) (windM_g hM.1 (Or.inl (sB_no e_2 (by omega) q_3)))).1
  | exact (windM_n (ma := ma) (A := acM fc ma) (windM_g hM.1 (Or.inl (sB_no e_2 (by omega) q_3)))).2.1
  | exact (windM_n (ma := ma) (A := acM fc ma) (windM_g hM.1 (Or.inl (sB_no e_2 (by omega) q_3)))).2.2.1
  | exact (windM_n (ma := ma) (A := acM fc ma) (windM_g hM.1 (Or.inl (sB_no e_2 (by omega) q_3)))).2.2.2
  | exact (windM_n (ma := ma) (A := acM fc ma) (windM_g hM.1 (Or.inr q_6))).1
  | exact (windM_n (ma := ma) (A := acM fc ma) (windM_g hM.1 (Or.inr q_6))).2.1
  | exact (windM_n (ma := ma) (A := acM fc ma) (windM_g hM.1 (Or.inr q_6))).2.2.1
  | exact (windM_n (ma := ma) (A := acM fc ma) (windM_g hM.1 (Or.inr q_6))).2.2.2
  | exact (windM_d hM.1 hw6 hj_3 q_6 (by assumption) (by assumption) (by assumption) (by assumption)).1
  | exact (windM_d hM.1 hw6 hj_3 q_6 (by assumption) (by assumption) (by assumption) (by assumption)).2.1
  | exact (windM_d hM.1 hw6 hj_3 q_6 (by assumption) (by assumption) (by assumption) (by assumption)).2.2.1
  | exact (windM_d hM.1 hw6 hj_3 q_6 (by assumption) (by assumption) (by assumption) (by assumption)).2.2.2
theorem lf_X8_wind_10 {mt : Int32} {ma : Nat} {fs : Nat → Int32} {w9 : Nat} {k9 : Nat} {h9 : Nat} {fc : Nat → Int32} {a1 : Int32} {v_2 : Int32} {j_3 : Nat} (hM : okM fs w9 k9 h9) (hT : ¬ mt = 0 → 1 ≤ k9) (h999 : h9 ≤ 999) (hT0 : mt = 0 → fs 0 = 0 ∧ ma = 0) (hac : okA fc ma) (hma : ma ≤ 24) (e_2 : v_2 = ((nI w9) - 1)) (f_3_1_0 : (¬ (((nI j_3)).toInt64 < 0 ∨ (v_2).toInt64 < ((nI j_3)).toInt64))) (q_3 : ¬ ((nI j_3) < 0 ∨ v_2 < (nI j_3))) (hj_3 : j_3 < w9) (hkn1 : 1 ≤ k9) (hw1 : 1 ≤ w9) (h01 : ¬ fs 0 = 0) (f_6_0_0 : ((a1).toInt64 < 0 ∨ 4 < (a1).toInt64)) (q_6 : (a1 < 0 ∨ 4 < a1)) : (-1000001) = (a_wind (m38 fs) (nI j_3) a1) := by
  have hw6 := hM.2.2.2.1
  have hk6 := hM.2.2.2.2.1
  first
  | exact hT0
  | (intro h_; exact absurd (hT0 h_).1 h01)
  | (intro h_; have h9 := (hT0 h_).2; omega)
  | exact (windM_n (ma := ma) (A := acM fc ma) (windM_g hM.1 (Or.inl (sB_no e_2 (by omega) q_3)))).1
  | exact (windM_n (ma := ma) (A := acM fc ma) (windM_g hM.1 (Or.inl (sB_no e_2 (by omega) q_3)))).2.1
  | exact (windM_n (ma := ma) (A := acM fc ma) (windM_g hM.1 (Or.inl (sB_no e_2 (by omega) q_3)))).2.2.1
  | exact (windM_n (ma := ma) (A := acM fc ma) (windM_g hM.1 (Or.inl (sB_no e_2 (by omega) q_3)))).2.2.2
  | exact (windM_n (ma := ma) (A := acM fc ma) (windM_g hM.1 (Or.inr q_6))).1
  | exact (windM_n (ma := ma) (A := acM fc ma) (windM_g hM.1 (Or.inr q_6))).2.1
  | exact (windM_n (ma := ma) (A := acM fc ma) (windM_g hM.1 (Or.inr q_6))).2.2.1
  | exact (windM_n (ma := ma) (A := acM fc ma) (windM_g hM.1 (Or.inr q_6))).2.2.2
  | exact (windM_d hM.1 hw6 hj_3 q_6 (by assumption) (by assumption) (by assumption) (by assumption)).1
  | exact (windM_d hM.1 hw6 hj_3 q_6 (by assumption) (by assumption) (by assumption) (by assumption)).2.1
  | exact (windM_d hM.1 hw6 hj_3 q_6 (by assumption) (by assumption) (by assumption) (by assumption)).2.2.1
  | exact (windM_d hM.1 hw6 hj_3 q_6 (by assumption) (by assumption) (by assumption) (by assumption)).2.2.2
theorem lf_X8_wind_11 {mt : Int32} {ma : Nat} {fs : Nat → Int32} {w9 : Nat} {k9 : Nat} {h9 : Nat} {fc : Nat → Int32} {v_2 : Int32} {j_3 : Nat} {j_6 : Nat} {fcn_9 : Nat → Int32} {man_9 : Nat} {v_11 : Int32} {g_13 : Nat → Int32} (hM : okM fs w9 k9 h9) (hT : ¬ mt = 0 → 1 ≤ k9) (h999 : h9 ≤ 999) (hT0 : mt = 0 → fs 0 = 0 ∧ ma = 0) (hac : okA fc ma) (hma : ma ≤ 24) (e_2 : v_2 = ((nI w9) - 1)) (f_3_1_0 : (¬ (((nI j_3)).toInt64 < 0 ∨ (v_2).toInt64 < ((nI j_3)).toInt64))) (q_3 : ¬ ((nI j_3) < 0 ∨ v_2 < (nI j_3))) (hj_3 : j_3 < w9) (hkn1 : 1 ≤ k9) (hw1 : 1 ≤ w9) (h01 : ¬ fs 0 = 0) (f_6_1_0 : (¬ (((nI j_6)).toInt64 < 0 ∨ 4 < ((nI j_6)).toInt64))) (q_6 : ¬ ((nI j_6) < 0 ∨ 4 < (nI j_6))) (hj_6 : j_6 ≤ 4) (hF_9_0 : okA fcn_9 man_9) (hF_9_1 : man_9 ≤ 24) (hF_9_2 : 1 ≤ man_9) (hF_9_3 : acM fcn_9 man_9 = ntA (m38 fs) ma (acM fc ma)) (hF_9_4 : man_9 = ntN ma) (e_11 : v_11 = fs (8 + j_3)) (hu_13 : g_13 = upd fs (8 + j_3) (nI j_6)) : (mt = 0 → g_13 0 = 0 ∧ man_9 = 0) := by
  have hw6 := hM.2.2.2.1
  have hk6 := hM.2.2.2.2.1
  first
  | exact hT0
  | (intro h_; exact absurd (hT0 h_).1 h01)
  | (intro h_; have h9 := (hT0 h_).2; omega)
  | exact (windM_n (ma := ma) (A := acM fc ma) (windM_g hM.1 (Or.inl (sB_no e_2 (by omega) q_3)))).1
  | exact (windM_n (ma := ma) (A := acM fc ma) (windM_g hM.1 (Or.inl (sB_no e_2 (by omega) q_3)))).2.1
  | exact (windM_n (ma := ma) (A := acM fc ma) (windM_g hM.1 (Or.inl (sB_no e_2 (by omega) q_3)))).2.2.1
  | exact (windM_n (ma := ma) (A := acM fc ma) (windM_g hM.1 (Or.inl (sB_no e_2 (by omega) q_3)))).2.2.2
  | exact (windM_n (ma := ma) (A := acM fc ma) (windM_g hM.1 (Or.inr q_6))).1
  | exact (windM_n (ma := ma) (A := acM fc ma) (windM_g hM.1 (Or.inr q_6))).2.1
  | exact (windM_n (ma := ma) (A := acM fc ma) (windM_g hM.1 (Or.inr q_6))).2.2.1
  | exact (windM_n (ma := ma) (A := acM fc ma) (windM_g hM.1 (Or.inr q_6))).2.2.2
  | exact (windM_d hM.1 hw6 hj_3 q_6 (by assumption) (by assumption) (by assumption) (by assumption)).1
  | exact (windM_d hM.1 hw6 hj_3 q_6 (by assumption) (by assumption) (by assumption) (by assumption)).2.1
  | exact (windM_d hM.1 hw6 hj_3 q_6 (by assumption) (by assumption) (by assumption) (by assumption)).2.2.1
  | exact (windM_d hM.1 hw6 hj_3 q_6 (by assumption) (by assumption) (by assumption) (by assumption)).2.2.2
theorem lf_X8_wind_12 {mt : Int32} {ma : Nat} {fs : Nat → Int32} {w9 : Nat} {k9 : Nat} {h9 : Nat} {fc : Nat → Int32} {v_2 : Int32} {j_3 : Nat} {j_6 : Nat} {fcn_9 : Nat → Int32} {man_9 : Nat} {v_11 : Int32} {g_13 : Nat → Int32} (hM : okM fs w9 k9 h9) (hT : ¬ mt = 0 → 1 ≤ k9) (h999 : h9 ≤ 999) (hT0 : mt = 0 → fs 0 = 0 ∧ ma = 0) (hac : okA fc ma) (hma : ma ≤ 24) (e_2 : v_2 = ((nI w9) - 1)) (f_3_1_0 : (¬ (((nI j_3)).toInt64 < 0 ∨ (v_2).toInt64 < ((nI j_3)).toInt64))) (q_3 : ¬ ((nI j_3) < 0 ∨ v_2 < (nI j_3))) (hj_3 : j_3 < w9) (hkn1 : 1 ≤ k9) (hw1 : 1 ≤ w9) (h01 : ¬ fs 0 = 0) (f_6_1_0 : (¬ (((nI j_6)).toInt64 < 0 ∨ 4 < ((nI j_6)).toInt64))) (q_6 : ¬ ((nI j_6) < 0 ∨ 4 < (nI j_6))) (hj_6 : j_6 ≤ 4) (hF_9_0 : okA fcn_9 man_9) (hF_9_1 : man_9 ≤ 24) (hF_9_2 : 1 ≤ man_9) (hF_9_3 : acM fcn_9 man_9 = ntA (m38 fs) ma (acM fc ma)) (hF_9_4 : man_9 = ntN ma) (e_11 : v_11 = fs (8 + j_3)) (hu_13 : g_13 = upd fs (8 + j_3) (nI j_6)) : m38 g_13 = n_wind (m38 fs) (nI j_3) (nI j_6) := by
  have hw6 := hM.2.2.2.1
  have hk6 := hM.2.2.2.2.1
  first
  | exact hT0
  | (intro h_; exact absurd (hT0 h_).1 h01)
  | (intro h_; have h9 := (hT0 h_).2; omega)
  | exact (windM_n (ma := ma) (A := acM fc ma) (windM_g hM.1 (Or.inl (sB_no e_2 (by omega) q_3)))).1
  | exact (windM_n (ma := ma) (A := acM fc ma) (windM_g hM.1 (Or.inl (sB_no e_2 (by omega) q_3)))).2.1
  | exact (windM_n (ma := ma) (A := acM fc ma) (windM_g hM.1 (Or.inl (sB_no e_2 (by omega) q_3)))).2.2.1
  | exact (windM_n (ma := ma) (A := acM fc ma) (windM_g hM.1 (Or.inl (sB_no e_2 (by omega) q_3)))).2.2.2
  | exact (windM_n (ma := ma) (A := acM fc ma) (windM_g hM.1 (Or.inr q_6))).1
  | exact (windM_n (ma := ma) (A := acM fc ma) (windM_g hM.1 (Or.inr q_6))).2.1
  | exact (windM_n (ma := ma) (A := acM fc ma) (windM_g hM.1 (Or.inr q_6))).2.2.1
  | exact (windM_n (ma := ma) (A := acM fc ma) (windM_g hM.1 (Or.inr q_6))).2.2.2
  | exact (windM_d hM.1 hw6 hj_3 q_6 (by assumption) (by assumption) (by assumption) (by assumption)).1
  | exact (windM_d hM.1 hw6 hj_3 q_6 (by assumption) (by assumption) (by assumption) (by assumption)).2.1
  | exact (windM_d hM.1 hw6 hj_3 q_6 (by assumption) (by assumption) (by assumption) (by assumption)).2.2.1
  | exact (windM_d hM.1 hw6 hj_3 q_6 (by assumption) (by assumption) (by assumption) (by assumption)).2.2.2
theorem lf_X8_wind_13 {mt : Int32} {ma : Nat} {fs : Nat → Int32} {w9 : Nat} {k9 : Nat} {h9 : Nat} {fc : Nat → Int32} {v_2 : Int32} {j_3 : Nat} {j_6 : Nat} {fcn_9 : Nat → Int32} {man_9 : Nat} {v_11 : Int32} {g_13 : Nat → Int32} (hM : okM fs w9 k9 h9) (hT : ¬ mt = 0 → 1 ≤ k9) (h999 : h9 ≤ 999) (hT0 : mt = 0 → fs 0 = 0 ∧ ma = 0) (hac : okA fc ma) (hma : ma ≤ 24) (e_2 : v_2 = ((nI w9) - 1)) (f_3_1_0 : (¬ (((nI j_3)).toInt64 < 0 ∨ (v_2).toInt64 < ((nI j_3)).toInt64))) (q_3 : ¬ ((nI j_3) < 0 ∨ v_2 < (nI j_3))) (hj_3 : j_3 < w9) (hkn1 : 1 ≤ k9) (hw1 : 1 ≤ w9) (h01 : ¬ fs 0 = 0) (f_6_1_0 : (¬ (((nI j_6)).toInt64 < 0 ∨ 4 < ((nI j_6)).toInt64))) (q_6 : ¬ ((nI j_6) < 0 ∨ 4 < (nI j_6))) (hj_6 : j_6 ≤ 4) (hF_9_0 : okA fcn_9 man_9) (hF_9_1 : man_9 ≤ 24) (hF_9_2 : 1 ≤ man_9) (hF_9_3 : acM fcn_9 man_9 = ntA (m38 fs) ma (acM fc ma)) (hF_9_4 : man_9 = ntN ma) (e_11 : v_11 = fs (8 + j_3)) (hu_13 : g_13 = upd fs (8 + j_3) (nI j_6)) : man_9 = kpN (gd_wind (m38 fs) (nI j_3) (nI j_6)) ma := by
  have hw6 := hM.2.2.2.1
  have hk6 := hM.2.2.2.2.1
  first
  | exact hT0
  | (intro h_; exact absurd (hT0 h_).1 h01)
  | (intro h_; have h9 := (hT0 h_).2; omega)
  | exact (windM_n (ma := ma) (A := acM fc ma) (windM_g hM.1 (Or.inl (sB_no e_2 (by omega) q_3)))).1
  | exact (windM_n (ma := ma) (A := acM fc ma) (windM_g hM.1 (Or.inl (sB_no e_2 (by omega) q_3)))).2.1
  | exact (windM_n (ma := ma) (A := acM fc ma) (windM_g hM.1 (Or.inl (sB_no e_2 (by omega) q_3)))).2.2.1
  | exact (windM_n (ma := ma) (A := acM fc ma) (windM_g hM.1 (Or.inl (sB_no e_2 (by omega) q_3)))).2.2.2
  | exact (windM_n (ma := ma) (A := acM fc ma) (windM_g hM.1 (Or.inr q_6))).1
  | exact (windM_n (ma := ma) (A := acM fc ma) (windM_g hM.1 (Or.inr q_6))).2.1
  | exact (windM_n (ma := ma) (A := acM fc ma) (windM_g hM.1 (Or.inr q_6))).2.2.1
  | exact (windM_n (ma := ma) (A := acM fc ma) (windM_g hM.1 (Or.inr q_6))).2.2.2
  | exact (windM_d hM.1 hw6 hj_3 q_6 (by assumption) (by assumption) (by assumption) (by assumption)).1
  | exact (windM_d hM.1 hw6 hj_3 q_6 (by assumption) (by assumption) (by assumption) (by assumption)).2.1
  | exact (windM_d hM.1 hw6 hj_3 q_6 (by assumption) (by assumption) (by assumption) (by assumption)).2.2.1
  | exact (windM_d hM.1 hw6 hj_3 q_6 (by assumption) (by assumption) (by assumption) (by assumption)).2.2.2
theorem lf_X8_wind_14 {mt : Int32} {ma : Nat} {fs : Nat → Int32} {w9 : Nat} {k9 : Nat} {h9 : Nat} {fc : Nat → Int32} {v_2 : Int32} {j_3 : Nat} {j_6 : Nat} {fcn_9 : Nat → Int32} {man_9 : Nat} {v_11 : Int32} {g_13 : Nat → Int32} (hM : okM fs w9 k9 h9) (hT : ¬ mt = 0 → 1 ≤ k9) (h999 : h9 ≤ 999) (hT0 : mt = 0 → fs 0 = 0 ∧ ma = 0) (hac : okA fc ma) (hma : ma ≤ 24) (e_2 : v_2 = ((nI w9) - 1)) (f_3_1_0 : (¬ (((nI j_3)).toInt64 < 0 ∨ (v_2).toInt64 < ((nI j_3)).toInt64))) (q_3 : ¬ ((nI j_3) < 0 ∨ v_2 < (nI j_3))) (hj_3 : j_3 < w9) (hkn1 : 1 ≤ k9) (hw1 : 1 ≤ w9) (h01 : ¬ fs 0 = 0) (f_6_1_0 : (¬ (((nI j_6)).toInt64 < 0 ∨ 4 < ((nI j_6)).toInt64))) (q_6 : ¬ ((nI j_6) < 0 ∨ 4 < (nI j_6))) (hj_6 : j_6 ≤ 4) (hF_9_0 : okA fcn_9 man_9) (hF_9_1 : man_9 ≤ 24) (hF_9_2 : 1 ≤ man_9) (hF_9_3 : acM fcn_9 man_9 = ntA (m38 fs) ma (acM fc ma)) (hF_9_4 : man_9 = ntN ma) (e_11 : v_11 = fs (8 + j_3)) (hu_13 : g_13 = upd fs (8 + j_3) (nI j_6)) : acM fcn_9 man_9 = kpA (gd_wind (m38 fs) (nI j_3) (nI j_6)) (m38 fs) ma (acM fc ma) := by
  have hw6 := hM.2.2.2.1
  have hk6 := hM.2.2.2.2.1
  first
  | exact hT0
  | (intro h_; exact absurd (hT0 h_).1 h01)
  | (intro h_; have h9 := (hT0 h_).2; omega)
  | exact (windM_n (ma := ma) (A := acM fc ma) (windM_g hM.1 (Or.inl (sB_no e_2 (by omega) q_3)))).1
  | exact (windM_n (ma := ma) (A := acM fc ma) (windM_g hM.1 (Or.inl (sB_no e_2 (by omega) q_3)))).2.1
  | exact (windM_n (ma := ma) (A := acM fc ma) (windM_g hM.1 (Or.inl (sB_no e_2 (by omega) q_3)))).2.2.1
  | exact (windM_n (ma := ma) (A := acM fc ma) (windM_g hM.1 (Or.inl (sB_no e_2 (by omega) q_3)))).2.2.2
  | exact (windM_n (ma := ma) (A := acM fc ma) (windM_g hM.1 (Or.inr q_6))).1
  | exact (windM_n (ma := ma) (A := acM fc ma) (windM_g hM.1 (Or.inr q_6))).2.1
  | exact (windM_n (ma := ma) (A := acM fc ma) (windM_g hM.1 (Or.inr q_6))).2.2.1
  | exact (windM_n (ma := ma) (A := acM fc ma) (windM_g hM.1 (Or.inr q_6))).2.2.2
  | exact (windM_d hM.1 hw6 hj_3 q_6 (by assumption) (by assumption) (by assumption) (by assumption)).1
  | exact (windM_d hM.1 hw6 hj_3 q_6 (by assumption) (by assumption) (by assumption) (by assumption)).2.1
  | exact (windM_d hM.1 hw6 hj_3 q_6 (by assumption) (by assumption) (by assumption) (by assumption)).2.2.1
  | exact (windM_d hM.1 hw6 hj_3 q_6 (by assumption) (by assumption) (by assumption) (by assumption)).2.2.2
theorem lf_X8_wind_15 {mt : Int32} {ma : Nat} {fs : Nat → Int32} {w9 : Nat} {k9 : Nat} {h9 : Nat} {fc : Nat → Int32} {v_2 : Int32} {j_3 : Nat} {j_6 : Nat} {fcn_9 : Nat → Int32} {man_9 : Nat} {v_11 : Int32} {g_13 : Nat → Int32} (hM : okM fs w9 k9 h9) (hT : ¬ mt = 0 → 1 ≤ k9) (h999 : h9 ≤ 999) (hT0 : mt = 0 → fs 0 = 0 ∧ ma = 0) (hac : okA fc ma) (hma : ma ≤ 24) (e_2 : v_2 = ((nI w9) - 1)) (f_3_1_0 : (¬ (((nI j_3)).toInt64 < 0 ∨ (v_2).toInt64 < ((nI j_3)).toInt64))) (q_3 : ¬ ((nI j_3) < 0 ∨ v_2 < (nI j_3))) (hj_3 : j_3 < w9) (hkn1 : 1 ≤ k9) (hw1 : 1 ≤ w9) (h01 : ¬ fs 0 = 0) (f_6_1_0 : (¬ (((nI j_6)).toInt64 < 0 ∨ 4 < ((nI j_6)).toInt64))) (q_6 : ¬ ((nI j_6) < 0 ∨ 4 < (nI j_6))) (hj_6 : j_6 ≤ 4) (hF_9_0 : okA fcn_9 man_9) (hF_9_1 : man_9 ≤ 24) (hF_9_2 : 1 ≤ man_9) (hF_9_3 : acM fcn_9 man_9 = ntA (m38 fs) ma (acM fc ma)) (hF_9_4 : man_9 = ntN ma) (e_11 : v_11 = fs (8 + j_3)) (hu_13 : g_13 = upd fs (8 + j_3) (nI j_6)) : v_11 = (a_wind (m38 fs) (nI j_3) (nI j_6)) := by
  have hw6 := hM.2.2.2.1
  have hk6 := hM.2.2.2.2.1
  first
  | exact hT0
  | (intro h_; exact absurd (hT0 h_).1 h01)
  | (intro h_; have h9 := (hT0 h_).2; omega)
  | exact (windM_n (ma := ma) (A := acM fc ma) (windM_g hM.1 (Or.inl (sB_no e_2 (by omega) q_3)))).1
  | exact (windM_n (ma := ma) (A := acM fc ma) (windM_g hM.1 (Or.inl (sB_no e_2 (by omega) q_3)))).2.1
  | exact (windM_n (ma := ma) (A := acM fc ma) (windM_g hM.1 (Or.inl (sB_no e_2 (by omega) q_3)))).2.2.1
  | exact (windM_n (ma := ma) (A := acM fc ma) (windM_g hM.1 (Or.inl (sB_no e_2 (by omega) q_3)))).2.2.2
  | exact (windM_n (ma := ma) (A := acM fc ma) (windM_g hM.1 (Or.inr q_6))).1
  | exact (windM_n (ma := ma) (A := acM fc ma) (windM_g hM.1 (Or.inr q_6))).2.1
  | exact (windM_n (ma := ma) (A := acM fc ma) (windM_g hM.1 (Or.inr q_6))).2.2.1
  | exact (windM_n (ma := ma) (A := acM fc ma) (windM_g hM.1 (Or.inr q_6))).2.2.2
  | exact (windM_d hM.1 hw6 hj_3 q_6 (by assumption) (by assumption) (by assumption) (by assumption)).1
  | exact (windM_d hM.1 hw6 hj_3 q_6 (by assumption) (by assumption) (by assumption) (by assumption)).2.1
  | exact (windM_d hM.1 hw6 hj_3 q_6 (by assumption) (by assumption) (by assumption) (by assumption)).2.2.1
  | exact (windM_d hM.1 hw6 hj_3 q_6 (by assumption) (by assumption) (by assumption) (by assumption)).2.2.2
set_option maxHeartbeats 4000000 in
set_option maxRecDepth 100000 in
theorem r_X8_wind (l : Launch) (dC : Nat → ClassId) (dI : Nat → Nat → Nat) (cI cZ cL cJ : ClassId) (sz : Nat) (mo : Nat) (m_la : Nat) (m_sz : Nat) (m_it : Nat) (m_st : Nat) (m_mv : Nat) (m_tp : Nat) (m_rd : Nat) (m_ac : Nat) (m_as : Nat) (m_wo : Nat) (m_ik : Nat) (m_ke : Nat) (m_tr : Nat) (ms : Int32) (mt : Int32) (ml : Int32) (mk : Int32) (mv : Int32) (mb : Int32) (mw : Int32) (mz : Nat) (mp : Nat) (ma : Nat) (mx : Nat) (fs : Nat → Int32) (w9 : Nat) (k9 : Nat) (h9 : Nat) (fc : Nat → Int32) (a0 : Int32) (a1 : Int32) (hM : okM fs w9 k9 h9) (hT : ¬ mt = 0 → 1 ≤ k9) (h999 : h9 ≤ 999) (hT0 : mt = 0 → fs 0 = 0 ∧ ma = 0) (hac : okA fc ma) (hma : ma ≤ 24) : Met l yX8_wind wsX8_wind ({ frames := 1, cells := 0, slots := 0, locals := 25 }) (va_Pc [.ref mo, .int a0, .int a1] (fun U => U.heap.size = sz ∧ va_P (dC, dI) vwCl [(xo_8_rrriirrriiiiiiirrirrrrri mo m_la m_sz m_it ms mt m_st m_mv m_tp (nI mz) ml (nI mp) mk mv mb mw m_rd m_ac (nI ma) m_as m_wo m_ik m_ke m_tr (nI mx)), (xI m_st cI 38 fs), (xI m_ac cI 912 fc)] U.heap ∧ va_K (dC, dI) vwCl [(cI, .int), (cZ, .boolean), (cL, .object RX3), (cJ, .array .int)] U ∧ va_D (fun _ => True) [(xo_8_rrriirrriiiiiiirrirrrrri mo m_la m_sz m_it ms mt m_st m_mv m_tp (nI mz) ml (nI mp) mk mv mb mw m_rd m_ac (nI ma) m_as m_wo m_ik m_ke m_tr (nI mx)), (xI m_st cI 38 fs), (xI m_ac cI 912 fc)])) (va_Qi (fun r (_ : Unit) => r = (a_wind (m38 fs) a0 a1)) (fun (_ : Unit) t => ∃ (fsn : Nat → Int32) (fcn : Nat → Int32) (man : Nat) (w9n : Nat) (k9n : Nat) (h9n : Nat), va_P (dC, dI) vwCl [(xo_8_rrriirrriiiiiiirrirrrrri mo m_la m_sz m_it ms mt m_st m_mv m_tp (nI mz) ml (nI mp) mk mv mb mw m_rd m_ac (nI man) m_as m_wo m_ik m_ke m_tr (nI mx)), (xI m_st cI 38 fsn), (xI m_ac cI 912 fcn)] t.heap ∧ va_D (va_A [(xo_8_rrriirrriiiiiiirrirrrrri mo m_la m_sz m_it ms mt m_st m_mv m_tp (nI mz) ml (nI mp) mk mv mb mw m_rd m_ac (nI ma) m_as m_wo m_ik m_ke m_tr (nI mx)), (xI m_st cI 38 fs), (xI m_ac cI 912 fc)] sz) [(xo_8_rrriirrriiiiiiirrirrrrri mo m_la m_sz m_it ms mt m_st m_mv m_tp (nI mz) ml (nI mp) mk mv mb mw m_rd m_ac (nI man) m_as m_wo m_ik m_ke m_tr (nI mx)), (xI m_st cI 38 fsn), (xI m_ac cI 912 fcn)] ∧ okM fsn w9n k9n h9n ∧ (¬ mt = 0 → 1 ≤ k9n) ∧ h9n ≤ 999 ∧ okA fcn man ∧ man ≤ 24 ∧ (mt = 0 → fsn 0 = 0 ∧ man = 0) ∧ m38 fsn = n_wind (m38 fs) a0 a1 ∧ man = kpN (gd_wind (m38 fs) a0 a1) ma ∧ acM fcn man = kpA (gd_wind (m38 fs) a0 a1) (m38 fs) ma (acM fc ma)) (va_A [(xo_8_rrriirrriiiiiiirrirrrrri mo m_la m_sz m_it ms mt m_st m_mv m_tp (nI mz) ml (nI mp) mk mv mb mw m_rd m_ac (nI ma) m_as m_wo m_ik m_ke m_tr (nI mx)), (xI m_st cI 38 fs), (xI m_ac cI 912 fc)] sz)) 0 0 (va_A [(xo_8_rrriirrriiiiiiirrirrrrri mo m_la m_sz m_it ms mt m_st m_mv m_tp (nI mz) ml (nI mp) mk mv mb mw m_rd m_ac (nI ma) m_as m_wo m_ik m_ke m_tr (nI mx)), (xI m_st cI 38 fs), (xI m_ac cI 912 fc)] sz) := by
  refine Met.ofW (cc := cX8_wind) (maxL := 4) (ret := (some .int)) (by decide) rfl ?_
  intro p e s m args below meth c s₁ B hml hv
  obtain ⟨rfl, hsz, hP, hK, hD0⟩ := hv
  have hx := B.exec
  have hb := B.bytes
  have hr := B.returns
  have hts := atoms_spec (ws := wsX8_wind) B.pre
  have hown : s.vm.findClass RX8 = some m.cls := findClass_of_methodNamed B.named
  have hlocks := B.notSynchronized
  subst hsz
  have hD := hD0.self (sz := s.heap.size)
  generalize hAe : va_A [(xo_8_rrriirrriiiiiiirrirrrrri mo m_la m_sz m_it ms mt m_st m_mv m_tp (nI mz) ml (nI mp) mk mv mb mw m_rd m_ac (nI ma) m_as m_wo m_ik m_ke m_tr (nI mx)), (xI m_st cI 38 fs), (xI m_ac cI 912 fc)] s.heap.size = A at hD ⊢
  have hA : ∀ q : Nat, s.heap.size ≤ q → A q := fun q h => by rw [← hAe]; exact Or.inr h
  have hS : va_S A s.heap s.heap [] := va_S.rf
  have hP : va_P (dC, dI) vwCl [(xo_8_rrriirrriiiiiiirrirrrrri mo m_la m_sz m_it ms mt m_st m_mv m_tp (nI mz) ml (nI mp) mk mv mb mw m_rd m_ac (nI ma) m_as m_wo m_ik m_ke m_tr (nI mx)), (xI m_st cI 38 fs), (xI m_ac cI 912 fc)] s.heap := hP
  have hl := lv_entry ([.ref mo, .int a0, .int a1]) (n := 4) (Nat.le_of_ble_eq_true rfl)
  rw [lg_entry_eq]
  generalize (lg_sl ([.ref mo, .int a0, .int a1]) ++ List.replicate (4 - (lg_sl ([.ref mo, .int a0, .int a1])).length) Slot.unset).toArray = ls at hl ⊢
  have hl : lv_has ls 4 [(0, .ref mo), (1, .int a0), (2, .int a1)] := hl
  have hk6 := hM.2.2.2.2.1
  have hw6 := hM.2.2.2.1
  refine lv_iload_n hx hb dX8_wind_0 rfl (lv_at hl 1 rfl) ?_
  refine lv_i2l hx hb dX8_wind_1 rfl ?_
  refine lv_lconst (v := 0) hx hb dX8_wind_2 (by decide) ?_
  refine lv_aload_n hx hb dX8_wind_3 rfl (lv_at hl 0 rfl) ?_
  refine va_get (D := (dC, dI)) (ci := 8) (v := .ref m_st) (C := RX8) (T := TX8) (N := 24) hx hb hts i_X8_wind_X8 hown hK hP 0 rfl rfl 5 (by decide) (hts _ mx_X8_wind_1) (fun _ h9 => h9) rfl dX8_wind_4 ?_
  refine lv_iconst (v := 3) hx hb dX8_wind_7 (by decide) ?_
  refine va_iald hx hb hK hP 1 0 rfl rfl (by unfold vp_in; decide) dX8_wind_8 ?_
  refine lv_topi (fun v_1 e_1 => ?_)
  obtain rfl : v_1 = (nI w9) := (e_1).trans hM.1
  refine lv_iconst (v := 1) hx hb dX8_wind_9 (by decide) ?_
  refine lv_isub hx hb dX8_wind_10 ?_
  refine lv_topi (fun v_2 e_2 => ?_)
  refine lv_i2l hx hb dX8_wind_11 rfl ?_
  have hPc_3 := hP.sub (ws' := []) [] rfl
  refine vp_callSi (W.runS (As := [.long (a0).toInt64, .long 0, .long (v_2).toInt64]) (rest := []) ⟨hx, hb, hml, hown, hts⟩ (r_X8_in l dC dI cI cZ cL cJ ((a0).toInt64) 0 ((v_2).toInt64) ) (va_cwS 3 hts gX8_wind_X8_in rfl rfl rfl (by decide +kernel) ⟨Nat.le_of_ble_eq_true rfl, Nat.le_of_ble_eq_true rfl⟩) (psP hK hPc_3) rfl rfl hl.1 rfl (lv_room (Nat.le_of_ble_eq_true rfl)) dX8_wind_12 ⟨Nat.le_of_ble_eq_true rfl, Nat.le_of_ble_eq_true rfl⟩) (fun r_3 h_3 => ?_)
  rcases h_3 with ⟨h_3, f_3_0_0⟩ | ⟨h_3, f_3_1_0⟩
  · subst h_3
    have q_3 : (a0 < 0 ∨ v_2 < a0) := (in32 (x := a0) (l := 0) (u := v_2) (by decide) rfl).mp f_3_0_0
    refine lv_if_eq (tgt := 30) hx hb dX8_wind_15 (by decide) (fun _ => ?_) (fun c_ => absurd (by decide) c_)
    refine lv_ldc (own := RX8) (v := (-1000001)) hx hb hown (hts _ mx_X8_wind_3) dX8_wind_30 ?_
    have hX9 := cut2 (wc := [(xo_8_rrriirrriiiiiiirrirrrrri mo m_la m_sz m_it ms mt m_st m_mv m_tp (nI mz) ml (nI mp) mk mv mb mw m_rd m_ac (nI ma) m_as m_wo m_ik m_ke m_tr (nI mx)), (xI m_st cI 38 fs), (xI m_ac cI 912 fc)]) hP hD [0, 1, 2] (by decide +kernel) rfl
    exact W.iret (v := (-1000001)) hx hb hr (fun t ht hW => ⟨⟨(-1000001), (), rfl, (lf_X8_wind_5 hM hT h999 hT0 hac hma e_2 f_3_0_0 q_3), ⟨fs, fc, ma, w9, k9, h9, va_Ht ht hX9.1, hX9.2, hM, hT, (by omega), hac, (by omega), (lf_X8_wind_1 hM hT h999 hT0 hac hma e_2 f_3_0_0 q_3), (lf_X8_wind_2 hM hT h999 hT0 hac hma e_2 f_3_0_0 q_3), (lf_X8_wind_3 hM hT h999 hT0 hac hma e_2 f_3_0_0 q_3), (lf_X8_wind_4 hM hT h999 hT0 hac hma e_2 f_3_0_0 q_3)⟩⟩, hS.F ht⟩) hS.2.2 dX8_wind_32
  · subst h_3
    have q_3 : ¬ (a0 < 0 ∨ v_2 < a0) := fun q_ => f_3_1_0 ((in32 (x := a0) (l := 0) (u := v_2) (by decide) rfl).mpr q_)
    obtain ⟨j_3, hj_3, rfl⟩ := vp_in_of (snd_in (k := w9) (by omega) e_2 f_3_1_0) (by omega)
    have hw1 : 1 ≤ w9 := by omega
    have hkn1 := hM.2.2.2.2.2.1.mpr hw1
    have h01 : ¬ fs 0 = 0 := cell_nz hM hkn1
    refine lv_if_eq (tgt := 30) hx hb dX8_wind_15 (by decide) (fun c_ => absurd c_ (by decide)) (fun _ => ?_)
    refine lv_iload_n hx hb dX8_wind_18 rfl (lv_at hl 2 rfl) ?_
    refine lv_i2l hx hb dX8_wind_19 rfl ?_
    refine lv_lconst (v := 0) hx hb dX8_wind_20 (by decide) ?_
    refine lv_ldc2 (own := RX8) (v := 4) hx hb hown (hts _ mx_X8_wind_2) dX8_wind_21 ?_
    have hPc_6 := hP.sub (ws' := []) [] rfl
    refine vp_callSi (W.runS (As := [.long (a1).toInt64, .long 0, .long 4]) (rest := []) ⟨hx, hb, hml, hown, hts⟩ (r_X8_in l dC dI cI cZ cL cJ ((a1).toInt64) 0 4 ) (va_cwS 3 hts gX8_wind_X8_in rfl rfl rfl (by decide +kernel) ⟨Nat.le_of_ble_eq_true rfl, Nat.le_of_ble_eq_true rfl⟩) (psP hK hPc_6) rfl rfl hl.1 rfl (lv_room (Nat.le_of_ble_eq_true rfl)) dX8_wind_24 ⟨Nat.le_of_ble_eq_true rfl, Nat.le_of_ble_eq_true rfl⟩) (fun r_6 h_6 => ?_)
    rcases h_6 with ⟨h_6, f_6_0_0⟩ | ⟨h_6, f_6_1_0⟩
    · subst h_6
      have q_6 : (a1 < 0 ∨ 4 < a1) := (in32 (x := a1) (l := 0) (u := 4) (by decide) (by decide)).mp f_6_0_0
      refine lv_if_ne (tgt := 33) hx hb dX8_wind_27 (by decide) (fun c_ => absurd (by decide) c_) (fun _ => ?_)
      refine lv_ldc (own := RX8) (v := (-1000001)) hx hb hown (hts _ mx_X8_wind_3) dX8_wind_30 ?_
      have hX9 := cut2 (wc := [(xo_8_rrriirrriiiiiiirrirrrrri mo m_la m_sz m_it ms mt m_st m_mv m_tp (nI mz) ml (nI mp) mk mv mb mw m_rd m_ac (nI ma) m_as m_wo m_ik m_ke m_tr (nI mx)), (xI m_st cI 38 fs), (xI m_ac cI 912 fc)]) hP hD [0, 1, 2] (by decide +kernel) rfl
      exact W.iret (v := (-1000001)) hx hb hr (fun t ht hW => ⟨⟨(-1000001), (), rfl, (lf_X8_wind_10 hM hT h999 hT0 hac hma e_2 f_3_1_0 q_3 hj_3 hkn1 hw1 h01 f_6_0_0 q_6), ⟨fs, fc, ma, w9, k9, h9, va_Ht ht hX9.1, hX9.2, hM, hT, (by omega), hac, (by omega), (lf_X8_wind_6 hM hT h999 hT0 hac hma e_2 f_3_1_0 q_3 hj_3 hkn1 hw1 h01 f_6_0_0 q_6), (lf_X8_wind_7 hM hT h999 hT0 hac hma e_2 f_3_1_0 q_3 hj_3 hkn1 hw1 h01 f_6_0_0 q_6), (lf_X8_wind_8 hM hT h999 hT0 hac hma e_2 f_3_1_0 q_3 hj_3 hkn1 hw1 h01 f_6_0_0 q_6), (lf_X8_wind_9 hM hT h999 hT0 hac hma e_2 f_3_1_0 q_3 hj_3 hkn1 hw1 h01 f_6_0_0 q_6)⟩⟩, hS.F ht⟩) hS.2.2 dX8_wind_32
    · subst h_6
      have q_6 : ¬ (a1 < 0 ∨ 4 < a1) := fun q_ => f_6_1_0 ((in32 (x := a1) (l := 0) (u := 4) (by decide) (by decide)).mpr q_)
      obtain ⟨j_6, hj_6, hl_6, rfl⟩ := in64 (lo := 0) (n := 4) rfl rfl (by decide) f_6_1_0
      refine lv_if_ne (tgt := 33) hx hb dX8_wind_27 (by decide) (fun _ => ?_) (fun c_ => absurd c_ (by decide))
      refine lv_aload_n hx hb dX8_wind_33 rfl (lv_at hl 0 rfl) ?_
      have hc_9 := cutW (wc := [(xo_8_rrriirrriiiiiiirrirrrrri mo m_la m_sz m_it ms mt m_st m_mv m_tp (nI mz) ml (nI mp) mk mv mb mw m_rd m_ac (nI ma) m_as m_wo m_ik m_ke m_tr (nI mx)), (xI m_st cI 38 fs), (xI m_ac cI 912 fc)]) hP hD hS hA [0, 1, 2] (by decide +kernel) rfl
      refine va_callv (va_runV (As := []) (rest := []) ⟨hx, hb, hml, hown, hts⟩ (r_X8_note l dC dI cI cZ cL cJ s.heap.size mo m_la m_sz m_it m_st m_mv m_tp m_rd m_ac m_as m_wo m_ik m_ke m_tr ms mt ml mk mv mb mw mz mp ma mx fs fc (hac) (by omega) (⟨w9, k9, h9, hM, hkn1, by omega⟩)) (cwV 0 hts gX8_wind_X8_note rfl rfl rfl (by decide +kernel) ⟨Nat.le_of_ble_eq_true rfl, Nat.le_of_ble_eq_true rfl⟩) (pvW 8 0 hK hP rfl rfl hc_9) rfl rfl hl.1 rfl (lv_room (Nat.le_of_ble_eq_true rfl)) dX8_wind_34 ⟨Nat.le_of_ble_eq_true rfl, Nat.le_of_ble_eq_true rfl⟩) hS (fun q _ h => hc_9.2.2 q h) hc_9.2.2 (fun u_9 t_9 H1 locs ht hvm h_9 hB hz1 hk1 hS => ?_)
      refine xl_2_7 hB (fun fcn_9 man_9 hP1 hD1 hF_9_0 hF_9_1 hF_9_2 hF_9_3 hF_9_4 => ?_)
      clear hB
      rw [ht] at hP1
      obtain ⟨hP, hD⟩ := va_join (wr := []) (w1 := [(xo_8_rrriirrriiiiiiirrirrrrri mo m_la m_sz m_it ms mt m_st m_mv m_tp (nI mz) ml (nI mp) mk mv mb mw m_rd m_ac (nI man_9) m_as m_wo m_ik m_ke m_tr (nI mx)), (xI m_st cI 38 fs), (xI m_ac cI 912 fcn_9)]) hP hD [0, 1, 2] [] rfl rfl (by decide +kernel) (by decide +kernel) hk1 hc_9.2.2 hP1 hD1
      generalize H1 = H at hP hS ⊢
      have hP : va_P (dC, dI) vwCl [(xo_8_rrriirrriiiiiiirrirrrrri mo m_la m_sz m_it ms mt m_st m_mv m_tp (nI mz) ml (nI mp) mk mv mb mw m_rd m_ac (nI man_9) m_as m_wo m_ik m_ke m_tr (nI mx)), (xI m_st cI 38 fs), (xI m_ac cI 912 fcn_9)] H := hP
      have hD := dto hP hD
      refine lv_aload_n hx hb dX8_wind_37 rfl (lv_at hl 0 rfl) ?_
      refine va_get (D := (dC, dI)) (ci := 8) (v := .ref m_st) (C := RX8) (T := TX8) (N := 24) hx hb hts i_X8_wind_X8 hown hK hP 0 rfl rfl 5 (by decide) (hts _ mx_X8_wind_1) (fun _ h9 => h9) rfl dX8_wind_38 ?_
      refine lv_bipush (v := 8) hx hb dX8_wind_41 (by decide) ?_
      refine lv_iload_n hx hb dX8_wind_43 rfl (lv_at hl 1 rfl) ?_
      refine lv_iadd hx hb dX8_wind_44 ?_
      refine lv_topi (fun v_10 e_10 => ?_)
      obtain rfl : v_10 = (nI (8 + j_3)) := (e_10).trans (nI_add 8 j_3)
      refine va_iald hx hb hK hP 1 0 rfl rfl (vp_in_nI (by omega) (by omega)) dX8_wind_45 ?_
      refine lv_topi (fun v_11 e_11 => ?_)
      have e_11 : v_11 = fs (8 + j_3) := e_11.trans (congrArg fs (nI_clamp (by omega)))
      refine lv_istore_n (lv' := [(3, .int v_11), (0, .ref mo), (1, .int (nI j_3)), (2, .int (nI j_6))]) hx hb dX8_wind_46 rfl hl (by decide) rfl (fun ls hl => ?_)
      refine lv_aload_n hx hb dX8_wind_47 rfl (lv_at hl 1 rfl) ?_
      refine va_get (D := (dC, dI)) (ci := 8) (v := .ref m_st) (C := RX8) (T := TX8) (N := 24) hx hb hts i_X8_wind_X8 hown hK hP 0 rfl rfl 5 (by decide) (hts _ mx_X8_wind_1) (fun _ h9 => h9) rfl dX8_wind_48 ?_
      refine lv_bipush (v := 8) hx hb dX8_wind_51 (by decide) ?_
      refine lv_iload_n hx hb dX8_wind_53 rfl (lv_at hl 2 rfl) ?_
      refine lv_iadd hx hb dX8_wind_54 ?_
      refine lv_topi (fun v_12 e_12 => ?_)
      obtain rfl : v_12 = (nI (8 + j_3)) := (e_12).trans (nI_add 8 j_3)
      refine lv_iload_n hx hb dX8_wind_55 rfl (lv_at hl 3 rfl) ?_
      refine va_iast hx hb hK hP hD hS 1 0 rfl rfl (vp_in_nI (by omega) (by omega)) dX8_wind_56 (fun H locs hP hD hS => ?_)
      generalize hg_13 : upd fs ((nI (8 + j_3)) : Int32).toNatClampNeg (nI j_6) = g_13 at hP hD
      have hu_13 : g_13 = upd fs (8 + j_3) (nI j_6) := (by rw [← hg_13, nI_clamp (by omega)])
      have hM_13 : okM g_13 w9 k9 h9 := okM_off (i := (8 + j_3)) hM hg_13 (by omega) (by omega) (by omega) (by omega) (by omega)
      have hP : va_P (dC, dI) vwCl [(xo_8_rrriirrriiiiiiirrirrrrri mo m_la m_sz m_it ms mt m_st m_mv m_tp (nI mz) ml (nI mp) mk mv mb mw m_rd m_ac (nI man_9) m_as m_wo m_ik m_ke m_tr (nI mx)), (xI m_st cI 38 g_13), (xI m_ac cI 912 fcn_9)] H := hP
      have hD := dto hP hD
      refine lv_iload_n hx hb dX8_wind_57 rfl (lv_at hl 0 rfl) ?_
      have hX9 := cut2 (wc := [(xo_8_rrriirrriiiiiiirrirrrrri mo m_la m_sz m_it ms mt m_st m_mv m_tp (nI mz) ml (nI mp) mk mv mb mw m_rd m_ac (nI man_9) m_as m_wo m_ik m_ke m_tr (nI mx)), (xI m_st cI 38 g_13), (xI m_ac cI 912 fcn_9)]) hP hD [0, 1, 2] (by decide +kernel) rfl
      exact W.iret (v := v_11) hx hb hr (fun t ht hW => ⟨⟨v_11, (), rfl, (lf_X8_wind_15 hM hT h999 hT0 hac hma e_2 f_3_1_0 q_3 hj_3 hkn1 hw1 h01 f_6_1_0 q_6 hj_6 hF_9_0 hF_9_1 hF_9_2 hF_9_3 hF_9_4 e_11 hu_13), ⟨g_13, fcn_9, man_9, w9, k9, h9, va_Ht ht hX9.1, hX9.2, hM_13, hT, (by omega), hF_9_0, (by omega), (lf_X8_wind_11 hM hT h999 hT0 hac hma e_2 f_3_1_0 q_3 hj_3 hkn1 hw1 h01 f_6_1_0 q_6 hj_6 hF_9_0 hF_9_1 hF_9_2 hF_9_3 hF_9_4 e_11 hu_13), (lf_X8_wind_12 hM hT h999 hT0 hac hma e_2 f_3_1_0 q_3 hj_3 hkn1 hw1 h01 f_6_1_0 q_6 hj_6 hF_9_0 hF_9_1 hF_9_2 hF_9_3 hF_9_4 e_11 hu_13), (lf_X8_wind_13 hM hT h999 hT0 hac hma e_2 f_3_1_0 q_3 hj_3 hkn1 hw1 h01 f_6_1_0 q_6 hj_6 hF_9_0 hF_9_1 hF_9_2 hF_9_3 hF_9_4 e_11 hu_13), (lf_X8_wind_14 hM hT h999 hT0 hac hma e_2 f_3_1_0 q_3 hj_3 hkn1 hw1 h01 f_6_1_0 q_6 hj_6 hF_9_0 hF_9_1 hF_9_2 hF_9_3 hF_9_4 e_11 hu_13)⟩⟩, hS.F ht⟩) hS.2.2 dX8_wind_58
theorem lf_X8_loose_1 {mt : Int32} {ma : Nat} {fs : Nat → Int32} {w9 : Nat} {k9 : Nat} {h9 : Nat} {fc : Nat → Int32} {a0 : Int32} (hM : okM fs w9 k9 h9) (hT : ¬ mt = 0 → 1 ≤ k9) (h999 : h9 ≤ 999) (hT0 : mt = 0 → fs 0 = 0 ∧ ma = 0) (hac : okA fc ma) (hma : ma ≤ 24) (f_1_0_0 : ¬ sB (nI k9) a0) : (mt = 0 → fs 0 = 0 ∧ ma = 0) := by
  have hw6 := hM.2.2.2.1
  have hk6 := hM.2.2.2.2.1
  first
  | exact hT0
  | (intro h_; exact absurd (hT0 h_).1 h01)
  | (intro h_; have h9 := (hT0 h_).2; omega)
  | exact (looM_n (ma := ma) (A := acM fc ma) (looM_g hM (Or.inl f_1_0_0))).1
  | exact (looM_n (ma := ma) (A := acM fc ma) (looM_g hM (Or.inl f_1_0_0))).2.1
  | exact (looM_n (ma := ma) (A := acM fc ma) (looM_g hM (Or.inl f_1_0_0))).2.2.1
  | exact (looM_n (ma := ma) (A := acM fc ma) (looM_g hM (Or.inl f_1_0_0))).2.2.2
  | exact (looM_n (ma := ma) (A := acM fc ma) (looM_g hM (Or.inr (Or.inl f_5_0_0)))).1
  | exact (looM_n (ma := ma) (A := acM fc ma) (looM_g hM (Or.inr (Or.inl f_5_0_0)))).2.1
  | exact (looM_n (ma := ma) (A := acM fc ma) (looM_g hM (Or.inr (Or.inl f_5_0_0)))).2.2.1
  | exact (looM_n (ma := ma) (A := acM fc ma) (looM_g hM (Or.inr (Or.inl f_5_0_0)))).2.2.2
  | exact (looM_n (ma := ma) (A := acM fc ma) (looM_g hM (Or.inr (Or.inr q_8)))).1
  | exact (looM_n (ma := ma) (A := acM fc ma) (looM_g hM (Or.inr (Or.inr q_8)))).2.1
  | exact (looM_n (ma := ma) (A := acM fc ma) (looM_g hM (Or.inr (Or.inr q_8)))).2.2.1
  | exact (looM_n (ma := ma) (A := acM fc ma) (looM_g hM (Or.inr (Or.inr q_8)))).2.2.2
  | exact (looM_s (ma := ma) (A := acM fc ma) hM hj_1 f_5_1_0 q_8 e_12 c_13).1
  | exact (looM_s (ma := ma) (A := acM fc ma) hM hj_1 f_5_1_0 q_8 e_12 c_13).2.1
  | exact (looM_s (ma := ma) (A := acM fc ma) hM hj_1 f_5_1_0 q_8 e_12 c_13).2.2.1
  | exact (looM_s (ma := ma) (A := acM fc ma) hM hj_1 f_5_1_0 q_8 e_12 c_13).2.2.2
  | exact (looM_d hM hj_1 f_5_1_0 q_8 e_12 c_13 (by assumption) (by assumption) (by assumption) (by assumption) (by assumption)).1
  | exact (looM_d hM hj_1 f_5_1_0 q_8 e_12 c_13 (by assumption) (by assumption) (by assumption) (by assumption) (by assumption)).2.1
  | exact (looM_d hM hj_1 f_5_1_0 q_8 e_12 c_13 (by assumption) (by assumption) (by assumption) (by assumption) (by assumption)).2.2.1
  | exact (looM_d hM hj_1 f_5_1_0 q_8 e_12 c_13 (by assumption) (by assumption) (by assumption) (by assumption) (by assumption)).2.2.2
theorem lf_X8_loose_2 {mt : Int32} {ma : Nat} {fs : Nat → Int32} {w9 : Nat} {k9 : Nat} {h9 : Nat} {fc : Nat → Int32} {a0 : Int32} {a1 : Int32} {a2 : Int32} (hM : okM fs w9 k9 h9) (hT : ¬ mt = 0 → 1 ≤ k9) (h999 : h9 ≤ 999) (hT0 : mt = 0 → fs 0 = 0 ∧ ma = 0) (hac : okA fc ma) (hma : ma ≤ 24) (f_1_0_0 : ¬ sB (nI k9) a0) : m38 fs = n_loose (m38 fs) a0 a1 a2 := by
  have hw6 := hM.2.2.2.1
  have hk6 := hM.2.2.2.2.1
  first
  | exact hT0
  | (intro h_; exact absurd (hT0 h_).1 h01)
  | (intro h_; have h9 := (hT0 h_).2; omega)
  | exact (looM_n (ma := ma) (A := acM fc ma) (looM_g hM (Or.inl f_1_0_0))).1
  | exact (looM_n (ma := ma) (A := acM fc ma) (looM_g hM (Or.inl f_1_0_0))).2.1
  | exact (looM_n (ma := ma) (A := acM fc ma) (looM_g hM (Or.inl f_1_0_0))).2.2.1
  | exact (looM_n (ma := ma) (A := acM fc ma) (looM_g hM (Or.inl f_1_0_0))).2.2.2
  | exact (looM_n (ma := ma) (A := acM fc ma) (looM_g hM (Or.inr (Or.inl f_5_0_0)))).1
  | exact (looM_n (ma := ma) (A := acM fc ma) (looM_g hM (Or.inr (Or.inl f_5_0_0)))).2.1
  | exact (looM_n (ma := ma) (A := acM fc ma) (looM_g hM (Or.inr (Or.inl f_5_0_0)))).2.2.1
  | exact (looM_n (ma := ma) (A := acM fc ma) (looM_g hM (Or.inr (Or.inl f_5_0_0)))).2.2.2
  | exact (looM_n (ma := ma) (A := acM fc ma) (looM_g hM (Or.inr (Or.inr q_8)))).1
  | exact (looM_n (ma := ma) (A := acM fc ma) (looM_g hM (Or.inr (Or.inr q_8)))).2.1
  | exact (looM_n (ma := ma) (A := acM fc ma) (looM_g hM (Or.inr (Or.inr q_8)))).2.2.1
  | exact (looM_n (ma := ma) (A := acM fc ma) (looM_g hM (Or.inr (Or.inr q_8)))).2.2.2
  | exact (looM_s (ma := ma) (A := acM fc ma) hM hj_1 f_5_1_0 q_8 e_12 c_13).1
  | exact (looM_s (ma := ma) (A := acM fc ma) hM hj_1 f_5_1_0 q_8 e_12 c_13).2.1
  | exact (looM_s (ma := ma) (A := acM fc ma) hM hj_1 f_5_1_0 q_8 e_12 c_13).2.2.1
  | exact (looM_s (ma := ma) (A := acM fc ma) hM hj_1 f_5_1_0 q_8 e_12 c_13).2.2.2
  | exact (looM_d hM hj_1 f_5_1_0 q_8 e_12 c_13 (by assumption) (by assumption) (by assumption) (by assumption) (by assumption)).1
  | exact (looM_d hM hj_1 f_5_1_0 q_8 e_12 c_13 (by assumption) (by assumption) (by assumption) (by assumption) (by assumption)).2.1
  | exact (looM_d hM hj_1 f_5_1_0 q_8 e_12 c_13 (by assumption) (by assumption) (by assumption) (by assumption) (by assumption)).2.2.1
  | exact (looM_d hM hj_1 f_5_1_0 q_8 e_12 c_13 (by assumption) (by assumption) (by assumption) (by assumption) (by assumption)).2.2.2
theorem lf_X8_loose_3 {mt : Int32} {ma : Nat} {fs : Nat → Int32} {w9 : Nat} {k9 : Nat} {h9 : Nat} {fc : Nat → Int32} {a0 : Int32} {a1 : Int32} {a2 : Int32} (hM : okM fs w9 k9 h9) (hT : ¬ mt = 0 → 1 ≤ k9) (h999 : h9 ≤ 999) (hT0 : mt = 0 → fs 0 = 0 ∧ ma = 0) (hac : okA fc ma) (hma : ma ≤ 24) (f_1_0_0 : ¬ sB (nI k9) a0) : ma = kpN (gd_loose (m38 fs) a0 a1 a2) ma := by
  have hw6 := hM.2.2.2.1
  have hk6 := hM.2.2.2.2.1
  first
  | exact hT0
  | (intro h_; exact absurd (hT0 h_).1 h01)
  | (intro h_; have h9 := (hT0 h_).2; omega)
  | exact (looM_n (ma := ma) (A := acM fc ma) (looM_g hM (Or.inl f_1_0_0))).1
  | exact (looM_n (ma := ma) (A := acM fc ma) (looM_g hM (Or.inl f_1_0_0))).2.1
  | exact (looM_n (ma := ma) (A := acM fc ma) (looM_g hM (Or.inl f_1_0_0))).2.2.1
  | exact (looM_n (ma := ma) (A := acM fc ma) (looM_g hM (Or.inl f_1_0_0))).2.2.2
  | exact (looM_n (ma := ma) (A := acM fc ma) (looM_g hM (Or.inr (Or.inl f_5_0_0)))).1
  | exact (looM_n (ma := ma) (A := acM fc ma) (looM_g hM (Or.inr (Or.inl f_5_0_0)))).2.1
  | exact (looM_n (ma := ma) (A := acM fc ma) (looM_g hM (Or.inr (Or.inl f_5_0_0)))).2.2.1
  | exact (looM_n (ma := ma) (A := acM fc ma) (looM_g hM (Or.inr (Or.inl f_5_0_0)))).2.2.2
  | exact (looM_n (ma := ma) (A := acM fc ma) (looM_g hM (Or.inr (Or.inr q_8)))).1
  | exact (looM_n (ma := ma) (A := acM fc ma) (looM_g hM (Or.inr (Or.inr q_8)))).2.1
  | exact (looM_n (ma := ma) (A := acM fc ma) (looM_g hM (Or.inr (Or.inr q_8)))).2.2.1
  | exact (looM_n (ma := ma) (A := acM fc ma) (looM_g hM (Or.inr (Or.inr q_8)))).2.2.2
  | exact (looM_s (ma := ma) (A := acM fc ma) hM hj_1 f_5_1_0 q_8 e_12 c_13).1
  | exact (looM_s (ma := ma) (A := acM fc ma) hM hj_1 f_5_1_0 q_8 e_12 c_13).2.1
  | exact (looM_s (ma := ma) (A := acM fc ma) hM hj_1 f_5_1_0 q_8 e_12 c_13).2.2.1
  | exact (looM_s (ma := ma) (A := acM fc ma) hM hj_1 f_5_1_0 q_8 e_12 c_13).2.2.2
  | exact (looM_d hM hj_1 f_5_1_0 q_8 e_12 c_13 (by assumption) (by assumption) (by assumption) (by assumption) (by assumption)).1
  | exact (looM_d hM hj_1 f_5_1_0 q_8 e_12 c_13 (by assumption) (by assumption) (by assumption) (by assumption) (by assumption)).2.1
  | exact (looM_d hM hj_1 f_5_1_0 q_8 e_12 c_13 (by assumption) (by assumption) (by assumption) (by assumption) (by assumption)).2.2.1
  | exact (looM_d hM hj_1 f_5_1_0 q_8 e_12 c_13 (by assumption) (by assumption) (by assumption) (by assumption) (by assumption)).2.2.2
theorem lf_X8_loose_4 {mt : Int32} {ma : Nat} {fs : Nat → Int32} {w9 : Nat} {k9 : Nat} {h9 : Nat} {fc : Nat → Int32} {a0 : Int32} {a1 : Int32} {a2 : Int32} (hM : okM fs w9 k9 h9) (hT : ¬ mt = 0 → 1 ≤ k9) (h999 : h9 ≤ 999) (hT0 : mt = 0 → fs 0 = 0 ∧ ma = 0) (hac : okA fc ma) (hma : ma ≤ 24) (f_1_0_0 : ¬ sB (nI k9) a0) : acM fc ma = kpA (gd_loose (m38 fs) a0 a1 a2) (m38 fs) ma (acM fc ma) := by
  have hw6 := hM.2.2.2.1
  have hk6 := hM.2.2.2.2.1
  first
  | exact hT0
  | (intro h_; exact absurd (hT0 h_).1 h01)
  | (intro h_; have h9 := (hT0 h_).2; omega)
  | exact (looM_n (ma := ma) (A := acM fc ma) (looM_g hM (Or.inl f_1_0_0))).1
  | exact (looM_n (ma := ma) (A := acM fc ma) (looM_g hM (Or.inl f_1_0_0))).2.1
  | exact (looM_n (ma := ma) (A := acM fc ma) (looM_g hM (Or.inl f_1_0_0))).2.2.1
  | exact (looM_n (ma := ma) (A := acM fc ma) (looM_g hM (Or.inl f_1_0_0))).2.2.2
  | exact (looM_n (ma := ma) (A := acM fc ma) (looM_g hM (Or.inr (Or.inl f_5_0_0)))).1
  | exact (looM_n (ma := ma) (A := acM fc ma) (looM_g hM (Or.inr (Or.inl f_5_0_0)))).2.1
  | exact (looM_n (ma := ma) (A := acM fc ma) (looM_g hM (Or.inr (Or.inl f_5_0_0)))).2.2.1
  | exact (looM_n (ma := ma) (A := acM fc ma) (looM_g hM (Or.inr (Or.inl f_5_0_0)))).2.2.2
  | exact (looM_n (ma := ma) (A := acM fc ma) (looM_g hM (Or.inr (Or.inr q_8)))).1
  | exact (looM_n (ma := ma) (A := acM fc ma) (looM_g hM (Or.inr (Or.inr q_8)))).2.1
  | exact (looM_n (ma := ma) (A := acM fc ma) (looM_g hM (Or.inr (Or.inr q_8)))).2.2.1
  | exact (looM_n (ma := ma) (A := acM fc ma) (looM_g hM (Or.inr (Or.inr q_8)))).2.2.2
  | exact (looM_s (ma := ma) (A := acM fc ma) hM hj_1 f_5_1_0 q_8 e_12 c_13).1
  | exact (looM_s (ma := ma) (A := acM fc ma) hM hj_1 f_5_1_0 q_8 e_12 c_13).2.1
  | exact (looM_s (ma := ma) (A := acM fc ma) hM hj_1 f_5_1_0 q_8 e_12 c_13).2.2.1
  | exact (looM_s (ma := ma) (A := acM fc ma) hM hj_1 f_5_1_0 q_8 e_12 c_13).2.2.2
  | exact (looM_d hM hj_1 f_5_1_0 q_8 e_12 c_13 (by assumption) (by assumption) (by assumption) (by assumption) (by assumption)).1
  | exact (looM_d hM hj_1 f_5_1_0 q_8 e_12 c_13 (by assumption) (by assumption) (by assumption) (by assumption) (by assumption)).2.1
  | exact (looM_d hM hj_1 f_5_1_0 q_8 e_12 c_13 (by assumption) (by assumption) (by assumption) (by assumption) (by assumption)).2.2.1
  | exact (looM_d hM hj_1 f_5_1_0 q_8 e_12 c_13 (by assumption) (by assumption) (by assumption) (by assumption) (by assumption)).2.2.2
theorem lf_X8_loose_5 {mt : Int32} {ma : Nat} {fs : Nat → Int32} {w9 : Nat} {k9 : Nat} {h9 : Nat} {fc : Nat → Int32} {a0 : Int32} {a1 : Int32} {a2 : Int32} (hM : okM fs w9 k9 h9) (hT : ¬ mt = 0 → 1 ≤ k9) (h999 : h9 ≤ 999) (hT0 : mt = 0 → fs 0 = 0 ∧ ma = 0) (hac : okA fc ma) (hma : ma ≤ 24) (f_1_0_0 : ¬ sB (nI k9) a0) : (-1000001) = (a_loose (m38 fs) a0 a1 a2) := by
  have hw6 := hM.2.2.2.1
  have hk6 := hM.2.2.2.2.1
  first
  | exact hT0
  | (intro h_; exact absurd (hT0 h_).1 h01)
  | (intro h_; have h9 := (hT0 h_).2; omega)
  | exact (looM_n (ma := ma) (A := acM fc ma) (looM_g hM (Or.inl f_1_0_0))).1
  | exact (looM_n (ma := ma) (A := acM fc ma) (looM_g hM (Or.inl f_1_0_0))).2.1
  | exact (looM_n (ma := ma) (A := acM fc ma) (looM_g hM (Or.inl f_1_0_0))).2.2.1
  | exact (looM_n (ma := ma) (A := acM fc ma) (looM_g hM (Or.inl f_1_0_0))).2.2.2
  | exact (looM_n (ma := ma) (A := acM fc ma) (looM_g hM (Or.inr (Or.inl f_5_0_0)))).1
  | exact (looM_n (ma := ma) (A := acM fc ma) (looM_g hM (Or.inr (Or.inl f_5_0_0)))).2.1
  | exact (looM_n (ma := ma) (A := acM fc ma) (looM_g hM (Or.inr (Or.inl f_5_0_0)))).2.2.1
  | exact (looM_n (ma := ma) (A := acM fc ma) (looM_g hM (Or.inr (Or.inl f_5_0_0)))).2.2.2
  | exact (looM_n (ma := ma) (A := acM fc ma) (looM_g hM (Or.inr (Or.inr q_8)))).1
  | exact (looM_n (ma := ma) (A := acM fc ma) (looM_g hM (Or.inr (Or.inr q_8)))).2.1
  | exact (looM_n (ma := ma) (A := acM fc ma) (looM_g hM (Or.inr (Or.inr q_8)))).2.2.1
  | exact (looM_n (ma := ma) (A := acM fc ma) (looM_g hM (Or.inr (Or.inr q_8)))).2.2.2
  | exact (looM_s (ma := ma) (A := acM fc ma) hM hj_1 f_5_1_0 q_8 e_12 c_13).1
  | exact (looM_s (ma := ma) (A := acM fc ma) hM hj_1 f_5_1_0 q_8 e_12 c_13).2.1
  | exact (looM_s (ma := ma) (A := acM fc ma) hM hj_1 f_5_1_0 q_8 e_12 c_13).2.2.1
  | exact (looM_s (ma := ma) (A := acM fc ma) hM hj_1 f_5_1_0 q_8 e_12 c_13).2.2.2
  | exact (looM_d hM hj_1 f_5_1_0 q_8 e_12 c_13 (by assumption) (by assumption) (by assumption) (by assumption) (by assumption)).1
  | exact (looM_d hM hj_1 f_5_1_0 q_8 e_12 c_13 (by assumption) (by assumption) (by assumption) (by assumption) (by assumption)).2.1
  | exact (looM_d hM hj_1 f_5_1_0 q_8 e_12 c_13 (by assumption) (by assumption) (by assumption) (by assumption) (by assumption)).2.2.1
  | exact (looM_d hM hj_1 f_5_1_0 q_8 e_12 c_13 (by assumption) (by assumption) (by assumption) (by assumption) (by assumption)).2.2.2
theorem lf_X8_loose_6 {mt : Int32} {ma : Nat} {fs : Nat → Int32} {w9 : Nat} {k9 : Nat} {h9 : Nat} {fc : Nat → Int32} {a1 : Int32} {j_1 : Nat} (hM : okM fs w9 k9 h9) (hT : ¬ mt = 0 → 1 ≤ k9) (h999 : h9 ≤ 999) (hT0 : mt = 0 → fs 0 = 0 ∧ ma = 0) (hac : okA fc ma) (hma : ma ≤ 24) (hj_1 : j_1 < k9) (hkn1 : 1 ≤ k9) (hw1 : 1 ≤ w9) (h01 : ¬ fs 0 = 0) (f_5_0_0 : ¬ iC (fs 0) a1) : (mt = 0 → fs 0 = 0 ∧ ma = 0) := by
  have hw6 := hM.2.2.2.1
  have hk6 := hM.2.2.2.2.1
  first
  | exact hT0
  | (intro h_; exact absurd (hT0 h_).1 h01)
  | (intro h_; have h9 := (hT0 h_).2; omega)
  | exact (looM_n (ma := ma) (A := acM fc ma) (looM_g hM (Or.inl f_1_0_0))).1
  | exact (looM_n (ma := ma) (A := acM fc ma) (looM_g hM (Or.inl f_1_0_0))).2.1
  | exact (looM_n (ma := ma) (A := acM fc ma) (looM_g hM (Or.inl f_1_0_0))).2.2.1
  | exact (looM_n (ma := ma) (A := acM fc ma) (looM_g hM (Or.inl f_1_0_0))).2.2.2
  | exact (looM_n (ma := ma) (A := acM fc ma) (looM_g hM (Or.inr (Or.inl f_5_0_0)))).1
  | exact (looM_n (ma := ma) (A := acM fc ma) (looM_g hM (Or.inr (Or.inl f_5_0_0)))).2.1
  | exact (looM_n (ma := ma) (A := acM fc ma) (looM_g hM (Or.inr (Or.inl f_5_0_0)))).2.2.1
  | exact (looM_n (ma := ma) (A := acM fc ma) (looM_g hM (Or.inr (Or.inl f_5_0_0)))).2.2.2
  | exact (looM_n (ma := ma) (A := acM fc ma) (looM_g hM (Or.inr (Or.inr q_8)))).1
  | exact (looM_n (ma := ma) (A := acM fc ma) (looM_g hM (Or.inr (Or.inr q_8)))).2.1
  | exact (looM_n (ma := ma) (A := acM fc ma) (looM_g hM (Or.inr (Or.inr q_8)))).2.2.1
  | exact (looM_n (ma := ma) (A := acM fc ma) (looM_g hM (Or.inr (Or.inr q_8)))).2.2.2
  | exact (looM_s (ma := ma) (A := acM fc ma) hM hj_1 f_5_1_0 q_8 e_12 c_13).1
  | exact (looM_s (ma := ma) (A := acM fc ma) hM hj_1 f_5_1_0 q_8 e_12 c_13).2.1
  | exact (looM_s (ma := ma) (A := acM fc ma) hM hj_1 f_5_1_0 q_8 e_12 c_13).2.2.1
  | exact (looM_s (ma := ma) (A := acM fc ma) hM hj_1 f_5_1_0 q_8 e_12 c_13).2.2.2
  | exact (looM_d hM hj_1 f_5_1_0 q_8 e_12 c_13 (by assumption) (by assumption) (by assumption) (by assumption) (by assumption)).1
  | exact (looM_d hM hj_1 f_5_1_0 q_8 e_12 c_13 (by assumption) (by assumption) (by assumption) (by assumption) (by assumption)).2.1
  | exact (looM_d hM hj_1 f_5_1_0 q_8 e_12 c_13 (by assumption) (by assumption) (by assumption) (by assumption) (by assumption)).2.2.1
  | exact (looM_d hM hj_1 f_5_1_0 q_8 e_12 c_13 (by assumption) (by assumption) (by assumption) (by assumption) (by assumption)).2.2.2
theorem lf_X8_loose_7 {mt : Int32} {ma : Nat} {fs : Nat → Int32} {w9 : Nat} {k9 : Nat} {h9 : Nat} {fc : Nat → Int32} {a1 : Int32} {a2 : Int32} {j_1 : Nat} (hM : okM fs w9 k9 h9) (hT : ¬ mt = 0 → 1 ≤ k9) (h999 : h9 ≤ 999) (hT0 : mt = 0 → fs 0 = 0 ∧ ma = 0) (hac : okA fc ma) (hma : ma ≤ 24) (hj_1 : j_1 < k9) (hkn1 : 1 ≤ k9) (hw1 : 1 ≤ w9) (h01 : ¬ fs 0 = 0) (f_5_0_0 : ¬ iC (fs 0) a1) : m38 fs = n_loose (m38 fs) (nI j_1) a1 a2 := by
  have hw6 := hM.2.2.2.1
  have hk6 := hM.2.2.2.2.1
  first
  | exact hT0
  | (intro h_; exact absurd (hT0 h_).1 h01)
  | (intro h_; have h9 := (hT0 h_).2; omega)
  | exact (looM_n (ma := ma) (A := acM fc ma) (looM_g hM (Or.inl f_1_0_0))).1
  | exact (looM_n (ma := ma) (A := acM fc ma) (looM_g hM (Or.inl f_1_0_0))).2.1
  | exact (looM_n (ma := ma) (A := acM fc ma) (looM_g hM (Or.inl f_1_0_0))).2.2.1
  | exact (looM_n (ma := ma) (A := acM fc ma) (looM_g hM (Or.inl f_1_0_0))).2.2.2
  | exact (looM_n (ma := ma) (A := acM fc ma) (looM_g hM (Or.inr (Or.inl f_5_0_0)))).1
  | exact (looM_n (ma := ma) (A := acM fc ma) (looM_g hM (Or.inr (Or.inl f_5_0_0)))).2.1
  | exact (looM_n (ma := ma) (A := acM fc ma) (looM_g hM (Or.inr (Or.inl f_5_0_0)))).2.2.1
  | exact (looM_n (ma := ma) (A := acM fc ma) (looM_g hM (Or.inr (Or.inl f_5_0_0)))).2.2.2
  | exact (looM_n (ma := ma) (A := acM fc ma) (looM_g hM (Or.inr (Or.inr q_8)))).1
  | exact (looM_n (ma := ma) (A := acM fc ma) (looM_g hM (Or.inr (Or.inr q_8)))).2.1
  | exact (looM_n (ma := ma) (A := acM fc ma) (looM_g hM (Or.inr (Or.inr q_8)))).2.2.1
  | exact (looM_n (ma := ma) (A := acM fc ma) (looM_g hM (Or.inr (Or.inr q_8)))).2.2.2
  | exact (looM_s (ma := ma) (A := acM fc ma) hM hj_1 f_5_1_0 q_8 e_12 c_13).1
  | exact (looM_s (ma := ma) (A := acM fc ma) hM hj_1 f_5_1_0 q_8 e_12 c_13).2.1
  | exact (looM_s (ma := ma) (A := acM fc ma) hM hj_1 f_5_1_0 q_8 e_12 c_13).2.2.1
  | exact (looM_s (ma := ma) (A := acM fc ma) hM hj_1 f_5_1_0 q_8 e_12 c_13).2.2.2
  | exact (looM_d hM hj_1 f_5_1_0 q_8 e_12 c_13 (by assumption) (by assumption) (by assumption) (by assumption) (by assumption)).1
  | exact (looM_d hM hj_1 f_5_1_0 q_8 e_12 c_13 (by assumption) (by assumption) (by assumption) (by assumption) (by assumption)).2.1
  | exact (looM_d hM hj_1 f_5_1_0 q_8 e_12 c_13 (by assumption) (by assumption) (by assumption) (by assumption) (by assumption)).2.2.1
  | exact (looM_d hM hj_1 f_5_1_0 q_8 e_12 c_13 (by assumption) (by assumption) (by assumption) (by assumption) (by assumption)).2.2.2
theorem lf_X8_loose_8 {mt : Int32} {ma : Nat} {fs : Nat → Int32} {w9 : Nat} {k9 : Nat} {h9 : Nat} {fc : Nat → Int32} {a1 : Int32} {a2 : Int32} {j_1 : Nat} (hM : okM fs w9 k9 h9) (hT : ¬ mt = 0 → 1 ≤ k9) (h999 : h9 ≤ 999) (hT0 : mt = 0 → fs 0 = 0 ∧ ma = 0) (hac : okA fc ma) (hma : ma ≤ 24) (hj_1 : j_1 < k9) (hkn1 : 1 ≤ k9) (hw1 : 1 ≤ w9) (h01 : ¬ fs 0 = 0) (f_5_0_0 : ¬ iC (fs 0) a1) : ma = kpN (gd_loose (m38 fs) (nI j_1) a1 a2) ma := by
  have hw6 := hM.2.2.2.1
  have hk6 := hM.2.2.2.2.1
  first
  | exact hT0
  | (intro h_; exact absurd (hT0 h_).1 h01)
  | (intro h_; have h9 := (hT0 h_).2; omega)
  | exact (looM_n (ma := ma) (A := acM fc ma) (looM_g hM (Or.inl f_1_0_0))).1
  | exact (looM_n (ma := ma) (A := acM fc ma) (looM_g hM (Or.inl f_1_0_0))).2.1
  | exact (looM_n (ma := ma) (A := acM fc ma) (looM_g hM (Or.inl f_1_0_0))).2.2.1
  | exact (looM_n (ma := ma) (A := acM fc ma) (looM_g hM (Or.inl f_1_0_0))).2.2.2
  | exact (looM_n (ma := ma) (A := acM fc ma) (looM_g hM (Or.inr (Or.inl f_5_0_0)))).1
  | exact (looM_n (ma := ma) (A := acM fc ma) (looM_g hM (Or.inr (Or.inl f_5_0_0)))).2.1
  | exact (looM_n (ma := ma) (A := acM fc ma) (looM_g hM (Or.inr (Or.inl f_5_0_0)))).2.2.1
  | exact (looM_n (ma := ma) (A := acM fc ma) (looM_g hM (Or.inr (Or.inl f_5_0_0)))).2.2.2
  | exact (looM_n (ma := ma) (A := acM fc ma) (looM_g hM (Or.inr (Or.inr q_8)))).1
  | exact (looM_n (ma := ma) (A := acM fc ma) (looM_g hM (Or.inr (Or.inr q_8)))).2.1
  | exact (looM_n (ma := ma) (A := acM fc ma) (looM_g hM (Or.inr (Or.inr q_8)))).2.2.1
  | exact (looM_n (ma := ma) (A := acM fc ma) (looM_g hM (Or.inr (Or.inr q_8)))).2.2.2
  | exact (looM_s (ma := ma) (A := acM fc ma) hM hj_1 f_5_1_0 q_8 e_12 c_13).1
  | exact (looM_s (ma := ma) (A := acM fc ma) hM hj_1 f_5_1_0 q_8 e_12 c_13).2.1
  | exact (looM_s (ma := ma) (A := acM fc ma) hM hj_1 f_5_1_0 q_8 e_12 c_13).2.2.1
  | exact (looM_s (ma := ma) (A := acM fc ma) hM hj_1 f_5_1_0 q_8 e_12 c_13).2.2.2
  | exact (looM_d hM hj_1 f_5_1_0 q_8 e_12 c_13 (by assumption) (by assumption) (by assumption) (by assumption) (by assumption)).1
  | exact (looM_d hM hj_1 f_5_1_0 q_8 e_12 c_13 (by assumption) (by assumption) (by assumption) (by assumption) (by assumption)).2.1
  | exact (looM_d hM hj_1 f_5_1_0 q_8 e_12 c_13 (by assumption) (by assumption) (by assumption) (by assumption) (by assumption)).2.2.1
  | exact (looM_d hM hj_1 f_5_1_0 q_8 e_12 c_13 (by assumption) (by assumption) (by assumption) (by assumption) (by assumption)).2.2.2
theorem lf_X8_loose_9 {mt : Int32} {ma : Nat} {fs : Nat → Int32} {w9 : Nat} {k9 : Nat} {h9 : Nat} {fc : Nat → Int32} {a1 : Int32} {a2 : Int32} {j_1 : Nat} (hM : okM fs w9 k9 h9) (hT : ¬ mt = 0 → 1 ≤ k9) (h999 : h9 ≤ 999) (hT0 : mt = 0 → fs 0 = 0 ∧ ma = 0) (hac : okA fc ma) (hma : ma ≤ 24) (hj_1 : j_1 < k9) (hkn1 : 1 ≤ k9) (hw1 : 1 ≤ w9) (h01 : ¬ fs 0 = 0) (f_5_0_0 : ¬ iC (fs 0) a1) : acM fc ma = kpA (gd_loose (m38 fs) (nI j_1) a1 a2) (m38 fs) ma (acM fc ma) := by
  have hw6 := hM.2.2.2.1
  have hk6 := hM.2.2.2.2.1
  first
  | exact hT0
  | (intro h_; exact absurd (hT0 h_).1 h01)
  | (intro h_; have h9 := (hT0 h_).2; omega)
  | exact (looM_n (ma := ma) (A := acM fc ma) (looM_g hM (Or.inl f_1_0_0))).1
  | exact (looM_n (ma := ma) (A := acM fc ma) (looM_g hM (Or.inl f_1_0_0))).2.1
  | exact (looM_n (ma := ma) (A := acM fc ma) (looM_g hM (Or.inl f_1_0_0))).2.2.1
  | exact (looM_n (ma := ma) (A := acM fc ma) (looM_g hM (Or.inl f_1_0_0))).2.2.2
  | exact (looM_n (ma := ma) (A := acM fc ma) (looM_g hM (Or.inr (Or.inl f_5_0_0)))).1
  | exact (looM_n (ma := ma) (A := acM fc ma) (looM_g hM (Or.inr (Or.inl f_5_0_0)))).2.1
  | exact (looM_n (ma := ma) (A := acM fc ma) (looM_g hM (Or.inr (Or.inl f_5_0_0)))).2.2.1
  | exact (looM_n (ma := ma) (A := acM fc ma) (looM_g hM (Or.inr (Or.inl f_5_0_0)))).2.2.2
  | exact (looM_n (ma := ma) (A := acM fc ma) (looM_g hM (Or.inr (Or.inr q_8)))).1
  | exact (looM_n (ma := ma) (A := acM fc ma) (looM_g hM (Or.inr (Or.inr q_8)))).2.1
  | exact (looM_n (ma := ma) (A := acM fc ma) (looM_g hM (Or.inr (Or.inr q_8)))).2.2.1
  | exact (looM_n (ma := ma) (A := acM fc ma) (looM_g hM (Or.inr (Or.inr q_8)))).2.2.2
  | exact (looM_s (ma := ma) (A := acM fc ma) hM hj_1 f_5_1_0 q_8 e_12 c_13).1
  | exact (looM_s (ma := ma) (A := acM fc ma) hM hj_1 f_5_1_0 q_8 e_12 c_13).2.1
  | exact (looM_s (ma := ma) (A := acM fc ma) hM hj_1 f_5_1_0 q_8 e_12 c_13).2.2.1
  | exact (looM_s (ma := ma) (A := acM fc ma) hM hj_1 f_5_1_0 q_8 e_12 c_13).2.2.2
  | exact (looM_d hM hj_1 f_5_1_0 q_8 e_12 c_13 (by assumption) (by assumption) (by assumption) (by assumption) (by assumption)).1
  | exact (looM_d hM hj_1 f_5_1_0 q_8 e_12 c_13 (by assumption) (by assumption) (by assumption) (by assumption) (by assumption)).2.1
  | exact (looM_d hM hj_1 f_5_1_0 q_8 e_12 c_13 (by assumption) (by assumption) (by assumption) (by assumption) (by assumption)).2.2.1
  | exact (looM_d hM hj_1 f_5_1_0 q_8 e_12 c_13 (by assumption) (by assumption) (by assumption) (by assumption) (by assumption)).2.2.2
theorem lf_X8_loose_10 {mt : Int32} {ma : Nat} {fs : Nat → Int32} {w9 : Nat} {k9 : Nat} {h9 : Nat} {fc : Nat → Int32} {a1 : Int32} {a2 : Int32} {j_1 : Nat} (hM : okM fs w9 k9 h9) (hT : ¬ mt = 0 → 1 ≤ k9) (h999 : h9 ≤ 999) (hT0 : mt = 0 → fs 0 = 0 ∧ ma = 0) (hac : okA fc ma) (hma : ma ≤ 24) (hj_1 : j_1 < k9) (hkn1 : 1 ≤ k9) (hw1 : 1 ≤ w9) (h01 : ¬ fs 0 = 0) (f_5_0_0 : ¬ iC (fs 0) a1) : (-1000001) = (a_loose (m38 fs) (nI j_1) a1 a2) := by
  have hw6 := hM.2.2.2.1
  have hk6 := hM.2.2.2.2.1
  first
  | exact hT0
  | (intro h_; exact absurd (hT0 h_).1 h01)
  | (intro h_; have h9 := (hT0 h_).2; omega)
  | exact (looM_n (ma := ma) (A := acM fc ma) (looM_g hM (Or.inl f_1_0_0))).1
  | exact (looM_n (ma := ma) (A := acM fc ma) (looM_g hM (Or.inl f_1_0_0))).2.1
  | exact (looM_n (ma := ma) (A := acM fc ma) (looM_g hM (Or.inl f_1_0_0))).2.2.1
  | exact (looM_n (ma := ma) (A := acM fc ma) (looM_g hM (Or.inl f_1_0_0))).2.2.2
  | exact (looM_n (ma := ma) (A := acM fc ma) (looM_g hM (Or.inr (Or.inl f_5_0_0)))).1
  | exact (looM_n (ma := ma) (A := acM fc ma) (looM_g hM (Or.inr (Or.inl f_5_0_0)))).2.1
  | exact (looM_n (ma := ma) (A := acM fc ma) (looM_g hM (Or.inr (Or.inl f_5_0_0)))).2.2.1
  | exact (looM_n (ma := ma) (A := acM fc ma) (looM_g hM (Or.inr (Or.inl f_5_0_0)))).2.2.2
  | exact (looM_n (ma := ma) (A := acM fc ma) (looM_g hM (Or.inr (Or.inr q_8)))).1
  | exact (looM_n (ma := ma) (A := acM fc ma) (looM_g hM (Or.inr (Or.inr q_8)))).2.1
  | exact (looM_n (ma := ma) (A := acM fc ma) (looM_g hM (Or.inr (Or.inr q_8)))).2.2.1
  | exact (looM_n (ma := ma) (A := acM fc ma) (looM_g hM (Or.inr (Or.inr q_8)))).2.2.2
  | exact (looM_s (ma := ma) (A := acM fc ma) hM hj_1 f_5_1_0 q_8 e_12 c_13).1
  | exact (looM_s (ma := ma) (A := acM fc ma) hM hj_1 f_5_1_0 q_8 e_12 c_13).2.1
  | exact (looM_s (ma := ma) (A := acM fc ma) hM hj_1 f_5_1_0 q_8 e_12 c_13).2.2.1
  | exact (looM_s (ma := ma) (A := acM fc ma) hM hj_1 f_5_1_0 q_8 e_12 c_13).2.2.2
  | exact (looM_d hM hj_1 f_5_1_0 q_8 e_12 c_13 (by assumption) (by assumption) (by assumption) (by assumption) (by assumption)).1
  | exact (looM_d hM hj_1 f_5_1_0 q_8 e_12 c_13 (by assumption) (by assumption) (by assumption) (by assumption) (by assumption)).2.1
  | exact (looM_d hM hj_1 f_5_1_0 q_8 e_12 c_13 (by assumption) (by assumption) (by assumption) (by assumption) (by assumption)).2.2.1
  | exact (looM_d hM hj_1 f_5_1_0 q_8 e_12 c_13 (by assumption) (by assumption) (by assumption) (by assumption) (by assumption)).2.2.2
theorem lf_X8_loose_11 {mt : Int32} {ma : Nat} {fs : Nat → Int32} {w9 : Nat} {k9 : Nat} {h9 : Nat} {fc : Nat → Int32} {a1 : Int32} {a2 : Int32} {j_1 : Nat} (hM : okM fs w9 k9 h9) (hT : ¬ mt = 0 → 1 ≤ k9) (h999 : h9 ≤ 999) (hT0 : mt = 0 → fs 0 = 0 ∧ ma = 0) (hac : okA fc ma) (hma : ma ≤ 24) (hj_1 : j_1 < k9) (hkn1 : 1 ≤ k9) (hw1 : 1 ≤ w9) (h01 : ¬ fs 0 = 0) (f_5_1_0 : iC (fs 0) a1) (f_8_0_0 : ((a2).toInt64 < 1 ∨ 20 < (a2).toInt64)) (q_8 : (a2 < 1 ∨ 20 < a2)) : (mt = 0 → fs 0 = 0 ∧ ma = 0) := by
  have hw6 := hM.2.2.2.1
  have hk6 := hM.2.2.2.2.1
  first
  | exact hT0
  | (intro h_; exact absurd (hT0 h_).1 h01)
  | (intro h_; have h9 := (hT0 h_).2; omega)
  | exact (looM_n (ma := ma) (A := acM fc ma) (looM_g hM (Or.inl f_1_0_0))).1
  | exact (looM_n (ma := ma) (A := acM fc ma) (looM_g hM (Or.inl f_1_0_0))).2.1
  | exact (looM_n (ma := ma) (A := acM fc ma) (looM_g hM (Or.inl f_1_0_0))).2.2.1
  | exact (looM_n (ma := ma) (A := acM fc ma) (looM_g hM (Or.inl f_1_0_0))).2.2.2
  | exact (looM_n (ma := ma) (A := acM fc ma) (looM_g hM (Or.inr (Or.inl f_5_0_0)))).1
  | exact (looM_n (ma := ma) (A := acM fc ma) (looM_g hM (Or.inr (Or.inl f_5_0_0)))).2.1
  | exact (looM_n (ma := ma) (A := acM fc ma) (looM_g hM (Or.inr (Or.inl f_5_0_0)))).2.2.1
  | exact (looM_n (ma := ma) (A := acM fc ma) (looM_g hM (Or.inr (Or.inl f_5_0_0)))).2.2.2
  | exact (looM_n (ma := ma) (A := acM fc ma) (looM_g hM (Or.inr (Or.inr q_8)))).1
  | exact (looM_n (ma := ma) (A := acM fc ma) (looM_g hM (Or.inr (Or.inr q_8)))).2.1
  | exact (looM_n (ma := ma) (A := acM fc ma) (looM_g hM (Or.inr (Or.inr q_8)))).2.2.1
  | exact (looM_n (ma := ma) (A := acM fc ma) (looM_g hM (Or.inr (Or.inr q_8)))).2.2.2
  | exact (looM_s (ma := ma) (A := acM fc ma) hM hj_1 f_5_1_0 q_8 e_12 c_13).1
  | exact (looM_s (ma := ma) (A := acM fc ma) hM hj_1 f_5_1_0 q_8 e_12 c_13).2.1
  | exact (looM_s (ma := ma) (A := acM fc ma) hM hj_1 f_5_1_0 q_8 e_12 c_13).2.2.1
  | exact (looM_s (ma := ma) (A := acM fc ma) hM hj_1 f_5_1_0 q_8 e_12 c_13).2.2.2
  | exact (looM_d hM hj_1 f_5_1_0 q_8 e_12 c_13 (by assumption) (by assumption) (by assumption) (by assumption) (by assumption)).1
  | exact (looM_d hM hj_1 f_5_1_0 q_8 e_12 c_13 (by assumption) (by assumption) (by assumption) (by assumption) (by assumption)).2.1
  | exact (looM_d hM hj_1 f_5_1_0 q_8 e_12 c_13 (by assumption) (by assumption) (by assumption) (by assumption) (by assumption)).2.2.1
  | exact (looM_d hM hj_1 f_5_1_0 q_8 e_12 c_13 (by assumption) (by assumption) (by assumption) (by assumption) (by assumption)).2.2.2
theorem lf_X8_loose_12 {mt : Int32} {ma : Nat} {fs : Nat → Int32} {w9 : Nat} {k9 : Nat} {h9 : Nat} {fc : Nat → Int32} {a1 : Int32} {a2 : Int32} {j_1 : Nat} (hM : okM fs w9 k9 h9) (hT : ¬ mt = 0 → 1 ≤ k9) (h999 : h9 ≤ 999) (hT0 : mt = 0 → fs 0 = 0 ∧ ma = 0) (hac : okA fc ma) (hma : ma ≤ 24) (hj_1 : j_1 < k9) (hkn1 : 1 ≤ k9) (hw1 : 1 ≤ w9) (h01 : ¬ fs 0 = 0) (f_5_1_0 : iC (fs 0) a1) (f_8_0_0 : ((a2).toInt64 < 1 ∨ 20 < (a2).toInt64)) (q_8 : (a2 < 1 ∨ 20 < a2)) : m38 fs = n_loose (m38 fs) (nI j_1) a1 a2 := by
  have hw6 := hM.2.2.2.1
  have hk6 := hM.2.2.2.2.1
  first
  | exact hT0
  | (intro h_; exact absurd (hT0 h_).1 h01)
  | (intro h_; have h9 := (hT0 h_).2; omega)
  | exact (looM_n (ma := ma) (A := acM fc ma) (looM_g hM (Or.inl f_1_0_0))).1
  | exact (looM_n (ma := ma) (A := acM fc ma) (looM_g hM (Or.inl f_1_0_0))).2.1
  | exact (looM_n (ma := ma) (A := acM fc ma) (looM_g hM (Or.inl f_1_0_0))).2.2.1
  | exact (looM_n (ma := ma) (A := acM fc ma) (looM_g hM (Or.inl f_1_0_0))).2.2.2
  | exact (looM_n (ma := ma) (A := acM fc ma) (looM_g hM (Or.inr (Or.inl f_5_0_0)))).1
  | exact (looM_n (ma := ma) (A := acM fc ma) (looM_g hM (Or.inr (Or.inl f_5_0_0)))).2.1
  | exact (looM_n (ma := ma) (A := acM fc ma) (looM_g hM (Or.inr (Or.inl f_5_0_0)))).2.2.1
  | exact (looM_n (ma := ma) (A := acM fc ma) (looM_g hM (Or.inr (Or.inl f_5_0_0)))).2.2.2
  | exact (looM_n (ma := ma) (A := acM fc ma) (looM_g hM (Or.inr (Or.inr q_8)))).1
  | exact (looM_n (ma := ma) (A := acM fc ma) (looM_g hM (Or.inr (Or.inr q_8)))).2.1
  | exact (looM_n (ma := ma) (A := acM fc ma) (looM_g hM (Or.inr (Or.inr q_8)))).2.2.1
  | exact (looM_n (ma := ma) (A := acM fc ma) (looM_g hM (Or.inr (Or.inr q_8)))).2.2.2
  | exact (looM_s (ma := ma) (A := acM fc ma) hM hj_1 f_5_1_0 q_8 e_12 c_13).1
  | exact (looM_s (ma := ma) (A := acM fc ma) hM hj_1 f_5_1_0 q_8 e_12 c_13).2.1
  | exact (looM_s (ma := ma) (A := acM fc ma) hM hj_1 f_5_1_0 q_8 e_12 c_13).2.2.1
  | exact (looM_s (ma := ma) (A := acM fc ma) hM hj_1 f_5_1_0 q_8 e_12 c_13).2.2.2
  | exact (looM_d hM hj_1 f_5_1_0 q_8 e_12 c_13 (by assumption) (by assumption) (by assumption) (by assumption) (by assumption)).1
  | exact (looM_d hM hj_1 f_5_1_0 q_8 e_12 c_13 (by assumption) (by assumption) (by assumption) (by assumption) (by assumption)).2.1
  | exact (looM_d hM hj_1 f_5_1_0 q_8 e_12 c_13 (by assumption) (by assumption) (by assumption) (by assumption) (by assumption)).2.2.1
  | exact (looM_d hM hj_1 f_5_1_0 q_8 e_12 c_13 (by assumption) (by assumption) (by assumption) (by assumption) (by assumption)).2.2.2
theorem lf_X8_loose_13 {mt : Int32} {ma : Nat} {fs : Nat → Int32} {w9 : Nat} {k9 : Nat} {h9 : Nat} {fc : Nat → Int32} {a1 : Int32} {a2 : Int32} {j_1 : Nat} (hM : okM fs w9 k9 h9) (hT : ¬ mt = 0 → 1 ≤ k9) (h999 : h9 ≤ 999) (hT0 : mt = 0 → fs 0 = 0 ∧ ma = 0) (hac : okA fc ma) (hma : ma ≤ 24) (hj_1 : j_1 < k9) (hkn1 : 1 ≤ k9) (hw1 : 1 ≤ w9) (h01 : ¬ fs 0 = 0) (f_5_1_0 : iC (fs 0) a1) (f_8_0_0 : ((a2).toInt64 < 1 ∨ 20 < (a2).toInt64)) (q_8 : (a2 < 1 ∨ 20 < a2)) : ma = kpN (gd_loose (m38 fs) (nI j_1) a1 a2) ma := by
  have hw6 := hM.2.2.2.1
  have hk6 := hM.2.2.2.2.1
  first
  | exact hT0
  | (intro h_; exact absurd (hT0 h_).1 h01)
  | (intro h_; have h9 := (hT0 h_).2; omega)
  | exact (looM_n (ma := ma) (A := acM fc ma) (looM_g hM (Or.inl f_1_0_0))).1
  | exact (looM_n (ma := ma) (A := acM fc ma) (looM_g hM (Or.inl f_1_0_0))).2.1
  | exact (looM_n (ma := ma) (A := acM fc ma) (looM_g hM (Or.inl f_1_0_0))).2.2.1
  | exact (looM_n (ma := ma) (A := acM fc ma) (looM_g hM (Or.inl f_1_0_0))).2.2.2
  | exact (looM_n (ma := ma) (A := acM fc ma) (looM_g hM (Or.inr (Or.inl f_5_0_0)))).1
  | exact (looM_n (ma := ma) (A := acM fc ma) (looM_g hM (Or.inr (Or.inl f_5_0_0)))).2.1
  | exact (looM_n (ma := ma) (A := acM fc ma) (looM_g hM (Or.inr (Or.inl f_5_0_0)))).2.2.1
  | exact (looM_n (ma := ma) (A := acM fc ma) (looM_g hM (Or.inr (Or.inl f_5_0_0)))).2.2.2
  | exact (looM_n (ma := ma) (A := acM fc ma) (looM_g hM (Or.inr (Or.inr q_8)))).1
  | exact (looM_n (ma := ma) (A := acM fc ma) (looM_g hM (Or.inr (Or.inr q_8)))).2.1
  | exact (looM_n (ma := ma) (A := acM fc ma) (looM_g hM (Or.inr (Or.inr q_8)))).2.2.1
  | exact (looM_n (ma := ma) (A := acM fc ma) (looM_g hM (Or.inr (Or.inr q_8)))).2.2.2
  | exact (looM_s (ma := ma) (A := acM fc ma) hM hj_1 f_5_1_0 q_8 e_12 c_13).1
  | exact (looM_s (ma := ma) (A := acM fc ma) hM hj_1 f_5_1_0 q_8 e_12 c_13).2.1
  | exact (looM_s (ma := ma) (A := acM fc ma) hM hj_1 f_5_1_0 q_8 e_12 c_13).2.2.1
  | exact (looM_s (ma := ma) (A := acM fc ma) hM hj_1 f_5_1_0 q_8 e_12 c_13).2.2.2
  | exact (looM_d hM hj_1 f_5_1_0 q_8 e_12 c_13 (by assumption) (by assumption) (by assumption) (by assumption) (by assumption)).1
  | exact (looM_d hM hj_1 f_5_1_0 q_8 e_12 c_13 (by assumption) (by assumption) (by assumption) (by assumption) (by assumption)).2.1
  | exact (looM_d hM hj_1 f_5_1_0 q_8 e_12 c_13 (by assumption) (by assumption) (by assumption) (by assumption) (by assumption)).2.2.1
  | exact (looM_d hM hj_1 f_5_1_0 q_8 e_12 c_13 (by assumption) (by assumption) (by assumption) (by assumption) (by assumption)).2.2.2
theorem lf_X8_loose_14 {mt : Int32} {ma : Nat} {fs : Nat → Int32} {w9 : Nat} {k9 : Nat} {h9 : Nat} {fc : Nat → Int32} {a1 : Int32} {a2 : Int32} {j_1 : Nat} (hM : okM fs w9 k9 h9) (hT : ¬ mt = 0 → 1 ≤ k9) (h999 : h9 ≤ 999) (hT0 : mt = 0 → fs 0 = 0 ∧ ma = 0) (hac : okA fc ma) (hma : ma ≤ 24) (hj_1 : j_1 < k9) (hkn1 : 1 ≤ k9) (hw1 : 1 ≤ w9) (h01 : ¬ fs 0 = 0) (f_5_1_0 : iC (fs 0) a1) (f_8_0_0 : ((a2).toInt64 < 1 ∨ 20 < (a2).toInt64)) (q_8 : (a2 < 1 ∨ 20 < a2)) : acM fc ma = kpA (gd_loose (m38 fs) (nI j_1) a1 a2) (m38 fs) ma (acM fc ma) := by
  have hw6 := hM.2.2.2.1
  have hk6 := hM.2.2.2.2.1
  first
  | exact hT0
  | (intro h_; exact absurd (hT0 h_).1 h01)
  | (intro h_; have h9 := (hT0 h_).2; omega)
  | exact (looM_n (ma := ma) (A := acM fc ma) (looM_g hM (Or.inl f_1_0_0))).1
  | exact (looM_n (ma := ma) (A := acM fc ma) (looM_g hM (Or.inl f_1_0_0))).2.1
  | exact (looM_n (ma := ma) (A := acM fc ma) (looM_g hM (Or.inl f_1_0_0))).2.2.1
  | exact (looM_n (ma := ma) (A := acM fc ma) (looM_g hM (Or.inl f_1_0_0))).2.2.2
  | exact (looM_n (ma := ma) (A := acM fc ma) (looM_g hM (Or.inr (Or.inl f_5_0_0)))).1
  | exact (looM_n (ma := ma) (A := acM fc ma) (looM_g hM (Or.inr (Or.inl f_5_0_0)))).2.1
  | exact (looM_n (ma := ma) (A := acM fc ma) (looM_g hM (Or.inr (Or.inl f_5_0_0)))).2.2.1
  | exact (looM_n (ma := ma) (A := acM fc ma) (looM_g hM (Or.inr (Or.inl f_5_0_0)))).2.2.2
  | exact (looM_n (ma := ma) (A := acM fc ma) (looM_g hM (Or.inr (Or.inr q_8)))).1
  | exact (looM_n (ma := ma) (A := acM fc ma) (looM_g hM (Or.inr (Or.inr q_8)))).2.1
  | exact (looM_n (ma := ma) (A := acM fc ma) (looM_g hM (Or.inr (Or.inr q_8)))).2.2.1
  | exact (looM_n (ma := ma) (A := acM fc ma) (looM_g hM (Or.inr (Or.inr q_8)))).2.2.2
  | exact (looM_s (ma := ma) (A := acM fc ma) hM hj_1 f_5_1_0 q_8 e_12 c_13).1
  | exact (looM_s (ma := ma) (A := acM fc ma) hM hj_1 f_5_1_0 q_8 e_12 c_13).2.1
  | exact (looM_s (ma := ma) (A := acM fc ma) hM hj_1 f_5_1_0 q_8 e_12 c_13).2.2.1
  | exact (looM_s (ma := ma) (A := acM fc ma) hM hj_1 f_5_1_0 q_8 e_12 c_13).2.2.2
  | exact (looM_d hM hj_1 f_5_1_0 q_8 e_12 c_13 (by assumption) (by assumption) (by assumption) (by assumption) (by assumption)).1
  | exact (looM_d hM hj_1 f_5_1_0 q_8 e_12 c_13 (by assumption) (by assumption) (by assumption) (by assumption) (by assumption)).2.1
  | exact (looM_d hM hj_1 f_5_1_0 q_8 e_12 c_13 (by assumption) (by assumption) (by assumption) (by assumption) (by assumption)).2.2.1
  | exact (looM_d hM hj_1 f_5_1_0 q_8 e_12 c_13 (by assumption) (by assumption) (by assumption) (by assumption) (by assumption)).2.2.2
theorem lf_X8_loose_15 {mt : Int32} {ma : Nat} {fs : Nat → Int32} {w9 : Nat} {k9 : Nat} {h9 : Nat} {fc : Nat → Int32} {a1 : Int32} {a2 : Int32} {j_1 : Nat} (hM : okM fs w9 k9 h9) (hT : ¬ mt = 0 → 1 ≤ k9) (h999 : h9 ≤ 999) (hT0 : mt = 0 → fs 0 = 0 ∧ ma = 0) (hac : okA fc ma) (hma : ma ≤ 24) (hj_1 : j_1 < k9) (hkn1 : 1 ≤ k9) (hw1 : 1 ≤ w9) (h01 : ¬ fs 0 = 0) (f_5_1_0 : iC (fs 0) a1) (f_8_0_0 : ((a2).toInt64 < 1 ∨ 20 < (a2).toInt64)) (q_8 : (a2 < 1 ∨ 20 < a2)) : (-1000001) = (a_loose (m38 fs) (nI j_1) a1 a2) := by
  have hw6 := hM.2.2.2.1
  have hk6 := hM.2.2.2.2.1
  first
  | exact hT0
  | (intro h_; exact absurd (hT0 h_).1 h01)
  | (intro h_; have h9 := (hT0 h_).2; omega)
  | exact (looM_n (ma := ma) (A := acM fc ma) (looM_g hM (Or.inl f_1_0_0))).1
  | exact (looM_n (ma := ma) (A := acM fc ma) (looM_g hM (Or.inl f_1_0_0))).2.1
  | exact (looM_n (ma := ma) (A := acM fc ma) (looM_g hM (Or.inl f_1_0_0))).2.2.1
  | exact (looM_n (ma := ma) (A := acM fc ma) (looM_g hM (Or.inl f_1_0_0))).2.2.2
  | exact (looM_n (ma := ma) (A := acM fc ma) (looM_g hM (Or.inr (Or.inl f_5_0_0)))).1
  | exact (looM_n (ma := ma) (A := acM fc ma) (looM_g hM (Or.inr (Or.inl f_5_0_0)))).2.1
  | exact (looM_n (ma := ma) (A := acM fc ma) (looM_g hM (Or.inr (Or.inl f_5_0_0)))).2.2.1
  | exact (looM_n (ma := ma) (A := acM fc ma) (looM_g hM (Or.inr (Or.inl f_5_0_0)))).2.2.2
  | exact (looM_n (ma := ma) (A := acM fc ma) (looM_g hM (Or.inr (Or.inr q_8)))).1
  | exact (looM_n (ma := ma) (A := acM fc ma) (looM_g hM (Or.inr (Or.inr q_8)))).2.1
  | exact (looM_n (ma := ma) (A := acM fc ma) (looM_g hM (Or.inr (Or.inr q_8)))).2.2.1
  | exact (looM_n (ma := ma) (A := acM fc ma) (looM_g hM (Or.inr (Or.inr q_8)))).2.2.2
  | exact (looM_s (ma := ma) (A := acM fc ma) hM hj_1 f_5_1_0 q_8 e_12 c_13).1
  | exact (looM_s (ma := ma) (A := acM fc ma) hM hj_1 f_5_1_0 q_8 e_12 c_13).2.1
  | exact (looM_s (ma := ma) (A := acM fc ma) hM hj_1 f_5_1_0 q_8 e_12 c_13).2.2.1
  | exact (looM_s (ma := ma) (A := acM fc ma) hM hj_1 f_5_1_0 q_8 e_12 c_13).2.2.2
  | exact (looM_d hM hj_1 f_5_1_0 q_8 e_12 c_13 (by assumption) (by assumption) (by assumption) (by assumption) (by assumption)).1
  | exact (looM_d hM hj_1 f_5_1_0 q_8 e_12 c_13 (by assumption) (by assumption) (by assumption) (by assumption) (by assumption)).2.1
  | exact (looM_d hM hj_1 f_5_1_0 q_8 e_12 c_13 (by assumption) (by assumption) (by assumption) (by assumption) (by assumption)).2.2.1
  | exact (looM_d hM hj_1 f_5_1_0 q_8 e_12 c_13 (by assumption) (by assumption) (by assumption) (by assumption) (by assumption)).2.2.2
theorem lf_X8_loose_16 {mt : Int32} {ma : Nat} {fs : Nat → Int32} {w9 : Nat} {k9 : Nat} {h9 : Nat} {fc : Nat → Int32} {a1 : Int32} {j_1 : Nat} {j_8 : Nat} {v_12 : Int32} {fcn_14 : Nat → Int32} {man_14 : Nat} {fsn_15 : Nat → Int32} {j_16 : Nat} (hM : okM fs w9 k9 h9) (hT : ¬ mt = 0 → 1 ≤ k9) (h999 : h9 ≤ 999) (hT0 : mt = 0 → fs 0 = 0 ∧ ma = 0) (hac : okA fc ma) (hma : ma ≤ 24) (hj_1 : j_1 < k9) (hkn1 : 1 ≤ k9) (hw1 : 1 ≤ w9) (h01 : ¬ fs 0 = 0) (f_5_1_0 : iC (fs 0) a1) (f_8_1_0 : (¬ (((nI j_8)).toInt64 < 1 ∨ 20 < ((nI j_8)).toInt64))) (q_8 : ¬ ((nI j_8) < 1 ∨ 20 < (nI j_8))) (hj_8 : j_8 ≤ 20) (e_12 : v_12 = fs (26 + j_1)) (c_13 : ¬ (v_12 = 0)) (hF_14_0 : okA fcn_14 man_14) (hF_14_1 : man_14 ≤ 24) (hF_14_2 : 1 ≤ man_14) (hF_14_3 : acM fcn_14 man_14 = ntA (m38 fs) ma (acM fc ma)) (hF_14_4 : man_14 = ntN ma) (hF_15_0 : okM fsn_15 w9 k9 h9) (hF_15_1 : fsn_15 = upd (upd (upd fs (26 + j_1) 0) (20 + j_1) a1) (32 + j_1) (nI j_8)) (hz_16_0 : j_16 ≤ 63) (hz_16_1 : nI j_16 = thR (fun s => fsn_15 (26 + s)) 0 k9) : (mt = 0 → fsn_15 0 = 0 ∧ man_14 = 0) := by
  have hw6 := hM.2.2.2.1
  have hk6 := hM.2.2.2.2.1
  first
  | exact hT0
  | (intro h_; exact absurd (hT0 h_).1 h01)
  | (intro h_; have h9 := (hT0 h_).2; omega)
  | exact (looM_n (ma := ma) (A := acM fc ma) (looM_g hM (Or.inl f_1_0_0))).1
  | exact (looM_n (ma := ma) (A := acM fc ma) (looM_g hM (Or.inl f_1_0_0))).2.1
  | exact (looM_n (ma := ma) (A := acM fc ma) (looM_g hM (Or.inl f_1_0_0))).2.2.1
  | exact (looM_n (ma := ma) (A := acM fc ma) (looM_g hM (Or.inl f_1_0_0))).2.2.2
  | exact (looM_n (ma := ma) (A := acM fc ma) (looM_g hM (Or.inr (Or.inl f_5_0_0)))).1
  | exact (looM_n (ma := ma) (A := acM fc ma) (looM_g hM (Or.inr (Or.inl f_5_0_0)))).2.1
  | exact (looM_n (ma := ma) (A := acM fc ma) (looM_g hM (Or.inr (Or.inl f_5_0_0)))).2.2.1
  | exact (looM_n (ma := ma) (A := acM fc ma) (looM_g hM (Or.inr (Or.inl f_5_0_0)))).2.2.2
  | exact (looM_n (ma := ma) (A := acM fc ma) (looM_g hM (Or.inr (Or.inr q_8)))).1
  | exact (looM_n (ma := ma) (A := acM fc ma) (looM_g hM (Or.inr (Or.inr q_8)))).2.1
  | exact (looM_n (ma := ma) (A := acM fc ma) (looM_g hM (Or.inr (Or.inr q_8)))).2.2.1
  | exact (looM_n (ma := ma) (A := acM fc ma) (looM_g hM (Or.inr (Or.inr q_8)))).2.2.2
  | exact (looM_s (ma := ma) (A := acM fc ma) hM hj_1 f_5_1_0 q_8 e_12 c_13).1
  | exact (looM_s (ma := ma) (A := acM fc ma) hM hj_1 f_5_1_0 q_8 e_12 c_13).2.1
  | exact (looM_s (ma := ma) (A := acM fc ma) hM hj_1 f_5_1_0 q_8 e_12 c_13).2.2.1
  | exact (looM_s (ma := ma) (A := acM fc ma) hM hj_1 f_5_1_0 q_8 e_12 c_13).2.2.2
  | exact (looM_d hM hj_1 f_5_1_0 q_8 e_12 c_13 (by assumption) (by assumption) (by assumption) (by assumption) (by assumption)).1
  | exact (looM_d hM hj_1 f_5_1_0 q_8 e_12 c_13 (by assumption) (by assumption) (by assumption) (by assumption) (by assumption)).2.1
  | exact (looM_d hM hj_1 f_5_1_0 q_8 e_12 c_13 (by assumption) (by assumption) (by assumption) (by assumption) (by assumption)).2.2.1
  | exact (looM_d hM hj_1 f_5_1_0 q_8 e_12 c_13 (by assumption) (by assumption) (by assumption) (by assumption) (by assumption)).2.2.2
theorem lf_X8_loose_17 {mt : Int32} {ma : Nat} {fs : Nat → Int32} {w9 : Nat} {k9 : Nat} {h9 : Nat} {fc : Nat → Int32} {a1 : Int32} {j_1 : Nat} {j_8 : Nat} {v_12 : Int32} {fcn_14 : Nat → Int32} {man_14 : Nat} {fsn_15 : Nat → Int32} {j_16 : Nat} (hM : okM fs w9 k9 h9) (hT : ¬ mt = 0 → 1 ≤ k9) (h999 : h9 ≤ 999) (hT0 : mt = 0 → fs 0 = 0 ∧ ma = 0) (hac : okA fc ma) (hma : ma ≤ 24) (hj_1 : j_1 < k9) (hkn1 : 1 ≤ k9) (hw1 : 1 ≤ w9) (h01 : ¬ fs 0 = 0) (f_5_1_0 : iC (fs 0) a1) (f_8_1_0 : (¬ (((nI j_8)).toInt64 < 1 ∨ 20 < ((nI j_8)).toInt64))) (q_8 : ¬ ((nI j_8) < 1 ∨ 20 < (nI j_8))) (hj_8 : j_8 ≤ 20) (e_12 : v_12 = fs (26 + j_1)) (c_13 : ¬ (v_12 = 0)) (hF_14_0 : okA fcn_14 man_14) (hF_14_1 : man_14 ≤ 24) (hF_14_2 : 1 ≤ man_14) (hF_14_3 : acM fcn_14 man_14 = ntA (m38 fs) ma (acM fc ma)) (hF_14_4 : man_14 = ntN ma) (hF_15_0 : okM fsn_15 w9 k9 h9) (hF_15_1 : fsn_15 = upd (upd (upd fs (26 + j_1) 0) (20 + j_1) a1) (32 + j_1) (nI j_8)) (hz_16_0 : j_16 ≤ 63) (hz_16_1 : nI j_16 = thR (fun s => fsn_15 (26 + s)) 0 k9) : m38 fsn_15 = n_loose (m38 fs) (nI j_1) a1 (nI j_8) := by
  have hw6 := hM.2.2.2.1
  have hk6 := hM.2.2.2.2.1
  first
  | exact hT0
  | (intro h_; exact absurd (hT0 h_).1 h01)
  | (intro h_; have h9 := (hT0 h_).2; omega)
  | exact (looM_n (ma := ma) (A := acM fc ma) (looM_g hM (Or.inl f_1_0_0))).1
  | exact (looM_n (ma := ma) (A := acM fc ma) (looM_g hM (Or.inl f_1_0_0))).2.1
  | exact (looM_n (ma := ma) (A := acM fc ma) (looM_g hM (Or.inl f_1_0_0))).2.2.1
  | exact (looM_n (ma := ma) (A := acM fc ma) (looM_g hM (Or.inl f_1_0_0))).2.2.2
  | exact (looM_n (ma := ma) (A := acM fc ma) (looM_g hM (Or.inr (Or.inl f_5_0_0)))).1
  | exact (looM_n (ma := ma) (A := acM fc ma) (looM_g hM (Or.inr (Or.inl f_5_0_0)))).2.1
  | exact (looM_n (ma := ma) (A := acM fc ma) (looM_g hM (Or.inr (Or.inl f_5_0_0)))).2.2.1
  | exact (looM_n (ma := ma) (A := acM fc ma) (looM_g hM (Or.inr (Or.inl f_5_0_0)))).2.2.2
  | exact (looM_n (ma := ma) (A := acM fc ma) (looM_g hM (Or.inr (Or.inr q_8)))).1
  | exact (looM_n (ma := ma) (A := acM fc ma) (looM_g hM (Or.inr (Or.inr q_8)))).2.1
  | exact (looM_n (ma := ma) (A := acM fc ma) (looM_g hM (Or.inr (Or.inr q_8)))).2.2.1
  | exact (looM_n (ma := ma) (A := acM fc ma) (looM_g hM (Or.inr (Or.inr q_8)))).2.2.2
  | exact (looM_s (ma := ma) (A := acM fc ma) hM hj_1 f_5_1_0 q_8 e_12 c_13).1
  | exact (looM_s (ma := ma) (A := acM fc ma) hM hj_1 f_5_1_0 q_8 e_12 c_13).2.1
  | exact (looM_s (ma := ma) (A := acM fc ma) hM hj_1 f_5_1_0 q_8 e_12 c_13).2.2.1
  | exact (looM_s (ma := ma) (A := acM fc ma) hM hj_1 f_5_1_0 q_8 e_12 c_13).2.2.2
  | exact (looM_d hM hj_1 f_5_1_0 q_8 e_12 c_13 (by assumption) (by assumption) (by assumption) (by assumption) (by assumption)).1
  | exact (looM_d hM hj_1 f_5_1_0 q_8 e_12 c_13 (by assumption) (by assumption) (by assumption) (by assumption) (by assumption)).2.1
  | exact (looM_d hM hj_1 f_5_1_0 q_8 e_12 c_13 (by assumption) (by assumption) (by assumption) (by assumption) (by assumption)).2.2.1
  | exact (looM_d hM hj_1 f_5_1_0 q_8 e_12 c_13 (by assumption) (by assumption) (by assumption) (by assumption) (by assumption)).2.2.2
theorem lf_X8_loose_18 {mt : Int32} {ma : Nat} {fs : Nat → Int32} {w9 : Nat} {k9 : Nat} {h9 : Nat} {fc : Nat → Int32} {a1 : Int32} {j_1 : Nat} {j_8 : Nat} {v_12 : Int32} {fcn_14 : Nat → Int32} {man_14 : Nat} {fsn_15 : Nat → Int32} {j_16 : Nat} (hM : okM fs w9 k9 h9) (hT : ¬ mt = 0 → 1 ≤ k9) (h999 : h9 ≤ 999) (hT0 : mt = 0 → fs 0 = 0 ∧ ma = 0) (hac : okA fc ma) (hma : ma ≤ 24) (hj_1 : j_1 < k9) (hkn1 : 1 ≤ k9) (hw1 : 1 ≤ w9) (h01 : ¬ fs 0 = 0) (f_5_1_0 : iC (fs 0) a1) (f_8_1_0 : (¬ (((nI j_8)).toInt64 < 1 ∨ 20 < ((nI j_8)).toInt64))) (q_8 : ¬ ((nI j_8) < 1 ∨ 20 < (nI j_8))) (hj_8 : j_8 ≤ 20) (e_12 : v_12 = fs (26 + j_1)) (c_13 : ¬ (v_12 = 0)) (hF_14_0 : okA fcn_14 man_14) (hF_14_1 : man_14 ≤ 24) (hF_14_2 : 1 ≤ man_14) (hF_14_3 : acM fcn_14 man_14 = ntA (m38 fs) ma (acM fc ma)) (hF_14_4 : man_14 = ntN ma) (hF_15_0 : okM fsn_15 w9 k9 h9) (hF_15_1 : fsn_15 = upd (upd (upd fs (26 + j_1) 0) (20 + j_1) a1) (32 + j_1) (nI j_8)) (hz_16_0 : j_16 ≤ 63) (hz_16_1 : nI j_16 = thR (fun s => fsn_15 (26 + s)) 0 k9) : man_14 = kpN (gd_loose (m38 fs) (nI j_1) a1 (nI j_8)) ma := by
  have hw6 := hM.2.2.2.1
  have hk6 := hM.2.2.2.2.1
  first
  | exact hT0
  | (intro h_; exact absurd (hT0 h_).1 h01)
  | (intro h_; have h9 := (hT0 h_).2; omega)
  | exact (looM_n (ma := ma) (A := acM fc ma) (looM_g hM (Or.inl f_1_0_0))).1
  | exact (looM_n (ma := ma) (A := acM fc ma) (looM_g hM (Or.inl f_1_0_0))).2.1
  | exact (looM_n (ma := ma) (A := acM fc ma) (looM_g hM (Or.inl f_1_0_0))).2.2.1
  | exact (looM_n (ma := ma) (A := acM fc ma) (looM_g hM (Or.inl f_1_0_0))).2.2.2
  | exact (looM_n (ma := ma) (A := acM fc ma) (looM_g hM (Or.inr (Or.inl f_5_0_0)))).1
  | exact (looM_n (ma := ma) (A := acM fc ma) (looM_g hM (Or.inr (Or.inl f_5_0_0)))).2.1
  | exact (looM_n (ma := ma) (A := acM fc ma) (looM_g hM (Or.inr (Or.inl f_5_0_0)))).2.2.1
  | exact (looM_n (ma := ma) (A := acM fc ma) (looM_g hM (Or.inr (Or.inl f_5_0_0)))).2.2.2
  | exact (looM_n (ma := ma) (A := acM fc ma) (looM_g hM (Or.inr (Or.inr q_8)))).1
  | exact (looM_n (ma := ma) (A := acM fc ma) (looM_g hM (Or.inr (Or.inr q_8)))).2.1
  | exact (looM_n (ma := ma) (A := acM fc ma) (looM_g hM (Or.inr (Or.inr q_8)))).2.2.1
  | exact (looM_n (ma := ma) (A := acM fc ma) (looM_g hM (Or.inr (Or.inr q_8)))).2.2.2
  | exact (looM_s (ma := ma) (A := acM fc ma) hM hj_1 f_5_1_0 q_8 e_12 c_13).1
  | exact (looM_s (ma := ma) (A := acM fc ma) hM hj_1 f_5_1_0 q_8 e_12 c_13).2.1
  | exact (looM_s (ma := ma) (A := acM fc ma) hM hj_1 f_5_1_0 q_8 e_12 c_13).2.2.1
  | exact (looM_s (ma := ma) (A := acM fc ma) hM hj_1 f_5_1_0 q_8 e_12 c_13).2.2.2
  | exact (looM_d hM hj_1 f_5_1_0 q_8 e_12 c_13 (by assumption) (by assumption) (by assumption) (by assumption) (by assumption)).1
  | exact (looM_d hM hj_1 f_5_1_0 q_8 e_12 c_13 (by assumption) (by assumption) (by assumption) (by assumption) (by assumption)).2.1
  | exact (looM_d hM hj_1 f_5_1_0 q_8 e_12 c_13 (by assumption) (by assumption) (by assumption) (by assumption) (by assumption)).2.2.1
  | exact (looM_d hM hj_1 f_5_1_0 q_8 e_12 c_13 (by assumption) (by assumption) (by assumption) (by assumption) (by assumption)).2.2.2
theorem lf_X8_loose_19 {mt : Int32} {ma : Nat} {fs : Nat → Int32} {w9 : Nat} {k9 : Nat} {h9 : Nat} {fc : Nat → Int32} {a1 : Int32} {j_1 : Nat} {j_8 : Nat} {v_12 : Int32} {fcn_14 : Nat → Int32} {man_14 : Nat} {fsn_15 : Nat → Int32} {j_16 : Nat} (hM : okM fs w9 k9 h9) (hT : ¬ mt = 0 → 1 ≤ k9) (h999 : h9 ≤ 999) (hT0 : mt = 0 → fs 0 = 0 ∧ ma = 0) (hac : okA fc ma) (hma : ma ≤ 24) (hj_1 : j_1 < k9) (hkn1 : 1 ≤ k9) (hw1 : 1 ≤ w9) (h01 : ¬ fs 0 = 0) (f_5_1_0 : iC (fs 0) a1) (f_8_1_0 : (¬ (((nI j_8)).toInt64 < 1 ∨ 20 < ((nI j_8)).toInt64))) (q_8 : ¬ ((nI j_8) < 1 ∨ 20 < (nI j_8))) (hj_8 : j_8 ≤ 20) (e_12 : v_12 = fs (26 + j_1)) (c_13 : ¬ (v_12 = 0)) (hF_14_0 : okA fcn_14 man_14) (hF_14_1 : man_14 ≤ 24) (hF_14_2 : 1 ≤ man_14) (hF_14_3 : acM fcn_14 man_14 = ntA (m38 fs) ma (acM fc ma)) (hF_14_4 : man_14 = ntN ma) (hF_15_0 : okM fsn_15 w9 k9 h9) (hF_15_1 : fsn_15 = upd (upd (upd fs (26 + j_1) 0) (20 + j_1) a1) (32 + j_1) (nI j_8)) (hz_16_0 : j_16 ≤ 63) (hz_16_1 : nI j_16 = thR (fun s => fsn_15 (26 + s)) 0 k9) : acM fcn_14 man_14 = kpA (gd_loose (m38 fs) (nI j_1) a1 (nI j_8)) (m38 fs) ma (acM fc ma) := by
  have hw6 := hM.2.2.2.1
  have hk6 := hM.2.2.2.2.1
  first
  | exact hT0
  | (intro h_; exact absurd (hT0 h_).1 h01)
  | (intro h_; have h9 := (hT0 h_).2; omega)
  | exact (looM_n (ma := ma) (A := acM fc ma) (looM_g hM (Or.inl f_1_0_0))).1
  | exact (looM_n (ma := ma) (A := acM fc ma) (looM_g hM (Or.inl f_1_0_0))).2.1
  | exact (looM_n (ma := ma) (A := acM fc ma) (looM_g hM (Or.inl f_1_0_0))).2.2.1
  | exact (looM_n (ma := ma) (A := acM fc ma) (looM_g hM (Or.inl f_1_0_0))).2.2.2
  | exact (looM_n (ma := ma) (A := acM fc ma) (looM_g hM (Or.inr (Or.inl f_5_0_0)))).1
  | exact (looM_n (ma := ma) (A := acM fc ma) (looM_g hM (Or.inr (Or.inl f_5_0_0)))).2.1
  | exact (looM_n (ma := ma) (A := acM fc ma) (looM_g hM (Or.inr (Or.inl f_5_0_0)))).2.2.1
  | exact (looM_n (ma := ma) (A := acM fc ma) (looM_g hM (Or.inr (Or.inl f_5_0_0)))).2.2.2
  | exact (looM_n (ma := ma) (A := acM fc ma) (looM_g hM (Or.inr (Or.inr q_8)))).1
  | exact (looM_n (ma := ma) (A := acM fc ma) (looM_g hM (Or.inr (Or.inr q_8)))).2.1
  | exact (looM_n (ma := ma) (A := acM fc ma) (looM_g hM (Or.inr (Or.inr q_8)))).2.2.1
  | exact (looM_n (ma := ma) (A := acM fc ma) (looM_g hM (Or.inr (Or.inr q_8)))).2.2.2
  | exact (looM_s (ma := ma) (A := acM fc ma) hM hj_1 f_5_1_0 q_8 e_12 c_13).1
  | exact (looM_s (ma := ma) (A := acM fc ma) hM hj_1 f_5_1_0 q_8 e_12 c_13).2.1
  | exact (looM_s (ma := ma) (A := acM fc ma) hM hj_1 f_5_1_0 q_8 e_12 c_13).2.2.1
  | exact (looM_s (ma := ma) (A := acM fc ma) hM hj_1 f_5_1_0 q_8 e_12 c_13).2.2.2
  | exact (looM_d hM hj_1 f_5_1_0 q_8 e_12 c_13 (by assumption) (by assumption) (by assumption) (by assumption) (by assumption)).1
  | exact (looM_d hM hj_1 f_5_1_0 q_8 e_12 c_13 (by assumption) (by assumption) (by assumption) (by assumption) (by assumption)).2.1
  | exact (looM_d hM hj_1 f_5_1_0 q_8 e_12 c_13 (by assumption) (by assumption) (by assumption) (by assumption) (by assumption)).2.2.1
  | exact (looM_d hM hj_1 f_5_1_0 q_8 e_12 c_13 (by assumption) (by assumption) (by assumption) (by assumption) (by assumption)).2.2.2
theorem lf_X8_loose_20 {mt : Int32} {ma : Nat} {fs : Nat → Int32} {w9 : Nat} {k9 : Nat} {h9 : Nat} {fc : Nat → Int32} {a1 : Int32} {j_1 : Nat} {j_8 : Nat} {v_12 : Int32} {fcn_14 : Nat → Int32} {man_14 : Nat} {fsn_15 : Nat → Int32} {j_16 : Nat} (hM : okM fs w9 k9 h9) (hT : ¬ mt = 0 → 1 ≤ k9) (h999 : h9 ≤ 999) (hT0 : mt = 0 → fs 0 = 0 ∧ ma = 0) (hac : okA fc ma) (hma : ma ≤ 24) (hj_1 : j_1 < k9) (hkn1 : 1 ≤ k9) (hw1 : 1 ≤ w9) (h01 : ¬ fs 0 = 0) (f_5_1_0 : iC (fs 0) a1) (f_8_1_0 : (¬ (((nI j_8)).toInt64 < 1 ∨ 20 < ((nI j_8)).toInt64))) (q_8 : ¬ ((nI j_8) < 1 ∨ 20 < (nI j_8))) (hj_8 : j_8 ≤ 20) (e_12 : v_12 = fs (26 + j_1)) (c_13 : ¬ (v_12 = 0)) (hF_14_0 : okA fcn_14 man_14) (hF_14_1 : man_14 ≤ 24) (hF_14_2 : 1 ≤ man_14) (hF_14_3 : acM fcn_14 man_14 = ntA (m38 fs) ma (acM fc ma)) (hF_14_4 : man_14 = ntN ma) (hF_15_0 : okM fsn_15 w9 k9 h9) (hF_15_1 : fsn_15 = upd (upd (upd fs (26 + j_1) 0) (20 + j_1) a1) (32 + j_1) (nI j_8)) (hz_16_0 : j_16 ≤ 63) (hz_16_1 : nI j_16 = thR (fun s => fsn_15 (26 + s)) 0 k9) : (nI j_16) = (a_loose (m38 fs) (nI j_1) a1 (nI j_8)) := by
  have hw6 := hM.2.2.2.1
  have hk6 := hM.2.2.2.2.1
  first
  | exact hT0
  | (intro h_; exact absurd (hT0 h_).1 h01)
  | (intro h_; have h9 := (hT0 h_).2; omega)
  | exact (looM_n (ma := ma) (A := acM fc ma) (looM_g hM (Or.inl f_1_0_0))).1
  | exact (looM_n (ma := ma) (A := acM fc ma) (looM_g hM (Or.inl f_1_0_0))).2.1
  | exact (looM_n (ma := ma) (A := acM fc ma) (looM_g hM (Or.inl f_1_0_0))).2.2.1
  | exact (looM_n (ma := ma) (A := acM fc ma) (looM_g hM (Or.inl f_1_0_0))).2.2.2
  | exact (looM_n (ma := ma) (A := acM fc ma) (looM_g hM (Or.inr (Or.inl f_5_0_0)))).1
  | exact (looM_n (ma := ma) (A := acM fc ma) (looM_g hM (Or.inr (Or.inl f_5_0_0)))).2.1
  | exact (looM_n (ma := ma) (A := acM fc ma) (looM_g hM (Or.inr (Or.inl f_5_0_0)))).2.2.1
  | exact (looM_n (ma := ma) (A := acM fc ma) (looM_g hM (Or.inr (Or.inl f_5_0_0)))).2.2.2
  | exact (looM_n (ma := ma) (A := acM fc ma) (looM_g hM (Or.inr (Or.inr q_8)))).1
  | exact (looM_n (ma := ma) (A := acM fc ma) (looM_g hM (Or.inr (Or.inr q_8)))).2.1
  | exact (looM_n (ma := ma) (A := acM fc ma) (looM_g hM (Or.inr (Or.inr q_8)))).2.2.1
  | exact (looM_n (ma := ma) (A := acM fc ma) (looM_g hM (Or.inr (Or.inr q_8)))).2.2.2
  | exact (looM_s (ma := ma) (A := acM fc ma) hM hj_1 f_5_1_0 q_8 e_12 c_13).1
  | exact (looM_s (ma := ma) (A := acM fc ma) hM hj_1 f_5_1_0 q_8 e_12 c_13).2.1
  | exact (looM_s (ma := ma) (A := acM fc ma) hM hj_1 f_5_1_0 q_8 e_12 c_13).2.2.1
  | exact (looM_s (ma := ma) (A := acM fc ma) hM hj_1 f_5_1_0 q_8 e_12 c_13).2.2.2
  | exact (looM_d hM hj_1 f_5_1_0 q_8 e_12 c_13 (by assumption) (by assumption) (by assumption) (by assumption) (by assumption)).1
  | exact (looM_d hM hj_1 f_5_1_0 q_8 e_12 c_13 (by assumption) (by assumption) (by assumption) (by assumption) (by assumption)).2.1
  | exact (looM_d hM hj_1 f_5_1_0 q_8 e_12 c_13 (by assumption) (by assumption) (by assumption) (by assumption) (by assumption)).2.2.1
  | exact (looM_d hM hj_1 f_5_1_0 q_8 e_12 c_13 (by assumption) (by assumption) (by assumption) (by assumption) (by assumption)).2.2.2
theorem lf_X8_loose_21 {mt : Int32} {ma : Nat} {fs : Nat → Int32} {w9 : Nat} {k9 : Nat} {h9 : Nat} {fc : Nat → Int32} {a1 : Int32} {j_1 : Nat} {j_8 : Nat} {v_12 : Int32} (hM : okM fs w9 k9 h9) (hT : ¬ mt = 0 → 1 ≤ k9) (h999 : h9 ≤ 999) (hT0 : mt = 0 → fs 0 = 0 ∧ ma = 0) (hac : okA fc ma) (hma : ma ≤ 24) (hj_1 : j_1 < k9) (hkn1 : 1 ≤ k9) (hw1 : 1 ≤ w9) (h01 : ¬ fs 0 = 0) (f_5_1_0 : iC (fs 0) a1) (f_8_1_0 : (¬ (((nI j_8)).toInt64 < 1 ∨ 20 < ((nI j_8)).toInt64))) (q_8 : ¬ ((nI j_8) < 1 ∨ 20 < (nI j_8))) (hj_8 : j_8 ≤ 20) (e_12 : v_12 = fs (26 + j_1)) (c_13 : v_12 = 0) : (mt = 0 → fs 0 = 0 ∧ ma = 0) := by
  have hw6 := hM.2.2.2.1
  have hk6 := hM.2.2.2.2.1
  first
  | exact hT0
  | (intro h_; exact absurd (hT0 h_).1 h01)
  | (intro h_; have h9 := (hT0 h_).2; omega)
  | exact (looM_n (ma := ma) (A := acM fc ma) (looM_g hM (Or.inl f_1_0_0))).1
  | exact (looM_n (ma := ma) (A := acM fc ma) (looM_g hM (Or.inl f_1_0_0))).2.1
  | exact (looM_n (ma := ma) (A := acM fc ma) (looM_g hM (Or.inl f_1_0_0))).2.2.1
  | exact (looM_n (ma := ma) (A := acM fc ma) (looM_g hM (Or.inl f_1_0_0))).2.2.2
  | exact (looM_n (ma := ma) (A := acM fc ma) (looM_g hM (Or.inr (Or.inl f_5_0_0)))).1
  | exact (looM_n (ma := ma) (A := acM fc ma) (looM_g hM (Or.inr (Or.inl f_5_0_0)))).2.1
  | exact (looM_n (ma := ma) (A := acM fc ma) (looM_g hM (Or.inr (Or.inl f_5_0_0)))).2.2.1
  | exact (looM_n (ma := ma) (A := acM fc ma) (looM_g hM (Or.inr (Or.inl f_5_0_0)))).2.2.2
  | exact (looM_n (ma := ma) (A := acM fc ma) (looM_g hM (Or.inr (Or.inr q_8)))).1
  | exact (looM_n (ma := ma) (A := acM fc ma) (looM_g hM (Or.inr (Or.inr q_8)))).2.1
  | exact (looM_n (ma := ma) (A := acM fc ma) (looM_g hM (Or.inr (Or.inr q_8)))).2.2.1
  | exact (looM_n (ma := ma) (A := acM fc ma) (looM_g hM (Or.inr (Or.inr q_8)))).2.2.2
  | exact (looM_s (ma := ma) (A := acM fc ma) hM hj_1 f_5_1_0 q_8 e_12 c_13).1
  | exact (looM_s (ma := ma) (A := acM fc ma) hM hj_1 f_5_1_0 q_8 e_12 c_13).2.1
  | exact (looM_s (ma := ma) (A := acM fc ma) hM hj_1 f_5_1_0 q_8 e_12 c_13).2.2.1
  | exact (looM_s (ma := ma) (A := acM fc ma) hM hj_1 f_5_1_0 q_8 e_12 c_13).2.2.2
  | exact (looM_d hM hj_1 f_5_1_0 q_8 e_12 c_13 (by assumption) (by assumption) (by assumption) (by assumption) (by assumption)).1
  | exact (looM_d hM hj_1 f_5_1_0 q_8 e_12 c_13 (by assumption) (by assumption) (by assumption) (by assumption) (by assumption)).2.1
  | exact (looM_d hM hj_1 f_5_1_0 q_8 e_12 c_13 (by assumption) (by assumption) (by assumption) (by assumption) (by assumption)).2.2.1
  | exact (looM_d hM hj_1 f_5_1_0 q_8 e_12 c_13 (by assumption) (by assumption) (by assumption) (by assumption) (by assumption)).2.2.2
theorem lf_X8_loose_22 {mt : Int32} {ma : Nat} {fs : Nat → Int32} {w9 : Nat} {k9 : Nat} {h9 : Nat} {fc : Nat → Int32} {a1 : Int32} {j_1 : Nat} {j_8 : Nat} {v_12 : Int32} (hM : okM fs w9 k9 h9) (hT : ¬ mt = 0 → 1 ≤ k9) (h999 : h9 ≤ 999) (hT0 : mt = 0 → fs 0 = 0 ∧ ma = 0) (hac : okA fc ma) (hma : ma ≤ 24) (hj_1 : j_1 < k9) (hkn1 : 1 ≤ k9) (hw1 : 1 ≤ w9) (h01 : ¬ fs 0 = 0) (f_5_1_0 : iC (fs 0) a1) (f_8_1_0 : (¬ (((nI j_8)).toInt64 < 1 ∨ 20 < ((nI j_8)).toInt64))) (q_8 : ¬ ((nI j_8) < 1 ∨ 20 < (nI j_8))) (hj_8 : j_8 ≤ 20) (e_12 : v_12 = fs (26 + j_1)) (c_13 : v_12 = 0) : m38 fs = n_loose (m38 fs) (nI j_1) a1 (nI j_8) := by
  have hw6 := hM.2.2.2.1
  have hk6 := hM.2.2.2.2.1
  first
  | exact hT0
  | (intro h_; exact absurd (hT0 h_).1 h01)
  | (intro h_; have h9 := (hT0 h_).2; omega)
  | exact (looM_n (ma := ma) (A := acM fc ma) (looM_g hM (Or.inl f_1_0_0))).1
  | exact (looM_n (ma := ma) (A := acM fc ma) (looM_g hM (Or.inl f_1_0_0))).2.1
  | exact (looM_n (ma := ma) (A := acM fc ma) (looM_g hM (Or.inl f_1_0_0))).2.2.1
  | exact (looM_n (ma := ma) (A := acM fc ma) (looM_g hM (Or.inl f_1_0_0))).2.2.2
  | exact (looM_n (ma := ma) (A := acM fc ma) (looM_g hM (Or.inr (Or.inl f_5_0_0)))).1
  | exact (looM_n (ma := ma) (A := acM fc ma) (looM_g hM (Or.inr (Or.inl f_5_0_0)))).2.1
  | exact (looM_n (ma := ma) (A := acM fc ma) (looM_g hM (Or.inr (Or.inl f_5_0_0)))).2.2.1
  | exact (looM_n (ma := ma) (A := acM fc ma) (looM_g hM (Or.inr (Or.inl f_5_0_0)))).2.2.2
  | exact (looM_n (ma := ma) (A := acM fc ma) (looM_g hM (Or.inr (Or.inr q_8)))).1
  | exact (looM_n (ma := ma) (A := acM fc ma) (looM_g hM (Or.inr (Or.inr q_8)))).2.1
  | exact (looM_n (ma := ma) (A := acM fc ma) (looM_g hM (Or.inr (Or.inr q_8)))).2.2.1
  | exact (looM_n (ma := ma) (A := acM fc ma) (looM_g hM (Or.inr (Or.inr q_8)))).2.2.2
  | exact (looM_s (ma := ma) (A := acM fc ma) hM hj_1 f_5_1_0 q_8 e_12 c_13).1
  | exact (looM_s (ma := ma) (A := acM fc ma) hM hj_1 f_5_1_0 q_8 e_12 c_13).2.1
  | exact (looM_s (ma := ma) (A := acM fc ma) hM hj_1 f_5_1_0 q_8 e_12 c_13).2.2.1
  | exact (looM_s (ma := ma) (A := acM fc ma) hM hj_1 f_5_1_0 q_8 e_12 c_13).2.2.2
  | exact (looM_d hM hj_1 f_5_1_0 q_8 e_12 c_13 (by assumption) (by assumption) (by assumption) (by assumption) (by assumption)).1
  | exact (looM_d hM hj_1 f_5_1_0 q_8 e_12 c_13 (by assumption) (by assumption) (by assumption) (by assumption) (by assumption)).2.1
  | exact (looM_d hM hj_1 f_5_1_0 q_8 e_12 c_13 (by assumption) (by assumption) (by assumption) (by assumption) (by assumption)).2.2.1
  | exact (looM_d hM hj_1 f_5_1_0 q_8 e_12 c_13 (by assumption) (by assumption) (by assumption) (by assumption) (by assumption)).2.2.2
theorem lf_X8_loose_23 {mt : Int32} {ma : Nat} {fs : Nat → Int32} {w9 : Nat} {k9 : Nat} {h9 : Nat} {fc : Nat → Int32} {a1 : Int32} {j_1 : Nat} {j_8 : Nat} {v_12 : Int32} (hM : okM fs w9 k9 h9) (hT : ¬ mt = 0 → 1 ≤ k9) (h999 : h9 ≤ 999) (hT0 : mt = 0 → fs 0 = 0 ∧ ma = 0) (hac : okA fc ma) (hma : ma ≤ 24) (hj_1 : j_1 < k9) (hkn1 : 1 ≤ k9) (hw1 : 1 ≤ w9) (h01 : ¬ fs 0 = 0) (f_5_1_0 : iC (fs 0) a1) (f_8_1_0 : (¬ (((nI j_8)).toInt64 < 1 ∨ 20 < ((nI j_8)).toInt64))) (q_8 : ¬ ((nI j_8) < 1 ∨ 20 < (nI j_8))) (hj_8 : j_8 ≤ 20) (e_12 : v_12 = fs (26 + j_1)) (c_13 : v_12 = 0) : ma = kpN (gd_loose (m38 fs) (nI j_1) a1 (nI j_8)) ma := by
  have hw6 := hM.2.2.2.1
  have hk6 := hM.2.2.2.2.1
  first
  | exact hT0
  | (intro h_; exact absurd (hT0 h_).1 h01)
  | (intro h_; have h9 := (hT0 h_).2; omega)
  | exact (looM_n (ma := ma) (A := acM fc ma) (looM_g hM (Or.inl f_1_0_0))).1
  | exact (looM_n (ma := ma) (A := acM fc ma) (looM_g hM (Or.inl f_1_0_0))).2.1
  | exact (looM_n (ma := ma) (A := acM fc ma) (looM_g hM (Or.inl f_1_0_0))).2.2.1
  | exact (looM_n (ma := ma) (A := acM fc ma) (looM_g hM (Or.inl f_1_0_0))).2.2.2
  | exact (looM_n (ma := ma) (A := acM fc ma) (looM_g hM (Or.inr (Or.inl f_5_0_0)))).1
  | exact (looM_n (ma := ma) (A := acM fc ma) (looM_g hM (Or.inr (Or.inl f_5_0_0)))).2.1
  | exact (looM_n (ma := ma) (A := acM fc ma) (looM_g hM (Or.inr (Or.inl f_5_0_0)))).2.2.1
  | exact (looM_n (ma := ma) (A := acM fc ma) (looM_g hM (Or.inr (Or.inl f_5_0_0)))).2.2.2
  | exact (looM_n (ma := ma) (A := acM fc ma) (looM_g hM (Or.inr (Or.inr q_8)))).1
  | exact (looM_n (ma := ma) (A := acM fc ma) (looM_g hM (Or.inr (Or.inr q_8)))).2.1
  | exact (looM_n (ma := ma) (A := acM fc ma) (looM_g hM (Or.inr (Or.inr q_8)))).2.2.1
  | exact (looM_n (ma := ma) (A := acM fc ma) (looM_g hM (Or.inr (Or.inr q_8)))).2.2.2
  | exact (looM_s (ma := ma) (A := acM fc ma) hM hj_1 f_5_1_0 q_8 e_12 c_13).1
  | exact (looM_s (ma := ma) (A := acM fc ma) hM hj_1 f_5_1_0 q_8 e_12 c_13).2.1
  | exact (looM_s (ma := ma) (A := acM fc ma) hM hj_1 f_5_1_0 q_8 e_12 c_13).2.2.1
  | exact (looM_s (ma := ma) (A := acM fc ma) hM hj_1 f_5_1_0 q_8 e_12 c_13).2.2.2
  | exact (looM_d hM hj_1 f_5_1_0 q_8 e_12 c_13 (by assumption) (by assumption) (by assumption) (by assumption) (by assumption)).1
  | exact (looM_d hM hj_1 f_5_1_0 q_8 e_12 c_13 (by assumption) (by assumption) (by assumption) (by assumption) (by assumption)).2.1
  | exact (looM_d hM hj_1 f_5_1_0 q_8 e_12 c_13 (by assumption) (by assumption) (by assumption) (by assumption) (by assumption)).2.2.1
  | exact (looM_d hM hj_1 f_5_1_0 q_8 e_12 c_13 (by assumption) (by assumption) (by assumption) (by assumption) (by assumption)).2.2.2
theorem lf_X8_loose_24 {mt : Int32} {ma : Nat} {fs : Nat → Int32} {w9 : Nat} {k9 : Nat} {h9 : Nat} {fc : Nat → Int32} {a1 : Int32} {j_1 : Nat} {j_8 : Nat} {v_12 : Int32} (hM : okM fs w9 k9 h9) (hT : ¬ mt = 0 → 1 ≤ k9) (h999 : h9 ≤ 999) (hT0 : mt = 0 → fs 0 = 0 ∧ ma = 0) (hac : okA fc ma) (hma : ma ≤ 24) (hj_1 : j_1 < k9) (hkn1 : 1 ≤ k9) (hw1 : 1 ≤ w9) (h01 : ¬ fs 0 = 0) (f_5_1_0 : iC (fs 0) a1) (f_8_1_0 : (¬ (((nI j_8)).toInt64 < 1 ∨ 20 < ((nI j_8)).toInt64))) (q_8 : ¬ ((nI j_8) < 1 ∨ 20 < (nI j_8))) (hj_8 : j_8 ≤ 20) (e_12 : v_12 = fs (26 + j_1)) (c_13 : v_12 = 0) : acM fc ma = kpA (gd_loose (m38 fs) (nI j_1) a1 (nI j_8)) (m38 fs) ma (acM fc ma) := by
  have hw6 := hM.2.2.2.1
  have hk6 := hM.2.2.2.2.1
  first
  | exact hT0
  | (intro h_; exact absurd (hT0 h_).1 h01)
  | (intro h_; have h9 := (hT0 h_).2; omega)
  | exact (looM_n (ma := ma) (A := acM fc ma) (looM_g hM (Or.inl f_1_0_0))).1
  | exact (looM_n (ma := ma) (A := acM fc ma) (looM_g hM (Or.inl f_1_0_0))).2.1
  | exact (looM_n (ma := ma) (A := acM fc ma) (looM_g hM (Or.inl f_1_0_0))).2.2.1
  | exact (looM_n (ma := ma) (A := acM fc ma) (looM_g hM (Or.inl f_1_0_0))).2.2.2
  | exact (looM_n (ma := ma) (A := acM fc ma) (looM_g hM (Or.inr (Or.inl f_5_0_0)))).1
  | exact (looM_n (ma := ma) (A := acM fc ma) (looM_g hM (Or.inr (Or.inl f_5_0_0)))).2.1
  | exact (looM_n (ma := ma) (A := acM fc ma) (looM_g hM (Or.inr (Or.inl f_5_0_0)))).2.2.1
  | exact (looM_n (ma := ma) (A := acM fc ma) (looM_g hM (Or.inr (Or.inl f_5_0_0)))).2.2.2
  | exact (looM_n (ma := ma) (A := acM fc ma) (looM_g hM (Or.inr (Or.inr q_8)))).1
  | exact (looM_n (ma := ma) (A := acM fc ma) (looM_g hM (Or.inr (Or.inr q_8)))).2.1
  | exact (looM_n (ma := ma) (A := acM fc ma) (looM_g hM (Or.inr (Or.inr q_8)))).2.2.1
  | exact (looM_n (ma := ma) (A := acM fc ma) (looM_g hM (Or.inr (Or.inr q_8)))).2.2.2
  | exact (looM_s (ma := ma) (A := acM fc ma) hM hj_1 f_5_1_0 q_8 e_12 c_13).1
  | exact (looM_s (ma := ma) (A := acM fc ma) hM hj_1 f_5_1_0 q_8 e_12 c_13).2.1
  | exact (looM_s (ma := ma) (A := acM fc ma) hM hj_1 f_5_1_0 q_8 e_12 c_13).2.2.1
  | exact (looM_s (ma := ma) (A := acM fc ma) hM hj_1 f_5_1_0 q_8 e_12 c_13).2.2.2
  | exact (looM_d hM hj_1 f_5_1_0 q_8 e_12 c_13 (by assumption) (by assumption) (by assumption) (by assumption) (by assumption)).1
  | exact (looM_d hM hj_1 f_5_1_0 q_8 e_12 c_13 (by assumption) (by assumption) (by assumption) (by assumption) (by assumption)).2.1
  | exact (looM_d hM hj_1 f_5_1_0 q_8 e_12 c_13 (by assumption) (by assumption) (by assumption) (by assumption) (by assumption)).2.2.1
  | exact (looM_d hM hj_1 f_5_1_0 q_8 e_12 c_13 (by assumption) (by assumption) (by assumption) (by assumption) (by assumption)).2.2.2
theorem lf_X8_loose_25 {mt : Int32} {ma : Nat} {fs : Nat → Int32} {w9 : Nat} {k9 : Nat} {h9 : Nat} {fc : Nat → Int32} {a1 : Int32} {j_1 : Nat} {j_8 : Nat} {v_12 : Int32} (hM : okM fs w9 k9 h9) (hT : ¬ mt = 0 → 1 ≤ k9) (h999 : h9 ≤ 999) (hT0 : mt = 0 → fs 0 = 0 ∧ ma = 0) (hac : okA fc ma) (hma : ma ≤ 24) (hj_1 : j_1 < k9) (hkn1 : 1 ≤ k9) (hw1 : 1 ≤ w9) (h01 : ¬ fs 0 = 0) (f_5_1_0 : iC (fs 0) a1) (f_8_1_0 : (¬ (((nI j_8)).toInt64 < 1 ∨ 20 < ((nI j_8)).toInt64))) (q_8 : ¬ ((nI j_8) < 1 ∨ 20 < (nI j_8))) (hj_8 : j_8 ≤ 20) (e_12 : v_12 = fs (26 + j_1)) (c_13 : v_12 = 0) : (-1000002) = (a_loose (m38 fs) (nI j_1) a1 (nI j_8)) := by
  have hw6 := hM.2.2.2.1
  have hk6 := hM.2.2.2.2.1
  first
  | exact hT0
  | (intro h_; exact absurd (hT0 h_).1 h01)
  | (intro h_; have h9 := (hT0 h_).2; omega)
  | exact (looM_n (ma := ma) (A := acM fc ma) (looM_g hM (Or.inl f_1_0_0))).1
  | exact (looM_n (ma := ma) (A := acM fc ma) (looM_g hM (Or.inl f_1_0_0))).2.1
  | exact (looM_n (ma := ma) (A := acM fc ma) (looM_g hM (Or.inl f_1_0_0))).2.2.1
  | exact (looM_n (ma := ma) (A := acM fc ma) (looM_g hM (Or.inl f_1_0_0))).2.2.2
  | exact (looM_n (ma := ma) (A := acM fc ma) (looM_g hM (Or.inr (Or.inl f_5_0_0)))).1
  | exact (looM_n (ma := ma) (A := acM fc ma) (looM_g hM (Or.inr (Or.inl f_5_0_0)))).2.1
  | exact (looM_n (ma := ma) (A := acM fc ma) (looM_g hM (Or.inr (Or.inl f_5_0_0)))).2.2.1
  | exact (looM_n (ma := ma) (A := acM fc ma) (looM_g hM (Or.inr (Or.inl f_5_0_0)))).2.2.2
  | exact (looM_n (ma := ma) (A := acM fc ma) (looM_g hM (Or.inr (Or.inr q_8)))).1
  | exact (looM_n (ma := ma) (A := acM fc ma) (looM_g hM (Or.inr (Or.inr q_8)))).2.1
  | exact (looM_n (ma := ma) (A := acM fc ma) (looM_g hM (Or.inr (Or.inr q_8)))).2.2.1
  | exact (looM_n (ma := ma) (A := acM fc ma) (looM_g hM (Or.inr (Or.inr q_8)))).2.2.2
  | exact (looM_s (ma := ma) (A := acM fc ma) hM hj_1 f_5_1_0 q_8 e_12 c_13).1
  | exact (looM_s (ma := ma) (A := acM fc ma) hM hj_1 f_5_1_0 q_8 e_12 c_13).2.1
  | exact (looM_s (ma := ma) (A := acM fc ma) hM hj_1 f_5_1_0 q_8 e_12 c_13).2.2.1
  | exact (looM_s (ma := ma) (A := acM fc ma) hM hj_1 f_5_1_0 q_8 e_12 c_13).2.2.2
  | exact (looM_d hM hj_1 f_5_1_0 q_8 e_12 c_13 (by assumption) (by assumption) (by assumption) (by assumption) (by assumption)).1
  | exact (looM_d hM hj_1 f_5_1_0 q_8 e_12 c_13 (by assumption) (by assumption) (by assumption) (by assumption) (by assumption)).2.1
  | exact (looM_d hM hj_1 f_5_1_0 q_8 e_12 c_13 (by assumption) (by assumption) (by assumption) (by assumption) (by assumption)).2.2.1
  | exact (looM_d hM hj_1 f_5_1_0 q_8 e_12 c_13 (by assumption) (by assumption) (by assumption) (by assumption) (by assumption)).2.2.2
set_option maxHeartbeats 4000000 in
set_option maxRecDepth 100000 in
theorem r_X8_loose (l : Launch) (dC : Nat → ClassId) (dI : Nat → Nat → Nat) (cI cZ cL cJ : ClassId) (sz : Nat) (mo : Nat) (m_la : Nat) (m_sz : Nat) (m_it : Nat) (m_st : Nat) (m_mv : Nat) (m_tp : Nat) (m_rd : Nat) (m_ac : Nat) (m_as : Nat) (m_wo : Nat) (m_ik : Nat) (m_ke : Nat) (m_tr : Nat) (ms : Int32) (mt : Int32) (ml : Int32) (mk : Int32) (mv : Int32) (mb : Int32) (mw : Int32) (mz : Nat) (mp : Nat) (ma : Nat) (mx : Nat) (fs : Nat → Int32) (w9 : Nat) (k9 : Nat) (h9 : Nat) (fc : Nat → Int32) (a0 : Int32) (a1 : Int32) (a2 : Int32) (hM : okM fs w9 k9 h9) (hT : ¬ mt = 0 → 1 ≤ k9) (h999 : h9 ≤ 999) (hT0 : mt = 0 → fs 0 = 0 ∧ ma = 0) (hac : okA fc ma) (hma : ma ≤ 24) : Met l yX8_loose wsX8_loose ({ frames := 2, cells := 0, slots := 0, locals := 46 }) (va_Pc [.ref mo, .int a0, .int a1, .int a2] (fun U => U.heap.size = sz ∧ va_P (dC, dI) vwCl [(xo_8_rrriirrriiiiiiirrirrrrri mo m_la m_sz m_it ms mt m_st m_mv m_tp (nI mz) ml (nI mp) mk mv mb mw m_rd m_ac (nI ma) m_as m_wo m_ik m_ke m_tr (nI mx)), (xI m_st cI 38 fs), (xI m_ac cI 912 fc)] U.heap ∧ va_K (dC, dI) vwCl [(cI, .int), (cZ, .boolean), (cL, .object RX3), (cJ, .array .int)] U ∧ va_D (fun _ => True) [(xo_8_rrriirrriiiiiiirrirrrrri mo m_la m_sz m_it ms mt m_st m_mv m_tp (nI mz) ml (nI mp) mk mv mb mw m_rd m_ac (nI ma) m_as m_wo m_ik m_ke m_tr (nI mx)), (xI m_st cI 38 fs), (xI m_ac cI 912 fc)])) (va_Qi (fun r (_ : Unit) => r = (a_loose (m38 fs) a0 a1 a2)) (fun (_ : Unit) t => ∃ (fsn : Nat → Int32) (fcn : Nat → Int32) (man : Nat) (w9n : Nat) (k9n : Nat) (h9n : Nat), va_P (dC, dI) vwCl [(xo_8_rrriirrriiiiiiirrirrrrri mo m_la m_sz m_it ms mt m_st m_mv m_tp (nI mz) ml (nI mp) mk mv mb mw m_rd m_ac (nI man) m_as m_wo m_ik m_ke m_tr (nI mx)), (xI m_st cI 38 fsn), (xI m_ac cI 912 fcn)] t.heap ∧ va_D (va_A [(xo_8_rrriirrriiiiiiirrirrrrri mo m_la m_sz m_it ms mt m_st m_mv m_tp (nI mz) ml (nI mp) mk mv mb mw m_rd m_ac (nI ma) m_as m_wo m_ik m_ke m_tr (nI mx)), (xI m_st cI 38 fs), (xI m_ac cI 912 fc)] sz) [(xo_8_rrriirrriiiiiiirrirrrrri mo m_la m_sz m_it ms mt m_st m_mv m_tp (nI mz) ml (nI mp) mk mv mb mw m_rd m_ac (nI man) m_as m_wo m_ik m_ke m_tr (nI mx)), (xI m_st cI 38 fsn), (xI m_ac cI 912 fcn)] ∧ okM fsn w9n k9n h9n ∧ (¬ mt = 0 → 1 ≤ k9n) ∧ h9n ≤ 999 ∧ okA fcn man ∧ man ≤ 24 ∧ (mt = 0 → fsn 0 = 0 ∧ man = 0) ∧ m38 fsn = n_loose (m38 fs) a0 a1 a2 ∧ man = kpN (gd_loose (m38 fs) a0 a1 a2) ma ∧ acM fcn man = kpA (gd_loose (m38 fs) a0 a1 a2) (m38 fs) ma (acM fc ma)) (va_A [(xo_8_rrriirrriiiiiiirrirrrrri mo m_la m_sz m_it ms mt m_st m_mv m_tp (nI mz) ml (nI mp) mk mv mb mw m_rd m_ac (nI ma) m_as m_wo m_ik m_ke m_tr (nI mx)), (xI m_st cI 38 fs), (xI m_ac cI 912 fc)] sz)) 0 0 (va_A [(xo_8_rrriirrriiiiiiirrirrrrri mo m_la m_sz m_it ms mt m_st m_mv m_tp (nI mz) ml (nI mp) mk mv mb mw m_rd m_ac (nI ma) m_as m_wo m_ik m_ke m_tr (nI mx)), (xI m_st cI 38 fs), (xI m_ac cI 912 fc)] sz) := by
  refine Met.ofW (cc := cX8_loose) (maxL := 4) (ret := (some .int)) (by decide) rfl ?_
  intro p e s m args below meth c s₁ B hml hv
  obtain ⟨rfl, hsz, hP, hK, hD0⟩ := hv
  have hx := B.exec
  have hb := B.bytes
  have hr := B.returns
  have hts := atoms_spec (ws := wsX8_loose) B.pre
  have hown : s.vm.findClass RX8 = some m.cls := findClass_of_methodNamed B.named
  have hlocks := B.notSynchronized
  subst hsz
  have hD := hD0.self (sz := s.heap.size)
  generalize hAe : va_A [(xo_8_rrriirrriiiiiiirrirrrrri mo m_la m_sz m_it ms mt m_st m_mv m_tp (nI mz) ml (nI mp) mk mv mb mw m_rd m_ac (nI ma) m_as m_wo m_ik m_ke m_tr (nI mx)), (xI m_st cI 38 fs), (xI m_ac cI 912 fc)] s.heap.size = A at hD ⊢
  have hA : ∀ q : Nat, s.heap.size ≤ q → A q := fun q h => by rw [← hAe]; exact Or.inr h
  have hS : va_S A s.heap s.heap [] := va_S.rf
  have hP : va_P (dC, dI) vwCl [(xo_8_rrriirrriiiiiiirrirrrrri mo m_la m_sz m_it ms mt m_st m_mv m_tp (nI mz) ml (nI mp) mk mv mb mw m_rd m_ac (nI ma) m_as m_wo m_ik m_ke m_tr (nI mx)), (xI m_st cI 38 fs), (xI m_ac cI 912 fc)] s.heap := hP
  have hl := lv_entry ([.ref mo, .int a0, .int a1, .int a2]) (n := 4) (Nat.le_of_ble_eq_true rfl)
  rw [lg_entry_eq]
  generalize (lg_sl ([.ref mo, .int a0, .int a1, .int a2]) ++ List.replicate (4 - (lg_sl ([.ref mo, .int a0, .int a1, .int a2])).length) Slot.unset).toArray = ls at hl ⊢
  have hl : lv_has ls 4 [(0, .ref mo), (1, .int a0), (2, .int a1), (3, .int a2)] := hl
  have hk6 := hM.2.2.2.2.1
  have hw6 := hM.2.2.2.1
  refine lv_aload_n hx hb dX8_loose_0 rfl (lv_at hl 0 rfl) ?_
  refine lv_iload_n hx hb dX8_loose_1 rfl (lv_at hl 1 rfl) ?_
  have hPc_1 := hP.sub (ws' := [(xo_8_rrriirrriiiiiiirrirrrrri mo m_la m_sz m_it ms mt m_st m_mv m_tp (nI mz) ml (nI mp) mk mv mb mw m_rd m_ac (nI ma) m_as m_wo m_ik m_ke m_tr (nI mx)), (xI m_st cI 38 fs)]) [0, 1] rfl
  refine vp_callSi (W.runV (As := [.int a0]) (rest := []) ⟨hx, hb, hml, hown, hts⟩ (r_X8_isSound l dC dI cI cZ cL cJ mo m_la m_sz m_it m_st m_mv m_tp m_rd m_ac m_as m_wo m_ik m_ke m_tr ms mt ml mk mv mb mw mz mp ma mx fs w9 k9 h9 a0 (hM)) (cwV 1 hts gX8_loose_X8_isSound rfl rfl rfl (by decide +kernel) ⟨Nat.le_of_ble_eq_true rfl, Nat.le_of_ble_eq_true rfl⟩) (pvP 8 0 hK hP rfl rfl hPc_1) rfl rfl hl.1 rfl (lv_room (Nat.le_of_ble_eq_true rfl)) dX8_loose_2 ⟨Nat.le_of_ble_eq_true rfl, Nat.le_of_ble_eq_true rfl⟩) (fun r_1 h_1 => ?_)
  rcases h_1 with ⟨h_1, f_1_0_0⟩ | ⟨h_1, f_1_1_0⟩
  · subst h_1
    refine lv_if_eq (tgt := 28) hx hb dX8_loose_5 (by decide) (fun _ => ?_) (fun c_ => absurd (by decide) c_)
    refine lv_ldc (own := RX8) (v := (-1000001)) hx hb hown (hts _ mx_X8_loose_2) dX8_loose_28 ?_
    have hX9 := cut2 (wc := [(xo_8_rrriirrriiiiiiirrirrrrri mo m_la m_sz m_it ms mt m_st m_mv m_tp (nI mz) ml (nI mp) mk mv mb mw m_rd m_ac (nI ma) m_as m_wo m_ik m_ke m_tr (nI mx)), (xI m_st cI 38 fs), (xI m_ac cI 912 fc)]) hP hD [0, 1, 2] (by decide +kernel) rfl
    exact W.iret (v := (-1000001)) hx hb hr (fun t ht hW => ⟨⟨(-1000001), (), rfl, (lf_X8_loose_5 hM hT h999 hT0 hac hma f_1_0_0), ⟨fs, fc, ma, w9, k9, h9, va_Ht ht hX9.1, hX9.2, hM, hT, (by omega), hac, (by omega), (lf_X8_loose_1 hM hT h999 hT0 hac hma f_1_0_0), (lf_X8_loose_2 hM hT h999 hT0 hac hma f_1_0_0), (lf_X8_loose_3 hM hT h999 hT0 hac hma f_1_0_0), (lf_X8_loose_4 hM hT h999 hT0 hac hma f_1_0_0)⟩⟩, hS.F ht⟩) hS.2.2 dX8_loose_30
  · subst h_1
    obtain ⟨j_1, hj_1, rfl⟩ := vp_in_of f_1_1_0 (by omega)
    have hkn1 : 1 ≤ k9 := by omega
    have hw1 := hM.2.2.2.2.2.1.mp hkn1
    have h01 : ¬ fs 0 = 0 := cell_nz hM hkn1
    refine lv_if_eq (tgt := 28) hx hb dX8_loose_5 (by decide) (fun c_ => absurd c_ (by decide)) (fun _ => ?_)
    refine lv_aload_n hx hb dX8_loose_8 rfl (lv_at hl 0 rfl) ?_
    refine lv_iload_n hx hb dX8_loose_9 rfl (lv_at hl 2 rfl) ?_
    have hPc_5 := hP.sub (ws' := [(xo_8_rrriirrriiiiiiirrirrrrri mo m_la m_sz m_it ms mt m_st m_mv m_tp (nI mz) ml (nI mp) mk mv mb mw m_rd m_ac (nI ma) m_as m_wo m_ik m_ke m_tr (nI mx)), (xI m_st cI 38 fs)]) [0, 1] rfl
    refine vp_callSi (W.runV (As := [.int a1]) (rest := []) ⟨hx, hb, hml, hown, hts⟩ (r_X8_isCell l dC dI cI cZ cL cJ mo m_la m_sz m_it m_st m_mv m_tp m_rd m_ac m_as m_wo m_ik m_ke m_tr ms mt ml mk mv mb mw mz mp ma mx fs w9 k9 h9 a1 (hM)) (cwV 1 hts gX8_loose_X8_isCell rfl rfl rfl (by decide +kernel) ⟨Nat.le_of_ble_eq_true rfl, Nat.le_of_ble_eq_true rfl⟩) (pvP 8 0 hK hP rfl rfl hPc_5) rfl rfl hl.1 rfl (lv_room (Nat.le_of_ble_eq_true rfl)) dX8_loose_10 ⟨Nat.le_of_ble_eq_true rfl, Nat.le_of_ble_eq_true rfl⟩) (fun r_5 h_5 => ?_)
    rcases h_5 with ⟨h_5, f_5_0_0⟩ | ⟨h_5, f_5_1_0⟩
    · subst h_5
      refine lv_if_eq (tgt := 28) hx hb dX8_loose_13 (by decide) (fun _ => ?_) (fun c_ => absurd (by decide) c_)
      refine lv_ldc (own := RX8) (v := (-1000001)) hx hb hown (hts _ mx_X8_loose_2) dX8_loose_28 ?_
      have hX9 := cut2 (wc := [(xo_8_rrriirrriiiiiiirrirrrrri mo m_la m_sz m_it ms mt m_st m_mv m_tp (nI mz) ml (nI mp) mk mv mb mw m_rd m_ac (nI ma) m_as m_wo m_ik m_ke m_tr (nI mx)), (xI m_st cI 38 fs), (xI m_ac cI 912 fc)]) hP hD [0, 1, 2] (by decide +kernel) rfl
      exact W.iret (v := (-1000001)) hx hb hr (fun t ht hW => ⟨⟨(-1000001), (), rfl, (lf_X8_loose_10 hM hT h999 hT0 hac hma hj_1 hkn1 hw1 h01 f_5_0_0), ⟨fs, fc, ma, w9, k9, h9, va_Ht ht hX9.1, hX9.2, hM, hT, (by omega), hac, (by omega), (lf_X8_loose_6 hM hT h999 hT0 hac hma hj_1 hkn1 hw1 h01 f_5_0_0), (lf_X8_loose_7 hM hT h999 hT0 hac hma hj_1 hkn1 hw1 h01 f_5_0_0), (lf_X8_loose_8 hM hT h999 hT0 hac hma hj_1 hkn1 hw1 h01 f_5_0_0), (lf_X8_loose_9 hM hT h999 hT0 hac hma hj_1 hkn1 hw1 h01 f_5_0_0)⟩⟩, hS.F ht⟩) hS.2.2 dX8_loose_30
    · subst h_5
      refine lv_if_eq (tgt := 28) hx hb dX8_loose_13 (by decide) (fun c_ => absurd c_ (by decide)) (fun _ => ?_)
      refine lv_iload_n hx hb dX8_loose_16 rfl (lv_at hl 3 rfl) ?_
      refine lv_i2l hx hb dX8_loose_17 rfl ?_
      refine lv_lconst (v := 1) hx hb dX8_loose_18 (by decide) ?_
      refine lv_ldc2 (own := RX8) (v := 20) hx hb hown (hts _ mx_X8_loose_1) dX8_loose_19 ?_
      have hPc_8 := hP.sub (ws' := []) [] rfl
      refine vp_callSi (W.runS (As := [.long (a2).toInt64, .long 1, .long 20]) (rest := []) ⟨hx, hb, hml, hown, hts⟩ (r_X8_in l dC dI cI cZ cL cJ ((a2).toInt64) 1 20 ) (va_cwS 3 hts gX8_loose_X8_in rfl rfl rfl (by decide +kernel) ⟨Nat.le_of_ble_eq_true rfl, Nat.le_of_ble_eq_true rfl⟩) (psP hK hPc_8) rfl rfl hl.1 rfl (lv_room (Nat.le_of_ble_eq_true rfl)) dX8_loose_22 ⟨Nat.le_of_ble_eq_true rfl, Nat.le_of_ble_eq_true rfl⟩) (fun r_8 h_8 => ?_)
      rcases h_8 with ⟨h_8, f_8_0_0⟩ | ⟨h_8, f_8_1_0⟩
      · subst h_8
        have q_8 : (a2 < 1 ∨ 20 < a2) := (in32 (x := a2) (l := 1) (u := 20) (by decide) (by decide)).mp f_8_0_0
        refine lv_if_ne (tgt := 31) hx hb dX8_loose_25 (by decide) (fun c_ => absurd (by decide) c_) (fun _ => ?_)
        refine lv_ldc (own := RX8) (v := (-1000001)) hx hb hown (hts _ mx_X8_loose_2) dX8_loose_28 ?_
        have hX9 := cut2 (wc := [(xo_8_rrriirrriiiiiiirrirrrrri mo m_la m_sz m_it ms mt m_st m_mv m_tp (nI mz) ml (nI mp) mk mv mb mw m_rd m_ac (nI ma) m_as m_wo m_ik m_ke m_tr (nI mx)), (xI m_st cI 38 fs), (xI m_ac cI 912 fc)]) hP hD [0, 1, 2] (by decide +kernel) rfl
        exact W.iret (v := (-1000001)) hx hb hr (fun t ht hW => ⟨⟨(-1000001), (), rfl, (lf_X8_loose_15 hM hT h999 hT0 hac hma hj_1 hkn1 hw1 h01 f_5_1_0 f_8_0_0 q_8), ⟨fs, fc, ma, w9, k9, h9, va_Ht ht hX9.1, hX9.2, hM, hT, (by omega), hac, (by omega), (lf_X8_loose_11 hM hT h999 hT0 hac hma hj_1 hkn1 hw1 h01 f_5_1_0 f_8_0_0 q_8), (lf_X8_loose_12 hM hT h999 hT0 hac hma hj_1 hkn1 hw1 h01 f_5_1_0 f_8_0_0 q_8), (lf_X8_loose_13 hM hT h999 hT0 hac hma hj_1 hkn1 hw1 h01 f_5_1_0 f_8_0_0 q_8), (lf_X8_loose_14 hM hT h999 hT0 hac hma hj_1 hkn1 hw1 h01 f_5_1_0 f_8_0_0 q_8)⟩⟩, hS.F ht⟩) hS.2.2 dX8_loose_30
      · subst h_8
        have q_8 : ¬ (a2 < 1 ∨ 20 < a2) := fun q_ => f_8_1_0 ((in32 (x := a2) (l := 1) (u := 20) (by decide) (by decide)).mpr q_)
        obtain ⟨j_8, hj_8, hl_8, rfl⟩ := in64 (lo := 1) (n := 20) rfl rfl (by decide) f_8_1_0
        refine lv_if_ne (tgt := 31) hx hb dX8_loose_25 (by decide) (fun _ => ?_) (fun c_ => absurd c_ (by decide))
        refine lv_aload_n hx hb dX8_loose_31 rfl (lv_at hl 0 rfl) ?_
        refine va_get (D := (dC, dI)) (ci := 8) (v := .ref m_st) (C := RX8) (T := TX8) (N := 24) hx hb hts i_X8_loose_X8 hown hK hP 0 rfl rfl 5 (by decide) (hts _ mx_X8_loose_3) (fun _ h9 => h9) rfl dX8_loose_32 ?_
        refine lv_bipush (v := 26) hx hb dX8_loose_35 (by decide) ?_
        refine lv_iload_n hx hb dX8_loose_37 rfl (lv_at hl 1 rfl) ?_
        refine lv_iadd hx hb dX8_loose_38 ?_
        refine lv_topi (fun v_11 e_11 => ?_)
        obtain rfl : v_11 = (nI (26 + j_1)) := (e_11).trans (nI_add 26 j_1)
        refine va_iald hx hb hK hP 1 0 rfl rfl (vp_in_nI (by omega) (by omega)) dX8_loose_39 ?_
        refine lv_topi (fun v_12 e_12 => ?_)
        have e_12 : v_12 = fs (26 + j_1) := e_12.trans (congrArg fs (nI_clamp (by omega)))
        refine lv_if_ne (tgt := 46) hx hb dX8_loose_40 (by decide) (fun c_13 => ?_) (fun c_13 => ?_)
        · skip
          refine lv_aload_n hx hb dX8_loose_46 rfl (lv_at hl 0 rfl) ?_
          have hc_14 := cutW (wc := [(xo_8_rrriirrriiiiiiirrirrrrri mo m_la m_sz m_it ms mt m_st m_mv m_tp (nI mz) ml (nI mp) mk mv mb mw m_rd m_ac (nI ma) m_as m_wo m_ik m_ke m_tr (nI mx)), (xI m_st cI 38 fs), (xI m_ac cI 912 fc)]) hP hD hS hA [0, 1, 2] (by decide +kernel) rfl
          refine va_callv (va_runV (As := []) (rest := []) ⟨hx, hb, hml, hown, hts⟩ (r_X8_note l dC dI cI cZ cL cJ s.heap.size mo m_la m_sz m_it m_st m_mv m_tp m_rd m_ac m_as m_wo m_ik m_ke m_tr ms mt ml mk mv mb mw mz mp ma mx fs fc (hac) (by omega) (⟨w9, k9, h9, hM, hkn1, by omega⟩)) (cwV 0 hts gX8_loose_X8_note rfl rfl rfl (by decide +kernel) ⟨Nat.le_of_ble_eq_true rfl, Nat.le_of_ble_eq_true rfl⟩) (pvW 8 0 hK hP rfl rfl hc_14) rfl rfl hl.1 rfl (lv_room (Nat.le_of_ble_eq_true rfl)) dX8_loose_47 ⟨Nat.le_of_ble_eq_true rfl, Nat.le_of_ble_eq_true rfl⟩) hS (fun q _ h => hc_14.2.2 q h) hc_14.2.2 (fun u_14 t_14 H1 locs ht hvm h_14 hB hz1 hk1 hS => ?_)
          refine xl_2_7 hB (fun fcn_14 man_14 hP1 hD1 hF_14_0 hF_14_1 hF_14_2 hF_14_3 hF_14_4 => ?_)
          clear hB
          rw [ht] at hP1
          obtain ⟨hP, hD⟩ := va_join (wr := []) (w1 := [(xo_8_rrriirrriiiiiiirrirrrrri mo m_la m_sz m_it ms mt m_st m_mv m_tp (nI mz) ml (nI mp) mk mv mb mw m_rd m_ac (nI man_14) m_as m_wo m_ik m_ke m_tr (nI mx)), (xI m_st cI 38 fs), (xI m_ac cI 912 fcn_14)]) hP hD [0, 1, 2] [] rfl rfl (by decide +kernel) (by decide +kernel) hk1 hc_14.2.2 hP1 hD1
          generalize H1 = H at hP hS ⊢
          have hP : va_P (dC, dI) vwCl [(xo_8_rrriirrriiiiiiirrirrrrri mo m_la m_sz m_it ms mt m_st m_mv m_tp (nI mz) ml (nI mp) mk mv mb mw m_rd m_ac (nI man_14) m_as m_wo m_ik m_ke m_tr (nI mx)), (xI m_st cI 38 fs), (xI m_ac cI 912 fcn_14)] H := hP
          have hD := dto hP hD
          refine lv_aload_n hx hb dX8_loose_50 rfl (lv_at hl 0 rfl) ?_
          refine lv_iload_n hx hb dX8_loose_51 rfl (lv_at hl 1 rfl) ?_
          refine lv_iload_n hx hb dX8_loose_52 rfl (lv_at hl 2 rfl) ?_
          refine lv_iload_n hx hb dX8_loose_53 rfl (lv_at hl 3 rfl) ?_
          have hc_15 := cutW (wc := [(xo_8_rrriirrriiiiiiirrirrrrri mo m_la m_sz m_it ms mt m_st m_mv m_tp (nI mz) ml (nI mp) mk mv mb mw m_rd m_ac (nI man_14) m_as m_wo m_ik m_ke m_tr (nI mx)), (xI m_st cI 38 fs)]) hP hD hS hA [0, 1] (by decide +kernel) rfl
          refine va_callv (va_runV (As := [.int (nI j_1), .int a1, .int (nI j_8)]) (rest := []) ⟨hx, hb, hml, hown, hts⟩ (r_X8_letLoose l dC dI cI cZ cL cJ H.size mo m_la m_sz m_it m_st m_mv m_tp m_rd m_ac m_as m_wo m_ik m_ke m_tr ms mt ml mk mv mb mw mz mp man_14 mx fs w9 k9 h9 j_1 j_8 a1 (hM) (by omega) (by omega) (by omega)) (cwV 3 hts gX8_loose_X8_letLoose rfl rfl rfl (by decide +kernel) ⟨Nat.le_of_ble_eq_true rfl, Nat.le_of_ble_eq_true rfl⟩) (pvW 8 0 hK hP rfl rfl hc_15) rfl rfl hl.1 rfl (lv_room (Nat.le_of_ble_eq_true rfl)) dX8_loose_54 ⟨Nat.le_of_ble_eq_true rfl, Nat.le_of_ble_eq_true rfl⟩) hS (fun q _ h => hc_15.2.2 q h) hc_15.2.2 (fun u_15 t_15 H1 locs ht hvm h_15 hB hz1 hk1 hS => ?_)
          refine xl_1_4 hB (fun fsn_15 hP1 hD1 hF_15_0 hF_15_1 => ?_)
          clear hB
          rw [ht] at hP1
          obtain ⟨hP, hD⟩ := va_join (wr := [(xI m_ac cI 912 fcn_14)]) (w1 := [(xo_8_rrriirrriiiiiiirrirrrrri mo m_la m_sz m_it ms mt m_st m_mv m_tp (nI mz) ml (nI mp) mk mv mb mw m_rd m_ac (nI man_14) m_as m_wo m_ik m_ke m_tr (nI mx)), (xI m_st cI 38 fsn_15)]) hP hD [0, 1] [2] rfl rfl (by decide +kernel) (by decide +kernel) hk1 hc_15.2.2 hP1 hD1
          generalize H1 = H at hP hS ⊢
          have hP : va_P (dC, dI) vwCl [(xI m_ac cI 912 fcn_14), (xo_8_rrriirrriiiiiiirrirrrrri mo m_la m_sz m_it ms mt m_st m_mv m_tp (nI mz) ml (nI mp) mk mv mb mw m_rd m_ac (nI man_14) m_as m_wo m_ik m_ke m_tr (nI mx)), (xI m_st cI 38 fsn_15)] H := hP
          have hD := dto hP hD
          refine lv_aload_n hx hb dX8_loose_57 rfl (lv_at hl 0 rfl) ?_
          refine lv_iconst (v := 0) hx hb dX8_loose_58 (by decide) ?_
          have hPc_16 := hP.sub (ws' := [(xo_8_rrriirrriiiiiiirrirrrrri mo m_la m_sz m_it ms mt m_st m_mv m_tp (nI mz) ml (nI mp) mk mv mb mw m_rd m_ac (nI man_14) m_as m_wo m_ik m_ke m_tr (nI mx)), (xI m_st cI 38 fsn_15)]) [1, 2] rfl
          refine vp_callSi (W.runV (As := [.int 0]) (rest := []) ⟨hx, hb, hml, hown, hts⟩ (r_X8_those l dC dI cI cZ cL cJ mo m_la m_sz m_it m_st m_mv m_tp m_rd m_ac m_as m_wo m_ik m_ke m_tr ms mt ml mk mv mb mw mz mp man_14 mx fsn_15 w9 k9 h9 0 (hF_15_0)) (cwV 1 hts gX8_loose_X8_those rfl rfl rfl (by decide +kernel) ⟨Nat.le_of_ble_eq_true rfl, Nat.le_of_ble_eq_true rfl⟩) (pvP 8 1 hK hP rfl rfl hPc_16) rfl rfl hl.1 rfl (lv_room (Nat.le_of_ble_eq_true rfl)) dX8_loose_59 ⟨Nat.le_of_ble_eq_true rfl, Nat.le_of_ble_eq_true rfl⟩) (fun r_16 h_16 => ?_)
          obtain ⟨j_16, rfl, hz_16_0, hz_16_1⟩ := h_16
          have hX9 := cut2 (wc := [(xo_8_rrriirrriiiiiiirrirrrrri mo m_la m_sz m_it ms mt m_st m_mv m_tp (nI mz) ml (nI mp) mk mv mb mw m_rd m_ac (nI man_14) m_as m_wo m_ik m_ke m_tr (nI mx)), (xI m_st cI 38 fsn_15), (xI m_ac cI 912 fcn_14)]) hP hD [1, 2, 0] (by decide +kernel) rfl
          exact W.iret (v := (nI j_16)) hx hb hr (fun t ht hW => ⟨⟨(nI j_16), (), rfl, (lf_X8_loose_20 hM hT h999 hT0 hac hma hj_1 hkn1 hw1 h01 f_5_1_0 f_8_1_0 q_8 hj_8 e_12 c_13 hF_14_0 hF_14_1 hF_14_2 hF_14_3 hF_14_4 hF_15_0 hF_15_1 hz_16_0 hz_16_1), ⟨fsn_15, fcn_14, man_14, w9, k9, h9, va_Ht ht hX9.1, hX9.2, hF_15_0, hT, (by omega), hF_14_0, (by omega), (lf_X8_loose_16 hM hT h999 hT0 hac hma hj_1 hkn1 hw1 h01 f_5_1_0 f_8_1_0 q_8 hj_8 e_12 c_13 hF_14_0 hF_14_1 hF_14_2 hF_14_3 hF_14_4 hF_15_0 hF_15_1 hz_16_0 hz_16_1), (lf_X8_loose_17 hM hT h999 hT0 hac hma hj_1 hkn1 hw1 h01 f_5_1_0 f_8_1_0 q_8 hj_8 e_12 c_13 hF_14_0 hF_14_1 hF_14_2 hF_14_3 hF_14_4 hF_15_0 hF_15_1 hz_16_0 hz_16_1), (lf_X8_loose_18 hM hT h999 hT0 hac hma hj_1 hkn1 hw1 h01 f_5_1_0 f_8_1_0 q_8 hj_8 e_12 c_13 hF_14_0 hF_14_1 hF_14_2 hF_14_3 hF_14_4 hF_15_0 hF_15_1 hz_16_0 hz_16_1), (lf_X8_loose_19 hM hT h999 hT0 hac hma hj_1 hkn1 hw1 h01 f_5_1_0 f_8_1_0 q_8 hj_8 e_12 c_13 hF_14_0 hF_14_1 hF_14_2 hF_14_3 hF_14_4 hF_15_0 hF_15_1 hz_16_0 hz_16_1)⟩⟩, hS.F ht⟩) hS.2.2 dX8_loose_62
        · skip
          refine lv_ldc (own := RX8) (v := (-1000002)) hx hb hown (hts _ mx_X8_loose_4) dX8_loose_43 ?_
          have hX9 := cut2 (wc := [(xo_8_rrriirrriiiiiiirrirrrrri mo m_la m_sz m_it ms mt m_st m_mv m_tp (nI mz) ml (nI mp) mk mv mb mw m_rd m_ac (nI ma) m_as m_wo m_ik m_ke m_tr (nI mx)), (xI m_st cI 38 fs), (xI m_ac cI 912 fc)]) hP hD [0, 1, 2] (by decide +kernel) rfl
          exact W.iret (v := (-1000002)) hx hb hr (fun t ht hW => ⟨⟨(-1000002), (), rfl, (lf_X8_loose_25 hM hT h999 hT0 hac hma hj_1 hkn1 hw1 h01 f_5_1_0 f_8_1_0 q_8 hj_8 e_12 c_13), ⟨fs, fc, ma, w9, k9, h9, va_Ht ht hX9.1, hX9.2, hM, hT, (by omega), hac, (by omega), (lf_X8_loose_21 hM hT h999 hT0 hac hma hj_1 hkn1 hw1 h01 f_5_1_0 f_8_1_0 q_8 hj_8 e_12 c_13), (lf_X8_loose_22 hM hT h999 hT0 hac hma hj_1 hkn1 hw1 h01 f_5_1_0 f_8_1_0 q_8 hj_8 e_12 c_13), (lf_X8_loose_23 hM hT h999 hT0 hac hma hj_1 hkn1 hw1 h01 f_5_1_0 f_8_1_0 q_8 hj_8 e_12 c_13), (lf_X8_loose_24 hM hT h999 hT0 hac hma hj_1 hkn1 hw1 h01 f_5_1_0 f_8_1_0 q_8 hj_8 e_12 c_13)⟩⟩, hS.F ht⟩) hS.2.2 dX8_loose_45
theorem lf_X8_sell_1 {mt : Int32} {ma : Nat} {fs : Nat → Int32} {w9 : Nat} {k9 : Nat} {h9 : Nat} {fc : Nat → Int32} {a0 : Int32} (hM : okM fs w9 k9 h9) (hT : ¬ mt = 0 → 1 ≤ k9) (h999 : h9 ≤ 999) (hT0 : mt = 0 → fs 0 = 0 ∧ ma = 0) (hac : okA fc ma) (hma : ma ≤ 24) (c_1 : ¬ (mt = 0)) (hkn1 : 1 ≤ k9) (hw1 : 1 ≤ w9) (h01 : ¬ fs 0 = 0) (f_2_0_0 : ((a0).toInt64 < 1 ∨ 999 < (a0).toInt64)) (q_2 : (a0 < 1 ∨ 999 < a0)) : (mt = 0 → fs 0 = 0 ∧ ma = 0) := by
  have hw6 := hM.2.2.2.1
  have hk6 := hM.2.2.2.2.1
  first
  | exact hT0
  | (intro h_; exact absurd (hT0 h_).1 h01)
  | (intro h_; have h9 := (hT0 h_).2; omega)
  | exact (selM_0 (ma := ma) (A := acM fc ma) h00).1
  | exact (selM_0 (ma := ma) (A := acM fc ma) h00).2.1
  | exact (selM_0 (ma := ma) (A := acM fc ma) h00).2.2.1
  | exact (selM_0 (ma := ma) (A := acM fc ma) h00).2.2.2
  | exact (selM_1 (ma := ma) (A := acM fc ma) h01 q_2).1
  | exact (selM_1 (ma := ma) (A := acM fc ma) h01 q_2).2.1
  | exact (selM_1 (ma := ma) (A := acM fc ma) h01 q_2).2.2.1
  | exact (selM_1 (ma := ma) (A := acM fc ma) h01 q_2).2.2.2
  | exact (selM_2 (ma := ma) (A := acM fc ma) h01 q_2 e_5 c_6).1
  | exact (selM_2 (ma := ma) (A := acM fc ma) h01 q_2 e_5 c_6).2.1
  | exact (selM_2 (ma := ma) (A := acM fc ma) h01 q_2 e_5 c_6).2.2.1
  | exact (selM_2 (ma := ma) (A := acM fc ma) h01 q_2 e_5 c_6).2.2.2
  | exact (selM_d h01 q_2 e_5 c_6 (by assumption) (by assumption) (by assumption) (by assumption) (by assumption) (by assumption)).1
  | exact (selM_d h01 q_2 e_5 c_6 (by assumption) (by assumption) (by assumption) (by assumption) (by assumption) (by assumption)).2.1
  | exact (selM_d h01 q_2 e_5 c_6 (by assumption) (by assumption) (by assumption) (by assumption) (by assumption) (by assumption)).2.2.1
  | exact (selM_d h01 q_2 e_5 c_6 (by assumption) (by assumption) (by assumption) (by assumption) (by assumption) (by assumption)).2.2.2
theorem lf_X8_sell_2 {mt : Int32} {ma : Nat} {fs : Nat → Int32} {w9 : Nat} {k9 : Nat} {h9 : Nat} {fc : Nat → Int32} {a0 : Int32} (hM : okM fs w9 k9 h9) (hT : ¬ mt = 0 → 1 ≤ k9) (h999 : h9 ≤ 999) (hT0 : mt = 0 → fs 0 = 0 ∧ ma = 0) (hac : okA fc ma) (hma : ma ≤ 24) (c_1 : ¬ (mt = 0)) (hkn1 : 1 ≤ k9) (hw1 : 1 ≤ w9) (h01 : ¬ fs 0 = 0) (f_2_0_0 : ((a0).toInt64 < 1 ∨ 999 < (a0).toInt64)) (q_2 : (a0 < 1 ∨ 999 < a0)) : m38 fs = n_sell (m38 fs) a0 := by
  have hw6 := hM.2.2.2.1
  have hk6 := hM.2.2.2.2.1
  first
  | exact hT0
  | (intro h_; exact absurd (hT0 h_).1 h01)
  | (intro h_; have h9 := (hT0 h_).2; omega)
  | exact (selM_0 (ma := ma) (A := acM fc ma) h00).1
  | exact (selM_0 (ma := ma) (A := acM fc ma) h00).2.1
  | exact (selM_0 (ma := ma) (A := acM fc ma) h00).2.2.1
  | exact (selM_0 (ma := ma) (A := acM fc ma) h00).2.2.2
  | exact (selM_1 (ma := ma) (A := acM fc ma) h01 q_2).1
  | exact (selM_1 (ma := ma) (A := acM fc ma) h01 q_2).2.1
  | exact (selM_1 (ma := ma) (A := acM fc ma) h01 q_2).2.2.1
  | exact (selM_1 (ma := ma) (A := acM fc ma) h01 q_2).2.2.2
  | exact (selM_2 (ma := ma) (A := acM fc ma) h01 q_2 e_5 c_6).1
  | exact (selM_2 (ma := ma) (A := acM fc ma) h01 q_2 e_5 c_6).2.1
  | exact (selM_2 (ma := ma) (A := acM fc ma) h01 q_2 e_5 c_6).2.2.1
  | exact (selM_2 (ma := ma) (A := acM fc ma) h01 q_2 e_5 c_6).2.2.2
  | exact (selM_d h01 q_2 e_5 c_6 (by assumption) (by assumption) (by assumption) (by assumption) (by assumption) (by assumption)).1
  | exact (selM_d h01 q_2 e_5 c_6 (by assumption) (by assumption) (by assumption) (by assumption) (by assumption) (by assumption)).2.1
  | exact (selM_d h01 q_2 e_5 c_6 (by assumption) (by assumption) (by assumption) (by assumption) (by assumption) (by assumption)).2.2.1
  | exact (selM_d h01 q_2 e_5 c_6 (by assumption) (by assumption) (by assumption) (by assumption) (by assumption) (by assumption)).2.2.2
theorem lf_X8_sell_3 {mt : Int32} {ma : Nat} {fs : Nat → Int32} {w9 : Nat} {k9 : Nat} {h9 : Nat} {fc : Nat → Int32} {a0 : Int32} (hM : okM fs w9 k9 h9) (hT : ¬ mt = 0 → 1 ≤ k9) (h999 : h9 ≤ 999) (hT0 : mt = 0 → fs 0 = 0 ∧ ma = 0) (hac : okA fc ma) (hma : ma ≤ 24) (c_1 : ¬ (mt = 0)) (hkn1 : 1 ≤ k9) (hw1 : 1 ≤ w9) (h01 : ¬ fs 0 = 0) (f_2_0_0 : ((a0).toInt64 < 1 ∨ 999 < (a0).toInt64)) (q_2 : (a0 < 1 ∨ 999 < a0)) : ma = kpN (gd_sell (m38 fs) a0) ma := by
  have hw6 := hM.2.2.2.1
  have hk6 := hM.2.2.2.2.1
  first
  | exact hT0
  | (intro h_; exact absurd (hT0 h_).1 h01)
  | (intro h_; have h9 := (hT0 h_).2; omega)
  | exact (selM_0 (ma := ma) (A := acM fc ma) h00).1
  | exact (selM_0 (ma := ma) (A := acM fc ma) h00).2.1
  | exact (selM_0 (ma := ma) (A := acM fc ma) h00).2.2.1
  | exact (selM_0 (ma := ma) (A := acM fc ma) h00).2.2.2
  | exact (selM_1 (ma := ma) (A := acM fc ma) h01 q_2).1
  | exact (selM_1 (ma := ma) (A := acM fc ma) h01 q_2).2.1
  | exact (selM_1 (ma := ma) (A := acM fc ma) h01 q_2).2.2.1
  | exact (selM_1 (ma := ma) (A := acM fc ma) h01 q_2).2.2.2
  | exact (selM_2 (ma := ma) (A := acM fc ma) h01 q_2 e_5 c_6).1
  | exact (selM_2 (ma := ma) (A := acM fc ma) h01 q_2 e_5 c_6).2.1
  | exact (selM_2 (ma := ma) (A := acM fc ma) h01 q_2 e_5 c_6).2.2.1
  | exact (selM_2 (ma := ma) (A := acM fc ma) h01 q_2 e_5 c_6).2.2.2
  | exact (selM_d h01 q_2 e_5 c_6 (by assumption) (by assumption) (by assumption) (by assumption) (by assumption) (by assumption)).1
  | exact (selM_d h01 q_2 e_5 c_6 (by assumption) (by assumption) (by assumption) (by assumption) (by assumption) (by assumption)).2.1
  | exact (selM_d h01 q_2 e_5 c_6 (by assumption) (by assumption) (by assumption) (by assumption) (by assumption) (by assumption)).2.2.1
  | exact (selM_d h01 q_2 e_5 c_6 (by assumption) (by assumption) (by assumption) (by assumption) (by assumption) (by assumption)).2.2.2
theorem lf_X8_sell_4 {mt : Int32} {ma : Nat} {fs : Nat → Int32} {w9 : Nat} {k9 : Nat} {h9 : Nat} {fc : Nat → Int32} {a0 : Int32} (hM : okM fs w9 k9 h9) (hT : ¬ mt = 0 → 1 ≤ k9) (h999 : h9 ≤ 999) (hT0 : mt = 0 → fs 0 = 0 ∧ ma = 0) (hac : okA fc ma) (hma : ma ≤ 24) (c_1 : ¬ (mt = 0)) (hkn1 : 1 ≤ k9) (hw1 : 1 ≤ w9) (h01 : ¬ fs 0 = 0) (f_2_0_0 : ((a0).toInt64 < 1 ∨ 999 < (a0).toInt64)) (q_2 : (a0 < 1 ∨ 999 < a0)) : acM fc ma = kpA (gd_sell (m38 fs) a0) (m38 fs) ma (acM fc ma) := by
  have hw6 := hM.2.2.2.1
  have hk6 := hM.2.2.2.2.1
  first
  | exact hT0
  | (intro h_; exact absurd (hT0 h_).1 h01)
  | (intro h_; have h9 := (hT0 h_).2; omega)
  | exact (selM_0 (ma := ma) (A := acM fc ma) h00).1
  | exact (selM_0 (ma := ma) (A := acM fc ma) h00).2.1
  | exact (selM_0 (ma := ma) (A := acM fc ma) h00).2.2.1
  | exact (selM_0 (ma := ma) (A := acM fc ma) h00).2.2.2
  | exact (selM_1 (ma := ma) (A := acM fc ma) h01 q_2).1
  | exact (selM_1 (ma := ma) (A := acM fc ma) h01 q_2).2.1
  | exact (selM_1 (ma := ma) (A := acM fc ma) h01 q_2).2.2.1
  | exact (selM_1 (ma := ma) (A := acM fc ma) h01 q_2).2.2.2
  | exact (selM_2 (ma := ma) (A := acM fc ma) h01 q_2 e_5 c_6).1
  | exact (selM_2 (ma := ma) (A := acM fc ma) h01 q_2 e_5 c_6).2.1
  | exact (selM_2 (ma := ma) (A := acM fc ma) h01 q_2 e_5 c_6).2.2.1
  | exact (selM_2 (ma := ma) (A := acM fc ma) h01 q_2 e_5 c_6).2.2.2
  | exact (selM_d h01 q_2 e_5 c_6 (by assumption) (by assumption) (by assumption) (by assumption) (by assumption) (by assumption)).1
  | exact (selM_d h01 q_2 e_5 c_6 (by assumption) (by assumption) (by assumption) (by assumption) (by assumption) (by assumption)).2.1
  | exact (selM_d h01 q_2 e_5 c_6 (by assumption) (by assumption) (by assumption) (by assumption) (by assumption) (by assumption)).2.2.1
  | exact (selM_d h01 q_2 e_5 c_6 (by assumption) (by assumption) (by assumption) (by assumption) (by assumption) (by assumption)).2.2.2
theorem lf_X8_sell_5 {mt : Int32} {ma : Nat} {fs : Nat → Int32} {w9 : Nat} {k9 : Nat} {h9 : Nat} {fc : Nat → Int32} {a0 : Int32} (hM : okM fs w9 k9 h9) (hT : ¬ mt = 0 → 1 ≤ k9) (h999 : h9 ≤ 999) (hT0 : mt = 0 → fs 0 = 0 ∧ ma = 0) (hac : okA fc ma) (hma : ma ≤ 24) (c_1 : ¬ (mt = 0)) (hkn1 : 1 ≤ k9) (hw1 : 1 ≤ w9) (h01 : ¬ fs 0 = 0) (f_2_0_0 : ((a0).toInt64 < 1 ∨ 999 < (a0).toInt64)) (q_2 : (a0 < 1 ∨ 999 < a0)) : (-1000001) = (a_sell (m38 fs) a0) := by
  have hw6 := hM.2.2.2.1
  have hk6 := hM.2.2.2.2.1
  first
  | exact hT0
  | (intro h_; exact absurd (hT0 h_).1 h01)
  | (intro h_; have h9 := (hT0 h_).2; omega)
  | exact (selM_0 (ma := ma) (A := acM fc ma) h00).1
  | exact (selM_0 (ma := ma) (A := acM fc ma) h00).2.1
  | exact (selM_0 (ma := ma) (A := acM fc ma) h00).2.2.1
  | exact (selM_0 (ma := ma) (A := acM fc ma) h00).2.2.2
  | exact (selM_1 (ma := ma) (A := acM fc ma) h01 q_2).1
  | exact (selM_1 (ma := ma) (A := acM fc ma) h01 q_2).2.1
  | exact (selM_1 (ma := ma) (A := acM fc ma) h01 q_2).2.2.1
  | exact (selM_1 (ma := ma) (A := acM fc ma) h01 q_2).2.2.2
  | exact (selM_2 (ma := ma) (A := acM fc ma) h01 q_2 e_5 c_6).1
  | exact (selM_2 (ma := ma) (A := acM fc ma) h01 q_2 e_5 c_6).2.1
  | exact (selM_2 (ma := ma) (A := acM fc ma) h01 q_2 e_5 c_6).2.2.1
  | exact (selM_2 (ma := ma) (A := acM fc ma) h01 q_2 e_5 c_6).2.2.2
  | exact (selM_d h01 q_2 e_5 c_6 (by assumption) (by assumption) (by assumption) (by assumption) (by assumption) (by assumption)).1
  | exact (selM_d h01 q_2 e_5 c_6 (by assumption) (by assumption) (by assumption) (by assumption) (by assumption) (by assumption)).2.1
  | exact (selM_d h01 q_2 e_5 c_6 (by assumption) (by assumption) (by assumption) (by assumption) (by assumption) (by assumption)).2.2.1
  | exact (selM_d h01 q_2 e_5 c_6 (by assumption) (by assumption) (by assumption) (by assumption) (by assumption) (by assumption)).2.2.2
theorem lf_X8_sell_6 {mt : Int32} {ma : Nat} {fs : Nat → Int32} {w9 : Nat} {k9 : Nat} {h9 : Nat} {fc : Nat → Int32} {j_2 : Nat} {v_5 : Int32} {fcn_7 : Nat → Int32} {man_7 : Nat} {v_8 : Int32} {v_9 : Int32} {g_10 : Nat → Int32} {v_11 : Int32} (hM : okM fs w9 k9 h9) (hT : ¬ mt = 0 → 1 ≤ k9) (h999 : h9 ≤ 999) (hT0 : mt = 0 → fs 0 = 0 ∧ ma = 0) (hac : okA fc ma) (hma : ma ≤ 24) (c_1 : ¬ (mt = 0)) (hkn1 : 1 ≤ k9) (hw1 : 1 ≤ w9) (h01 : ¬ fs 0 = 0) (f_2_1_0 : (¬ (((nI j_2)).toInt64 < 1 ∨ 999 < ((nI j_2)).toInt64))) (q_2 : ¬ ((nI j_2) < 1 ∨ 999 < (nI j_2))) (hj_2 : j_2 ≤ 999) (e_5 : v_5 = fs 7) (c_6 : (nI j_2) ≤ v_5) (hF_7_0 : okA fcn_7 man_7) (hF_7_1 : man_7 ≤ 24) (hF_7_2 : 1 ≤ man_7) (hF_7_3 : acM fcn_7 man_7 = ntA (m38 fs) ma (acM fc ma)) (hF_7_4 : man_7 = ntN ma) (e_8 : v_8 = fs 7) (e_9 : v_9 = (v_8 - (nI j_2))) (hu_10 : g_10 = upd fs 7 v_9) (e_11 : v_11 = g_10 7) : (mt = 0 → g_10 0 = 0 ∧ man_7 = 0) := by
  have hw6 := hM.2.2.2.1
  have hk6 := hM.2.2.2.2.1
  first
  | exact hT0
  | (intro h_; exact absurd (hT0 h_).1 h01)
  | (intro h_; have h9 := (hT0 h_).2; omega)
  | exact (selM_0 (ma := ma) (A := acM fc ma) h00).1
  | exact (selM_0 (ma := ma) (A := acM fc ma) h00).2.1
  | exact (selM_0 (ma := ma) (A := acM fc ma) h00).2.2.1
  | exact (selM_0 (ma := ma) (A := acM fc ma) h00).2.2.2
  | exact (selM_1 (ma := ma) (A := acM fc ma) h01 q_2).1
  | exact (selM_1 (ma := ma) (A := acM fc ma) h01 q_2).2.1
  | exact (selM_1 (ma := ma) (A := acM fc ma) h01 q_2).2.2.1
  | exact (selM_1 (ma := ma) (A := acM fc ma) h01 q_2).2.2.2
  | exact (selM_2 (ma := ma) (A := acM fc ma) h01 q_2 e_5 c_6).1
  | exact (selM_2 (ma := ma) (A := acM fc ma) h01 q_2 e_5 c_6).2.1
  | exact (selM_2 (ma := ma) (A := acM fc ma) h01 q_2 e_5 c_6).2.2.1
  | exact (selM_2 (ma := ma) (A := acM fc ma) h01 q_2 e_5 c_6).2.2.2
  | exact (selM_d h01 q_2 e_5 c_6 (by assumption) (by assumption) (by assumption) (by assumption) (by assumption) (by assumption)).1
  | exact (selM_d h01 q_2 e_5 c_6 (by assumption) (by assumption) (by assumption) (by assumption) (by assumption) (by assumption)).2.1
  | exact (selM_d h01 q_2 e_5 c_6 (by assumption) (by assumption) (by assumption) (by assumption) (by assumption) (by assumption)).2.2.1
  | exact (selM_d h01 q_2 e_5 c_6 (by assumption) (by assumption) (by assumption) (by assumption) (by assumption) (by assumption)).2.2.2
theorem lf_X8_sell_7 {mt : Int32} {ma : Nat} {fs : Nat → Int32} {w9 : Nat} {k9 : Nat} {h9 : Nat} {fc : Nat → Int32} {j_2 : Nat} {v_5 : Int32} {fcn_7 : Nat → Int32} {man_7 : Nat} {v_8 : Int32} {v_9 : Int32} {g_10 : Nat → Int32} {v_11 : Int32} (hM : okM fs w9 k9 h9) (hT : ¬ mt = 0 → 1 ≤ k9) (h999 : h9 ≤ 999) (hT0 : mt = 0 → fs 0 = 0 ∧ ma = 0) (hac : okA fc ma) (hma : ma ≤ 24) (c_1 : ¬ (mt = 0)) (hkn1 : 1 ≤ k9) (hw1 : 1 ≤ w9) (h01 : ¬ fs 0 = 0) (f_2_1_0 : (¬ (((nI j_2)).toInt64 < 1 ∨ 999 < ((nI j_2)).toInt64))) (q_2 : ¬ ((nI j_2) < 1 ∨ 999 < (nI j_2))) (hj_2 : j_2 ≤ 999) (e_5 : v_5 = fs 7) (c_6 : (nI j_2) ≤ v_5) (hF_7_0 : okA fcn_7 man_7) (hF_7_1 : man_7 ≤ 24) (hF_7_2 : 1 ≤ man_7) (hF_7_3 : acM fcn_7 man_7 = ntA (m38 fs) ma (acM fc ma)) (hF_7_4 : man_7 = ntN ma) (e_8 : v_8 = fs 7) (e_9 : v_9 = (v_8 - (nI j_2))) (hu_10 : g_10 = upd fs 7 v_9) (e_11 : v_11 = g_10 7) : m38 g_10 = n_sell (m38 fs) (nI j_2) := by
  have hw6 := hM.2.2.2.1
  have hk6 := hM.2.2.2.2.1
  first
  | exact hT0
  | (intro h_; exact absurd (hT0 h_).1 h01)
  | (intro h_; have h9 := (hT0 h_).2; omega)
  | exact (selM_0 (ma := ma) (A := acM fc ma) h00).1
  | exact (selM_0 (ma := ma) (A := acM fc ma) h00).2.1
  | exact (selM_0 (ma := ma) (A := acM fc ma) h00).2.2.1
  | exact (selM_0 (ma := ma) (A := acM fc ma) h00).2.2.2
  | exact (selM_1 (ma := ma) (A := acM fc ma) h01 q_2).1
  | exact (selM_1 (ma := ma) (A := acM fc ma) h01 q_2).2.1
  | exact (selM_1 (ma := ma) (A := acM fc ma) h01 q_2).2.2.1
  | exact (selM_1 (ma := ma) (A := acM fc ma) h01 q_2).2.2.2
  | exact (selM_2 (ma := ma) (A := acM fc ma) h01 q_2 e_5 c_6).1
  | exact (selM_2 (ma := ma) (A := acM fc ma) h01 q_2 e_5 c_6).2.1
  | exact (selM_2 (ma := ma) (A := acM fc ma) h01 q_2 e_5 c_6).2.2.1
  | exact (selM_2 (ma := ma) (A := acM fc ma) h01 q_2 e_5 c_6).2.2.2
  | exact (selM_d h01 q_2 e_5 c_6 (by assumption) (by assumption) (by assumption) (by assumption) (by assumption) (by assumption)).1
  | exact (selM_d h01 q_2 e_5 c_6 (by assumption) (by assumption) (by assumption) (by assumption) (by assumption) (by assumption)).2.1
  | exact (selM_d h01 q_2 e_5 c_6 (by assumption) (by assumption) (by assumption) (by assumption) (by assumption) (by assumption)).2.2.1
  | exact (selM_d h01 q_2 e_5 c_6 (by assumption) (by assumption) (by assumption) (by assumption) (by assumption) (by assumption)).2.2.2
theorem lf_X8_sell_8 {mt : Int32} {ma : Nat} {fs : Nat → Int32} {w9 : Nat} {k9 : Nat} {h9 : Nat} {fc : Nat → Int32} {j_2 : Nat} {v_5 : Int32} {fcn_7 : Nat → Int32} {man_7 : Nat} {v_8 : Int32} {v_9 : Int32} {g_10 : Nat → Int32} {v_11 : Int32} (hM : okM fs w9 k9 h9) (hT : ¬ mt = 0 → 1 ≤ k9) (h999 : h9 ≤ 999) (hT0 : mt = 0 → fs 0 = 0 ∧ ma = 0) (hac : okA fc ma) (hma : ma ≤ 24) (c_1 : ¬ (mt = 0)) (hkn1 : 1 ≤ k9) (hw1 : 1 ≤ w9) (h01 : ¬ fs 0 = 0) (f_2_1_0 : (¬ (((nI j_2)).toInt64 < 1 ∨ 999 < ((nI j_2)).toInt64))) (q_2 : ¬ ((nI j_2) < 1 ∨ 999 < (nI j_2))) (hj_2 : j_2 ≤ 999) (e_5 : v_5 = fs 7) (c_6 : (nI j_2) ≤ v_5) (hF_7_0 : okA fcn_7 man_7) (hF_7_1 : man_7 ≤ 24) (hF_7_2 : 1 ≤ man_7) (hF_7_3 : acM fcn_7 man_7 = ntA (m38 fs) ma (acM fc ma)) (hF_7_4 : man_7 = ntN ma) (e_8 : v_8 = fs 7) (e_9 : v_9 = (v_8 - (nI j_2))) (hu_10 : g_10 = upd fs 7 v_9) (e_11 : v_11 = g_10 7) : man_7 = kpN (gd_sell (m38 fs) (nI j_2)) ma := by
  have hw6 := hM.2.2.2.1
  have hk6 := hM.2.2.2.2.1
  first
  | exact hT0
  | (intro h_; exact absurd (hT0 h_).1 h01)
  | (intro h_; have h9 := (hT0 h_).2; omega)
  | exact (selM_0 (ma := ma) (A := acM fc ma) h00).1
  | exact (selM_0 (ma := ma) (A := acM fc ma) h00).2.1
  | exact (selM_0 (ma := ma) (A := acM fc ma) h00).2.2.1
  | exact (selM_0 (ma := ma) (A := acM fc ma) h00).2.2.2
  | exact (selM_1 (ma := ma) (A := acM fc ma) h01 q_2).1
  | exact (selM_1 (ma := ma) (A := acM fc ma) h01 q_2).2.1
  | exact (selM_1 (ma := ma) (A := acM fc ma) h01 q_2).2.2.1
  | exact (selM_1 (ma := ma) (A := acM fc ma) h01 q_2).2.2.2
  | exact (selM_2 (ma := ma) (A := acM fc ma) h01 q_2 e_5 c_6).1
  | exact (selM_2 (ma := ma) (A := acM fc ma) h01 q_2 e_5 c_6).2.1
  | exact (selM_2 (ma := ma) (A := acM fc ma) h01 q_2 e_5 c_6).2.2.1
  | exact (selM_2 (ma := ma) (A := acM fc ma) h01 q_2 e_5 c_6).2.2.2
  | exact (selM_d h01 q_2 e_5 c_6 (by assumption) (by assumption) (by assumption) (by assumption) (by assumption) (by assumption)).1
  | exact (selM_d h01 q_2 e_5 c_6 (by assumption) (by assumption) (by assumption) (by assumption) (by assumption) (by assumption)).2.1
  | exact (selM_d h01 q_2 e_5 c_6 (by assumption) (by assumption) (by assumption) (by assumption) (by assumption) (by assumption)).2.2.1
  | exact (selM_d h01 q_2 e_5 c_6 (by assumption) (by assumption) (by assumption) (by assumption) (by assumption) (by assumption)).2.2.2
theorem lf_X8_sell_9 {mt : Int32} {ma : Nat} {fs : Nat → Int32} {w9 : Nat} {k9 : Nat} {h9 : Nat} {fc : Nat → Int32} {j_2 : Nat} {v_5 : Int32} {fcn_7 : Nat → Int32} {man_7 : Nat} {v_8 : Int32} {v_9 : Int32} {g_10 : Nat → Int32} {v_11 : Int32} (hM : okM fs w9 k9 h9) (hT : ¬ mt = 0 → 1 ≤ k9) (h999 : h9 ≤ 999) (hT0 : mt = 0 → fs 0 = 0 ∧ ma = 0) (hac : okA fc ma) (hma : ma ≤ 24) (c_1 : ¬ (mt = 0)) (hkn1 : 1 ≤ k9) (hw1 : 1 ≤ w9) (h01 : ¬ fs 0 = 0) (f_2_1_0 : (¬ (((nI j_2)).toInt64 < 1 ∨ 999 < ((nI j_2)).toInt64))) (q_2 : ¬ ((nI j_2) < 1 ∨ 999 < (nI j_2))) (hj_2 : j_2 ≤ 999) (e_5 : v_5 = fs 7) (c_6 : (nI j_2) ≤ v_5) (hF_7_0 : okA fcn_7 man_7) (hF_7_1 : man_7 ≤ 24) (hF_7_2 : 1 ≤ man_7) (hF_7_3 : acM fcn_7 man_7 = ntA (m38 fs) ma (acM fc ma)) (hF_7_4 : man_7 = ntN ma) (e_8 : v_8 = fs 7) (e_9 : v_9 = (v_8 - (nI j_2))) (hu_10 : g_10 = upd fs 7 v_9) (e_11 : v_11 = g_10 7) : acM fcn_7 man_7 = kpA (gd_sell (m38 fs) (nI j_2)) (m38 fs) ma (acM fc ma) := by
  have hw6 := hM.2.2.2.1
  have hk6 := hM.2.2.2.2.1
  first
  | exact hT0
  | (intro h_; exact absurd (hT0 h_).1 h01)
  | (intro h_; have h9 := (hT0 h_).2; omega)
  | exact (selM_0 (ma := ma) (A := acM fc ma) h00).1
  | exact (selM_0 (ma := ma) (A := acM fc ma) h00).2.1
  | exact (selM_0 (ma := ma) (A := acM fc ma) h00).2.2.1
  | exact (selM_0 (ma := ma) (A := acM fc ma) h00).2.2.2
  | exact (selM_1 (ma := ma) (A := acM fc ma) h01 q_2).1
  | exact (selM_1 (ma := ma) (A := acM fc ma) h01 q_2).2.1
  | exact (selM_1 (ma := ma) (A := acM fc ma) h01 q_2).2.2.1
  | exact (selM_1 (ma := ma) (A := acM fc ma) h01 q_2).2.2.2
  | exact (selM_2 (ma := ma) (A := acM fc ma) h01 q_2 e_5 c_6).1
  | exact (selM_2 (ma := ma) (A := acM fc ma) h01 q_2 e_5 c_6).2.1
  | exact (selM_2 (ma := ma) (A := acM fc ma) h01 q_2 e_5 c_6).2.2.1
  | exact (selM_2 (ma := ma) (A := acM fc ma) h01 q_2 e_5 c_6).2.2.2
  | exact (selM_d h01 q_2 e_5 c_6 (by assumption) (by assumption) (by assumption) (by assumption) (by assumption) (by assumption)).1
  | exact (selM_d h01 q_2 e_5 c_6 (by assumption) (by assumption) (by assumption) (by assumption) (by assumption) (by assumption)).2.1
  | exact (selM_d h01 q_2 e_5 c_6 (by assumption) (by assumption) (by assumption) (by assumption) (by assumption) (by assumption)).2.2.1
  | exact (selM_d h01 q_2 e_5 c_6 (by assumption) (by assumption) (by assumption) (by assumption) (by assumption) (by assumption)).2.2.2
theorem lf_X8_sell_10 {mt : Int32} {ma : Nat} {fs : Nat → Int32} {w9 : Nat} {k9 : Nat} {h9 : Nat} {fc : Nat → Int32} {j_2 : Nat} {v_5 : Int32} {fcn_7 : Nat → Int32} {man_7 : Nat} {v_8 : Int32} {v_9 : Int32} {g_10 : Nat → Int32} {v_11 : Int32} (hM : okM fs w9 k9 h9) (hT : ¬ mt = 0 → 1 ≤ k9) (h999 : h9 ≤ 999) (hT0 : mt = 0 → fs 0 = 0 ∧ ma = 0) (hac : okA fc ma) (hma : ma ≤ 24) (c_1 : ¬ (mt = 0)) (hkn1 : 1 ≤ k9) (hw1 : 1 ≤ w9) (h01 : ¬ fs 0 = 0) (f_2_1_0 : (¬ (((nI j_2)).toInt64 < 1 ∨ 999 < ((nI j_2)).toInt64))) (q_2 : ¬ ((nI j_2) < 1 ∨ 999 < (nI j_2))) (hj_2 : j_2 ≤ 999) (e_5 : v_5 = fs 7) (c_6 : (nI j_2) ≤ v_5) (hF_7_0 : okA fcn_7 man_7) (hF_7_1 : man_7 ≤ 24) (hF_7_2 : 1 ≤ man_7) (hF_7_3 : acM fcn_7 man_7 = ntA (m38 fs) ma (acM fc ma)) (hF_7_4 : man_7 = ntN ma) (e_8 : v_8 = fs 7) (e_9 : v_9 = (v_8 - (nI j_2))) (hu_10 : g_10 = upd fs 7 v_9) (e_11 : v_11 = g_10 7) : v_11 = (a_sell (m38 fs) (nI j_2)) := by
  have hw6 := hM.2.2.2.1
  have hk6 := hM.2.2.2.2.1
  first
  | exact hT0
  | (intro h_; exact absurd (hT0 h_).1 h01)
  | (intro h_; have h9 := (hT0 h_).2; omega)
  | exact (selM_0 (ma := ma) (A := acM fc ma) h00).1
  | exact (selM_0 (ma := ma) (A := acM fc ma) h00).2.1
  | exact (selM_0 (ma := ma) (A := acM fc ma) h00).2.2.1
  | exact (selM_0 (ma := ma) (A := acM fc ma) h00).2.2.2
  | exact (selM_1 (ma := ma) (A := acM fc ma) h01 q_2).1
  | exact (selM_1 (ma := ma) (A := acM fc ma) h01 q_2).2.1
  | exact (selM_1 (ma := ma) (A := acM fc ma) h01 q_2).2.2.1
  | exact (selM_1 (ma := ma) (A := acM fc ma) h01 q_2).2.2.2
  | exact (selM_2 (ma := ma) (A := acM fc ma) h01 q_2 e_5 c_6).1
  | exact (selM_2 (ma := ma) (A := acM fc ma) h01 q_2 e_5 c_6).2.1
  | exact (selM_2 (ma := ma) (A := acM fc ma) h01 q_2 e_5 c_6).2.2.1
  | exact (selM_2 (ma := ma) (A := acM fc ma) h01 q_2 e_5 c_6).2.2.2
  | exact (selM_d h01 q_2 e_5 c_6 (by assumption) (by assumption) (by assumption) (by assumption) (by assumption) (by assumption)).1
  | exact (selM_d h01 q_2 e_5 c_6 (by assumption) (by assumption) (by assumption) (by assumption) (by assumption) (by assumption)).2.1
  | exact (selM_d h01 q_2 e_5 c_6 (by assumption) (by assumption) (by assumption) (by assumption) (by assumption) (by assumption)).2.2.1
  | exact (selM_d h01 q_2 e_5 c_6 (by assumption) (by assumption) (by assumption) (by assumption) (by assumption) (by assumption)).2.2.2
theorem lf_X8_sell_11 {mt : Int32} {ma : Nat} {fs : Nat → Int32} {w9 : Nat} {k9 : Nat} {h9 : Nat} {fc : Nat → Int32} {j_2 : Nat} {v_5 : Int32} (hM : okM fs w9 k9 h9) (hT : ¬ mt = 0 → 1 ≤ k9) (h999 : h9 ≤ 999) (hT0 : mt = 0 → fs 0 = 0 ∧ ma = 0) (hac : okA fc ma) (hma : ma ≤ 24) (c_1 : ¬ (mt = 0)) (hkn1 : 1 ≤ k9) (hw1 : 1 ≤ w9) (h01 : ¬ fs 0 = 0) (f_2_1_0 : (¬ (((nI j_2)).toInt64 < 1 ∨ 999 < ((nI j_2)).toInt64))) (q_2 : ¬ ((nI j_2) < 1 ∨ 999 < (nI j_2))) (hj_2 : j_2 ≤ 999) (e_5 : v_5 = fs 7) (c_6 : ¬ ((nI j_2) ≤ v_5)) : (mt = 0 → fs 0 = 0 ∧ ma = 0) := by
  have hw6 := hM.2.2.2.1
  have hk6 := hM.2.2.2.2.1
  first
  | exact hT0
  | (intro h_; exact absurd (hT0 h_).1 h01)
  | (intro h_; have h9 := (hT0 h_).2; omega)
  | exact (selM_0 (ma := ma) (A := acM fc ma) h00).1
  | exact (selM_0 (ma := ma) (A := acM fc ma) h00).2.1
  | exact (selM_0 (ma := ma) (A := acM fc ma) h00).2.2.1
  | exact (selM_0 (ma := ma) (A := acM fc ma) h00).2.2.2
  | exact (selM_1 (ma := ma) (A := acM fc ma) h01 q_2).1
  | exact (selM_1 (ma := ma) (A := acM fc ma) h01 q_2).2.1
  | exact (selM_1 (ma := ma) (A := acM fc ma) h01 q_2).2.2.1
  | exact (selM_1 (ma := ma) (A := acM fc ma) h01 q_2).2.2.2
  | exact (selM_2 (ma := ma) (A := acM fc ma) h01 q_2 e_5 c_6).1
  | exact (selM_2 (ma := ma) (A := acM fc ma) h01 q_2 e_5 c_6).2.1
  | exact (selM_2 (ma := ma) (A := acM fc ma) h01 q_2 e_5 c_6).2.2.1
  | exact (selM_2 (ma := ma) (A := acM fc ma) h01 q_2 e_5 c_6).2.2.2
  | exact (selM_d h01 q_2 e_5 c_6 (by assumption) (by assumption) (by assumption) (by assumption) (by assumption) (by assumption)).1
  | exact (selM_d h01 q_2 e_5 c_6 (by assumption) (by assumption) (by assumption) (by assumption) (by assumption) (by assumption)).2.1
  | exact (selM_d h01 q_2 e_5 c_6 (by assumption) (by assumption) (by assumption) (by assumption) (by assumption) (by assumption)).2.2.1
  | exact (selM_d h01 q_2 e_5 c_6 (by assumption) (by assumption) (by assumption) (by assumption) (by assumption) (by assumption)).2.2.2
theorem lf_X8_sell_12 {mt : Int32} {ma : Nat} {fs : Nat → Int32} {w9 : Nat} {k9 : Nat} {h9 : Nat} {fc : Nat → Int32} {j_2 : Nat} {v_5 : Int32} (hM : okM fs w9 k9 h9) (hT : ¬ mt = 0 → 1 ≤ k9) (h999 : h9 ≤ 999) (hT0 : mt = 0 → fs 0 = 0 ∧ ma = 0) (hac : okA fc ma) (hma : ma ≤ 24) (c_1 : ¬ (mt = 0)) (hkn1 : 1 ≤ k9) (hw1 : 1 ≤ w9) (h01 : ¬ fs 0 = 0) (f_2_1_0 : (¬ (((nI j_2)).toInt64 < 1 ∨ 999 < ((nI j_2)).toInt64))) (q_2 : ¬ ((nI j_2) < 1 ∨ 999 < (nI j_2))) (hj_2 : j_2 ≤ 999) (e_5 : v_5 = fs 7) (c_6 : ¬ ((nI j_2) ≤ v_5)) : m38 fs = n_sell (m38 fs) (nI j_2) := by
  have hw6 := hM.2.2.2.1
  have hk6 := hM.2.2.2.2.1
  first
  | exact hT0
  | (intro h_; exact absurd (hT0 h_).1 h01)
  | (intro h_; have h9 := (hT0 h_).2; omega)
  | exact (selM_0 (ma := ma) (A := acM fc ma) h00).1
  | exact (selM_0 (ma := ma) (A := acM fc ma) h00).2.1
  | exact (selM_0 (ma := ma) (A := acM fc ma) h00).2.2.1
  | exact (selM_0 (ma := ma) (A := acM fc ma) h00).2.2.2
  | exact (selM_1 (ma := ma) (A := acM fc ma) h01 q_2).1
  | exact (selM_1 (ma := ma) (A := acM fc ma) h01 q_2).2.1
  | exact (selM_1 (ma := ma) (A := acM fc ma) h01 q_2).2.2.1
  | exact (selM_1 (ma := ma) (A := acM fc ma) h01 q_2).2.2.2
  | exact (selM_2 (ma := ma) (A := acM fc ma) h01 q_2 e_5 c_6).1
  | exact (selM_2 (ma := ma) (A := acM fc ma) h01 q_2 e_5 c_6).2.1
  | exact (selM_2 (ma := ma) (A := acM fc ma) h01 q_2 e_5 c_6).2.2.1
  | exact (selM_2 (ma := ma) (A := acM fc ma) h01 q_2 e_5 c_6).2.2.2
  | exact (selM_d h01 q_2 e_5 c_6 (by assumption) (by assumption) (by assumption) (by assumption) (by assumption) (by assumption)).1
  | exact (selM_d h01 q_2 e_5 c_6 (by assumption) (by assumption) (by assumption) (by assumption) (by assumption) (by assumption)).2.1
  | exact (selM_d h01 q_2 e_5 c_6 (by assumption) (by assumption) (by assumption) (by assumption) (by assumption) (by assumption)).2.2.1
  | exact (selM_d h01 q_2 e_5 c_6 (by assumption) (by assumption) (by assumption) (by assumption) (by assumption) (by assumption)).2.2.2
theorem lf_X8_sell_13 {mt : Int32} {ma : Nat} {fs : Nat → Int32} {w9 : Nat} {k9 : Nat} {h9 : Nat} {fc : Nat → Int32} {j_2 : Nat} {v_5 : Int32} (hM : okM fs w9 k9 h9) (hT : ¬ mt = 0 → 1 ≤ k9) (h999 : h9 ≤ 999) (hT0 : mt = 0 → fs 0 = 0 ∧ ma = 0) (hac : okA fc ma) (hma : ma ≤ 24) (c_1 : ¬ (mt = 0)) (hkn1 : 1 ≤ k9) (hw1 : 1 ≤ w9) (h01 : ¬ fs 0 = 0) (f_2_1_0 : (¬ (((nI j_2)).toInt64 < 1 ∨ 999 < ((nI j_2)).toInt64))) (q_2 : ¬ ((nI j_2) < 1 ∨ 999 < (nI j_2))) (hj_2 : j_2 ≤ 999) (e_5 : v_5 = fs 7) (c_6 : ¬ ((nI j_2) ≤ v_5)) : ma = kpN (gd_sell (m38 fs) (nI j_2)) ma := by
  have hw6 := hM.2.2.2.1
  have hk6 := hM.2.2.2.2.1
  first
  | exact hT0
  | (intro h_; exact absurd (hT0 h_).1 h01)
  | (intro h_; have h9 := (hT0 h_).2; omega)
  | exact (selM_0 (ma := ma) (A := acM fc ma) h00).1
  | exact (selM_0 (ma := ma) (A := acM fc ma) h00).2.1
  | exact (selM_0 (ma := ma) (A := acM fc ma) h00).2.2.1
  | exact (selM_0 (ma := ma) (A := acM fc ma) h00).2.2.2
  | exact (selM_1 (ma := ma) (A := acM fc ma) h01 q_2).1
  | exact (selM_1 (ma := ma) (A := acM fc ma) h01 q_2).2.1
  | exact (selM_1 (ma := ma) (A := acM fc ma) h01 q_2).2.2.1
  | exact (selM_1 (ma := ma) (A := acM fc ma) h01 q_2).2.2.2
  | exact (selM_2 (ma := ma) (A := acM fc ma) h01 q_2 e_5 c_6).1
  | exact (selM_2 (ma := ma) (A := acM fc ma) h01 q_2 e_5 c_6).2.1
  | exact (selM_2 (ma := ma) (A := acM fc ma) h01 q_2 e_5 c_6).2.2.1
  | exact (selM_2 (ma := ma) (A := acM fc ma) h01 q_2 e_5 c_6).2.2.2
  | exact (selM_d h01 q_2 e_5 c_6 (by assumption) (by assumption) (by assumption) (by assumption) (by assumption) (by assumption)).1
  | exact (selM_d h01 q_2 e_5 c_6 (by assumption) (by assumption) (by assumption) (by assumption) (by assumption) (by assumption)).2.1
  | exact (selM_d h01 q_2 e_5 c_6 (by assumption) (by assumption) (by assumption) (by assumption) (by assumption) (by assumption)).2.2.1
  | exact (selM_d h01 q_2 e_5 c_6 (by assumption) (by assumption) (by assumption) (by assumption) (by assumption) (by assumption)).2.2.2
theorem lf_X8_sell_14 {mt : Int32} {ma : Nat} {fs : Nat → Int32} {w9 : Nat} {k9 : Nat} {h9 : Nat} {fc : Nat → Int32} {j_2 : Nat} {v_5 : Int32} (hM : okM fs w9 k9 h9) (hT : ¬ mt = 0 → 1 ≤ k9) (h999 : h9 ≤ 999) (hT0 : mt = 0 → fs 0 = 0 ∧ ma = 0) (hac : okA fc ma) (hma : ma ≤ 24) (c_1 : ¬ (mt = 0)) (hkn1 : 1 ≤ k9) (hw1 : 1 ≤ w9) (h01 : ¬ fs 0 = 0) (f_2_1_0 : (¬ (((nI j_2)).toInt64 < 1 ∨ 999 < ((nI j_2)).toInt64))) (q_2 : ¬ ((nI j_2) < 1 ∨ 999 < (nI j_2))) (hj_2 : j_2 ≤ 999) (e_5 : v_5 = fs 7) (c_6 : ¬ ((nI j_2) ≤ v_5)) : acM fc ma = kpA (gd_sell (m38 fs) (nI j_2)) (m38 fs) ma (acM fc ma) := by
  have hw6 := hM.2.2.2.1
  have hk6 := hM.2.2.2.2.1
  first
  | exact hT0
  | (intro h_; exact absurd (hT0 h_).1 h01)
  | (intro h_; have h9 := (hT0 h_).2; omega)
  | exact (selM_0 (ma := ma) (A := acM fc ma) h00).1
  | exact (selM_0 (ma := ma) (A := acM fc ma) h00).2.1
  | exact (selM_0 (ma := ma) (A := acM fc ma) h00).2.2.1
  | exact (selM_0 (ma := ma) (A := acM fc ma) h00).2.2.2
  | exact (selM_1 (ma := ma) (A := acM fc ma) h01 q_2).1
  | exact (selM_1 (ma := ma) (A := acM fc ma) h01 q_2).2.1
  | exact (selM_1 (ma := ma) (A := acM fc ma) h01 q_2).2.2.1
  | exact (selM_1 (ma := ma) (A := acM fc ma) h01 q_2).2.2.2
  | exact (selM_2 (ma := ma) (A := acM fc ma) h01 q_2 e_5 c_6).1
  | exact (selM_2 (ma := ma) (A := acM fc ma) h01 q_2 e_5 c_6).2.1
  | exact (selM_2 (ma := ma) (A := acM fc ma) h01 q_2 e_5 c_6).2.2.1
  | exact (selM_2 (ma := ma) (A := acM fc ma) h01 q_2 e_5 c_6).2.2.2
  | exact (selM_d h01 q_2 e_5 c_6 (by assumption) (by assumption) (by assumption) (by assumption) (by assumption) (by assumption)).1
  | exact (selM_d h01 q_2 e_5 c_6 (by assumption) (by assumption) (by assumption) (by assumption) (by assumption) (by assumption)).2.1
  | exact (selM_d h01 q_2 e_5 c_6 (by assumption) (by assumption) (by assumption) (by assumption) (by assumption) (by assumption)).2.2.1
  | exact (selM_d h01 q_2 e_5 c_6 (by assumption) (by assumption) (by assumption) (by assumption) (by assumption) (by assumption)).2.2.2
theorem lf_X8_sell_15 {mt : Int32} {ma : Nat} {fs : Nat → Int32} {w9 : Nat} {k9 : Nat} {h9 : Nat} {fc : Nat → Int32} {j_2 : Nat} {v_5 : Int32} (hM : okM fs w9 k9 h9) (hT : ¬ mt = 0 → 1 ≤ k9) (h999 : h9 ≤ 999) (hT0 : mt = 0 → fs 0 = 0 ∧ ma = 0) (hac : okA fc ma) (hma : ma ≤ 24) (c_1 : ¬ (mt = 0)) (hkn1 : 1 ≤ k9) (hw1 : 1 ≤ w9) (h01 : ¬ fs 0 = 0) (f_2_1_0 : (¬ (((nI j_2)).toInt64 < 1 ∨ 999 < ((nI j_2)).toInt64))) (q_2 : ¬ ((nI j_2) < 1 ∨ 999 < (nI j_2))) (hj_2 : j_2 ≤ 999) (e_5 : v_5 = fs 7) (c_6 : ¬ ((nI j_2) ≤ v_5)) : (-1000002) = (a_sell (m38 fs) (nI j_2)) := by
  have hw6 := hM.2.2.2.1
  have hk6 := hM.2.2.2.2.1
  first
  | exact hT0
  | (intro h_; exact absurd (hT0 h_).1 h01)
  | (intro h_; have h9 := (hT0 h_).2; omega)
  | exact (selM_0 (ma := ma) (A := acM fc ma) h00).1
  | exact (selM_0 (ma := ma) (A := acM fc ma) h00).2.1
  | exact (selM_0 (ma := ma) (A := acM fc ma) h00).2.2.1
  | exact (selM_0 (ma := ma) (A := acM fc ma) h00).2.2.2
  | exact (selM_1 (ma := ma) (A := acM fc ma) h01 q_2).1
  | exact (selM_1 (ma := ma) (A := acM fc ma) h01 q_2).2.1
  | exact (selM_1 (ma := ma) (A := acM fc ma) h01 q_2).2.2.1
  | exact (selM_1 (ma := ma) (A := acM fc ma) h01 q_2).2.2.2
  | exact (selM_2 (ma := ma) (A := acM fc ma) h01 q_2 e_5 c_6).1
  | exact (selM_2 (ma := ma) (A := acM fc ma) h01 q_2 e_5 c_6).2.1
  | exact (selM_2 (ma := ma) (A := acM fc ma) h01 q_2 e_5 c_6).2.2.1
  | exact (selM_2 (ma := ma) (A := acM fc ma) h01 q_2 e_5 c_6).2.2.2
  | exact (selM_d h01 q_2 e_5 c_6 (by assumption) (by assumption) (by assumption) (by assumption) (by assumption) (by assumption)).1
  | exact (selM_d h01 q_2 e_5 c_6 (by assumption) (by assumption) (by assumption) (by assumption) (by assumption) (by assumption)).2.1
  | exact (selM_d h01 q_2 e_5 c_6 (by assumption) (by assumption) (by assumption) (by assumption) (by assumption) (by assumption)).2.2.1
  | exact (selM_d h01 q_2 e_5 c_6 (by assumption) (by assumption) (by assumption) (by assumption) (by assumption) (by assumption)).2.2.2
theorem lf_X8_sell_16 {mt : Int32} {ma : Nat} {fs : Nat → Int32} {w9 : Nat} {k9 : Nat} {h9 : Nat} {fc : Nat → Int32} (hM : okM fs w9 k9 h9) (hT : ¬ mt = 0 → 1 ≤ k9) (h999 : h9 ≤ 999) (hT0 : mt = 0 → fs 0 = 0 ∧ ma = 0) (hac : okA fc ma) (hma : ma ≤ 24) (c_1 : mt = 0) (h00 : fs 0 = 0) : (mt = 0 → fs 0 = 0 ∧ ma = 0) := by
  have hw6 := hM.2.2.2.1
  have hk6 := hM.2.2.2.2.1
  first
  | exact hT0
  | (intro h_; exact absurd (hT0 h_).1 h01)
  | (intro h_; have h9 := (hT0 h_).2; omega)
  | exact (selM_0 (ma := ma) (A := acM fc ma) h00).1
  | exact (selM_0 (ma := ma) (A := acM fc ma) h00).2.1
  | exact (selM_0 (ma := ma) (A := acM fc ma) h00).2.2.1
  | exact (selM_0 (ma := ma) (A := acM fc ma) h00).2.2.2
  | exact (selM_1 (ma := ma) (A := acM fc ma) h01 q_2).1
  | exact (selM_1 (ma := ma) (A := acM fc ma) h01 q_2).2.1
  | exact (selM_1 (ma := ma) (A := acM fc ma) h01 q_2).2.2.1
  | exact (selM_1 (ma := ma) (A := acM fc ma) h01 q_2).2.2.2
  | exact (selM_2 (ma := ma) (A := acM fc ma) h01 q_2 e_5 c_6).1
  | exact (selM_2 (ma := ma) (A := acM fc ma) h01 q_2 e_5 c_6).2.1
  | exact (selM_2 (ma := ma) (A := acM fc ma) h01 q_2 e_5 c_6).2.2.1
  | exact (selM_2 (ma := ma) (A := acM fc ma) h01 q_2 e_5 c_6).2.2.2
  | exact (selM_d h01 q_2 e_5 c_6 (by assumption) (by assumption) (by assumption) (by assumption) (by assumption) (by assumption)).1
  | exact (selM_d h01 q_2 e_5 c_6 (by assumption) (by assumption) (by assumption) (by assumption) (by assumption) (by assumption)).2.1
  | exact (selM_d h01 q_2 e_5 c_6 (by assumption) (by assumption) (by assumption) (by assumption) (by assumption) (by assumption)).2.2.1
  | exact (selM_d h01 q_2 e_5 c_6 (by assumption) (by assumption) (by assumption) (by assumption) (by assumption) (by assumption)).2.2.2
theorem lf_X8_sell_17 {mt : Int32} {ma : Nat} {fs : Nat → Int32} {w9 : Nat} {k9 : Nat} {h9 : Nat} {fc : Nat → Int32} {a0 : Int32} (hM : okM fs w9 k9 h9) (hT : ¬ mt = 0 → 1 ≤ k9) (h999 : h9 ≤ 999) (hT0 : mt = 0 → fs 0 = 0 ∧ ma = 0) (hac : okA fc ma) (hma : ma ≤ 24) (c_1 : mt = 0) (h00 : fs 0 = 0) : m38 fs = n_sell (m38 fs) a0 := by
  have hw6 := hM.2.2.2.1
  have hk6 := hM.2.2.2.2.1
  first
  | exact hT0
  | (intro h_; exact absurd (hT0 h_).1 h01)
  | (intro h_; have h9 := (hT0 h_).2; omega)
  | exact (selM_0 (ma := ma) (A := acM fc ma) h00).1
  | exact (selM_0 (ma := ma) (A := acM fc ma) h00).2.1
  | exact (selM_0 (ma := ma) (A := acM fc ma) h00).2.2.1
  | exact (selM_0 (ma := ma) (A := acM fc ma) h00).2.2.2
  | exact (selM_1 (ma := ma) (A := acM fc ma) h01 q_2).1
  | exact (selM_1 (ma := ma) (A := acM fc ma) h01 q_2).2.1
  | exact (selM_1 (ma := ma) (A := acM fc ma) h01 q_2).2.2.1
  | exact (selM_1 (ma := ma) (A := acM fc ma) h01 q_2).2.2.2
  | exact (selM_2 (ma := ma) (A := acM fc ma) h01 q_2 e_5 c_6).1
  | exact (selM_2 (ma := ma) (A := acM fc ma) h01 q_2 e_5 c_6).2.1
  | exact (selM_2 (ma := ma) (A := acM fc ma) h01 q_2 e_5 c_6).2.2.1
  | exact (selM_2 (ma := ma) (A := acM fc ma) h01 q_2 e_5 c_6).2.2.2
  | exact (selM_d h01 q_2 e_5 c_6 (by assumption) (by assumption) (by assumption) (by assumption) (by assumption) (by assumption)).1
  | exact (selM_d h01 q_2 e_5 c_6 (by assumption) (by assumption) (by assumption) (by assumption) (by assumption) (by assumption)).2.1
  | exact (selM_d h01 q_2 e_5 c_6 (by assumption) (by assumption) (by assumption) (by assumption) (by assumption) (by assumption)).2.2.1
  | exact (selM_d h01 q_2 e_5 c_6 (by assumption) (by assumption) (by assumption) (by assumption) (by assumption) (by assumption)).2.2.2
theorem lf_X8_sell_18 {mt : Int32} {ma : Nat} {fs : Nat → Int32} {w9 : Nat} {k9 : Nat} {h9 : Nat} {fc : Nat → Int32} {a0 : Int32} (hM : okM fs w9 k9 h9) (hT : ¬ mt = 0 → 1 ≤ k9) (h999 : h9 ≤ 999) (hT0 : mt = 0 → fs 0 = 0 ∧ ma = 0) (hac : okA fc ma) (hma : ma ≤ 24) (c_1 : mt = 0) (h00 : fs 0 = 0) : ma = kpN (gd_sell (m38 fs) a0) ma := by
  have hw6 := hM.2.2.2.1
  have hk6 := hM.2.2.2.2.1
  first
  | exact hT0
  | (intro h_; exact absurd (hT0 h_).1 h01)
  | (intro h_; have h9 := (hT0 h_).2; omega)
  | exact (selM_0 (ma := ma) (A := acM fc ma) h00).1
  | exact (selM_0 (ma := ma) (A := acM fc ma) h00).2.1
  | exact (selM_0 (ma := ma) (A := acM fc ma) h00).2.2.1
  | exact (selM_0 (ma := ma) (A := acM fc ma) h00).2.2.2
  | exact (selM_1 (ma := ma) (A := acM fc ma) h01 q_2).1
  | exact (selM_1 (ma := ma) (A := acM fc ma) h01 q_2).2.1
  | exact (selM_1 (ma := ma) (A := acM fc ma) h01 q_2).2.2.1
  | exact (selM_1 (ma := ma) (A := acM fc ma) h01 q_2).2.2.2
  | exact (selM_2 (ma := ma) (A := acM fc ma) h01 q_2 e_5 c_6).1
  | exact (selM_2 (ma := ma) (A := acM fc ma) h01 q_2 e_5 c_6).2.1
  | exact (selM_2 (ma := ma) (A := acM fc ma) h01 q_2 e_5 c_6).2.2.1
  | exact (selM_2 (ma := ma) (A := acM fc ma) h01 q_2 e_5 c_6).2.2.2
  | exact (selM_d h01 q_2 e_5 c_6 (by assumption) (by assumption) (by assumption) (by assumption) (by assumption) (by assumption)).1
  | exact (selM_d h01 q_2 e_5 c_6 (by assumption) (by assumption) (by assumption) (by assumption) (by assumption) (by assumption)).2.1
  | exact (selM_d h01 q_2 e_5 c_6 (by assumption) (by assumption) (by assumption) (by assumption) (by assumption) (by assumption)).2.2.1
  | exact (selM_d h01 q_2 e_5 c_6 (by assumption) (by assumption) (by assumption) (by assumption) (by assumption) (by assumption)).2.2.2
theorem lf_X8_sell_19 {mt : Int32} {ma : Nat} {fs : Nat → Int32} {w9 : Nat} {k9 : Nat} {h9 : Nat} {fc : Nat → Int32} {a0 : Int32} (hM : okM fs w9 k9 h9) (hT : ¬ mt = 0 → 1 ≤ k9) (h999 : h9 ≤ 999) (hT0 : mt = 0 → fs 0 = 0 ∧ ma = 0) (hac : okA fc ma) (hma : ma ≤ 24) (c_1 : mt = 0) (h00 : fs 0 = 0) : acM fc ma = kpA (gd_sell (m38 fs) a0) (m38 fs) ma (acM fc ma) := by
  have hw6 := hM.2.2.2.1
  have hk6 := hM.2.2.2.2.1
  first
  | exact hT0
  | (intro h_; exact absurd (hT0 h_).1 h01)
  | (intro h_; have h9 := (hT0 h_).2; omega)
  | exact (selM_0 (ma := ma) (A := acM fc ma) h00).1
  | exact (selM_0 (ma := ma) (A := acM fc ma) h00).2.1
  | exact (selM_0 (ma := ma) (A := acM fc ma) h00).2.2.1
  | exact (selM_0 (ma := ma) (A := acM fc ma) h00).2.2.2
  | exact (selM_1 (ma := ma) (A := acM fc ma) h01 q_2).1
  | exact (selM_1 (ma := ma) (A := acM fc ma) h01 q_2).2.1
  | exact (selM_1 (ma := ma) (A := acM fc ma) h01 q_2).2.2.1
  | exact (selM_1 (ma := ma) (A := acM fc ma) h01 q_2).2.2.2
  | exact (selM_2 (ma := ma) (A := acM fc ma) h01 q_2 e_5 c_6).1
  | exact (selM_2 (ma := ma) (A := acM fc ma) h01 q_2 e_5 c_6).2.1
  | exact (selM_2 (ma := ma) (A := acM fc ma) h01 q_2 e_5 c_6).2.2.1
  | exact (selM_2 (ma := ma) (A := acM fc ma) h01 q_2 e_5 c_6).2.2.2
  | exact (selM_d h01 q_2 e_5 c_6 (by assumption) (by assumption) (by assumption) (by assumption) (by assumption) (by assumption)).1
  | exact (selM_d h01 q_2 e_5 c_6 (by assumption) (by assumption) (by assumption) (by assumption) (by assumption) (by assumption)).2.1
  | exact (selM_d h01 q_2 e_5 c_6 (by assumption) (by assumption) (by assumption) (by assumption) (by assumption) (by assumption)).2.2.1
  | exact (selM_d h01 q_2 e_5 c_6 (by assumption) (by assumption) (by assumption) (by assumption) (by assumption) (by assumption)).2.2.2
theorem lf_X8_sell_20 {mt : Int32} {ma : Nat} {fs : Nat → Int32} {w9 : Nat} {k9 : Nat} {h9 : Nat} {fc : Nat → Int32} {a0 : Int32} (hM : okM fs w9 k9 h9) (hT : ¬ mt = 0 → 1 ≤ k9) (h999 : h9 ≤ 999) (hT0 : mt = 0 → fs 0 = 0 ∧ ma = 0) (hac : okA fc ma) (hma : ma ≤ 24) (c_1 : mt = 0) (h00 : fs 0 = 0) : (-1000002) = (a_sell (m38 fs) a0) := by
  have hw6 := hM.2.2.2.1
  have hk6 := hM.2.2.2.2.1
  first
  | exact hT0
  | (intro h_; exact absurd (hT0 h_).1 h01)
  | (intro h_; have h9 := (hT0 h_).2; omega)
  | exact (selM_0 (ma := ma) (A := acM fc ma) h00).1
  | exact (selM_0 (ma := ma) (A := acM fc ma) h00).2.1
  | exact (selM_0 (ma := ma) (A := acM fc ma) h00).2.2.1
  | exact (selM_0 (ma := ma) (A := acM fc ma) h00).2.2.2
  | exact (selM_1 (ma := ma) (A := acM fc ma) h01 q_2).1
  | exact (selM_1 (ma := ma) (A := acM fc ma) h01 q_2).2.1
  | exact (selM_1 (ma := ma) (A := acM fc ma) h01 q_2).2.2.1
  | exact (selM_1 (ma := ma) (A := acM fc ma) h01 q_2).2.2.2
  | exact (selM_2 (ma := ma) (A := acM fc ma) h01 q_2 e_5 c_6).1
  | exact (selM_2 (ma := ma) (A := acM fc ma) h01 q_2 e_5 c_6).2.1
  | exact (selM_2 (ma := ma) (A := acM fc ma) h01 q_2 e_5 c_6).2.2.1
  | exact (selM_2 (ma := ma) (A := acM fc ma) h01 q_2 e_5 c_6).2.2.2
  | exact (selM_d h01 q_2 e_5 c_6 (by assumption) (by assumption) (by assumption) (by assumption) (by assumption) (by assumption)).1
  | exact (selM_d h01 q_2 e_5 c_6 (by assumption) (by assumption) (by assumption) (by assumption) (by assumption) (by assumption)).2.1
  | exact (selM_d h01 q_2 e_5 c_6 (by assumption) (by assumption) (by assumption) (by assumption) (by assumption) (by assumption)).2.2.1
  | exact (selM_d h01 q_2 e_5 c_6 (by assumption) (by assumption) (by assumption) (by assumption) (by assumption) (by assumption)).2.2.2
set_option maxHeartbeats 4000000 in
set_option maxRecDepth 100000 in
theorem r_X8_sell (l : Launch) (dC : Nat → ClassId) (dI : Nat → Nat → Nat) (cI cZ cL cJ : ClassId) (sz : Nat) (mo : Nat) (m_la : Nat) (m_sz : Nat) (m_it : Nat) (m_st : Nat) (m_mv : Nat) (m_tp : Nat) (m_rd : Nat) (m_ac : Nat) (m_as : Nat) (m_wo : Nat) (m_ik : Nat) (m_ke : Nat) (m_tr : Nat) (ms : Int32) (mt : Int32) (ml : Int32) (mk : Int32) (mv : Int32) (mb : Int32) (mw : Int32) (mz : Nat) (mp : Nat) (ma : Nat) (mx : Nat) (fs : Nat → Int32) (w9 : Nat) (k9 : Nat) (h9 : Nat) (fc : Nat → Int32) (a0 : Int32) (hM : okM fs w9 k9 h9) (hT : ¬ mt = 0 → 1 ≤ k9) (h999 : h9 ≤ 999) (hT0 : mt = 0 → fs 0 = 0 ∧ ma = 0) (hac : okA fc ma) (hma : ma ≤ 24) : Met l yX8_sell wsX8_sell ({ frames := 1, cells := 0, slots := 0, locals := 25 }) (va_Pc [.ref mo, .int a0] (fun U => U.heap.size = sz ∧ va_P (dC, dI) vwCl [(xo_8_rrriirrriiiiiiirrirrrrri mo m_la m_sz m_it ms mt m_st m_mv m_tp (nI mz) ml (nI mp) mk mv mb mw m_rd m_ac (nI ma) m_as m_wo m_ik m_ke m_tr (nI mx)), (xI m_st cI 38 fs), (xI m_ac cI 912 fc)] U.heap ∧ va_K (dC, dI) vwCl [(cI, .int), (cZ, .boolean), (cL, .object RX3), (cJ, .array .int)] U ∧ va_D (fun _ => True) [(xo_8_rrriirrriiiiiiirrirrrrri mo m_la m_sz m_it ms mt m_st m_mv m_tp (nI mz) ml (nI mp) mk mv mb mw m_rd m_ac (nI ma) m_as m_wo m_ik m_ke m_tr (nI mx)), (xI m_st cI 38 fs), (xI m_ac cI 912 fc)])) (va_Qi (fun r (_ : Unit) => r = (a_sell (m38 fs) a0)) (fun (_ : Unit) t => ∃ (fsn : Nat → Int32) (fcn : Nat → Int32) (man : Nat) (w9n : Nat) (k9n : Nat) (h9n : Nat), va_P (dC, dI) vwCl [(xo_8_rrriirrriiiiiiirrirrrrri mo m_la m_sz m_it ms mt m_st m_mv m_tp (nI mz) ml (nI mp) mk mv mb mw m_rd m_ac (nI man) m_as m_wo m_ik m_ke m_tr (nI mx)), (xI m_st cI 38 fsn), (xI m_ac cI 912 fcn)] t.heap ∧ va_D (va_A [(xo_8_rrriirrriiiiiiirrirrrrri mo m_la m_sz m_it ms mt m_st m_mv m_tp (nI mz) ml (nI mp) mk mv mb mw m_rd m_ac (nI ma) m_as m_wo m_ik m_ke m_tr (nI mx)), (xI m_st cI 38 fs), (xI m_ac cI 912 fc)] sz) [(xo_8_rrriirrriiiiiiirrirrrrri mo m_la m_sz m_it ms mt m_st m_mv m_tp (nI mz) ml (nI mp) mk mv mb mw m_rd m_ac (nI man) m_as m_wo m_ik m_ke m_tr (nI mx)), (xI m_st cI 38 fsn), (xI m_ac cI 912 fcn)] ∧ okM fsn w9n k9n h9n ∧ (¬ mt = 0 → 1 ≤ k9n) ∧ h9n ≤ 999 ∧ okA fcn man ∧ man ≤ 24 ∧ (mt = 0 → fsn 0 = 0 ∧ man = 0) ∧ m38 fsn = n_sell (m38 fs) a0 ∧ man = kpN (gd_sell (m38 fs) a0) ma ∧ acM fcn man = kpA (gd_sell (m38 fs) a0) (m38 fs) ma (acM fc ma)) (va_A [(xo_8_rrriirrriiiiiiirrirrrrri mo m_la m_sz m_it ms mt m_st m_mv m_tp (nI mz) ml (nI mp) mk mv mb mw m_rd m_ac (nI ma) m_as m_wo m_ik m_ke m_tr (nI mx)), (xI m_st cI 38 fs), (xI m_ac cI 912 fc)] sz)) 0 0 (va_A [(xo_8_rrriirrriiiiiiirrirrrrri mo m_la m_sz m_it ms mt m_st m_mv m_tp (nI mz) ml (nI mp) mk mv mb mw m_rd m_ac (nI ma) m_as m_wo m_ik m_ke m_tr (nI mx)), (xI m_st cI 38 fs), (xI m_ac cI 912 fc)] sz) := by
  refine Met.ofW (cc := cX8_sell) (maxL := 2) (ret := (some .int)) (by decide) rfl ?_
  intro p e s m args below meth c s₁ B hml hv
  obtain ⟨rfl, hsz, hP, hK, hD0⟩ := hv
  have hx := B.exec
  have hb := B.bytes
  have hr := B.returns
  have hts := atoms_spec (ws := wsX8_sell) B.pre
  have hown : s.vm.findClass RX8 = some m.cls := findClass_of_methodNamed B.named
  have hlocks := B.notSynchronized
  subst hsz
  have hD := hD0.self (sz := s.heap.size)
  generalize hAe : va_A [(xo_8_rrriirrriiiiiiirrirrrrri mo m_la m_sz m_it ms mt m_st m_mv m_tp (nI mz) ml (nI mp) mk mv mb mw m_rd m_ac (nI ma) m_as m_wo m_ik m_ke m_tr (nI mx)), (xI m_st cI 38 fs), (xI m_ac cI 912 fc)] s.heap.size = A at hD ⊢
  have hA : ∀ q : Nat, s.heap.size ≤ q → A q := fun q h => by rw [← hAe]; exact Or.inr h
  have hS : va_S A s.heap s.heap [] := va_S.rf
  have hP : va_P (dC, dI) vwCl [(xo_8_rrriirrriiiiiiirrirrrrri mo m_la m_sz m_it ms mt m_st m_mv m_tp (nI mz) ml (nI mp) mk mv mb mw m_rd m_ac (nI ma) m_as m_wo m_ik m_ke m_tr (nI mx)), (xI m_st cI 38 fs), (xI m_ac cI 912 fc)] s.heap := hP
  have hl := lv_entry ([.ref mo, .int a0]) (n := 2) (Nat.le_of_ble_eq_true rfl)
  rw [lg_entry_eq]
  generalize (lg_sl ([.ref mo, .int a0]) ++ List.replicate (2 - (lg_sl ([.ref mo, .int a0])).length) Slot.unset).toArray = ls at hl ⊢
  have hl : lv_has ls 2 [(0, .ref mo), (1, .int a0)] := hl
  have hk6 := hM.2.2.2.2.1
  have hw6 := hM.2.2.2.1
  refine lv_aload_n hx hb dX8_sell_0 rfl (lv_at hl 0 rfl) ?_
  refine va_get (D := (dC, dI)) (ci := 8) (v := .int mt) (C := RX8) (T := TX8) (N := 24) hx hb hts i_X8_sell_X8 hown hK hP 0 rfl rfl 4 (by decide) (hts _ mx_X8_sell_1) (fun _ h9 => h9) rfl dX8_sell_1 ?_
  refine lv_if_ne (tgt := 10) hx hb dX8_sell_4 (by decide) (fun c_1 => ?_) (fun c_1 => ?_)
  · skip
    have hkn1 := hT c_1
    have hw1 := hM.2.2.2.2.2.1.mp hkn1
    have h01 : ¬ fs 0 = 0 := cell_nz hM hkn1
    refine lv_iload_n hx hb dX8_sell_10 rfl (lv_at hl 1 rfl) ?_
    refine lv_i2l hx hb dX8_sell_11 rfl ?_
    refine lv_lconst (v := 1) hx hb dX8_sell_12 (by decide) ?_
    refine lv_ldc2 (own := RX8) (v := 999) hx hb hown (hts _ mx_X8_sell_3) dX8_sell_13 ?_
    have hPc_2 := hP.sub (ws' := []) [] rfl
    refine vp_callSi (W.runS (As := [.long (a0).toInt64, .long 1, .long 999]) (rest := []) ⟨hx, hb, hml, hown, hts⟩ (r_X8_in l dC dI cI cZ cL cJ ((a0).toInt64) 1 999 ) (va_cwS 3 hts gX8_sell_X8_in rfl rfl rfl (by decide +kernel) ⟨Nat.le_of_ble_eq_true rfl, Nat.le_of_ble_eq_true rfl⟩) (psP hK hPc_2) rfl rfl hl.1 rfl (lv_room (Nat.le_of_ble_eq_true rfl)) dX8_sell_16 ⟨Nat.le_of_ble_eq_true rfl, Nat.le_of_ble_eq_true rfl⟩) (fun r_2 h_2 => ?_)
    rcases h_2 with ⟨h_2, f_2_0_0⟩ | ⟨h_2, f_2_1_0⟩
    · subst h_2
      have q_2 : (a0 < 1 ∨ 999 < a0) := (in32 (x := a0) (l := 1) (u := 999) (by decide) (by decide)).mp f_2_0_0
      refine lv_if_ne (tgt := 25) hx hb dX8_sell_19 (by decide) (fun c_ => absurd (by decide) c_) (fun _ => ?_)
      refine lv_ldc (own := RX8) (v := (-1000001)) hx hb hown (hts _ mx_X8_sell_4) dX8_sell_22 ?_
      have hX9 := cut2 (wc := [(xo_8_rrriirrriiiiiiirrirrrrri mo m_la m_sz m_it ms mt m_st m_mv m_tp (nI mz) ml (nI mp) mk mv mb mw m_rd m_ac (nI ma) m_as m_wo m_ik m_ke m_tr (nI mx)), (xI m_st cI 38 fs), (xI m_ac cI 912 fc)]) hP hD [0, 1, 2] (by decide +kernel) rfl
      exact W.iret (v := (-1000001)) hx hb hr (fun t ht hW => ⟨⟨(-1000001), (), rfl, (lf_X8_sell_5 hM hT h999 hT0 hac hma c_1 hkn1 hw1 h01 f_2_0_0 q_2), ⟨fs, fc, ma, w9, k9, h9, va_Ht ht hX9.1, hX9.2, hM, hT, (by omega), hac, (by omega), (lf_X8_sell_1 hM hT h999 hT0 hac hma c_1 hkn1 hw1 h01 f_2_0_0 q_2), (lf_X8_sell_2 hM hT h999 hT0 hac hma c_1 hkn1 hw1 h01 f_2_0_0 q_2), (lf_X8_sell_3 hM hT h999 hT0 hac hma c_1 hkn1 hw1 h01 f_2_0_0 q_2), (lf_X8_sell_4 hM hT h999 hT0 hac hma c_1 hkn1 hw1 h01 f_2_0_0 q_2)⟩⟩, hS.F ht⟩) hS.2.2 dX8_sell_24
    · subst h_2
      have q_2 : ¬ (a0 < 1 ∨ 999 < a0) := fun q_ => f_2_1_0 ((in32 (x := a0) (l := 1) (u := 999) (by decide) (by decide)).mpr q_)
      obtain ⟨j_2, hj_2, hl_2, rfl⟩ := in64 (lo := 1) (n := 999) rfl rfl (by decide) f_2_1_0
      refine lv_if_ne (tgt := 25) hx hb dX8_sell_19 (by decide) (fun _ => ?_) (fun c_ => absurd c_ (by decide))
      refine lv_aload_n hx hb dX8_sell_25 rfl (lv_at hl 0 rfl) ?_
      refine va_get (D := (dC, dI)) (ci := 8) (v := .ref m_st) (C := RX8) (T := TX8) (N := 24) hx hb hts i_X8_sell_X8 hown hK hP 0 rfl rfl 5 (by decide) (hts _ mx_X8_sell_5) (fun _ h9 => h9) rfl dX8_sell_26 ?_
      refine lv_bipush (v := 7) hx hb dX8_sell_29 (by decide) ?_
      refine va_iald hx hb hK hP 1 0 rfl rfl (by unfold vp_in; decide) dX8_sell_31 ?_
      refine lv_topi (fun v_5 e_5 => ?_)
      have e_5 : v_5 = fs 7 := e_5
      refine lv_iload_n hx hb dX8_sell_32 rfl (lv_at hl 1 rfl) ?_
      refine lv_icmp_ge (tgt := 39) hx hb dX8_sell_33 (by decide) (fun c_6 => ?_) (fun c_6 => ?_)
      · skip
        refine lv_aload_n hx hb dX8_sell_39 rfl (lv_at hl 0 rfl) ?_
        have hc_7 := cutW (wc := [(xo_8_rrriirrriiiiiiirrirrrrri mo m_la m_sz m_it ms mt m_st m_mv m_tp (nI mz) ml (nI mp) mk mv mb mw m_rd m_ac (nI ma) m_as m_wo m_ik m_ke m_tr (nI mx)), (xI m_st cI 38 fs), (xI m_ac cI 912 fc)]) hP hD hS hA [0, 1, 2] (by decide +kernel) rfl
        refine va_callv (va_runV (As := []) (rest := []) ⟨hx, hb, hml, hown, hts⟩ (r_X8_note l dC dI cI cZ cL cJ s.heap.size mo m_la m_sz m_it m_st m_mv m_tp m_rd m_ac m_as m_wo m_ik m_ke m_tr ms mt ml mk mv mb mw mz mp ma mx fs fc (hac) (by omega) (⟨w9, k9, h9, hM, hkn1, by omega⟩)) (cwV 0 hts gX8_sell_X8_note rfl rfl rfl (by decide +kernel) ⟨Nat.le_of_ble_eq_true rfl, Nat.le_of_ble_eq_true rfl⟩) (pvW 8 0 hK hP rfl rfl hc_7) rfl rfl hl.1 rfl (lv_room (Nat.le_of_ble_eq_true rfl)) dX8_sell_40 ⟨Nat.le_of_ble_eq_true rfl, Nat.le_of_ble_eq_true rfl⟩) hS (fun q _ h => hc_7.2.2 q h) hc_7.2.2 (fun u_7 t_7 H1 locs ht hvm h_7 hB hz1 hk1 hS => ?_)
        refine xl_2_7 hB (fun fcn_7 man_7 hP1 hD1 hF_7_0 hF_7_1 hF_7_2 hF_7_3 hF_7_4 => ?_)
        clear hB
        rw [ht] at hP1
        obtain ⟨hP, hD⟩ := va_join (wr := []) (w1 := [(xo_8_rrriirrriiiiiiirrirrrrri mo m_la m_sz m_it ms mt m_st m_mv m_tp (nI mz) ml (nI mp) mk mv mb mw m_rd m_ac (nI man_7) m_as m_wo m_ik m_ke m_tr (nI mx)), (xI m_st cI 38 fs), (xI m_ac cI 912 fcn_7)]) hP hD [0, 1, 2] [] rfl rfl (by decide +kernel) (by decide +kernel) hk1 hc_7.2.2 hP1 hD1
        generalize H1 = H at hP hS ⊢
        have hP : va_P (dC, dI) vwCl [(xo_8_rrriirrriiiiiiirrirrrrri mo m_la m_sz m_it ms mt m_st m_mv m_tp (nI mz) ml (nI mp) mk mv mb mw m_rd m_ac (nI man_7) m_as m_wo m_ik m_ke m_tr (nI mx)), (xI m_st cI 38 fs), (xI m_ac cI 912 fcn_7)] H := hP
        have hD := dto hP hD
        refine lv_aload_n hx hb dX8_sell_43 rfl (lv_at hl 0 rfl) ?_
        refine va_get (D := (dC, dI)) (ci := 8) (v := .ref m_st) (C := RX8) (T := TX8) (N := 24) hx hb hts i_X8_sell_X8 hown hK hP 0 rfl rfl 5 (by decide) (hts _ mx_X8_sell_5) (fun _ h9 => h9) rfl dX8_sell_44 ?_
        refine lv_bipush (v := 7) hx hb dX8_sell_47 (by decide) ?_
        refine lv_dup2_11 hx hb dX8_sell_49 rfl rfl ?_
        refine va_iald hx hb hK hP 1 0 rfl rfl (by unfold vp_in; decide) dX8_sell_50 ?_
        refine lv_topi (fun v_8 e_8 => ?_)
        have e_8 : v_8 = fs 7 := e_8
        refine lv_iload_n hx hb dX8_sell_51 rfl (lv_at hl 1 rfl) ?_
        refine lv_isub hx hb dX8_sell_52 ?_
        refine lv_topi (fun v_9 e_9 => ?_)
        refine va_iast hx hb hK hP hD hS 1 0 rfl rfl (by unfold vp_in; decide) dX8_sell_53 (fun H locs hP hD hS => ?_)
        generalize hg_10 : upd fs (7 : Int32).toNatClampNeg v_9 = g_10 at hP hD
        have hu_10 : g_10 = upd fs 7 v_9 := hg_10.symm
        have hM_10 : okM g_10 w9 k9 h9 := okM_off (i := 7) hM hg_10 (by omega) (by omega) (by omega) (by omega) (by omega)
        have hP : va_P (dC, dI) vwCl [(xo_8_rrriirrriiiiiiirrirrrrri mo m_la m_sz m_it ms mt m_st m_mv m_tp (nI mz) ml (nI mp) mk mv mb mw m_rd m_ac (nI man_7) m_as m_wo m_ik m_ke m_tr (nI mx)), (xI m_st cI 38 g_10), (xI m_ac cI 912 fcn_7)] H := hP
        have hD := dto hP hD
        refine lv_aload_n hx hb dX8_sell_54 rfl (lv_at hl 0 rfl) ?_
        refine va_get (D := (dC, dI)) (ci := 8) (v := .ref m_st) (C := RX8) (T := TX8) (N := 24) hx hb hts i_X8_sell_X8 hown hK hP 0 rfl rfl 5 (by decide) (hts _ mx_X8_sell_5) (fun _ h9 => h9) rfl dX8_sell_55 ?_
        refine lv_bipush (v := 7) hx hb dX8_sell_58 (by decide) ?_
        refine va_iald hx hb hK hP 1 0 rfl rfl (by unfold vp_in; decide) dX8_sell_60 ?_
        refine lv_topi (fun v_11 e_11 => ?_)
        have e_11 : v_11 = g_10 7 := e_11
        have hX9 := cut2 (wc := [(xo_8_rrriirrriiiiiiirrirrrrri mo m_la m_sz m_it ms mt m_st m_mv m_tp (nI mz) ml (nI mp) mk mv mb mw m_rd m_ac (nI man_7) m_as m_wo m_ik m_ke m_tr (nI mx)), (xI m_st cI 38 g_10), (xI m_ac cI 912 fcn_7)]) hP hD [0, 1, 2] (by decide +kernel) rfl
        exact W.iret (v := v_11) hx hb hr (fun t ht hW => ⟨⟨v_11, (), rfl, (lf_X8_sell_10 hM hT h999 hT0 hac hma c_1 hkn1 hw1 h01 f_2_1_0 q_2 hj_2 e_5 c_6 hF_7_0 hF_7_1 hF_7_2 hF_7_3 hF_7_4 e_8 e_9 hu_10 e_11), ⟨g_10, fcn_7, man_7, w9, k9, h9, va_Ht ht hX9.1, hX9.2, hM_10, hT, (by omega), hF_7_0, (by omega), (lf_X8_sell_6 hM hT h999 hT0 hac hma c_1 hkn1 hw1 h01 f_2_1_0 q_2 hj_2 e_5 c_6 hF_7_0 hF_7_1 hF_7_2 hF_7_3 hF_7_4 e_8 e_9 hu_10 e_11), (lf_X8_sell_7 hM hT h999 hT0 hac hma c_1 hkn1 hw1 h01 f_2_1_0 q_2 hj_2 e_5 c_6 hF_7_0 hF_7_1 hF_7_2 hF_7_3 hF_7_4 e_8 e_9 hu_10 e_11), (lf_X8_sell_8 hM hT h999 hT0 hac hma c_1 hkn1 hw1 h01 f_2_1_0 q_2 hj_2 e_5 c_6 hF_7_0 hF_7_1 hF_7_2 hF_7_3 hF_7_4 e_8 e_9 hu_10 e_11), (lf_X8_sell_9 hM hT h999 hT0 hac hma c_1 hkn1 hw1 h01 f_2_1_0 q_2 hj_2 e_5 c_6 hF_7_0 hF_7_1 hF_7_2 hF_7_3 hF_7_4 e_8 e_9 hu_10 e_11)⟩⟩, hS.F ht⟩) hS.2.2 dX8_sell_61
      · skip
        refine lv_ldc (own := RX8) (v := (-1000002)) hx hb hown (hts _ mx_X8_sell_2) dX8_sell_36 ?_
        have hX9 := cut2 (wc := [(xo_8_rrriirrriiiiiiirrirrrrri mo m_la m_sz m_it ms mt m_st m_mv m_tp (nI mz) ml (nI mp) mk mv mb mw m_rd m_ac (nI ma) m_as m_wo m_ik m_ke m_tr (nI mx)), (xI m_st cI 38 fs), (xI m_ac cI 912 fc)]) hP hD [0, 1, 2] (by decide +kernel) rfl
        exact W.iret (v := (-1000002)) hx hb hr (fun t ht hW => ⟨⟨(-1000002), (), rfl, (lf_X8_sell_15 hM hT h999 hT0 hac hma c_1 hkn1 hw1 h01 f_2_1_0 q_2 hj_2 e_5 c_6), ⟨fs, fc, ma, w9, k9, h9, va_Ht ht hX9.1, hX9.2, hM, hT, (by omega), hac, (by omega), (lf_X8_sell_11 hM hT h999 hT0 hac hma c_1 hkn1 hw1 h01 f_2_1_0 q_2 hj_2 e_5 c_6), (lf_X8_sell_12 hM hT h999 hT0 hac hma c_1 hkn1 hw1 h01 f_2_1_0 q_2 hj_2 e_5 c_6), (lf_X8_sell_13 hM hT h999 hT0 hac hma c_1 hkn1 hw1 h01 f_2_1_0 q_2 hj_2 e_5 c_6), (lf_X8_sell_14 hM hT h999 hT0 hac hma c_1 hkn1 hw1 h01 f_2_1_0 q_2 hj_2 e_5 c_6)⟩⟩, hS.F ht⟩) hS.2.2 dX8_sell_38
  · skip
    have h00 : fs 0 = 0 := (hT0 c_1).1
    refine lv_ldc (own := RX8) (v := (-1000002)) hx hb hown (hts _ mx_X8_sell_2) dX8_sell_7 ?_
    have hX9 := cut2 (wc := [(xo_8_rrriirrriiiiiiirrirrrrri mo m_la m_sz m_it ms mt m_st m_mv m_tp (nI mz) ml (nI mp) mk mv mb mw m_rd m_ac (nI ma) m_as m_wo m_ik m_ke m_tr (nI mx)), (xI m_st cI 38 fs), (xI m_ac cI 912 fc)]) hP hD [0, 1, 2] (by decide +kernel) rfl
    exact W.iret (v := (-1000002)) hx hb hr (fun t ht hW => ⟨⟨(-1000002), (), rfl, (lf_X8_sell_20 hM hT h999 hT0 hac hma c_1 h00), ⟨fs, fc, ma, w9, k9, h9, va_Ht ht hX9.1, hX9.2, hM, hT, (by omega), hac, (by omega), (lf_X8_sell_16 hM hT h999 hT0 hac hma c_1 h00), (lf_X8_sell_17 hM hT h999 hT0 hac hma c_1 h00), (lf_X8_sell_18 hM hT h999 hT0 hac hma c_1 h00), (lf_X8_sell_19 hM hT h999 hT0 hac hma c_1 h00)⟩⟩, hS.F ht⟩) hS.2.2 dX8_sell_9
theorem lf_X8_undo_1 {mt : Int32} {ma : Nat} {fs : Nat → Int32} {w9 : Nat} {k9 : Nat} {h9 : Nat} {fc : Nat → Int32} {w_8 : Nat → Int32} (hM : okM fs w9 k9 h9) (hT : ¬ mt = 0 → 1 ≤ k9) (h999 : h9 ≤ 999) (hT0 : mt = 0 → fs 0 = 0 ∧ ma = 0) (hac : okA fc ma) (hma : ma ≤ 24) (c_1 : ¬ (ma = 0)) (haf_0 : (∀ j : Nat, j < 38 → w_8 j = fc (38 * (ma - 1) + j))) : (mt = 0 → w_8 0 = 0 ∧ (ma - 1) = 0) := by
  first
  | exact hT0
  | (intro h_; have h9 := (hT0 h_).2; omega)
  | omega
  | exact acM_take
  | (unfold a_undo; grind)
  | (unfold n_undo; rw [if_neg (by omega)]; exact acM_top (by omega) haf_0)
  | (unfold n_undo; rw [if_pos (by omega)])
  | (subst c_1; exact acM_take (f := fc) (n := 0))
theorem lf_X8_undo_2 {mt : Int32} {ma : Nat} {fs : Nat → Int32} {w9 : Nat} {k9 : Nat} {h9 : Nat} {fc : Nat → Int32} {w_8 : Nat → Int32} (hM : okM fs w9 k9 h9) (hT : ¬ mt = 0 → 1 ≤ k9) (h999 : h9 ≤ 999) (hT0 : mt = 0 → fs 0 = 0 ∧ ma = 0) (hac : okA fc ma) (hma : ma ≤ 24) (c_1 : ¬ (ma = 0)) (haf_0 : (∀ j : Nat, j < 38 → w_8 j = fc (38 * (ma - 1) + j))) : m38 w_8 = n_undo (m38 fs) ma (acM fc ma) := by
  first
  | exact hT0
  | (intro h_; have h9 := (hT0 h_).2; omega)
  | omega
  | exact acM_take
  | (unfold a_undo; grind)
  | (unfold n_undo; rw [if_neg (by omega)]; exact acM_top (by omega) haf_0)
  | (unfold n_undo; rw [if_pos (by omega)])
  | (subst c_1; exact acM_take (f := fc) (n := 0))
theorem lf_X8_undo_3 {mt : Int32} {ma : Nat} {fs : Nat → Int32} {w9 : Nat} {k9 : Nat} {h9 : Nat} {fc : Nat → Int32} {w_8 : Nat → Int32} (hM : okM fs w9 k9 h9) (hT : ¬ mt = 0 → 1 ≤ k9) (h999 : h9 ≤ 999) (hT0 : mt = 0 → fs 0 = 0 ∧ ma = 0) (hac : okA fc ma) (hma : ma ≤ 24) (c_1 : ¬ (ma = 0)) (haf_0 : (∀ j : Nat, j < 38 → w_8 j = fc (38 * (ma - 1) + j))) : (ma - 1) = ma - 1 := by
  first
  | exact hT0
  | (intro h_; have h9 := (hT0 h_).2; omega)
  | omega
  | exact acM_take
  | (unfold a_undo; grind)
  | (unfold n_undo; rw [if_neg (by omega)]; exact acM_top (by omega) haf_0)
  | (unfold n_undo; rw [if_pos (by omega)])
  | (subst c_1; exact acM_take (f := fc) (n := 0))
theorem lf_X8_undo_4 {mt : Int32} {ma : Nat} {fs : Nat → Int32} {w9 : Nat} {k9 : Nat} {h9 : Nat} {fc : Nat → Int32} {w_8 : Nat → Int32} (hM : okM fs w9 k9 h9) (hT : ¬ mt = 0 → 1 ≤ k9) (h999 : h9 ≤ 999) (hT0 : mt = 0 → fs 0 = 0 ∧ ma = 0) (hac : okA fc ma) (hma : ma ≤ 24) (c_1 : ¬ (ma = 0)) (haf_0 : (∀ j : Nat, j < 38 → w_8 j = fc (38 * (ma - 1) + j))) : acM fc (ma - 1) = dpA ma (acM fc ma) := by
  first
  | exact hT0
  | (intro h_; have h9 := (hT0 h_).2; omega)
  | omega
  | exact acM_take
  | (unfold a_undo; grind)
  | (unfold n_undo; rw [if_neg (by omega)]; exact acM_top (by omega) haf_0)
  | (unfold n_undo; rw [if_pos (by omega)])
  | (subst c_1; exact acM_take (f := fc) (n := 0))
theorem lf_X8_undo_5 {mt : Int32} {ma : Nat} {fs : Nat → Int32} {w9 : Nat} {k9 : Nat} {h9 : Nat} {fc : Nat → Int32} {w_8 : Nat → Int32} (hM : okM fs w9 k9 h9) (hT : ¬ mt = 0 → 1 ≤ k9) (h999 : h9 ≤ 999) (hT0 : mt = 0 → fs 0 = 0 ∧ ma = 0) (hac : okA fc ma) (hma : ma ≤ 24) (c_1 : ¬ (ma = 0)) (haf_0 : (∀ j : Nat, j < 38 → w_8 j = fc (38 * (ma - 1) + j))) : (nI (ma - 1)) = (a_undo ma) := by
  first
  | exact hT0
  | (intro h_; have h9 := (hT0 h_).2; omega)
  | omega
  | exact acM_take
  | (unfold a_undo; grind)
  | (unfold n_undo; rw [if_neg (by omega)]; exact acM_top (by omega) haf_0)
  | (unfold n_undo; rw [if_pos (by omega)])
  | (subst c_1; exact acM_take (f := fc) (n := 0))
theorem lf_X8_undo_6 {mt : Int32} {ma : Nat} {fs : Nat → Int32} {w9 : Nat} {k9 : Nat} {h9 : Nat} {fc : Nat → Int32} (hM : okM fs w9 k9 h9) (hT : ¬ mt = 0 → 1 ≤ k9) (h999 : h9 ≤ 999) (hT0 : mt = 0 → fs 0 = 0 ∧ ma = 0) (hac : okA fc ma) (hma : ma ≤ 24) (c_1 : ma = 0) : (mt = 0 → fs 0 = 0 ∧ ma = 0) := by
  first
  | exact hT0
  | (intro h_; have h9 := (hT0 h_).2; omega)
  | omega
  | exact acM_take
  | (unfold a_undo; grind)
  | (unfold n_undo; rw [if_pos (by omega)])
  | (subst c_1; exact acM_take (f := fc) (n := 0))
theorem lf_X8_undo_7 {mt : Int32} {ma : Nat} {fs : Nat → Int32} {w9 : Nat} {k9 : Nat} {h9 : Nat} {fc : Nat → Int32} (hM : okM fs w9 k9 h9) (hT : ¬ mt = 0 → 1 ≤ k9) (h999 : h9 ≤ 999) (hT0 : mt = 0 → fs 0 = 0 ∧ ma = 0) (hac : okA fc ma) (hma : ma ≤ 24) (c_1 : ma = 0) : m38 fs = n_undo (m38 fs) ma (acM fc ma) := by
  first
  | exact hT0
  | (intro h_; have h9 := (hT0 h_).2; omega)
  | omega
  | exact acM_take
  | (unfold a_undo; grind)
  | (unfold n_undo; rw [if_pos (by omega)])
  | (subst c_1; exact acM_take (f := fc) (n := 0))
theorem lf_X8_undo_8 {mt : Int32} {ma : Nat} {fs : Nat → Int32} {w9 : Nat} {k9 : Nat} {h9 : Nat} {fc : Nat → Int32} (hM : okM fs w9 k9 h9) (hT : ¬ mt = 0 → 1 ≤ k9) (h999 : h9 ≤ 999) (hT0 : mt = 0 → fs 0 = 0 ∧ ma = 0) (hac : okA fc ma) (hma : ma ≤ 24) (c_1 : ma = 0) : ma = ma - 1 := by
  first
  | exact hT0
  | (intro h_; have h9 := (hT0 h_).2; omega)
  | omega
  | exact acM_take
  | (unfold a_undo; grind)
  | (unfold n_undo; rw [if_pos (by omega)])
  | (subst c_1; exact acM_take (f := fc) (n := 0))
theorem lf_X8_undo_9 {mt : Int32} {ma : Nat} {fs : Nat → Int32} {w9 : Nat} {k9 : Nat} {h9 : Nat} {fc : Nat → Int32} (hM : okM fs w9 k9 h9) (hT : ¬ mt = 0 → 1 ≤ k9) (h999 : h9 ≤ 999) (hT0 : mt = 0 → fs 0 = 0 ∧ ma = 0) (hac : okA fc ma) (hma : ma ≤ 24) (c_1 : ma = 0) : acM fc ma = dpA ma (acM fc ma) := by
  first
  | exact hT0
  | (intro h_; have h9 := (hT0 h_).2; omega)
  | omega
  | exact acM_take
  | (unfold a_undo; grind)
  | (unfold n_undo; rw [if_pos (by omega)])
  | (subst c_1; exact acM_take (f := fc) (n := 0))
theorem lf_X8_undo_10 {mt : Int32} {ma : Nat} {fs : Nat → Int32} {w9 : Nat} {k9 : Nat} {h9 : Nat} {fc : Nat → Int32} (hM : okM fs w9 k9 h9) (hT : ¬ mt = 0 → 1 ≤ k9) (h999 : h9 ≤ 999) (hT0 : mt = 0 → fs 0 = 0 ∧ ma = 0) (hac : okA fc ma) (hma : ma ≤ 24) (c_1 : ma = 0) : (-1000002) = (a_undo ma) := by
  first
  | exact hT0
  | (intro h_; have h9 := (hT0 h_).2; omega)
  | omega
  | exact acM_take
  | (unfold a_undo; grind)
  | (unfold n_undo; rw [if_pos (by omega)])
  | (subst c_1; exact acM_take (f := fc) (n := 0))
set_option maxHeartbeats 4000000 in
set_option maxRecDepth 100000 in
theorem r_X8_undo (l : Launch) (dC : Nat → ClassId) (dI : Nat → Nat → Nat) (cI cZ cL cJ : ClassId) (sz : Nat) (mo : Nat) (m_la : Nat) (m_sz : Nat) (m_it : Nat) (m_st : Nat) (m_mv : Nat) (m_tp : Nat) (m_rd : Nat) (m_ac : Nat) (m_as : Nat) (m_wo : Nat) (m_ik : Nat) (m_ke : Nat) (m_tr : Nat) (ms : Int32) (mt : Int32) (ml : Int32) (mk : Int32) (mv : Int32) (mb : Int32) (mw : Int32) (mz : Nat) (mp : Nat) (ma : Nat) (mx : Nat) (fs : Nat → Int32) (w9 : Nat) (k9 : Nat) (h9 : Nat) (fc : Nat → Int32) (hM : okM fs w9 k9 h9) (hT : ¬ mt = 0 → 1 ≤ k9) (h999 : h9 ≤ 999) (hT0 : mt = 0 → fs 0 = 0 ∧ ma = 0) (hac : okA fc ma) (hma : ma ≤ 24) : Met l yX8_undo wsX8_undo ({ frames := 0, cells := 0, slots := 0, locals := 0 }) (va_Pc [.ref mo] (fun U => U.heap.size = sz ∧ va_P (dC, dI) vwCl [(xo_8_rrriirrriiiiiiirrirrrrri mo m_la m_sz m_it ms mt m_st m_mv m_tp (nI mz) ml (nI mp) mk mv mb mw m_rd m_ac (nI ma) m_as m_wo m_ik m_ke m_tr (nI mx)), (xI m_st cI 38 fs), (xI m_ac cI 912 fc)] U.heap ∧ va_K (dC, dI) vwCl [(cI, .int), (cZ, .boolean), (cL, .object RX3), (cJ, .array .int)] U ∧ va_D (fun _ => True) [(xo_8_rrriirrriiiiiiirrirrrrri mo m_la m_sz m_it ms mt m_st m_mv m_tp (nI mz) ml (nI mp) mk mv mb mw m_rd m_ac (nI ma) m_as m_wo m_ik m_ke m_tr (nI mx)), (xI m_st cI 38 fs), (xI m_ac cI 912 fc)])) (va_Qi (fun r (_ : Unit) => r = (a_undo ma)) (fun (_ : Unit) t => ∃ (fsn : Nat → Int32) (fcn : Nat → Int32) (man : Nat) (w9n : Nat) (k9n : Nat) (h9n : Nat), va_P (dC, dI) vwCl [(xo_8_rrriirrriiiiiiirrirrrrri mo m_la m_sz m_it ms mt m_st m_mv m_tp (nI mz) ml (nI mp) mk mv mb mw m_rd m_ac (nI man) m_as m_wo m_ik m_ke m_tr (nI mx)), (xI m_st cI 38 fsn), (xI m_ac cI 912 fcn)] t.heap ∧ va_D (va_A [(xo_8_rrriirrriiiiiiirrirrrrri mo m_la m_sz m_it ms mt m_st m_mv m_tp (nI mz) ml (nI mp) mk mv mb mw m_rd m_ac (nI ma) m_as m_wo m_ik m_ke m_tr (nI mx)), (xI m_st cI 38 fs), (xI m_ac cI 912 fc)] sz) [(xo_8_rrriirrriiiiiiirrirrrrri mo m_la m_sz m_it ms mt m_st m_mv m_tp (nI mz) ml (nI mp) mk mv mb mw m_rd m_ac (nI man) m_as m_wo m_ik m_ke m_tr (nI mx)), (xI m_st cI 38 fsn), (xI m_ac cI 912 fcn)] ∧ okM fsn w9n k9n h9n ∧ (¬ mt = 0 → 1 ≤ k9n) ∧ h9n ≤ 999 ∧ okA fcn man ∧ man ≤ 24 ∧ (mt = 0 → fsn 0 = 0 ∧ man = 0) ∧ m38 fsn = n_undo (m38 fs) ma (acM fc ma) ∧ man = ma - 1 ∧ acM fcn man = dpA ma (acM fc ma)) (va_A [(xo_8_rrriirrriiiiiiirrirrrrri mo m_la m_sz m_it ms mt m_st m_mv m_tp (nI mz) ml (nI mp) mk mv mb mw m_rd m_ac (nI ma) m_as m_wo m_ik m_ke m_tr (nI mx)), (xI m_st cI 38 fs), (xI m_ac cI 912 fc)] sz)) 0 0 (va_A [(xo_8_rrriirrriiiiiiirrirrrrri mo m_la m_sz m_it ms mt m_st m_mv m_tp (nI mz) ml (nI mp) mk mv mb mw m_rd m_ac (nI ma) m_as m_wo m_ik m_ke m_tr (nI mx)), (xI m_st cI 38 fs), (xI m_ac cI 912 fc)] sz) := by
  refine Met.ofW (cc := cX8_undo) (maxL := 2) (ret := (some .int)) (by decide) rfl ?_
  intro p e s m args below meth c s₁ B hml hv
  obtain ⟨rfl, hsz, hP, hK, hD0⟩ := hv
  have hx := B.exec
  have hb := B.bytes
  have hr := B.returns
  have hts := atoms_spec (ws := wsX8_undo) B.pre
  have hown : s.vm.findClass RX8 = some m.cls := findClass_of_methodNamed B.named
  have hlocks := B.notSynchronized
  subst hsz
  have hD := hD0.self (sz := s.heap.size)
  generalize hAe : va_A [(xo_8_rrriirrriiiiiiirrirrrrri mo m_la m_sz m_it ms mt m_st m_mv m_tp (nI mz) ml (nI mp) mk mv mb mw m_rd m_ac (nI ma) m_as m_wo m_ik m_ke m_tr (nI mx)), (xI m_st cI 38 fs), (xI m_ac cI 912 fc)] s.heap.size = A at hD ⊢
  have hA : ∀ q : Nat, s.heap.size ≤ q → A q := fun q h => by rw [← hAe]; exact Or.inr h
  have hS : va_S A s.heap s.heap [] := va_S.rf
  have hP : va_P (dC, dI) vwCl [(xo_8_rrriirrriiiiiiirrirrrrri mo m_la m_sz m_it ms mt m_st m_mv m_tp (nI mz) ml (nI mp) mk mv mb mw m_rd m_ac (nI ma) m_as m_wo m_ik m_ke m_tr (nI mx)), (xI m_st cI 38 fs), (xI m_ac cI 912 fc)] s.heap := hP
  have hl := lv_entry ([.ref mo]) (n := 2) (Nat.le_of_ble_eq_true rfl)
  rw [lg_entry_eq]
  generalize (lg_sl ([.ref mo]) ++ List.replicate (2 - (lg_sl ([.ref mo])).length) Slot.unset).toArray = ls at hl ⊢
  have hl : lv_has ls 2 [(0, .ref mo)] := hl
  have hk6 := hM.2.2.2.2.1
  have hw6 := hM.2.2.2.1
  refine lv_aload_n hx hb dX8_undo_0 rfl (lv_at hl 0 rfl) ?_
  refine va_get (D := (dC, dI)) (ci := 8) (v := .int (nI ma)) (C := RX8) (T := TX8) (N := 24) hx hb hts i_X8_undo_X8 hown hK hP 0 rfl rfl 17 (by decide) (hts _ mx_X8_undo_1) (fun _ h9 => h9) rfl dX8_undo_1 ?_
  refine lv_if_ne (tgt := 10) hx hb dX8_undo_4 (by decide) (fun c_1 => ?_) (fun c_1 => ?_)
  · have c_1 : ¬ (ma = 0) := fun q_ => c_1 ((nI_eq (a := ma) (b := 0) (by omega) (by omega)).mpr q_)
    refine lv_aload_n hx hb dX8_undo_10 rfl (lv_at hl 0 rfl) ?_
    refine lv_dup hx hb dX8_undo_11 rfl ?_
    refine va_get (D := (dC, dI)) (ci := 8) (v := .int (nI ma)) (C := RX8) (T := TX8) (N := 24) hx hb hts i_X8_undo_X8 hown hK hP 0 rfl rfl 17 (by decide) (hts _ mx_X8_undo_1) (fun _ h9 => h9) rfl dX8_undo_12 ?_
    refine lv_iconst (v := 1) hx hb dX8_undo_15 (by decide) ?_
    refine lv_isub hx hb dX8_undo_16 ?_
    refine lv_topi (fun v_2 e_2 => ?_)
    obtain rfl : v_2 = (nI (ma - 1)) := (e_2).trans (pk_sub (a := ma) (b := 1) (by omega))
    refine va_put (D := (dC, dI)) (ci := 8) (v := .int (nI (ma - 1))) (ty := .int) (C := RX8) (T := TX8) (N := 24) hx hb hts i_X8_undo_X8 tyX8 tyX8_ok nmX8 hown hK hP hD hS 0 rfl rfl 17 (by decide) (hts _ mx_X8_undo_1) (fun _ h9 => h9) rfl (by decide +kernel) rfl rfl (Nat.le_of_ble_eq_true rfl) dX8_undo_17 (fun H locs hP hD hS => ?_)
    have hP : va_P (dC, dI) vwCl [(xo_8_rrriirrriiiiiiirrirrrrri mo m_la m_sz m_it ms mt m_st m_mv m_tp (nI mz) ml (nI mp) mk mv mb mw m_rd m_ac (nI (ma - 1)) m_as m_wo m_ik m_ke m_tr (nI mx)), (xI m_st cI 38 fs), (xI m_ac cI 912 fc)] H := hP
    have hD := dto hP hD
    refine lv_iconst (v := 0) hx hb dX8_undo_20 (by decide) ?_
    refine lv_istore_n (lv' := [(1, .int 0), (0, .ref mo)]) hx hb dX8_undo_21 rfl hl (by decide) rfl (fun ls hl => ?_)
    refine lp_go (σ := (Nat → Int32)) (fun ii (st : (Nat → Int32)) H locs ls => match st with | w_8 => lv_has ls 2 [(1, .int (nI ii)), (0, .ref mo)] ∧ va_P (dC, dI) vwCl [(xo_8_rrriirrriiiiiiirrirrrrri mo m_la m_sz m_it ms mt m_st m_mv m_tp (nI mz) ml (nI mp) mk mv mb mw m_rd m_ac (nI (ma - 1)) m_as m_wo m_ik m_ke m_tr (nI mx)), (xI m_st cI 38 w_8), (xI m_ac cI 912 fc)] H ∧ va_D A [(xo_8_rrriirrriiiiiiirrirrrrri mo m_la m_sz m_it ms mt m_st m_mv m_tp (nI mz) ml (nI mp) mk mv mb mw m_rd m_ac (nI (ma - 1)) m_as m_wo m_ik m_ke m_tr (nI mx)), (xI m_st cI 38 w_8), (xI m_ac cI 912 fc)] ∧ va_S A s.heap H locs ∧ (∀ j : Nat, j < ii → w_8 j = fc (38 * (ma - 1) + j))) 38 ?_ ?_ 0 (by omega) (fs) ⟨lv_sub hl [0, 1] rfl, hP.sub (ws' := [(xo_8_rrriirrriiiiiiirrirrrrri mo m_la m_sz m_it ms mt m_st m_mv m_tp (nI mz) ml (nI mp) mk mv mb mw m_rd m_ac (nI (ma - 1)) m_as m_wo m_ik m_ke m_tr (nI mx)), (xI m_st cI 38 fs), (xI m_ac cI 912 fc)]) [0, 1, 2] rfl, hD.sub (ws' := [(xo_8_rrriirrriiiiiiirrirrrrri mo m_la m_sz m_it ms mt m_st m_mv m_tp (nI mz) ml (nI mp) mk mv mb mw m_rd m_ac (nI (ma - 1)) m_as m_wo m_ik m_ke m_tr (nI mx)), (xI m_st cI 38 fs), (xI m_ac cI 912 fc)]) [0, 1, 2] (by decide +kernel) rfl, hS, (fun j h_ => absurd h_ (Nat.not_lt_zero j))⟩
    · rintro ii w_8 H locs ls hii ⟨hl, hP, hD, hS, haf_0⟩ ih
      refine lv_iload_n hx hb dX8_undo_22 rfl (lv_at hl 0 rfl) ?_
      refine lv_bipush (v := 38) hx hb dX8_undo_23 (by decide) ?_
      refine lv_icmp_ge (tgt := 54) hx hb dX8_undo_25 (by decide) (fun c_ => absurd c_ (fun q_ => absurd ((nI_leI (a := 38) (b := ii) (by omega) (by omega)).mp q_) (by omega))) (fun _ => ?_)
      refine lv_aload_n hx hb dX8_undo_28 rfl (lv_at hl 1 rfl) ?_
      refine va_get (D := (dC, dI)) (ci := 8) (v := .ref m_st) (C := RX8) (T := TX8) (N := 24) hx hb hts i_X8_undo_X8 hown hK hP 0 rfl rfl 5 (by decide) (hts _ mx_X8_undo_3) (fun _ h9 => h9) rfl dX8_undo_29 ?_
      refine lv_iload_n hx hb dX8_undo_32 rfl (lv_at hl 0 rfl) ?_
      refine lv_aload_n hx hb dX8_undo_33 rfl (lv_at hl 1 rfl) ?_
      refine va_get (D := (dC, dI)) (ci := 8) (v := .ref m_ac) (C := RX8) (T := TX8) (N := 24) hx hb hts i_X8_undo_X8 hown hK hP 0 rfl rfl 16 (by decide) (hts _ mx_X8_undo_4) (fun _ h9 => h9) rfl dX8_undo_34 ?_
      refine lv_bipush (v := 38) hx hb dX8_undo_37 (by decide) ?_
      refine lv_aload_n hx hb dX8_undo_39 rfl (lv_at hl 1 rfl) ?_
      refine va_get (D := (dC, dI)) (ci := 8) (v := .int (nI (ma - 1))) (C := RX8) (T := TX8) (N := 24) hx hb hts i_X8_undo_X8 hown hK hP 0 rfl rfl 17 (by decide) (hts _ mx_X8_undo_1) (fun _ h9 => h9) rfl dX8_undo_40 ?_
      refine lv_imul hx hb dX8_undo_43 ?_
      refine lv_topi (fun v_16 e_16 => ?_)
      obtain rfl : v_16 = (nI (38 * (ma - 1))) := (e_16).trans (pk_mul 38 (ma - 1))
      refine lv_iload_n hx hb dX8_undo_44 rfl (lv_at hl 0 rfl) ?_
      refine lv_iadd hx hb dX8_undo_45 ?_
      refine lv_topi (fun v_17 e_17 => ?_)
      obtain rfl : v_17 = (nI ((38 * (ma - 1)) + ii)) := (e_17).trans (nI_add (38 * (ma - 1)) ii)
      refine va_iald hx hb hK hP 2 0 rfl rfl (vp_in_nI (by omega) (by omega)) dX8_undo_46 ?_
      refine lv_topi (fun v_18 e_18 => ?_)
      have e_18 : v_18 = fc ((38 * (ma - 1)) + ii) := e_18.trans (congrArg fc (nI_clamp (by omega)))
      refine va_iast hx hb hK hP hD hS 1 0 rfl rfl (vp_in_nI (by omega) (by omega)) dX8_undo_47 (fun H locs hP hD hS => ?_)
      generalize hg_19 : upd w_8 ((nI ii) : Int32).toNatClampNeg v_18 = g_19 at hP hD
      have hu_19 : g_19 = upd w_8 ii v_18 := (by rw [← hg_19, nI_clamp (by omega)])
      have hP : va_P (dC, dI) vwCl [(xo_8_rrriirrriiiiiiirrirrrrri mo m_la m_sz m_it ms mt m_st m_mv m_tp (nI mz) ml (nI mp) mk mv mb mw m_rd m_ac (nI (ma - 1)) m_as m_wo m_ik m_ke m_tr (nI mx)), (xI m_st cI 38 g_19), (xI m_ac cI 912 fc)] H := hP
      have hD := dto hP hD
      refine lv_iinc (v := (nI (ii + 1))) (lv' := [(1, .int (nI (ii + 1))), (0, .ref mo)]) hx hb dX8_undo_48 hl (k := 0) rfl (nI_add ii 1) (by decide) rfl (fun ls hl => ?_)
      refine lv_goto (tgt := 22) hx hb dX8_undo_51 (by decide) ?_
      exact ih (g_19) _ _ _ ⟨lv_sub hl [0, 1] rfl, hP.sub (ws' := [(xo_8_rrriirrriiiiiiirrirrrrri mo m_la m_sz m_it ms mt m_st m_mv m_tp (nI mz) ml (nI mp) mk mv mb mw m_rd m_ac (nI (ma - 1)) m_as m_wo m_ik m_ke m_tr (nI mx)), (xI m_st cI 38 g_19), (xI m_ac cI 912 fc)]) [0, 1, 2] rfl, hD.sub (ws' := [(xo_8_rrriirrriiiiiiirrirrrrri mo m_la m_sz m_it ms mt m_st m_mv m_tp (nI mz) ml (nI mp) mk mv mb mw m_rd m_ac (nI (ma - 1)) m_as m_wo m_ik m_ke m_tr (nI mx)), (xI m_st cI 38 g_19), (xI m_ac cI 912 fc)]) [0, 1, 2] (by decide +kernel) rfl, hS, (cp_s (a := 38 * (ma - 1)) haf_0 (by omega) (e_18.trans (congrArg fc (nI_clamp (by omega)).symm)) hg_19)⟩
    · rintro w_8 H locs ls ⟨hl, hP, hD, hS, haf_0⟩
      refine lv_iload_n hx hb dX8_undo_22 rfl (lv_at hl 0 rfl) ?_
      refine lv_bipush (v := 38) hx hb dX8_undo_23 (by decide) ?_
      refine lv_icmp_ge (tgt := 54) hx hb dX8_undo_25 (by decide) (fun _ => ?_) (fun c_ => absurd ((nI_leI (a := 38) (b := 38) (by omega) (by omega)).mpr (by omega)) c_)
      obtain ⟨uw, uk, uh, uM, uk1, uh9⟩ := okK_eq (hac (ma - 1) (by omega)) haf_0
      have hac2 : okA fc (ma - 1) := okA_le hac (by omega)
      refine lv_aload_n hx hb dX8_undo_54 rfl (lv_at hl 1 rfl) ?_
      refine va_get (D := (dC, dI)) (ci := 8) (v := .int (nI (ma - 1))) (C := RX8) (T := TX8) (N := 24) hx hb hts i_X8_undo_X8 hown hK hP 0 rfl rfl 17 (by decide) (hts _ mx_X8_undo_1) (fun _ h9 => h9) rfl dX8_undo_55 ?_
      have hX9 := cut2 (wc := [(xo_8_rrriirrriiiiiiirrirrrrri mo m_la m_sz m_it ms mt m_st m_mv m_tp (nI mz) ml (nI mp) mk mv mb mw m_rd m_ac (nI (ma - 1)) m_as m_wo m_ik m_ke m_tr (nI mx)), (xI m_st cI 38 w_8), (xI m_ac cI 912 fc)]) hP hD [0, 1, 2] (by decide +kernel) rfl
      exact W.iret (v := (nI (ma - 1))) hx hb hr (fun t ht hW => ⟨⟨(nI (ma - 1)), (), rfl, (lf_X8_undo_5 hM hT h999 hT0 hac hma c_1 haf_0), ⟨w_8, fc, (ma - 1), uw, uk, uh, va_Ht ht hX9.1, hX9.2, uM, (fun _ => uk1), (by omega), hac2, (by omega), (lf_X8_undo_1 hM hT h999 hT0 hac hma c_1 haf_0), (lf_X8_undo_2 hM hT h999 hT0 hac hma c_1 haf_0), (lf_X8_undo_3 hM hT h999 hT0 hac hma c_1 haf_0), (lf_X8_undo_4 hM hT h999 hT0 hac hma c_1 haf_0)⟩⟩, hS.F ht⟩) hS.2.2 dX8_undo_58
  · have c_1 : ma = 0 := (nI_eq (a := ma) (b := 0) (by omega) (by omega)).mp c_1
    refine lv_ldc (own := RX8) (v := (-1000002)) hx hb hown (hts _ mx_X8_undo_2) dX8_undo_7 ?_
    have hX9 := cut2 (wc := [(xo_8_rrriirrriiiiiiirrirrrrri mo m_la m_sz m_it ms mt m_st m_mv m_tp (nI mz) ml (nI mp) mk mv mb mw m_rd m_ac (nI ma) m_as m_wo m_ik m_ke m_tr (nI mx)), (xI m_st cI 38 fs), (xI m_ac cI 912 fc)]) hP hD [0, 1, 2] (by decide +kernel) rfl
    exact W.iret (v := (-1000002)) hx hb hr (fun t ht hW => ⟨⟨(-1000002), (), rfl, (lf_X8_undo_10 hM hT h999 hT0 hac hma c_1), ⟨fs, fc, ma, w9, k9, h9, va_Ht ht hX9.1, hX9.2, hM, hT, (by omega), hac, (by omega), (lf_X8_undo_6 hM hT h999 hT0 hac hma c_1), (lf_X8_undo_7 hM hT h999 hT0 hac hma c_1), (lf_X8_undo_8 hM hT h999 hT0 hac hma c_1), (lf_X8_undo_9 hM hT h999 hT0 hac hma c_1)⟩⟩, hS.F ht⟩) hS.2.2 dX8_undo_9
theorem lf_X8_hours_1 {mt : Int32} {ma : Nat} {fs : Nat → Int32} {w9 : Nat} {k9 : Nat} {h9 : Nat} {fc : Nat → Int32} {a0 : Int32} (hM : okM fs w9 k9 h9) (hT : ¬ mt = 0 → 1 ≤ k9) (h999 : h9 ≤ 999) (hT0 : mt = 0 → fs 0 = 0 ∧ ma = 0) (hac : okA fc ma) (hma : ma ≤ 24) (c_1 : ¬ (mt = 0)) (hkn1 : 1 ≤ k9) (hw1 : 1 ≤ w9) (h01 : ¬ fs 0 = 0) (f_2_0_0 : ((a0).toInt64 < 1 ∨ 24 < (a0).toInt64)) (q_2 : (a0 < 1 ∨ 24 < a0)) : (mt = 0 → fs 0 = 0 ∧ ma = 0) := by
  have hw6 := hM.2.2.2.1
  have hk6 := hM.2.2.2.2.1
  first
  | exact hT0
  | (intro h_; exact absurd (hT0 h_).1 h01)
  | (intro h_; have h9 := (hT0 h_).2; omega)
  | exact (hrsM_0 (r := m38 fs) (An := ma) (Ac := acM fc ma) h00).1
  | exact (hrsM_0 (r := m38 fs) (An := ma) (Ac := acM fc ma) h00).2.1
  | exact (hrsM_0 (r := m38 fs) (An := ma) (Ac := acM fc ma) h00).2.2.1
  | exact (hrsM_0 (r := m38 fs) (An := ma) (Ac := acM fc ma) h00).2.2.2
  | exact (hrsM_1 (r := m38 fs) (An := ma) (Ac := acM fc ma) h01 q_2).1
  | exact (hrsM_1 (r := m38 fs) (An := ma) (Ac := acM fc ma) h01 q_2).2.1
  | exact (hrsM_1 (r := m38 fs) (An := ma) (Ac := acM fc ma) h01 q_2).2.2.1
  | exact (hrsM_1 (r := m38 fs) (An := ma) (Ac := acM fc ma) h01 q_2).2.2.2
  | exact (hrsM_2 (r := m38 fs) (An := ma) (Ac := acM fc ma) (h := h9) (j := j_2) (fun q => q_2 (Or.inl q)) h01 hj_2 hM.2.2.1 h999 c_7).1
  | exact (hrsM_2 (r := m38 fs) (An := ma) (Ac := acM fc ma) (h := h9) (j := j_2) (fun q => q_2 (Or.inl q)) h01 hj_2 hM.2.2.1 h999 c_7).2.1
  | exact (hrsM_2 (r := m38 fs) (An := ma) (Ac := acM fc ma) (h := h9) (j := j_2) (fun q => q_2 (Or.inl q)) h01 hj_2 hM.2.2.1 h999 c_7).2.2.1
  | exact (hrsM_2 (r := m38 fs) (An := ma) (Ac := acM fc ma) (h := h9) (j := j_2) (fun q => q_2 (Or.inl q)) h01 hj_2 hM.2.2.1 h999 c_7).2.2.2
  | exact (hrs_pos (r := m38 fs) (An := ma) (Ac := acM fc ma) (h := h9) (j := j_2) (fun q => q_2 (Or.inl q)) h01 hj_2 hM.2.2.1 c_7 haf_1).1
  | exact (hrs_pos (r := m38 fs) (An := ma) (Ac := acM fc ma) (h := h9) (j := j_2) (fun q => q_2 (Or.inl q)) h01 hj_2 hM.2.2.1 c_7 haf_1).2.1
  | exact (hrs_pos (r := m38 fs) (An := ma) (Ac := acM fc ma) (h := h9) (j := j_2) (fun q => q_2 (Or.inl q)) h01 hj_2 hM.2.2.1 c_7 haf_1).2.2.1
  | exact (hrs_pos (r := m38 fs) (An := ma) (Ac := acM fc ma) (h := h9) (j := j_2) (fun q => q_2 (Or.inl q)) h01 hj_2 hM.2.2.1 c_7 haf_1).2.2.2
  | exact e_24.trans (hrs_pos (r := m38 fs) (An := ma) (Ac := acM fc ma) (h := h9) (j := j_2) (fun q => q_2 (Or.inl q)) h01 hj_2 hM.2.2.1 c_7 haf_1).2.2.2
theorem lf_X8_hours_2 {mt : Int32} {ma : Nat} {fs : Nat → Int32} {w9 : Nat} {k9 : Nat} {h9 : Nat} {fc : Nat → Int32} {a0 : Int32} (hM : okM fs w9 k9 h9) (hT : ¬ mt = 0 → 1 ≤ k9) (h999 : h9 ≤ 999) (hT0 : mt = 0 → fs 0 = 0 ∧ ma = 0) (hac : okA fc ma) (hma : ma ≤ 24) (c_1 : ¬ (mt = 0)) (hkn1 : 1 ≤ k9) (hw1 : 1 ≤ w9) (h01 : ¬ fs 0 = 0) (f_2_0_0 : ((a0).toInt64 < 1 ∨ 24 < (a0).toInt64)) (q_2 : (a0 < 1 ∨ 24 < a0)) : m38 fs = (s_hrs (m38 fs) ma (acM fc ma) a0).1 := by
  have hw6 := hM.2.2.2.1
  have hk6 := hM.2.2.2.2.1
  first
  | exact hT0
  | (intro h_; exact absurd (hT0 h_).1 h01)
  | (intro h_; have h9 := (hT0 h_).2; omega)
  | exact (hrsM_0 (r := m38 fs) (An := ma) (Ac := acM fc ma) h00).1
  | exact (hrsM_0 (r := m38 fs) (An := ma) (Ac := acM fc ma) h00).2.1
  | exact (hrsM_0 (r := m38 fs) (An := ma) (Ac := acM fc ma) h00).2.2.1
  | exact (hrsM_0 (r := m38 fs) (An := ma) (Ac := acM fc ma) h00).2.2.2
  | exact (hrsM_1 (r := m38 fs) (An := ma) (Ac := acM fc ma) h01 q_2).1
  | exact (hrsM_1 (r := m38 fs) (An := ma) (Ac := acM fc ma) h01 q_2).2.1
  | exact (hrsM_1 (r := m38 fs) (An := ma) (Ac := acM fc ma) h01 q_2).2.2.1
  | exact (hrsM_1 (r := m38 fs) (An := ma) (Ac := acM fc ma) h01 q_2).2.2.2
  | exact (hrsM_2 (r := m38 fs) (An := ma) (Ac := acM fc ma) (h := h9) (j := j_2) (fun q => q_2 (Or.inl q)) h01 hj_2 hM.2.2.1 h999 c_7).1
  | exact (hrsM_2 (r := m38 fs) (An := ma) (Ac := acM fc ma) (h := h9) (j := j_2) (fun q => q_2 (Or.inl q)) h01 hj_2 hM.2.2.1 h999 c_7).2.1
  | exact (hrsM_2 (r := m38 fs) (An := ma) (Ac := acM fc ma) (h := h9) (j := j_2) (fun q => q_2 (Or.inl q)) h01 hj_2 hM.2.2.1 h999 c_7).2.2.1
  | exact (hrsM_2 (r := m38 fs) (An := ma) (Ac := acM fc ma) (h := h9) (j := j_2) (fun q => q_2 (Or.inl q)) h01 hj_2 hM.2.2.1 h999 c_7).2.2.2
  | exact (hrs_pos (r := m38 fs) (An := ma) (Ac := acM fc ma) (h := h9) (j := j_2) (fun q => q_2 (Or.inl q)) h01 hj_2 hM.2.2.1 c_7 haf_1).1
  | exact (hrs_pos (r := m38 fs) (An := ma) (Ac := acM fc ma) (h := h9) (j := j_2) (fun q => q_2 (Or.inl q)) h01 hj_2 hM.2.2.1 c_7 haf_1).2.1
  | exact (hrs_pos (r := m38 fs) (An := ma) (Ac := acM fc ma) (h := h9) (j := j_2) (fun q => q_2 (Or.inl q)) h01 hj_2 hM.2.2.1 c_7 haf_1).2.2.1
  | exact (hrs_pos (r := m38 fs) (An := ma) (Ac := acM fc ma) (h := h9) (j := j_2) (fun q => q_2 (Or.inl q)) h01 hj_2 hM.2.2.1 c_7 haf_1).2.2.2
  | exact e_24.trans (hrs_pos (r := m38 fs) (An := ma) (Ac := acM fc ma) (h := h9) (j := j_2) (fun q => q_2 (Or.inl q)) h01 hj_2 hM.2.2.1 c_7 haf_1).2.2.2
theorem lf_X8_hours_3 {mt : Int32} {ma : Nat} {fs : Nat → Int32} {w9 : Nat} {k9 : Nat} {h9 : Nat} {fc : Nat → Int32} {a0 : Int32} (hM : okM fs w9 k9 h9) (hT : ¬ mt = 0 → 1 ≤ k9) (h999 : h9 ≤ 999) (hT0 : mt = 0 → fs 0 = 0 ∧ ma = 0) (hac : okA fc ma) (hma : ma ≤ 24) (c_1 : ¬ (mt = 0)) (hkn1 : 1 ≤ k9) (hw1 : 1 ≤ w9) (h01 : ¬ fs 0 = 0) (f_2_0_0 : ((a0).toInt64 < 1 ∨ 24 < (a0).toInt64)) (q_2 : (a0 < 1 ∨ 24 < a0)) : ma = (s_hrs (m38 fs) ma (acM fc ma) a0).2.1 := by
  have hw6 := hM.2.2.2.1
  have hk6 := hM.2.2.2.2.1
  first
  | exact hT0
  | (intro h_; exact absurd (hT0 h_).1 h01)
  | (intro h_; have h9 := (hT0 h_).2; omega)
  | exact (hrsM_0 (r := m38 fs) (An := ma) (Ac := acM fc ma) h00).1
  | exact (hrsM_0 (r := m38 fs) (An := ma) (Ac := acM fc ma) h00).2.1
  | exact (hrsM_0 (r := m38 fs) (An := ma) (Ac := acM fc ma) h00).2.2.1
  | exact (hrsM_0 (r := m38 fs) (An := ma) (Ac := acM fc ma) h00).2.2.2
  | exact (hrsM_1 (r := m38 fs) (An := ma) (Ac := acM fc ma) h01 q_2).1
  | exact (hrsM_1 (r := m38 fs) (An := ma) (Ac := acM fc ma) h01 q_2).2.1
  | exact (hrsM_1 (r := m38 fs) (An := ma) (Ac := acM fc ma) h01 q_2).2.2.1
  | exact (hrsM_1 (r := m38 fs) (An := ma) (Ac := acM fc ma) h01 q_2).2.2.2
  | exact (hrsM_2 (r := m38 fs) (An := ma) (Ac := acM fc ma) (h := h9) (j := j_2) (fun q => q_2 (Or.inl q)) h01 hj_2 hM.2.2.1 h999 c_7).1
  | exact (hrsM_2 (r := m38 fs) (An := ma) (Ac := acM fc ma) (h := h9) (j := j_2) (fun q => q_2 (Or.inl q)) h01 hj_2 hM.2.2.1 h999 c_7).2.1
  | exact (hrsM_2 (r := m38 fs) (An := ma) (Ac := acM fc ma) (h := h9) (j := j_2) (fun q => q_2 (Or.inl q)) h01 hj_2 hM.2.2.1 h999 c_7).2.2.1
  | exact (hrsM_2 (r := m38 fs) (An := ma) (Ac := acM fc ma) (h := h9) (j := j_2) (fun q => q_2 (Or.inl q)) h01 hj_2 hM.2.2.1 h999 c_7).2.2.2
  | exact (hrs_pos (r := m38 fs) (An := ma) (Ac := acM fc ma) (h := h9) (j := j_2) (fun q => q_2 (Or.inl q)) h01 hj_2 hM.2.2.1 c_7 haf_1).1
  | exact (hrs_pos (r := m38 fs) (An := ma) (Ac := acM fc ma) (h := h9) (j := j_2) (fun q => q_2 (Or.inl q)) h01 hj_2 hM.2.2.1 c_7 haf_1).2.1
  | exact (hrs_pos (r := m38 fs) (An := ma) (Ac := acM fc ma) (h := h9) (j := j_2) (fun q => q_2 (Or.inl q)) h01 hj_2 hM.2.2.1 c_7 haf_1).2.2.1
  | exact (hrs_pos (r := m38 fs) (An := ma) (Ac := acM fc ma) (h := h9) (j := j_2) (fun q => q_2 (Or.inl q)) h01 hj_2 hM.2.2.1 c_7 haf_1).2.2.2
  | exact e_24.trans (hrs_pos (r := m38 fs) (An := ma) (Ac := acM fc ma) (h := h9) (j := j_2) (fun q => q_2 (Or.inl q)) h01 hj_2 hM.2.2.1 c_7 haf_1).2.2.2
theorem lf_X8_hours_4 {mt : Int32} {ma : Nat} {fs : Nat → Int32} {w9 : Nat} {k9 : Nat} {h9 : Nat} {fc : Nat → Int32} {a0 : Int32} (hM : okM fs w9 k9 h9) (hT : ¬ mt = 0 → 1 ≤ k9) (h999 : h9 ≤ 999) (hT0 : mt = 0 → fs 0 = 0 ∧ ma = 0) (hac : okA fc ma) (hma : ma ≤ 24) (c_1 : ¬ (mt = 0)) (hkn1 : 1 ≤ k9) (hw1 : 1 ≤ w9) (h01 : ¬ fs 0 = 0) (f_2_0_0 : ((a0).toInt64 < 1 ∨ 24 < (a0).toInt64)) (q_2 : (a0 < 1 ∨ 24 < a0)) : acM fc ma = (s_hrs (m38 fs) ma (acM fc ma) a0).2.2 := by
  have hw6 := hM.2.2.2.1
  have hk6 := hM.2.2.2.2.1
  first
  | exact hT0
  | (intro h_; exact absurd (hT0 h_).1 h01)
  | (intro h_; have h9 := (hT0 h_).2; omega)
  | exact (hrsM_0 (r := m38 fs) (An := ma) (Ac := acM fc ma) h00).1
  | exact (hrsM_0 (r := m38 fs) (An := ma) (Ac := acM fc ma) h00).2.1
  | exact (hrsM_0 (r := m38 fs) (An := ma) (Ac := acM fc ma) h00).2.2.1
  | exact (hrsM_0 (r := m38 fs) (An := ma) (Ac := acM fc ma) h00).2.2.2
  | exact (hrsM_1 (r := m38 fs) (An := ma) (Ac := acM fc ma) h01 q_2).1
  | exact (hrsM_1 (r := m38 fs) (An := ma) (Ac := acM fc ma) h01 q_2).2.1
  | exact (hrsM_1 (r := m38 fs) (An := ma) (Ac := acM fc ma) h01 q_2).2.2.1
  | exact (hrsM_1 (r := m38 fs) (An := ma) (Ac := acM fc ma) h01 q_2).2.2.2
  | exact (hrsM_2 (r := m38 fs) (An := ma) (Ac := acM fc ma) (h := h9) (j := j_2) (fun q => q_2 (Or.inl q)) h01 hj_2 hM.2.2.1 h999 c_7).1
  | exact (hrsM_2 (r := m38 fs) (An := ma) (Ac := acM fc ma) (h := h9) (j := j_2) (fun q => q_2 (Or.inl q)) h01 hj_2 hM.2.2.1 h999 c_7).2.1
  | exact (hrsM_2 (r := m38 fs) (An := ma) (Ac := acM fc ma) (h := h9) (j := j_2) (fun q => q_2 (Or.inl q)) h01 hj_2 hM.2.2.1 h999 c_7).2.2.1
  | exact (hrsM_2 (r := m38 fs) (An := ma) (Ac := acM fc ma) (h := h9) (j := j_2) (fun q => q_2 (Or.inl q)) h01 hj_2 hM.2.2.1 h999 c_7).2.2.2
  | exact (hrs_pos (r := m38 fs) (An := ma) (Ac := acM fc ma) (h := h9) (j := j_2) (fun q => q_2 (Or.inl q)) h01 hj_2 hM.2.2.1 c_7 haf_1).1
  | exact (hrs_pos (r := m38 fs) (An := ma) (Ac := acM fc ma) (h := h9) (j := j_2) (fun q => q_2 (Or.inl q)) h01 hj_2 hM.2.2.1 c_7 haf_1).2.1
  | exact (hrs_pos (r := m38 fs) (An := ma) (Ac := acM fc ma) (h := h9) (j := j_2) (fun q => q_2 (Or.inl q)) h01 hj_2 hM.2.2.1 c_7 haf_1).2.2.1
  | exact (hrs_pos (r := m38 fs) (An := ma) (Ac := acM fc ma) (h := h9) (j := j_2) (fun q => q_2 (Or.inl q)) h01 hj_2 hM.2.2.1 c_7 haf_1).2.2.2
  | exact e_24.trans (hrs_pos (r := m38 fs) (An := ma) (Ac := acM fc ma) (h := h9) (j := j_2) (fun q => q_2 (Or.inl q)) h01 hj_2 hM.2.2.1 c_7 haf_1).2.2.2
theorem lf_X8_hours_5 {mt : Int32} {ma : Nat} {fs : Nat → Int32} {w9 : Nat} {k9 : Nat} {h9 : Nat} {fc : Nat → Int32} {a0 : Int32} (hM : okM fs w9 k9 h9) (hT : ¬ mt = 0 → 1 ≤ k9) (h999 : h9 ≤ 999) (hT0 : mt = 0 → fs 0 = 0 ∧ ma = 0) (hac : okA fc ma) (hma : ma ≤ 24) (c_1 : ¬ (mt = 0)) (hkn1 : 1 ≤ k9) (hw1 : 1 ≤ w9) (h01 : ¬ fs 0 = 0) (f_2_0_0 : ((a0).toInt64 < 1 ∨ 24 < (a0).toInt64)) (q_2 : (a0 < 1 ∨ 24 < a0)) : (-1000001) = (a_hrs (m38 fs) a0) := by
  have hw6 := hM.2.2.2.1
  have hk6 := hM.2.2.2.2.1
  first
  | exact hT0
  | (intro h_; exact absurd (hT0 h_).1 h01)
  | (intro h_; have h9 := (hT0 h_).2; omega)
  | exact (hrsM_0 (r := m38 fs) (An := ma) (Ac := acM fc ma) h00).1
  | exact (hrsM_0 (r := m38 fs) (An := ma) (Ac := acM fc ma) h00).2.1
  | exact (hrsM_0 (r := m38 fs) (An := ma) (Ac := acM fc ma) h00).2.2.1
  | exact (hrsM_0 (r := m38 fs) (An := ma) (Ac := acM fc ma) h00).2.2.2
  | exact (hrsM_1 (r := m38 fs) (An := ma) (Ac := acM fc ma) h01 q_2).1
  | exact (hrsM_1 (r := m38 fs) (An := ma) (Ac := acM fc ma) h01 q_2).2.1
  | exact (hrsM_1 (r := m38 fs) (An := ma) (Ac := acM fc ma) h01 q_2).2.2.1
  | exact (hrsM_1 (r := m38 fs) (An := ma) (Ac := acM fc ma) h01 q_2).2.2.2
  | exact (hrsM_2 (r := m38 fs) (An := ma) (Ac := acM fc ma) (h := h9) (j := j_2) (fun q => q_2 (Or.inl q)) h01 hj_2 hM.2.2.1 h999 c_7).1
  | exact (hrsM_2 (r := m38 fs) (An := ma) (Ac := acM fc ma) (h := h9) (j := j_2) (fun q => q_2 (Or.inl q)) h01 hj_2 hM.2.2.1 h999 c_7).2.1
  | exact (hrsM_2 (r := m38 fs) (An := ma) (Ac := acM fc ma) (h := h9) (j := j_2) (fun q => q_2 (Or.inl q)) h01 hj_2 hM.2.2.1 h999 c_7).2.2.1
  | exact (hrsM_2 (r := m38 fs) (An := ma) (Ac := acM fc ma) (h := h9) (j := j_2) (fun q => q_2 (Or.inl q)) h01 hj_2 hM.2.2.1 h999 c_7).2.2.2
  | exact (hrs_pos (r := m38 fs) (An := ma) (Ac := acM fc ma) (h := h9) (j := j_2) (fun q => q_2 (Or.inl q)) h01 hj_2 hM.2.2.1 c_7 haf_1).1
  | exact (hrs_pos (r := m38 fs) (An := ma) (Ac := acM fc ma) (h := h9) (j := j_2) (fun q => q_2 (Or.inl q)) h01 hj_2 hM.2.2.1 c_7 haf_1).2.1
  | exact (hrs_pos (r := m38 fs) (An := ma) (Ac := acM fc ma) (h := h9) (j := j_2) (fun q => q_2 (Or.inl q)) h01 hj_2 hM.2.2.1 c_7 haf_1).2.2.1
  | exact (hrs_pos (r := m38 fs) (An := ma) (Ac := acM fc ma) (h := h9) (j := j_2) (fun q => q_2 (Or.inl q)) h01 hj_2 hM.2.2.1 c_7 haf_1).2.2.2
  | exact e_24.trans (hrs_pos (r := m38 fs) (An := ma) (Ac := acM fc ma) (h := h9) (j := j_2) (fun q => q_2 (Or.inl q)) h01 hj_2 hM.2.2.1 c_7 haf_1).2.2.2
theorem lf_X8_hours_6 {mt : Int32} {ma : Nat} {fs : Nat → Int32} {w9 : Nat} {k9 : Nat} {h9 : Nat} {fc : Nat → Int32} {j_2 : Nat} {w_11 : Nat} {w_12 : Nat → Int32} {w_13 : Nat → Int32} {ii : Nat} {fcn_21 : Nat → Int32} {man_21 : Nat} {fsn_22 : Nat → Int32} (hM : okM fs w9 k9 h9) (hT : ¬ mt = 0 → 1 ≤ k9) (h999 : h9 ≤ 999) (hT0 : mt = 0 → fs 0 = 0 ∧ ma = 0) (hac : okA fc ma) (hma : ma ≤ 24) (c_1 : ¬ (mt = 0)) (hkn1 : 1 ≤ k9) (hw1 : 1 ≤ w9) (h01 : ¬ fs 0 = 0) (f_2_1_0 : (¬ (((nI j_2)).toInt64 < 1 ∨ 24 < ((nI j_2)).toInt64))) (q_2 : ¬ ((nI j_2) < 1 ∨ 24 < (nI j_2))) (hj_2 : j_2 ≤ 24) (c_7 : (h9 + j_2) ≤ 999) (hii : ii < j_2) (haf_0 : okA w_13 w_11) (haf_1 : (hrI ii (m38 fs) ma (acM fc ma) = (m38 w_12, w_11, acM w_13 w_11))) (hnb_w_11 : w_11 ≤ 24) (hMl : okM w_12 w9 k9 (h9 + ii)) (hF_21_0 : okA fcn_21 man_21) (hF_21_1 : man_21 ≤ 24) (hF_21_2 : 1 ≤ man_21) (hF_21_3 : acM fcn_21 man_21 = ntA (m38 w_12) w_11 (acM w_13 w_11)) (hF_21_4 : man_21 = ntN w_11) (hF_22_0 : okM fsn_22 w9 k9 ((h9 + ii) + 1)) (hF_22_1 : fsn_22 = mH w_12) : hrI (ii + 1) (m38 fs) ma (acM fc ma) = (m38 fsn_22, man_21, acM fcn_21 man_21) := by
  have h8 := mH_c hMl.1 hMl.2.2.2.1 hw1 hMl.2.1 hMl.2.2.2.2.1
  exact hr_stepM haf_1 (by assumption) (by assumption) (by assumption) h8
theorem lf_X8_hours_7 {mt : Int32} {ma : Nat} {fs : Nat → Int32} {w9 : Nat} {k9 : Nat} {h9 : Nat} {fc : Nat → Int32} {j_2 : Nat} {w_11 : Nat} {w_12 : Nat → Int32} {w_13 : Nat → Int32} {v_24 : Int32} (hM : okM fs w9 k9 h9) (hT : ¬ mt = 0 → 1 ≤ k9) (h999 : h9 ≤ 999) (hT0 : mt = 0 → fs 0 = 0 ∧ ma = 0) (hac : okA fc ma) (hma : ma ≤ 24) (c_1 : ¬ (mt = 0)) (hkn1 : 1 ≤ k9) (hw1 : 1 ≤ w9) (h01 : ¬ fs 0 = 0) (f_2_1_0 : (¬ (((nI j_2)).toInt64 < 1 ∨ 24 < ((nI j_2)).toInt64))) (q_2 : ¬ ((nI j_2) < 1 ∨ 24 < (nI j_2))) (hj_2 : j_2 ≤ 24) (c_7 : (h9 + j_2) ≤ 999) (haf_0 : okA w_13 w_11) (haf_1 : (hrI j_2 (m38 fs) ma (acM fc ma) = (m38 w_12, w_11, acM w_13 w_11))) (hnb_w_11 : w_11 ≤ 24) (hMl : okM w_12 w9 k9 (h9 + j_2)) (e_24 : v_24 = w_12 7) : (mt = 0 → w_12 0 = 0 ∧ w_11 = 0) := by
  have hw6 := hM.2.2.2.1
  have hk6 := hM.2.2.2.2.1
  first
  | exact hT0
  | (intro h_; exact absurd (hT0 h_).1 h01)
  | (intro h_; have h9 := (hT0 h_).2; omega)
  | exact (hrsM_0 (r := m38 fs) (An := ma) (Ac := acM fc ma) h00).1
  | exact (hrsM_0 (r := m38 fs) (An := ma) (Ac := acM fc ma) h00).2.1
  | exact (hrsM_0 (r := m38 fs) (An := ma) (Ac := acM fc ma) h00).2.2.1
  | exact (hrsM_0 (r := m38 fs) (An := ma) (Ac := acM fc ma) h00).2.2.2
  | exact (hrsM_1 (r := m38 fs) (An := ma) (Ac := acM fc ma) h01 q_2).1
  | exact (hrsM_1 (r := m38 fs) (An := ma) (Ac := acM fc ma) h01 q_2).2.1
  | exact (hrsM_1 (r := m38 fs) (An := ma) (Ac := acM fc ma) h01 q_2).2.2.1
  | exact (hrsM_1 (r := m38 fs) (An := ma) (Ac := acM fc ma) h01 q_2).2.2.2
  | exact (hrsM_2 (r := m38 fs) (An := ma) (Ac := acM fc ma) (h := h9) (j := j_2) (fun q => q_2 (Or.inl q)) h01 hj_2 hM.2.2.1 h999 c_7).1
  | exact (hrsM_2 (r := m38 fs) (An := ma) (Ac := acM fc ma) (h := h9) (j := j_2) (fun q => q_2 (Or.inl q)) h01 hj_2 hM.2.2.1 h999 c_7).2.1
  | exact (hrsM_2 (r := m38 fs) (An := ma) (Ac := acM fc ma) (h := h9) (j := j_2) (fun q => q_2 (Or.inl q)) h01 hj_2 hM.2.2.1 h999 c_7).2.2.1
  | exact (hrsM_2 (r := m38 fs) (An := ma) (Ac := acM fc ma) (h := h9) (j := j_2) (fun q => q_2 (Or.inl q)) h01 hj_2 hM.2.2.1 h999 c_7).2.2.2
  | exact (hrs_pos (r := m38 fs) (An := ma) (Ac := acM fc ma) (h := h9) (j := j_2) (fun q => q_2 (Or.inl q)) h01 hj_2 hM.2.2.1 c_7 haf_1).1
  | exact (hrs_pos (r := m38 fs) (An := ma) (Ac := acM fc ma) (h := h9) (j := j_2) (fun q => q_2 (Or.inl q)) h01 hj_2 hM.2.2.1 c_7 haf_1).2.1
  | exact (hrs_pos (r := m38 fs) (An := ma) (Ac := acM fc ma) (h := h9) (j := j_2) (fun q => q_2 (Or.inl q)) h01 hj_2 hM.2.2.1 c_7 haf_1).2.2.1
  | exact (hrs_pos (r := m38 fs) (An := ma) (Ac := acM fc ma) (h := h9) (j := j_2) (fun q => q_2 (Or.inl q)) h01 hj_2 hM.2.2.1 c_7 haf_1).2.2.2
  | exact e_24.trans (hrs_pos (r := m38 fs) (An := ma) (Ac := acM fc ma) (h := h9) (j := j_2) (fun q => q_2 (Or.inl q)) h01 hj_2 hM.2.2.1 c_7 haf_1).2.2.2
theorem lf_X8_hours_8 {mt : Int32} {ma : Nat} {fs : Nat → Int32} {w9 : Nat} {k9 : Nat} {h9 : Nat} {fc : Nat → Int32} {j_2 : Nat} {w_11 : Nat} {w_12 : Nat → Int32} {w_13 : Nat → Int32} {v_24 : Int32} (hM : okM fs w9 k9 h9) (hT : ¬ mt = 0 → 1 ≤ k9) (h999 : h9 ≤ 999) (hT0 : mt = 0 → fs 0 = 0 ∧ ma = 0) (hac : okA fc ma) (hma : ma ≤ 24) (c_1 : ¬ (mt = 0)) (hkn1 : 1 ≤ k9) (hw1 : 1 ≤ w9) (h01 : ¬ fs 0 = 0) (f_2_1_0 : (¬ (((nI j_2)).toInt64 < 1 ∨ 24 < ((nI j_2)).toInt64))) (q_2 : ¬ ((nI j_2) < 1 ∨ 24 < (nI j_2))) (hj_2 : j_2 ≤ 24) (c_7 : (h9 + j_2) ≤ 999) (haf_0 : okA w_13 w_11) (haf_1 : (hrI j_2 (m38 fs) ma (acM fc ma) = (m38 w_12, w_11, acM w_13 w_11))) (hnb_w_11 : w_11 ≤ 24) (hMl : okM w_12 w9 k9 (h9 + j_2)) (e_24 : v_24 = w_12 7) : m38 w_12 = (s_hrs (m38 fs) ma (acM fc ma) (nI j_2)).1 := by
  have hw6 := hM.2.2.2.1
  have hk6 := hM.2.2.2.2.1
  first
  | exact hT0
  | (intro h_; exact absurd (hT0 h_).1 h01)
  | (intro h_; have h9 := (hT0 h_).2; omega)
  | exact (hrsM_0 (r := m38 fs) (An := ma) (Ac := acM fc ma) h00).1
  | exact (hrsM_0 (r := m38 fs) (An := ma) (Ac := acM fc ma) h00).2.1
  | exact (hrsM_0 (r := m38 fs) (An := ma) (Ac := acM fc ma) h00).2.2.1
  | exact (hrsM_0 (r := m38 fs) (An := ma) (Ac := acM fc ma) h00).2.2.2
  | exact (hrsM_1 (r := m38 fs) (An := ma) (Ac := acM fc ma) h01 q_2).1
  | exact (hrsM_1 (r := m38 fs) (An := ma) (Ac := acM fc ma) h01 q_2).2.1
  | exact (hrsM_1 (r := m38 fs) (An := ma) (Ac := acM fc ma) h01 q_2).2.2.1
  | exact (hrsM_1 (r := m38 fs) (An := ma) (Ac := acM fc ma) h01 q_2).2.2.2
  | exact (hrsM_2 (r := m38 fs) (An := ma) (Ac := acM fc ma) (h := h9) (j := j_2) (fun q => q_2 (Or.inl q)) h01 hj_2 hM.2.2.1 h999 c_7).1
  | exact (hrsM_2 (r := m38 fs) (An := ma) (Ac := acM fc ma) (h := h9) (j := j_2) (fun q => q_2 (Or.inl q)) h01 hj_2 hM.2.2.1 h999 c_7).2.1
  | exact (hrsM_2 (r := m38 fs) (An := ma) (Ac := acM fc ma) (h := h9) (j := j_2) (fun q => q_2 (Or.inl q)) h01 hj_2 hM.2.2.1 h999 c_7).2.2.1
  | exact (hrsM_2 (r := m38 fs) (An := ma) (Ac := acM fc ma) (h := h9) (j := j_2) (fun q => q_2 (Or.inl q)) h01 hj_2 hM.2.2.1 h999 c_7).2.2.2
  | exact (hrs_pos (r := m38 fs) (An := ma) (Ac := acM fc ma) (h := h9) (j := j_2) (fun q => q_2 (Or.inl q)) h01 hj_2 hM.2.2.1 c_7 haf_1).1
  | exact (hrs_pos (r := m38 fs) (An := ma) (Ac := acM fc ma) (h := h9) (j := j_2) (fun q => q_2 (Or.inl q)) h01 hj_2 hM.2.2.1 c_7 haf_1).2.1
  | exact (hrs_pos (r := m38 fs) (An := ma) (Ac := acM fc ma) (h := h9) (j := j_2) (fun q => q_2 (Or.inl q)) h01 hj_2 hM.2.2.1 c_7 haf_1).2.2.1
  | exact (hrs_pos (r := m38 fs) (An := ma) (Ac := acM fc ma) (h := h9) (j := j_2) (fun q => q_2 (Or.inl q)) h01 hj_2 hM.2.2.1 c_7 haf_1).2.2.2
  | exact e_24.trans (hrs_pos (r := m38 fs) (An := ma) (Ac := acM fc ma) (h := h9) (j := j_2) (fun q => q_2 (Or.inl q)) h01 hj_2 hM.2.2.1 c_7 haf_1).2.2.2
theorem lf_X8_hours_9 {mt : Int32} {ma : Nat} {fs : Nat → Int32} {w9 : Nat} {k9 : Nat} {h9 : Nat} {fc : Nat → Int32} {j_2 : Nat} {w_11 : Nat} {w_12 : Nat → Int32} {w_13 : Nat → Int32} {v_24 : Int32} (hM : okM fs w9 k9 h9) (hT : ¬ mt = 0 → 1 ≤ k9) (h999 : h9 ≤ 999) (hT0 : mt = 0 → fs 0 = 0 ∧ ma = 0) (hac : okA fc ma) (hma : ma ≤ 24) (c_1 : ¬ (mt = 0)) (hkn1 : 1 ≤ k9) (hw1 : 1 ≤ w9) (h01 : ¬ fs 0 = 0) (f_2_1_0 : (¬ (((nI j_2)).toInt64 < 1 ∨ 24 < ((nI j_2)).toInt64))) (q_2 : ¬ ((nI j_2) < 1 ∨ 24 < (nI j_2))) (hj_2 : j_2 ≤ 24) (c_7 : (h9 + j_2) ≤ 999) (haf_0 : okA w_13 w_11) (haf_1 : (hrI j_2 (m38 fs) ma (acM fc ma) = (m38 w_12, w_11, acM w_13 w_11))) (hnb_w_11 : w_11 ≤ 24) (hMl : okM w_12 w9 k9 (h9 + j_2)) (e_24 : v_24 = w_12 7) : w_11 = (s_hrs (m38 fs) ma (acM fc ma) (nI j_2)).2.1 := by
  have hw6 := hM.2.2.2.1
  have hk6 := hM.2.2.2.2.1
  first
  | exact hT0
  | (intro h_; exact absurd (hT0 h_).1 h01)
  | (intro h_; have h9 := (hT0 h_).2; omega)
  | exact (hrsM_0 (r := m38 fs) (An := ma) (Ac := acM fc ma) h00).1
  | exact (hrsM_0 (r := m38 fs) (An := ma) (Ac := acM fc ma) h00).2.1
  | exact (hrsM_0 (r := m38 fs) (An := ma) (Ac := acM fc ma) h00).2.2.1
  | exact (hrsM_0 (r := m38 fs) (An := ma) (Ac := acM fc ma) h00).2.2.2
  | exact (hrsM_1 (r := m38 fs) (An := ma) (Ac := acM fc ma) h01 q_2).1
  | exact (hrsM_1 (r := m38 fs) (An := ma) (Ac := acM fc ma) h01 q_2).2.1
  | exact (hrsM_1 (r := m38 fs) (An := ma) (Ac := acM fc ma) h01 q_2).2.2.1
  | exact (hrsM_1 (r := m38 fs) (An := ma) (Ac := acM fc ma) h01 q_2).2.2.2
  | exact (hrsM_2 (r := m38 fs) (An := ma) (Ac := acM fc ma) (h := h9) (j := j_2) (fun q => q_2 (Or.inl q)) h01 hj_2 hM.2.2.1 h999 c_7).1
  | exact (hrsM_2 (r := m38 fs) (An := ma) (Ac := acM fc ma) (h := h9) (j := j_2) (fun q => q_2 (Or.inl q)) h01 hj_2 hM.2.2.1 h999 c_7).2.1
  | exact (hrsM_2 (r := m38 fs) (An := ma) (Ac := acM fc ma) (h := h9) (j := j_2) (fun q => q_2 (Or.inl q)) h01 hj_2 hM.2.2.1 h999 c_7).2.2.1
  | exact (hrsM_2 (r := m38 fs) (An := ma) (Ac := acM fc ma) (h := h9) (j := j_2) (fun q => q_2 (Or.inl q)) h01 hj_2 hM.2.2.1 h999 c_7).2.2.2
  | exact (hrs_pos (r := m38 fs) (An := ma) (Ac := acM fc ma) (h := h9) (j := j_2) (fun q => q_2 (Or.inl q)) h01 hj_2 hM.2.2.1 c_7 haf_1).1
  | exact (hrs_pos (r := m38 fs) (An := ma) (Ac := acM fc ma) (h := h9) (j := j_2) (fun q => q_2 (Or.inl q)) h01 hj_2 hM.2.2.1 c_7 haf_1).2.1
  | exact (hrs_pos (r := m38 fs) (An := ma) (Ac := acM fc ma) (h := h9) (j := j_2) (fun q => q_2 (Or.inl q)) h01 hj_2 hM.2.2.1 c_7 haf_1).2.2.1
  | exact (hrs_pos (r := m38 fs) (An := ma) (Ac := acM fc ma) (h := h9) (j := j_2) (fun q => q_2 (Or.inl q)) h01 hj_2 hM.2.2.1 c_7 haf_1).2.2.2
  | exact e_24.trans (hrs_pos (r := m38 fs) (An := ma) (Ac := acM fc ma) (h := h9) (j := j_2) (fun q => q_2 (Or.inl q)) h01 hj_2 hM.2.2.1 c_7 haf_1).2.2.2
theorem lf_X8_hours_10 {mt : Int32} {ma : Nat} {fs : Nat → Int32} {w9 : Nat} {k9 : Nat} {h9 : Nat} {fc : Nat → Int32} {j_2 : Nat} {w_11 : Nat} {w_12 : Nat → Int32} {w_13 : Nat → Int32} {v_24 : Int32} (hM : okM fs w9 k9 h9) (hT : ¬ mt = 0 → 1 ≤ k9) (h999 : h9 ≤ 999) (hT0 : mt = 0 → fs 0 = 0 ∧ ma = 0) (hac : okA fc ma) (hma : ma ≤ 24) (c_1 : ¬ (mt = 0)) (hkn1 : 1 ≤ k9) (hw1 : 1 ≤ w9) (h01 : ¬ fs 0 = 0) (f_2_1_0 : (¬ (((nI j_2)).toInt64 < 1 ∨ 24 < ((nI j_2)).toInt64))) (q_2 : ¬ ((nI j_2) < 1 ∨ 24 < (nI j_2))) (hj_2 : j_2 ≤ 24) (c_7 : (h9 + j_2) ≤ 999) (haf_0 : okA w_13 w_11) (haf_1 : (hrI j_2 (m38 fs) ma (acM fc ma) = (m38 w_12, w_11, acM w_13 w_11))) (hnb_w_11 : w_11 ≤ 24) (hMl : okM w_12 w9 k9 (h9 + j_2)) (e_24 : v_24 = w_12 7) : acM w_13 w_11 = (s_hrs (m38 fs) ma (acM fc ma) (nI j_2)).2.2 := by
  have hw6 := hM.2.2.2.1
  have hk6 := hM.2.2.2.2.1
  first
  | exact hT0
  | (intro h_; exact absurd (hT0 h_).1 h01)
  | (intro h_; have h9 := (hT0 h_).2; omega)
  | exact (hrsM_0 (r := m38 fs) (An := ma) (Ac := acM fc ma) h00).1
  | exact (hrsM_0 (r := m38 fs) (An := ma) (Ac := acM fc ma) h00).2.1
  | exact (hrsM_0 (r := m38 fs) (An := ma) (Ac := acM fc ma) h00).2.2.1
  | exact (hrsM_0 (r := m38 fs) (An := ma) (Ac := acM fc ma) h00).2.2.2
  | exact (hrsM_1 (r := m38 fs) (An := ma) (Ac := acM fc ma) h01 q_2).1
  | exact (hrsM_1 (r := m38 fs) (An := ma) (Ac := acM fc ma) h01 q_2).2.1
  | exact (hrsM_1 (r := m38 fs) (An := ma) (Ac := acM fc ma) h01 q_2).2.2.1
  | exact (hrsM_1 (r := m38 fs) (An := ma) (Ac := acM fc ma) h01 q_2).2.2.2
  | exact (hrsM_2 (r := m38 fs) (An := ma) (Ac := acM fc ma) (h := h9) (j := j_2) (fun q => q_2 (Or.inl q)) h01 hj_2 hM.2.2.1 h999 c_7).1
  | exact (hrsM_2 (r := m38 fs) (An := ma) (Ac := acM fc ma) (h := h9) (j := j_2) (fun q => q_2 (Or.inl q)) h01 hj_2 hM.2.2.1 h999 c_7).2.1
  | exact (hrsM_2 (r := m38 fs) (An := ma) (Ac := acM fc ma) (h := h9) (j := j_2) (fun q => q_2 (Or.inl q)) h01 hj_2 hM.2.2.1 h999 c_7).2.2.1
  | exact (hrsM_2 (r := m38 fs) (An := ma) (Ac := acM fc ma) (h := h9) (j := j_2) (fun q => q_2 (Or.inl q)) h01 hj_2 hM.2.2.1 h999 c_7).2.2.2
  | exact (hrs_pos (r := m38 fs) (An := ma) (Ac := acM fc ma) (h := h9) (j := j_2) (fun q => q_2 (Or.inl q)) h01 hj_2 hM.2.2.1 c_7 haf_1).1
  | exact (hrs_pos (r := m38 fs) (An := ma) (Ac := acM fc ma) (h := h9) (j := j_2) (fun q => q_2 (Or.inl q)) h01 hj_2 hM.2.2.1 c_7 haf_1).2.1
  | exact (hrs_pos (r := m38 fs) (An := ma) (Ac := acM fc ma) (h := h9) (j := j_2) (fun q => q_2 (Or.inl q)) h01 hj_2 hM.2.2.1 c_7 haf_1).2.2.1
  | exact (hrs_pos (r := m38 fs) (An := ma) (Ac := acM fc ma) (h := h9) (j := j_2) (fun q => q_2 (Or.inl q)) h01 hj_2 hM.2.2.1 c_7 haf_1).2.2.2
  | exact e_24.trans (hrs_pos (r := m38 fs) (An := ma) (Ac := acM fc ma) (h := h9) (j := j_2) (fun q => q_2 (Or.inl q)) h01 hj_2 hM.2.2.1 c_7 haf_1).2.2.2
theorem lf_X8_hours_11 {mt : Int32} {ma : Nat} {fs : Nat → Int32} {w9 : Nat} {k9 : Nat} {h9 : Nat} {fc : Nat → Int32} {j_2 : Nat} {w_11 : Nat} {w_12 : Nat → Int32} {w_13 : Nat → Int32} {v_24 : Int32} (hM : okM fs w9 k9 h9) (hT : ¬ mt = 0 → 1 ≤ k9) (h999 : h9 ≤ 999) (hT0 : mt = 0 → fs 0 = 0 ∧ ma = 0) (hac : okA fc ma) (hma : ma ≤ 24) (c_1 : ¬ (mt = 0)) (hkn1 : 1 ≤ k9) (hw1 : 1 ≤ w9) (h01 : ¬ fs 0 = 0) (f_2_1_0 : (¬ (((nI j_2)).toInt64 < 1 ∨ 24 < ((nI j_2)).toInt64))) (q_2 : ¬ ((nI j_2) < 1 ∨ 24 < (nI j_2))) (hj_2 : j_2 ≤ 24) (c_7 : (h9 + j_2) ≤ 999) (haf_0 : okA w_13 w_11) (haf_1 : (hrI j_2 (m38 fs) ma (acM fc ma) = (m38 w_12, w_11, acM w_13 w_11))) (hnb_w_11 : w_11 ≤ 24) (hMl : okM w_12 w9 k9 (h9 + j_2)) (e_24 : v_24 = w_12 7) : v_24 = (a_hrs (m38 fs) (nI j_2)) := by
  have hw6 := hM.2.2.2.1
  have hk6 := hM.2.2.2.2.1
  first
  | exact hT0
  | (intro h_; exact absurd (hT0 h_).1 h01)
  | (intro h_; have h9 := (hT0 h_).2; omega)
  | exact (hrsM_0 (r := m38 fs) (An := ma) (Ac := acM fc ma) h00).1
  | exact (hrsM_0 (r := m38 fs) (An := ma) (Ac := acM fc ma) h00).2.1
  | exact (hrsM_0 (r := m38 fs) (An := ma) (Ac := acM fc ma) h00).2.2.1
  | exact (hrsM_0 (r := m38 fs) (An := ma) (Ac := acM fc ma) h00).2.2.2
  | exact (hrsM_1 (r := m38 fs) (An := ma) (Ac := acM fc ma) h01 q_2).1
  | exact (hrsM_1 (r := m38 fs) (An := ma) (Ac := acM fc ma) h01 q_2).2.1
  | exact (hrsM_1 (r := m38 fs) (An := ma) (Ac := acM fc ma) h01 q_2).2.2.1
  | exact (hrsM_1 (r := m38 fs) (An := ma) (Ac := acM fc ma) h01 q_2).2.2.2
  | exact (hrsM_2 (r := m38 fs) (An := ma) (Ac := acM fc ma) (h := h9) (j := j_2) (fun q => q_2 (Or.inl q)) h01 hj_2 hM.2.2.1 h999 c_7).1
  | exact (hrsM_2 (r := m38 fs) (An := ma) (Ac := acM fc ma) (h := h9) (j := j_2) (fun q => q_2 (Or.inl q)) h01 hj_2 hM.2.2.1 h999 c_7).2.1
  | exact (hrsM_2 (r := m38 fs) (An := ma) (Ac := acM fc ma) (h := h9) (j := j_2) (fun q => q_2 (Or.inl q)) h01 hj_2 hM.2.2.1 h999 c_7).2.2.1
  | exact (hrsM_2 (r := m38 fs) (An := ma) (Ac := acM fc ma) (h := h9) (j := j_2) (fun q => q_2 (Or.inl q)) h01 hj_2 hM.2.2.1 h999 c_7).2.2.2
  | exact (hrs_pos (r := m38 fs) (An := ma) (Ac := acM fc ma) (h := h9) (j := j_2) (fun q => q_2 (Or.inl q)) h01 hj_2 hM.2.2.1 c_7 haf_1).1
  | exact (hrs_pos (r := m38 fs) (An := ma) (Ac := acM fc ma) (h := h9) (j := j_2) (fun q => q_2 (Or.inl q)) h01 hj_2 hM.2.2.1 c_7 haf_1).2.1
  | exact (hrs_pos (r := m38 fs) (An := ma) (Ac := acM fc ma) (h := h9) (j := j_2) (fun q => q_2 (Or.inl q)) h01 hj_2 hM.2.2.1 c_7 haf_1).2.2.1
  | exact (hrs_pos (r := m38 fs) (An := ma) (Ac := acM fc ma) (h := h9) (j := j_2) (fun q => q_2 (Or.inl q)) h01 hj_2 hM.2.2.1 c_7 haf_1).2.2.2
  | exact e_24.trans (hrs_pos (r := m38 fs) (An := ma) (Ac := acM fc ma) (h := h9) (j := j_2) (fun q => q_2 (Or.inl q)) h01 hj_2 hM.2.2.1 c_7 haf_1).2.2.2
theorem lf_X8_hours_12 {mt : Int32} {ma : Nat} {fs : Nat → Int32} {w9 : Nat} {k9 : Nat} {h9 : Nat} {fc : Nat → Int32} {j_2 : Nat} (hM : okM fs w9 k9 h9) (hT : ¬ mt = 0 → 1 ≤ k9) (h999 : h9 ≤ 999) (hT0 : mt = 0 → fs 0 = 0 ∧ ma = 0) (hac : okA fc ma) (hma : ma ≤ 24) (c_1 : ¬ (mt = 0)) (hkn1 : 1 ≤ k9) (hw1 : 1 ≤ w9) (h01 : ¬ fs 0 = 0) (f_2_1_0 : (¬ (((nI j_2)).toInt64 < 1 ∨ 24 < ((nI j_2)).toInt64))) (q_2 : ¬ ((nI j_2) < 1 ∨ 24 < (nI j_2))) (hj_2 : j_2 ≤ 24) (c_7 : ¬ ((h9 + j_2) ≤ 999)) : (mt = 0 → fs 0 = 0 ∧ ma = 0) := by
  have hw6 := hM.2.2.2.1
  have hk6 := hM.2.2.2.2.1
  first
  | exact hT0
  | (intro h_; exact absurd (hT0 h_).1 h01)
  | (intro h_; have h9 := (hT0 h_).2; omega)
  | exact (hrsM_0 (r := m38 fs) (An := ma) (Ac := acM fc ma) h00).1
  | exact (hrsM_0 (r := m38 fs) (An := ma) (Ac := acM fc ma) h00).2.1
  | exact (hrsM_0 (r := m38 fs) (An := ma) (Ac := acM fc ma) h00).2.2.1
  | exact (hrsM_0 (r := m38 fs) (An := ma) (Ac := acM fc ma) h00).2.2.2
  | exact (hrsM_1 (r := m38 fs) (An := ma) (Ac := acM fc ma) h01 q_2).1
  | exact (hrsM_1 (r := m38 fs) (An := ma) (Ac := acM fc ma) h01 q_2).2.1
  | exact (hrsM_1 (r := m38 fs) (An := ma) (Ac := acM fc ma) h01 q_2).2.2.1
  | exact (hrsM_1 (r := m38 fs) (An := ma) (Ac := acM fc ma) h01 q_2).2.2.2
  | exact (hrsM_2 (r := m38 fs) (An := ma) (Ac := acM fc ma) (h := h9) (j := j_2) (fun q => q_2 (Or.inl q)) h01 hj_2 hM.2.2.1 h999 c_7).1
  | exact (hrsM_2 (r := m38 fs) (An := ma) (Ac := acM fc ma) (h := h9) (j := j_2) (fun q => q_2 (Or.inl q)) h01 hj_2 hM.2.2.1 h999 c_7).2.1
  | exact (hrsM_2 (r := m38 fs) (An := ma) (Ac := acM fc ma) (h := h9) (j := j_2) (fun q => q_2 (Or.inl q)) h01 hj_2 hM.2.2.1 h999 c_7).2.2.1
  | exact (hrsM_2 (r := m38 fs) (An := ma) (Ac := acM fc ma) (h := h9) (j := j_2) (fun q => q_2 (Or.inl q)) h01 hj_2 hM.2.2.1 h999 c_7).2.2.2
  | exact (hrs_pos (r := m38 fs) (An := ma) (Ac := acM fc ma) (h := h9) (j := j_2) (fun q => q_2 (Or.inl q)) h01 hj_2 hM.2.2.1 c_7 haf_1).1
  | exact (hrs_pos (r := m38 fs) (An := ma) (Ac := acM fc ma) (h := h9) (j := j_2) (fun q => q_2 (Or.inl q)) h01 hj_2 hM.2.2.1 c_7 haf_1).2.1
  | exact (hrs_pos (r := m38 fs) (An := ma) (Ac := acM fc ma) (h := h9) (j := j_2) (fun q => q_2 (Or.inl q)) h01 hj_2 hM.2.2.1 c_7 haf_1).2.2.1
  | exact (hrs_pos (r := m38 fs) (An := ma) (Ac := acM fc ma) (h := h9) (j := j_2) (fun q => q_2 (Or.inl q)) h01 hj_2 hM.2.2.1 c_7 haf_1).2.2.2
  | exact e_24.trans (hrs_pos (r := m38 fs) (An := ma) (Ac := acM fc ma) (h := h9) (j := j_2) (fun q => q_2 (Or.inl q)) h01 hj_2 hM.2.2.1 c_7 haf_1).2.2.2
theorem lf_X8_hours_13 {mt : Int32} {ma : Nat} {fs : Nat → Int32} {w9 : Nat} {k9 : Nat} {h9 : Nat} {fc : Nat → Int32} {j_2 : Nat} (hM : okM fs w9 k9 h9) (hT : ¬ mt = 0 → 1 ≤ k9) (h999 : h9 ≤ 999) (hT0 : mt = 0 → fs 0 = 0 ∧ ma = 0) (hac : okA fc ma) (hma : ma ≤ 24) (c_1 : ¬ (mt = 0)) (hkn1 : 1 ≤ k9) (hw1 : 1 ≤ w9) (h01 : ¬ fs 0 = 0) (f_2_1_0 : (¬ (((nI j_2)).toInt64 < 1 ∨ 24 < ((nI j_2)).toInt64))) (q_2 : ¬ ((nI j_2) < 1 ∨ 24 < (nI j_2))) (hj_2 : j_2 ≤ 24) (c_7 : ¬ ((h9 + j_2) ≤ 999)) : m38 fs = (s_hrs (m38 fs) ma (acM fc ma) (nI j_2)).1 := by
  have hw6 := hM.2.2.2.1
  have hk6 := hM.2.2.2.2.1
  first
  | exact hT0
  | (intro h_; exact absurd (hT0 h_).1 h01)
  | (intro h_; have h9 := (hT0 h_).2; omega)
  | exact (hrsM_0 (r := m38 fs) (An := ma) (Ac := acM fc ma) h00).1
  | exact (hrsM_0 (r := m38 fs) (An := ma) (Ac := acM fc ma) h00).2.1
  | exact (hrsM_0 (r := m38 fs) (An := ma) (Ac := acM fc ma) h00).2.2.1
  | exact (hrsM_0 (r := m38 fs) (An := ma) (Ac := acM fc ma) h00).2.2.2
  | exact (hrsM_1 (r := m38 fs) (An := ma) (Ac := acM fc ma) h01 q_2).1
  | exact (hrsM_1 (r := m38 fs) (An := ma) (Ac := acM fc ma) h01 q_2).2.1
  | exact (hrsM_1 (r := m38 fs) (An := ma) (Ac := acM fc ma) h01 q_2).2.2.1
  | exact (hrsM_1 (r := m38 fs) (An := ma) (Ac := acM fc ma) h01 q_2).2.2.2
  | exact (hrsM_2 (r := m38 fs) (An := ma) (Ac := acM fc ma) (h := h9) (j := j_2) (fun q => q_2 (Or.inl q)) h01 hj_2 hM.2.2.1 h999 c_7).1
  | exact (hrsM_2 (r := m38 fs) (An := ma) (Ac := acM fc ma) (h := h9) (j := j_2) (fun q => q_2 (Or.inl q)) h01 hj_2 hM.2.2.1 h999 c_7).2.1
  | exact (hrsM_2 (r := m38 fs) (An := ma) (Ac := acM fc ma) (h := h9) (j := j_2) (fun q => q_2 (Or.inl q)) h01 hj_2 hM.2.2.1 h999 c_7).2.2.1
  | exact (hrsM_2 (r := m38 fs) (An := ma) (Ac := acM fc ma) (h := h9) (j := j_2) (fun q => q_2 (Or.inl q)) h01 hj_2 hM.2.2.1 h999 c_7).2.2.2
  | exact (hrs_pos (r := m38 fs) (An := ma) (Ac := acM fc ma) (h := h9) (j := j_2) (fun q => q_2 (Or.inl q)) h01 hj_2 hM.2.2.1 c_7 haf_1).1
  | exact (hrs_pos (r := m38 fs) (An := ma) (Ac := acM fc ma) (h := h9) (j := j_2) (fun q => q_2 (Or.inl q)) h01 hj_2 hM.2.2.1 c_7 haf_1).2.1
  | exact (hrs_pos (r := m38 fs) (An := ma) (Ac := acM fc ma) (h := h9) (j := j_2) (fun q => q_2 (Or.inl q)) h01 hj_2 hM.2.2.1 c_7 haf_1).2.2.1
  | exact (hrs_pos (r := m38 fs) (An := ma) (Ac := acM fc ma) (h := h9) (j := j_2) (fun q => q_2 (Or.inl q)) h01 hj_2 hM.2.2.1 c_7 haf_1).2.2.2
  | exact e_24.trans (hrs_pos (r := m38 fs) (An := ma) (Ac := acM fc ma) (h := h9) (j := j_2) (fun q => q_2 (Or.inl q)) h01 hj_2 hM.2.2.1 c_7 haf_1).2.2.2
theorem lf_X8_hours_14 {mt : Int32} {ma : Nat} {fs : Nat → Int32} {w9 : Nat} {k9 : Nat} {h9 : Nat} {fc : Nat → Int32} {j_2 : Nat} (hM : okM fs w9 k9 h9) (hT : ¬ mt = 0 → 1 ≤ k9) (h999 : h9 ≤ 999) (hT0 : mt = 0 → fs 0 = 0 ∧ ma = 0) (hac : okA fc ma) (hma : ma ≤ 24) (c_1 : ¬ (mt = 0)) (hkn1 : 1 ≤ k9) (hw1 : 1 ≤ w9) (h01 : ¬ fs 0 = 0) (f_2_1_0 : (¬ (((nI j_2)).toInt64 < 1 ∨ 24 < ((nI j_2)).toInt64))) (q_2 : ¬ ((nI j_2) < 1 ∨ 24 < (nI j_2))) (hj_2 : j_2 ≤ 24) (c_7 : ¬ ((h9 + j_2) ≤ 999)) : ma = (s_hrs (m38 fs) ma (acM fc ma) (nI j_2)).2.1 := by
  have hw6 := hM.2.2.2.1
  have hk6 := hM.2.2.2.2.1
  first
  | exact hT0
  | (intro h_; exact absurd (hT0 h_).1 h01)
  | (intro h_; have h9 := (hT0 h_).2; omega)
  | exact (hrsM_0 (r := m38 fs) (An := ma) (Ac := acM fc ma) h00).1
  | exact (hrsM_0 (r := m38 fs) (An := ma) (Ac := acM fc ma) h00).2.1
  | exact (hrsM_0 (r := m38 fs) (An := ma) (Ac := acM fc ma) h00).2.2.1
  | exact (hrsM_0 (r := m38 fs) (An := ma) (Ac := acM fc ma) h00).2.2.2
  | exact (hrsM_1 (r := m38 fs) (An := ma) (Ac := acM fc ma) h01 q_2).1
  | exact (hrsM_1 (r := m38 fs) (An := ma) (Ac := acM fc ma) h01 q_2).2.1
  | exact (hrsM_1 (r := m38 fs) (An := ma) (Ac := acM fc ma) h01 q_2).2.2.1
  | exact (hrsM_1 (r := m38 fs) (An := ma) (Ac := acM fc ma) h01 q_2).2.2.2
  | exact (hrsM_2 (r := m38 fs) (An := ma) (Ac := acM fc ma) (h := h9) (j := j_2) (fun q => q_2 (Or.inl q)) h01 hj_2 hM.2.2.1 h999 c_7).1
  | exact (hrsM_2 (r := m38 fs) (An := ma) (Ac := acM fc ma) (h := h9) (j := j_2) (fun q => q_2 (Or.inl q)) h01 hj_2 hM.2.2.1 h999 c_7).2.1
  | exact (hrsM_2 (r := m38 fs) (An := ma) (Ac := acM fc ma) (h := h9) (j := j_2) (fun q => q_2 (Or.inl q)) h01 hj_2 hM.2.2.1 h999 c_7).2.2.1
  | exact (hrsM_2 (r := m38 fs) (An := ma) (Ac := acM fc ma) (h := h9) (j := j_2) (fun q => q_2 (Or.inl q)) h01 hj_2 hM.2.2.1 h999 c_7).2.2.2
  | exact (hrs_pos (r := m38 fs) (An := ma) (Ac := acM fc ma) (h := h9) (j := j_2) (fun q => q_2 (Or.inl q)) h01 hj_2 hM.2.2.1 c_7 haf_1).1
  | exact (hrs_pos (r := m38 fs) (An := ma) (Ac := acM fc ma) (h := h9) (j := j_2) (fun q => q_2 (Or.inl q)) h01 hj_2 hM.2.2.1 c_7 haf_1).2.1
  | exact (hrs_pos (r := m38 fs) (An := ma) (Ac := acM fc ma) (h := h9) (j := j_2) (fun q => q_2 (Or.inl q)) h01 hj_2 hM.2.2.1 c_7 haf_1).2.2.1
  | exact (hrs_pos (r := m38 fs) (An := ma) (Ac := acM fc ma) (h := h9) (j := j_2) (fun q => q_2 (Or.inl q)) h01 hj_2 hM.2.2.1 c_7 haf_1).2.2.2
  | exact e_24.trans (hrs_pos (r := m38 fs) (An := ma) (Ac := acM fc ma) (h := h9) (j := j_2) (fun q => q_2 (Or.inl q)) h01 hj_2 hM.2.2.1 c_7 haf_1).2.2.2
theorem lf_X8_hours_15 {mt : Int32} {ma : Nat} {fs : Nat → Int32} {w9 : Nat} {k9 : Nat} {h9 : Nat} {fc : Nat → Int32} {j_2 : Nat} (hM : okM fs w9 k9 h9) (hT : ¬ mt = 0 → 1 ≤ k9) (h999 : h9 ≤ 999) (hT0 : mt = 0 → fs 0 = 0 ∧ ma = 0) (hac : okA fc ma) (hma : ma ≤ 24) (c_1 : ¬ (mt = 0)) (hkn1 : 1 ≤ k9) (hw1 : 1 ≤ w9) (h01 : ¬ fs 0 = 0) (f_2_1_0 : (¬ (((nI j_2)).toInt64 < 1 ∨ 24 < ((nI j_2)).toInt64))) (q_2 : ¬ ((nI j_2) < 1 ∨ 24 < (nI j_2))) (hj_2 : j_2 ≤ 24) (c_7 : ¬ ((h9 + j_2) ≤ 999)) : acM fc ma = (s_hrs (m38 fs) ma (acM fc ma) (nI j_2)).2.2 := by
  have hw6 := hM.2.2.2.1
  have hk6 := hM.2.2.2.2.1
  first
  | exact hT0
  | (intro h_; exact absurd (hT0 h_).1 h01)
  | (intro h_; have h9 := (hT0 h_).2; omega)
  | exact (hrsM_0 (r := m38 fs) (An := ma) (Ac := acM fc ma) h00).1
  | exact (hrsM_0 (r := m38 fs) (An := ma) (Ac := acM fc ma) h00).2.1
  | exact (hrsM_0 (r := m38 fs) (An := ma) (Ac := acM fc ma) h00).2.2.1
  | exact (hrsM_0 (r := m38 fs) (An := ma) (Ac := acM fc ma) h00).2.2.2
  | exact (hrsM_1 (r := m38 fs) (An := ma) (Ac := acM fc ma) h01 q_2).1
  | exact (hrsM_1 (r := m38 fs) (An := ma) (Ac := acM fc ma) h01 q_2).2.1
  | exact (hrsM_1 (r := m38 fs) (An := ma) (Ac := acM fc ma) h01 q_2).2.2.1
  | exact (hrsM_1 (r := m38 fs) (An := ma) (Ac := acM fc ma) h01 q_2).2.2.2
  | exact (hrsM_2 (r := m38 fs) (An := ma) (Ac := acM fc ma) (h := h9) (j := j_2) (fun q => q_2 (Or.inl q)) h01 hj_2 hM.2.2.1 h999 c_7).1
  | exact (hrsM_2 (r := m38 fs) (An := ma) (Ac := acM fc ma) (h := h9) (j := j_2) (fun q => q_2 (Or.inl q)) h01 hj_2 hM.2.2.1 h999 c_7).2.1
  | exact (hrsM_2 (r := m38 fs) (An := ma) (Ac := acM fc ma) (h := h9) (j := j_2) (fun q => q_2 (Or.inl q)) h01 hj_2 hM.2.2.1 h999 c_7).2.2.1
  | exact (hrsM_2 (r := m38 fs) (An := ma) (Ac := acM fc ma) (h := h9) (j := j_2) (fun q => q_2 (Or.inl q)) h01 hj_2 hM.2.2.1 h999 c_7).2.2.2
  | exact (hrs_pos (r := m38 fs) (An := ma) (Ac := acM fc ma) (h := h9) (j := j_2) (fun q => q_2 (Or.inl q)) h01 hj_2 hM.2.2.1 c_7 haf_1).1
  | exact (hrs_pos (r := m38 fs) (An := ma) (Ac := acM fc ma) (h := h9) (j := j_2) (fun q => q_2 (Or.inl q)) h01 hj_2 hM.2.2.1 c_7 haf_1).2.1
  | exact (hrs_pos (r := m38 fs) (An := ma) (Ac := acM fc ma) (h := h9) (j := j_2) (fun q => q_2 (Or.inl q)) h01 hj_2 hM.2.2.1 c_7 haf_1).2.2.1
  | exact (hrs_pos (r := m38 fs) (An := ma) (Ac := acM fc ma) (h := h9) (j := j_2) (fun q => q_2 (Or.inl q)) h01 hj_2 hM.2.2.1 c_7 haf_1).2.2.2
  | exact e_24.trans (hrs_pos (r := m38 fs) (An := ma) (Ac := acM fc ma) (h := h9) (j := j_2) (fun q => q_2 (Or.inl q)) h01 hj_2 hM.2.2.1 c_7 haf_1).2.2.2
theorem lf_X8_hours_16 {mt : Int32} {ma : Nat} {fs : Nat → Int32} {w9 : Nat} {k9 : Nat} {h9 : Nat} {fc : Nat → Int32} {j_2 : Nat} (hM : okM fs w9 k9 h9) (hT : ¬ mt = 0 → 1 ≤ k9) (h999 : h9 ≤ 999) (hT0 : mt = 0 → fs 0 = 0 ∧ ma = 0) (hac : okA fc ma) (hma : ma ≤ 24) (c_1 : ¬ (mt = 0)) (hkn1 : 1 ≤ k9) (hw1 : 1 ≤ w9) (h01 : ¬ fs 0 = 0) (f_2_1_0 : (¬ (((nI j_2)).toInt64 < 1 ∨ 24 < ((nI j_2)).toInt64))) (q_2 : ¬ ((nI j_2) < 1 ∨ 24 < (nI j_2))) (hj_2 : j_2 ≤ 24) (c_7 : ¬ ((h9 + j_2) ≤ 999)) : (-1000003) = (a_hrs (m38 fs) (nI j_2)) := by
  have hw6 := hM.2.2.2.1
  have hk6 := hM.2.2.2.2.1
  first
  | exact hT0
  | (intro h_; exact absurd (hT0 h_).1 h01)
  | (intro h_; have h9 := (hT0 h_).2; omega)
  | exact (hrsM_0 (r := m38 fs) (An := ma) (Ac := acM fc ma) h00).1
  | exact (hrsM_0 (r := m38 fs) (An := ma) (Ac := acM fc ma) h00).2.1
  | exact (hrsM_0 (r := m38 fs) (An := ma) (Ac := acM fc ma) h00).2.2.1
  | exact (hrsM_0 (r := m38 fs) (An := ma) (Ac := acM fc ma) h00).2.2.2
  | exact (hrsM_1 (r := m38 fs) (An := ma) (Ac := acM fc ma) h01 q_2).1
  | exact (hrsM_1 (r := m38 fs) (An := ma) (Ac := acM fc ma) h01 q_2).2.1
  | exact (hrsM_1 (r := m38 fs) (An := ma) (Ac := acM fc ma) h01 q_2).2.2.1
  | exact (hrsM_1 (r := m38 fs) (An := ma) (Ac := acM fc ma) h01 q_2).2.2.2
  | exact (hrsM_2 (r := m38 fs) (An := ma) (Ac := acM fc ma) (h := h9) (j := j_2) (fun q => q_2 (Or.inl q)) h01 hj_2 hM.2.2.1 h999 c_7).1
  | exact (hrsM_2 (r := m38 fs) (An := ma) (Ac := acM fc ma) (h := h9) (j := j_2) (fun q => q_2 (Or.inl q)) h01 hj_2 hM.2.2.1 h999 c_7).2.1
  | exact (hrsM_2 (r := m38 fs) (An := ma) (Ac := acM fc ma) (h := h9) (j := j_2) (fun q => q_2 (Or.inl q)) h01 hj_2 hM.2.2.1 h999 c_7).2.2.1
  | exact (hrsM_2 (r := m38 fs) (An := ma) (Ac := acM fc ma) (h := h9) (j := j_2) (fun q => q_2 (Or.inl q)) h01 hj_2 hM.2.2.1 h999 c_7).2.2.2
  | exact (hrs_pos (r := m38 fs) (An := ma) (Ac := acM fc ma) (h := h9) (j := j_2) (fun q => q_2 (Or.inl q)) h01 hj_2 hM.2.2.1 c_7 haf_1).1
  | exact (hrs_pos (r := m38 fs) (An := ma) (Ac := acM fc ma) (h := h9) (j := j_2) (fun q => q_2 (Or.inl q)) h01 hj_2 hM.2.2.1 c_7 haf_1).2.1
  | exact (hrs_pos (r := m38 fs) (An := ma) (Ac := acM fc ma) (h := h9) (j := j_2) (fun q => q_2 (Or.inl q)) h01 hj_2 hM.2.2.1 c_7 haf_1).2.2.1
  | exact (hrs_pos (r := m38 fs) (An := ma) (Ac := acM fc ma) (h := h9) (j := j_2) (fun q => q_2 (Or.inl q)) h01 hj_2 hM.2.2.1 c_7 haf_1).2.2.2
  | exact e_24.trans (hrs_pos (r := m38 fs) (An := ma) (Ac := acM fc ma) (h := h9) (j := j_2) (fun q => q_2 (Or.inl q)) h01 hj_2 hM.2.2.1 c_7 haf_1).2.2.2
theorem lf_X8_hours_17 {mt : Int32} {ma : Nat} {fs : Nat → Int32} {w9 : Nat} {k9 : Nat} {h9 : Nat} {fc : Nat → Int32} (hM : okM fs w9 k9 h9) (hT : ¬ mt = 0 → 1 ≤ k9) (h999 : h9 ≤ 999) (hT0 : mt = 0 → fs 0 = 0 ∧ ma = 0) (hac : okA fc ma) (hma : ma ≤ 24) (c_1 : mt = 0) (h00 : fs 0 = 0) : (mt = 0 → fs 0 = 0 ∧ ma = 0) := by
  have hw6 := hM.2.2.2.1
  have hk6 := hM.2.2.2.2.1
  first
  | exact hT0
  | (intro h_; exact absurd (hT0 h_).1 h01)
  | (intro h_; have h9 := (hT0 h_).2; omega)
  | exact (hrsM_0 (r := m38 fs) (An := ma) (Ac := acM fc ma) h00).1
  | exact (hrsM_0 (r := m38 fs) (An := ma) (Ac := acM fc ma) h00).2.1
  | exact (hrsM_0 (r := m38 fs) (An := ma) (Ac := acM fc ma) h00).2.2.1
  | exact (hrsM_0 (r := m38 fs) (An := ma) (Ac := acM fc ma) h00).2.2.2
  | exact (hrsM_1 (r := m38 fs) (An := ma) (Ac := acM fc ma) h01 q_2).1
  | exact (hrsM_1 (r := m38 fs) (An := ma) (Ac := acM fc ma) h01 q_2).2.1
  | exact (hrsM_1 (r := m38 fs) (An := ma) (Ac := acM fc ma) h01 q_2).2.2.1
  | exact (hrsM_1 (r := m38 fs) (An := ma) (Ac := acM fc ma) h01 q_2).2.2.2
  | exact (hrsM_2 (r := m38 fs) (An := ma) (Ac := acM fc ma) (h := h9) (j := j_2) (fun q => q_2 (Or.inl q)) h01 hj_2 hM.2.2.1 h999 c_7).1
  | exact (hrsM_2 (r := m38 fs) (An := ma) (Ac := acM fc ma) (h := h9) (j := j_2) (fun q => q_2 (Or.inl q)) h01 hj_2 hM.2.2.1 h999 c_7).2.1
  | exact (hrsM_2 (r := m38 fs) (An := ma) (Ac := acM fc ma) (h := h9) (j := j_2) (fun q => q_2 (Or.inl q)) h01 hj_2 hM.2.2.1 h999 c_7).2.2.1
  | exact (hrsM_2 (r := m38 fs) (An := ma) (Ac := acM fc ma) (h := h9) (j := j_2) (fun q => q_2 (Or.inl q)) h01 hj_2 hM.2.2.1 h999 c_7).2.2.2
  | exact (hrs_pos (r := m38 fs) (An := ma) (Ac := acM fc ma) (h := h9) (j := j_2) (fun q => q_2 (Or.inl q)) h01 hj_2 hM.2.2.1 c_7 haf_1).1
  | exact (hrs_pos (r := m38 fs) (An := ma) (Ac := acM fc ma) (h := h9) (j := j_2) (fun q => q_2 (Or.inl q)) h01 hj_2 hM.2.2.1 c_7 haf_1).2.1
  | exact (hrs_pos (r := m38 fs) (An := ma) (Ac := acM fc ma) (h := h9) (j := j_2) (fun q => q_2 (Or.inl q)) h01 hj_2 hM.2.2.1 c_7 haf_1).2.2.1
  | exact (hrs_pos (r := m38 fs) (An := ma) (Ac := acM fc ma) (h := h9) (j := j_2) (fun q => q_2 (Or.inl q)) h01 hj_2 hM.2.2.1 c_7 haf_1).2.2.2
  | exact e_24.trans (hrs_pos (r := m38 fs) (An := ma) (Ac := acM fc ma) (h := h9) (j := j_2) (fun q => q_2 (Or.inl q)) h01 hj_2 hM.2.2.1 c_7 haf_1).2.2.2
theorem lf_X8_hours_18 {mt : Int32} {ma : Nat} {fs : Nat → Int32} {w9 : Nat} {k9 : Nat} {h9 : Nat} {fc : Nat → Int32} {a0 : Int32} (hM : okM fs w9 k9 h9) (hT : ¬ mt = 0 → 1 ≤ k9) (h999 : h9 ≤ 999) (hT0 : mt = 0 → fs 0 = 0 ∧ ma = 0) (hac : okA fc ma) (hma : ma ≤ 24) (c_1 : mt = 0) (h00 : fs 0 = 0) : m38 fs = (s_hrs (m38 fs) ma (acM fc ma) a0).1 := by
  have hw6 := hM.2.2.2.1
  have hk6 := hM.2.2.2.2.1
  first
  | exact hT0
  | (intro h_; exact absurd (hT0 h_).1 h01)
  | (intro h_; have h9 := (hT0 h_).2; omega)
  | exact (hrsM_0 (r := m38 fs) (An := ma) (Ac := acM fc ma) h00).1
  | exact (hrsM_0 (r := m38 fs) (An := ma) (Ac := acM fc ma) h00).2.1
  | exact (hrsM_0 (r := m38 fs) (An := ma) (Ac := acM fc ma) h00).2.2.1
  | exact (hrsM_0 (r := m38 fs) (An := ma) (Ac := acM fc ma) h00).2.2.2
  | exact (hrsM_1 (r := m38 fs) (An := ma) (Ac := acM fc ma) h01 q_2).1
  | exact (hrsM_1 (r := m38 fs) (An := ma) (Ac := acM fc ma) h01 q_2).2.1
  | exact (hrsM_1 (r := m38 fs) (An := ma) (Ac := acM fc ma) h01 q_2).2.2.1
  | exact (hrsM_1 (r := m38 fs) (An := ma) (Ac := acM fc ma) h01 q_2).2.2.2
  | exact (hrsM_2 (r := m38 fs) (An := ma) (Ac := acM fc ma) (h := h9) (j := j_2) (fun q => q_2 (Or.inl q)) h01 hj_2 hM.2.2.1 h999 c_7).1
  | exact (hrsM_2 (r := m38 fs) (An := ma) (Ac := acM fc ma) (h := h9) (j := j_2) (fun q => q_2 (Or.inl q)) h01 hj_2 hM.2.2.1 h999 c_7).2.1
  | exact (hrsM_2 (r := m38 fs) (An := ma) (Ac := acM fc ma) (h := h9) (j := j_2) (fun q => q_2 (Or.inl q)) h01 hj_2 hM.2.2.1 h999 c_7).2.2.1
  | exact (hrsM_2 (r := m38 fs) (An := ma) (Ac := acM fc ma) (h := h9) (j := j_2) (fun q => q_2 (Or.inl q)) h01 hj_2 hM.2.2.1 h999 c_7).2.2.2
  | exact (hrs_pos (r := m38 fs) (An := ma) (Ac := acM fc ma) (h := h9) (j := j_2) (fun q => q_2 (Or.inl q)) h01 hj_2 hM.2.2.1 c_7 haf_1).1
  | exact (hrs_pos (r := m38 fs) (An := ma) (Ac := acM fc ma) (h := h9) (j := j_2) (fun q => q_2 (Or.inl q)) h01 hj_2 hM.2.2.1 c_7 haf_1).2.1
  | exact (hrs_pos (r := m38 fs) (An := ma) (Ac := acM fc ma) (h := h9) (j := j_2) (fun q => q_2 (Or.inl q)) h01 hj_2 hM.2.2.1 c_7 haf_1).2.2.1
  | exact (hrs_pos (r := m38 fs) (An := ma) (Ac := acM fc ma) (h := h9) (j := j_2) (fun q => q_2 (Or.inl q)) h01 hj_2 hM.2.2.1 c_7 haf_1).2.2.2
  | exact e_24.trans (hrs_pos (r := m38 fs) (An := ma) (Ac := acM fc ma) (h := h9) (j := j_2) (fun q => q_2 (Or.inl q)) h01 hj_2 hM.2.2.1 c_7 haf_1).2.2.2
theorem lf_X8_hours_19 {mt : Int32} {ma : Nat} {fs : Nat → Int32} {w9 : Nat} {k9 : Nat} {h9 : Nat} {fc : Nat → Int32} {a0 : Int32} (hM : okM fs w9 k9 h9) (hT : ¬ mt = 0 → 1 ≤ k9) (h999 : h9 ≤ 999) (hT0 : mt = 0 → fs 0 = 0 ∧ ma = 0) (hac : okA fc ma) (hma : ma ≤ 24) (c_1 : mt = 0) (h00 : fs 0 = 0) : ma = (s_hrs (m38 fs) ma (acM fc ma) a0).2.1 := by
  have hw6 := hM.2.2.2.1
  have hk6 := hM.2.2.2.2.1
  first
  | exact hT0
  | (intro h_; exact absurd (hT0 h_).1 h01)
  | (intro h_; have h9 := (hT0 h_).2; omega)
  | exact (hrsM_0 (r := m38 fs) (An := ma) (Ac := acM fc ma) h00).1
  | exact (hrsM_0 (r := m38 fs) (An := ma) (Ac := acM fc ma) h00).2.1
  | exact (hrsM_0 (r := m38 fs) (An := ma) (Ac := acM fc ma) h00).2.2.1
  | exact (hrsM_0 (r := m38 fs) (An := ma) (Ac := acM fc ma) h00).2.2.2
  | exact (hrsM_1 (r := m38 fs) (An := ma) (Ac := acM fc ma) h01 q_2).1
  | exact (hrsM_1 (r := m38 fs) (An := ma) (Ac := acM fc ma) h01 q_2).2.1
  | exact (hrsM_1 (r := m38 fs) (An := ma) (Ac := acM fc ma) h01 q_2).2.2.1
  | exact (hrsM_1 (r := m38 fs) (An := ma) (Ac := acM fc ma) h01 q_2).2.2.2
  | exact (hrsM_2 (r := m38 fs) (An := ma) (Ac := acM fc ma) (h := h9) (j := j_2) (fun q => q_2 (Or.inl q)) h01 hj_2 hM.2.2.1 h999 c_7).1
  | exact (hrsM_2 (r := m38 fs) (An := ma) (Ac := acM fc ma) (h := h9) (j := j_2) (fun q => q_2 (Or.inl q)) h01 hj_2 hM.2.2.1 h999 c_7).2.1
  | exact (hrsM_2 (r := m38 fs) (An := ma) (Ac := acM fc ma) (h := h9) (j := j_2) (fun q => q_2 (Or.inl q)) h01 hj_2 hM.2.2.1 h999 c_7).2.2.1
  | exact (hrsM_2 (r := m38 fs) (An := ma) (Ac := acM fc ma) (h := h9) (j := j_2) (fun q => q_2 (Or.inl q)) h01 hj_2 hM.2.2.1 h999 c_7).2.2.2
  | exact (hrs_pos (r := m38 fs) (An := ma) (Ac := acM fc ma) (h := h9) (j := j_2) (fun q => q_2 (Or.inl q)) h01 hj_2 hM.2.2.1 c_7 haf_1).1
  | exact (hrs_pos (r := m38 fs) (An := ma) (Ac := acM fc ma) (h := h9) (j := j_2) (fun q => q_2 (Or.inl q)) h01 hj_2 hM.2.2.1 c_7 haf_1).2.1
  | exact (hrs_pos (r := m38 fs) (An := ma) (Ac := acM fc ma) (h := h9) (j := j_2) (fun q => q_2 (Or.inl q)) h01 hj_2 hM.2.2.1 c_7 haf_1).2.2.1
  | exact (hrs_pos (r := m38 fs) (An := ma) (Ac := acM fc ma) (h := h9) (j := j_2) (fun q => q_2 (Or.inl q)) h01 hj_2 hM.2.2.1 c_7 haf_1).2.2.2
  | exact e_24.trans (hrs_pos (r := m38 fs) (An := ma) (Ac := acM fc ma) (h := h9) (j := j_2) (fun q => q_2 (Or.inl q)) h01 hj_2 hM.2.2.1 c_7 haf_1).2.2.2
theorem lf_X8_hours_20 {mt : Int32} {ma : Nat} {fs : Nat → Int32} {w9 : Nat} {k9 : Nat} {h9 : Nat} {fc : Nat → Int32} {a0 : Int32} (hM : okM fs w9 k9 h9) (hT : ¬ mt = 0 → 1 ≤ k9) (h999 : h9 ≤ 999) (hT0 : mt = 0 → fs 0 = 0 ∧ ma = 0) (hac : okA fc ma) (hma : ma ≤ 24) (c_1 : mt = 0) (h00 : fs 0 = 0) : acM fc ma = (s_hrs (m38 fs) ma (acM fc ma) a0).2.2 := by
  have hw6 := hM.2.2.2.1
  have hk6 := hM.2.2.2.2.1
  first
  | exact hT0
  | (intro h_; exact absurd (hT0 h_).1 h01)
  | (intro h_; have h9 := (hT0 h_).2; omega)
  | exact (hrsM_0 (r := m38 fs) (An := ma) (Ac := acM fc ma) h00).1
  | exact (hrsM_0 (r := m38 fs) (An := ma) (Ac := acM fc ma) h00).2.1
  | exact (hrsM_0 (r := m38 fs) (An := ma) (Ac := acM fc ma) h00).2.2.1
  | exact (hrsM_0 (r := m38 fs) (An := ma) (Ac := acM fc ma) h00).2.2.2
  | exact (hrsM_1 (r := m38 fs) (An := ma) (Ac := acM fc ma) h01 q_2).1
  | exact (hrsM_1 (r := m38 fs) (An := ma) (Ac := acM fc ma) h01 q_2).2.1
  | exact (hrsM_1 (r := m38 fs) (An := ma) (Ac := acM fc ma) h01 q_2).2.2.1
  | exact (hrsM_1 (r := m38 fs) (An := ma) (Ac := acM fc ma) h01 q_2).2.2.2
  | exact (hrsM_2 (r := m38 fs) (An := ma) (Ac := acM fc ma) (h := h9) (j := j_2) (fun q => q_2 (Or.inl q)) h01 hj_2 hM.2.2.1 h999 c_7).1
  | exact (hrsM_2 (r := m38 fs) (An := ma) (Ac := acM fc ma) (h := h9) (j := j_2) (fun q => q_2 (Or.inl q)) h01 hj_2 hM.2.2.1 h999 c_7).2.1
  | exact (hrsM_2 (r := m38 fs) (An := ma) (Ac := acM fc ma) (h := h9) (j := j_2) (fun q => q_2 (Or.inl q)) h01 hj_2 hM.2.2.1 h999 c_7).2.2.1
  | exact (hrsM_2 (r := m38 fs) (An := ma) (Ac := acM fc ma) (h := h9) (j := j_2) (fun q => q_2 (Or.inl q)) h01 hj_2 hM.2.2.1 h999 c_7).2.2.2
  | exact (hrs_pos (r := m38 fs) (An := ma) (Ac := acM fc ma) (h := h9) (j := j_2) (fun q => q_2 (Or.inl q)) h01 hj_2 hM.2.2.1 c_7 haf_1).1
  | exact (hrs_pos (r := m38 fs) (An := ma) (Ac := acM fc ma) (h := h9) (j := j_2) (fun q => q_2 (Or.inl q)) h01 hj_2 hM.2.2.1 c_7 haf_1).2.1
  | exact (hrs_pos (r := m38 fs) (An := ma) (Ac := acM fc ma) (h := h9) (j := j_2) (fun q => q_2 (Or.inl q)) h01 hj_2 hM.2.2.1 c_7 haf_1).2.2.1
  | exact (hrs_pos (r := m38 fs) (An := ma) (Ac := acM fc ma) (h := h9) (j := j_2) (fun q => q_2 (Or.inl q)) h01 hj_2 hM.2.2.1 c_7 haf_1).2.2.2
  | exact e_24.trans (hrs_pos (r := m38 fs) (An := ma) (Ac := acM fc ma) (h := h9) (j := j_2) (fun q => q_2 (Or.inl q)) h01 hj_2 hM.2.2.1 c_7 haf_1).2.2.2
theorem lf_X8_hours_21 {mt : Int32} {ma : Nat} {fs : Nat → Int32} {w9 : Nat} {k9 : Nat} {h9 : Nat} {fc : Nat → Int32} {a0 : Int32} (hM : okM fs w9 k9 h9) (hT : ¬ mt = 0 → 1 ≤ k9) (h999 : h9 ≤ 999) (hT0 : mt = 0 → fs 0 = 0 ∧ ma = 0) (hac : okA fc ma) (hma : ma ≤ 24) (c_1 : mt = 0) (h00 : fs 0 = 0) : (-1000002) = (a_hrs (m38 fs) a0) := by
  have hw6 := hM.2.2.2.1
  have hk6 := hM.2.2.2.2.1
  first
  | exact hT0
  | (intro h_; exact absurd (hT0 h_).1 h01)
  | (intro h_; have h9 := (hT0 h_).2; omega)
  | exact (hrsM_0 (r := m38 fs) (An := ma) (Ac := acM fc ma) h00).1
  | exact (hrsM_0 (r := m38 fs) (An := ma) (Ac := acM fc ma) h00).2.1
  | exact (hrsM_0 (r := m38 fs) (An := ma) (Ac := acM fc ma) h00).2.2.1
  | exact (hrsM_0 (r := m38 fs) (An := ma) (Ac := acM fc ma) h00).2.2.2
  | exact (hrsM_1 (r := m38 fs) (An := ma) (Ac := acM fc ma) h01 q_2).1
  | exact (hrsM_1 (r := m38 fs) (An := ma) (Ac := acM fc ma) h01 q_2).2.1
  | exact (hrsM_1 (r := m38 fs) (An := ma) (Ac := acM fc ma) h01 q_2).2.2.1
  | exact (hrsM_1 (r := m38 fs) (An := ma) (Ac := acM fc ma) h01 q_2).2.2.2
  | exact (hrsM_2 (r := m38 fs) (An := ma) (Ac := acM fc ma) (h := h9) (j := j_2) (fun q => q_2 (Or.inl q)) h01 hj_2 hM.2.2.1 h999 c_7).1
  | exact (hrsM_2 (r := m38 fs) (An := ma) (Ac := acM fc ma) (h := h9) (j := j_2) (fun q => q_2 (Or.inl q)) h01 hj_2 hM.2.2.1 h999 c_7).2.1
  | exact (hrsM_2 (r := m38 fs) (An := ma) (Ac := acM fc ma) (h := h9) (j := j_2) (fun q => q_2 (Or.inl q)) h01 hj_2 hM.2.2.1 h999 c_7).2.2.1
  | exact (hrsM_2 (r := m38 fs) (An := ma) (Ac := acM fc ma) (h := h9) (j := j_2) (fun q => q_2 (Or.inl q)) h01 hj_2 hM.2.2.1 h999 c_7).2.2.2
  | exact (hrs_pos (r := m38 fs) (An := ma) (Ac := acM fc ma) (h := h9) (j := j_2) (fun q => q_2 (Or.inl q)) h01 hj_2 hM.2.2.1 c_7 haf_1).1
  | exact (hrs_pos (r := m38 fs) (An := ma) (Ac := acM fc ma) (h := h9) (j := j_2) (fun q => q_2 (Or.inl q)) h01 hj_2 hM.2.2.1 c_7 haf_1).2.1
  | exact (hrs_pos (r := m38 fs) (An := ma) (Ac := acM fc ma) (h := h9) (j := j_2) (fun q => q_2 (Or.inl q)) h01 hj_2 hM.2.2.1 c_7 haf_1).2.2.1
  | exact (hrs_pos (r := m38 fs) (An := ma) (Ac := acM fc ma) (h := h9) (j := j_2) (fun q => q_2 (Or.inl q)) h01 hj_2 hM.2.2.1 c_7 haf_1).2.2.2
  | exact e_24.trans (hrs_pos (r := m38 fs) (An := ma) (Ac := acM fc ma) (h := h9) (j := j_2) (fun q => q_2 (Or.inl q)) h01 hj_2 hM.2.2.1 c_7 haf_1).2.2.2
set_option maxHeartbeats 4000000 in
set_option maxRecDepth 100000 in
theorem r_X8_hours (l : Launch) (dC : Nat → ClassId) (dI : Nat → Nat → Nat) (cI cZ cL cJ : ClassId) (sz : Nat) (mo : Nat) (m_la : Nat) (m_sz : Nat) (m_it : Nat) (m_st : Nat) (m_mv : Nat) (m_tp : Nat) (m_rd : Nat) (m_ac : Nat) (m_as : Nat) (m_wo : Nat) (m_ik : Nat) (m_ke : Nat) (m_tr : Nat) (ms : Int32) (mt : Int32) (ml : Int32) (mk : Int32) (mv : Int32) (mb : Int32) (mw : Int32) (mz : Nat) (mp : Nat) (ma : Nat) (mx : Nat) (fs : Nat → Int32) (w9 : Nat) (k9 : Nat) (h9 : Nat) (fc : Nat → Int32) (a0 : Int32) (hM : okM fs w9 k9 h9) (hT : ¬ mt = 0 → 1 ≤ k9) (h999 : h9 ≤ 999) (hT0 : mt = 0 → fs 0 = 0 ∧ ma = 0) (hac : okA fc ma) (hma : ma ≤ 24) : Met l yX8_hours wsX8_hours ({ frames := 4, cells := 0, slots := 0, locals := 95 }) (va_Pc [.ref mo, .int a0] (fun U => U.heap.size = sz ∧ va_P (dC, dI) vwCl [(xo_8_rrriirrriiiiiiirrirrrrri mo m_la m_sz m_it ms mt m_st m_mv m_tp (nI mz) ml (nI mp) mk mv mb mw m_rd m_ac (nI ma) m_as m_wo m_ik m_ke m_tr (nI mx)), (xI m_st cI 38 fs), (xI m_ac cI 912 fc)] U.heap ∧ va_K (dC, dI) vwCl [(cI, .int), (cZ, .boolean), (cL, .object RX3), (cJ, .array .int)] U ∧ va_D (fun _ => True) [(xo_8_rrriirrriiiiiiirrirrrrri mo m_la m_sz m_it ms mt m_st m_mv m_tp (nI mz) ml (nI mp) mk mv mb mw m_rd m_ac (nI ma) m_as m_wo m_ik m_ke m_tr (nI mx)), (xI m_st cI 38 fs), (xI m_ac cI 912 fc)])) (va_Qi (fun r (_ : Unit) => r = (a_hrs (m38 fs) a0)) (fun (_ : Unit) t => ∃ (fsn : Nat → Int32) (fcn : Nat → Int32) (man : Nat) (w9n : Nat) (k9n : Nat) (h9n : Nat), va_P (dC, dI) vwCl [(xo_8_rrriirrriiiiiiirrirrrrri mo m_la m_sz m_it ms mt m_st m_mv m_tp (nI mz) ml (nI mp) mk mv mb mw m_rd m_ac (nI man) m_as m_wo m_ik m_ke m_tr (nI mx)), (xI m_st cI 38 fsn), (xI m_ac cI 912 fcn)] t.heap ∧ va_D (va_A [(xo_8_rrriirrriiiiiiirrirrrrri mo m_la m_sz m_it ms mt m_st m_mv m_tp (nI mz) ml (nI mp) mk mv mb mw m_rd m_ac (nI ma) m_as m_wo m_ik m_ke m_tr (nI mx)), (xI m_st cI 38 fs), (xI m_ac cI 912 fc)] sz) [(xo_8_rrriirrriiiiiiirrirrrrri mo m_la m_sz m_it ms mt m_st m_mv m_tp (nI mz) ml (nI mp) mk mv mb mw m_rd m_ac (nI man) m_as m_wo m_ik m_ke m_tr (nI mx)), (xI m_st cI 38 fsn), (xI m_ac cI 912 fcn)] ∧ okM fsn w9n k9n h9n ∧ (¬ mt = 0 → 1 ≤ k9n) ∧ h9n ≤ 999 ∧ okA fcn man ∧ man ≤ 24 ∧ (mt = 0 → fsn 0 = 0 ∧ man = 0) ∧ m38 fsn = (s_hrs (m38 fs) ma (acM fc ma) a0).1 ∧ man = (s_hrs (m38 fs) ma (acM fc ma) a0).2.1 ∧ acM fcn man = (s_hrs (m38 fs) ma (acM fc ma) a0).2.2) (va_A [(xo_8_rrriirrriiiiiiirrirrrrri mo m_la m_sz m_it ms mt m_st m_mv m_tp (nI mz) ml (nI mp) mk mv mb mw m_rd m_ac (nI ma) m_as m_wo m_ik m_ke m_tr (nI mx)), (xI m_st cI 38 fs), (xI m_ac cI 912 fc)] sz)) 0 0 (va_A [(xo_8_rrriirrriiiiiiirrirrrrri mo m_la m_sz m_it ms mt m_st m_mv m_tp (nI mz) ml (nI mp) mk mv mb mw m_rd m_ac (nI ma) m_as m_wo m_ik m_ke m_tr (nI mx)), (xI m_st cI 38 fs), (xI m_ac cI 912 fc)] sz) := by
  refine Met.ofW (cc := cX8_hours) (maxL := 3) (ret := (some .int)) (by decide) rfl ?_
  intro p e s m args below meth c s₁ B hml hv
  obtain ⟨rfl, hsz, hP, hK, hD0⟩ := hv
  have hx := B.exec
  have hb := B.bytes
  have hr := B.returns
  have hts := atoms_spec (ws := wsX8_hours) B.pre
  have hown : s.vm.findClass RX8 = some m.cls := findClass_of_methodNamed B.named
  have hlocks := B.notSynchronized
  subst hsz
  have hD := hD0.self (sz := s.heap.size)
  generalize hAe : va_A [(xo_8_rrriirrriiiiiiirrirrrrri mo m_la m_sz m_it ms mt m_st m_mv m_tp (nI mz) ml (nI mp) mk mv mb mw m_rd m_ac (nI ma) m_as m_wo m_ik m_ke m_tr (nI mx)), (xI m_st cI 38 fs), (xI m_ac cI 912 fc)] s.heap.size = A at hD ⊢
  have hA : ∀ q : Nat, s.heap.size ≤ q → A q := fun q h => by rw [← hAe]; exact Or.inr h
  have hS : va_S A s.heap s.heap [] := va_S.rf
  have hP : va_P (dC, dI) vwCl [(xo_8_rrriirrriiiiiiirrirrrrri mo m_la m_sz m_it ms mt m_st m_mv m_tp (nI mz) ml (nI mp) mk mv mb mw m_rd m_ac (nI ma) m_as m_wo m_ik m_ke m_tr (nI mx)), (xI m_st cI 38 fs), (xI m_ac cI 912 fc)] s.heap := hP
  have hl := lv_entry ([.ref mo, .int a0]) (n := 3) (Nat.le_of_ble_eq_true rfl)
  rw [lg_entry_eq]
  generalize (lg_sl ([.ref mo, .int a0]) ++ List.replicate (3 - (lg_sl ([.ref mo, .int a0])).length) Slot.unset).toArray = ls at hl ⊢
  have hl : lv_has ls 3 [(0, .ref mo), (1, .int a0)] := hl
  have hk6 := hM.2.2.2.2.1
  have hw6 := hM.2.2.2.1
  refine lv_aload_n hx hb dX8_hours_0 rfl (lv_at hl 0 rfl) ?_
  refine va_get (D := (dC, dI)) (ci := 8) (v := .int mt) (C := RX8) (T := TX8) (N := 24) hx hb hts i_X8_hours_X8 hown hK hP 0 rfl rfl 4 (by decide) (hts _ mx_X8_hours_1) (fun _ h9 => h9) rfl dX8_hours_1 ?_
  refine lv_if_ne (tgt := 10) hx hb dX8_hours_4 (by decide) (fun c_1 => ?_) (fun c_1 => ?_)
  · skip
    have hkn1 := hT c_1
    have hw1 := hM.2.2.2.2.2.1.mp hkn1
    have h01 : ¬ fs 0 = 0 := cell_nz hM hkn1
    refine lv_iload_n hx hb dX8_hours_10 rfl (lv_at hl 1 rfl) ?_
    refine lv_i2l hx hb dX8_hours_11 rfl ?_
    refine lv_lconst (v := 1) hx hb dX8_hours_12 (by decide) ?_
    refine lv_ldc2 (own := RX8) (v := 24) hx hb hown (hts _ mx_X8_hours_3) dX8_hours_13 ?_
    have hPc_2 := hP.sub (ws' := []) [] rfl
    refine vp_callSi (W.runS (As := [.long (a0).toInt64, .long 1, .long 24]) (rest := []) ⟨hx, hb, hml, hown, hts⟩ (r_X8_in l dC dI cI cZ cL cJ ((a0).toInt64) 1 24 ) (va_cwS 3 hts gX8_hours_X8_in rfl rfl rfl (by decide +kernel) ⟨Nat.le_of_ble_eq_true rfl, Nat.le_of_ble_eq_true rfl⟩) (psP hK hPc_2) rfl rfl hl.1 rfl (lv_room (Nat.le_of_ble_eq_true rfl)) dX8_hours_16 ⟨Nat.le_of_ble_eq_true rfl, Nat.le_of_ble_eq_true rfl⟩) (fun r_2 h_2 => ?_)
    rcases h_2 with ⟨h_2, f_2_0_0⟩ | ⟨h_2, f_2_1_0⟩
    · subst h_2
      have q_2 : (a0 < 1 ∨ 24 < a0) := (in32 (x := a0) (l := 1) (u := 24) (by decide) (by decide)).mp f_2_0_0
      refine lv_if_ne (tgt := 25) hx hb dX8_hours_19 (by decide) (fun c_ => absurd (by decide) c_) (fun _ => ?_)
      refine lv_ldc (own := RX8) (v := (-1000001)) hx hb hown (hts _ mx_X8_hours_4) dX8_hours_22 ?_
      have hX9 := cut2 (wc := [(xo_8_rrriirrriiiiiiirrirrrrri mo m_la m_sz m_it ms mt m_st m_mv m_tp (nI mz) ml (nI mp) mk mv mb mw m_rd m_ac (nI ma) m_as m_wo m_ik m_ke m_tr (nI mx)), (xI m_st cI 38 fs), (xI m_ac cI 912 fc)]) hP hD [0, 1, 2] (by decide +kernel) rfl
      exact W.iret (v := (-1000001)) hx hb hr (fun t ht hW => ⟨⟨(-1000001), (), rfl, (lf_X8_hours_5 hM hT h999 hT0 hac hma c_1 hkn1 hw1 h01 f_2_0_0 q_2), ⟨fs, fc, ma, w9, k9, h9, va_Ht ht hX9.1, hX9.2, hM, hT, (by omega), hac, (by omega), (lf_X8_hours_1 hM hT h999 hT0 hac hma c_1 hkn1 hw1 h01 f_2_0_0 q_2), (lf_X8_hours_2 hM hT h999 hT0 hac hma c_1 hkn1 hw1 h01 f_2_0_0 q_2), (lf_X8_hours_3 hM hT h999 hT0 hac hma c_1 hkn1 hw1 h01 f_2_0_0 q_2), (lf_X8_hours_4 hM hT h999 hT0 hac hma c_1 hkn1 hw1 h01 f_2_0_0 q_2)⟩⟩, hS.F ht⟩) hS.2.2 dX8_hours_24
    · subst h_2
      have q_2 : ¬ (a0 < 1 ∨ 24 < a0) := fun q_ => f_2_1_0 ((in32 (x := a0) (l := 1) (u := 24) (by decide) (by decide)).mpr q_)
      obtain ⟨j_2, hj_2, hl_2, rfl⟩ := in64 (lo := 1) (n := 24) rfl rfl (by decide) f_2_1_0
      refine lv_if_ne (tgt := 25) hx hb dX8_hours_19 (by decide) (fun _ => ?_) (fun c_ => absurd c_ (by decide))
      refine lv_aload_n hx hb dX8_hours_25 rfl (lv_at hl 0 rfl) ?_
      refine va_get (D := (dC, dI)) (ci := 8) (v := .ref m_st) (C := RX8) (T := TX8) (N := 24) hx hb hts i_X8_hours_X8 hown hK hP 0 rfl rfl 5 (by decide) (hts _ mx_X8_hours_5) (fun _ h9 => h9) rfl dX8_hours_26 ?_
      refine lv_iconst (v := 5) hx hb dX8_hours_29 (by decide) ?_
      refine va_iald hx hb hK hP 1 0 rfl rfl (by unfold vp_in; decide) dX8_hours_30 ?_
      refine lv_topi (fun v_5 e_5 => ?_)
      obtain rfl : v_5 = (nI h9) := (e_5).trans hM.2.2.1
      refine lv_iload_n hx hb dX8_hours_31 rfl (lv_at hl 1 rfl) ?_
      refine lv_iadd hx hb dX8_hours_32 ?_
      refine lv_topi (fun v_6 e_6 => ?_)
      obtain rfl : v_6 = (nI (h9 + j_2)) := (e_6).trans (nI_add h9 j_2)
      refine lv_sipush (v := 999) hx hb dX8_hours_33 (by decide) ?_
      refine lv_icmp_le (tgt := 42) hx hb dX8_hours_36 (by decide) (fun c_7 => ?_) (fun c_7 => ?_)
      · have c_7 : (h9 + j_2) ≤ 999 := (nI_leI (a := (h9 + j_2)) (b := 999) (by omega) (by omega)).mp c_7
        refine lv_iconst (v := 0) hx hb dX8_hours_42 (by decide) ?_
        refine lv_istore_n (lv' := [(2, .int 0), (0, .ref mo), (1, .int (nI j_2))]) hx hb dX8_hours_43 rfl hl (by decide) rfl (fun ls hl => ?_)
        refine lp_go (σ := (Nat) × (Nat → Int32) × (Nat → Int32)) (fun ii (st : (Nat) × (Nat → Int32) × (Nat → Int32)) H locs ls => match st with | (w_11, w_12, w_13) => lv_has ls 3 [(2, .int (nI ii)), (0, .ref mo), (1, .int (nI j_2))] ∧ va_P (dC, dI) vwCl [(xo_8_rrriirrriiiiiiirrirrrrri mo m_la m_sz m_it ms mt m_st m_mv m_tp (nI mz) ml (nI mp) mk mv mb mw m_rd m_ac (nI w_11) m_as m_wo m_ik m_ke m_tr (nI mx)), (xI m_st cI 38 w_12), (xI m_ac cI 912 w_13)] H ∧ va_D A [(xo_8_rrriirrriiiiiiirrirrrrri mo m_la m_sz m_it ms mt m_st m_mv m_tp (nI mz) ml (nI mp) mk mv mb mw m_rd m_ac (nI w_11) m_as m_wo m_ik m_ke m_tr (nI mx)), (xI m_st cI 38 w_12), (xI m_ac cI 912 w_13)] ∧ va_S A s.heap H locs ∧ okM w_12 w9 k9 (h9 + ii) ∧ okA w_13 w_11 ∧ (hrI ii (m38 fs) ma (acM fc ma) = (m38 w_12, w_11, acM w_13 w_11)) ∧ w_11 ≤ 24) j_2 ?_ ?_ 0 (by omega) (ma, fs, fc) ⟨lv_sub hl [0, 1, 2] rfl, hP.sub (ws' := [(xo_8_rrriirrriiiiiiirrirrrrri mo m_la m_sz m_it ms mt m_st m_mv m_tp (nI mz) ml (nI mp) mk mv mb mw m_rd m_ac (nI ma) m_as m_wo m_ik m_ke m_tr (nI mx)), (xI m_st cI 38 fs), (xI m_ac cI 912 fc)]) [0, 1, 2] rfl, hD.sub (ws' := [(xo_8_rrriirrriiiiiiirrirrrrri mo m_la m_sz m_it ms mt m_st m_mv m_tp (nI mz) ml (nI mp) mk mv mb mw m_rd m_ac (nI ma) m_as m_wo m_ik m_ke m_tr (nI mx)), (xI m_st cI 38 fs), (xI m_ac cI 912 fc)]) [0, 1, 2] (by decide +kernel) rfl, hS, hM, hac, rfl, (by omega)⟩
        · rintro ii ⟨w_11, w_12, w_13⟩ H locs ls hii ⟨hl, hP, hD, hS, hMl, haf_0, haf_1, hnb_w_11⟩ ih
          refine lv_iload_n hx hb dX8_hours_44 rfl (lv_at hl 0 rfl) ?_
          refine lv_iload_n hx hb dX8_hours_45 rfl (lv_at hl 2 rfl) ?_
          refine lv_icmp_ge (tgt := 64) hx hb dX8_hours_46 (by decide) (fun c_ => absurd c_ (fun q_ => absurd ((nI_leI (a := j_2) (b := ii) (by omega) (by omega)).mp q_) (by omega))) (fun _ => ?_)
          refine lv_aload_n hx hb dX8_hours_49 rfl (lv_at hl 1 rfl) ?_
          have hc_21 := cutW (wc := [(xo_8_rrriirrriiiiiiirrirrrrri mo m_la m_sz m_it ms mt m_st m_mv m_tp (nI mz) ml (nI mp) mk mv mb mw m_rd m_ac (nI w_11) m_as m_wo m_ik m_ke m_tr (nI mx)), (xI m_st cI 38 w_12), (xI m_ac cI 912 w_13)]) hP hD hS hA [0, 1, 2] (by decide +kernel) rfl
          refine va_callv (va_runV (As := []) (rest := []) ⟨hx, hb, hml, hown, hts⟩ (r_X8_note l dC dI cI cZ cL cJ H.size mo m_la m_sz m_it m_st m_mv m_tp m_rd m_ac m_as m_wo m_ik m_ke m_tr ms mt ml mk mv mb mw mz mp w_11 mx w_12 w_13 (haf_0) (by omega) (⟨w9, k9, (h9 + ii), hMl, hkn1, by omega⟩)) (cwV 0 hts gX8_hours_X8_note rfl rfl rfl (by decide +kernel) ⟨Nat.le_of_ble_eq_true rfl, Nat.le_of_ble_eq_true rfl⟩) (pvW 8 0 hK hP rfl rfl hc_21) rfl rfl hl.1 rfl (lv_room (Nat.le_of_ble_eq_true rfl)) dX8_hours_50 ⟨Nat.le_of_ble_eq_true rfl, Nat.le_of_ble_eq_true rfl⟩) hS (fun q _ h => hc_21.2.2 q h) hc_21.2.2 (fun u_21 t_21 H1 locs ht hvm h_21 hB hz1 hk1 hS => ?_)
          refine xl_2_7 hB (fun fcn_21 man_21 hP1 hD1 hF_21_0 hF_21_1 hF_21_2 hF_21_3 hF_21_4 => ?_)
          clear hB
          rw [ht] at hP1
          obtain ⟨hP, hD⟩ := va_join (wr := []) (w1 := [(xo_8_rrriirrriiiiiiirrirrrrri mo m_la m_sz m_it ms mt m_st m_mv m_tp (nI mz) ml (nI mp) mk mv mb mw m_rd m_ac (nI man_21) m_as m_wo m_ik m_ke m_tr (nI mx)), (xI m_st cI 38 w_12), (xI m_ac cI 912 fcn_21)]) hP hD [0, 1, 2] [] rfl rfl (by decide +kernel) (by decide +kernel) hk1 hc_21.2.2 hP1 hD1
          generalize H1 = H at hP hS ⊢
          have hP : va_P (dC, dI) vwCl [(xo_8_rrriirrriiiiiiirrirrrrri mo m_la m_sz m_it ms mt m_st m_mv m_tp (nI mz) ml (nI mp) mk mv mb mw m_rd m_ac (nI man_21) m_as m_wo m_ik m_ke m_tr (nI mx)), (xI m_st cI 38 w_12), (xI m_ac cI 912 fcn_21)] H := hP
          have hD := dto hP hD
          refine lv_aload_n hx hb dX8_hours_53 rfl (lv_at hl 1 rfl) ?_
          have hc_22 := cutW (wc := [(xo_8_rrriirrriiiiiiirrirrrrri mo m_la m_sz m_it ms mt m_st m_mv m_tp (nI mz) ml (nI mp) mk mv mb mw m_rd m_ac (nI man_21) m_as m_wo m_ik m_ke m_tr (nI mx)), (xI m_st cI 38 w_12)]) hP hD hS hA [0, 1] (by decide +kernel) rfl
          refine va_calli (va_runV (As := []) (rest := []) ⟨hx, hb, hml, hown, hts⟩ (r_X8_oneHour l dC dI cI cZ cL cJ H.size mo m_la m_sz m_it m_st m_mv m_tp m_rd m_ac m_as m_wo m_ik m_ke m_tr ms mt ml mk mv mb mw mz mp man_21 mx w_12 w9 k9 (h9 + ii) (hMl) (by omega) (by omega)) (cwV 0 hts gX8_hours_X8_oneHour rfl rfl rfl (by decide +kernel) ⟨Nat.le_of_ble_eq_true rfl, Nat.le_of_ble_eq_true rfl⟩) (pvW 8 0 hK hP rfl rfl hc_22) rfl rfl hl.1 rfl (lv_room (Nat.le_of_ble_eq_true rfl)) dX8_hours_54 ⟨Nat.le_of_ble_eq_true rfl, Nat.le_of_ble_eq_true rfl⟩) hS (fun q _ h => hc_22.2.2 q h) hc_22.2.2 (fun r_22 u_22 t_22 H1 locs ht hvm h_22 hB hz1 hk1 hS => ?_)
          refine xl_1_4 hB (fun fsn_22 hP1 hD1 hF_22_0 hF_22_1 => ?_)
          clear hB
          rw [ht] at hP1
          obtain ⟨hP, hD⟩ := va_join (wr := [(xI m_ac cI 912 fcn_21)]) (w1 := [(xo_8_rrriirrriiiiiiirrirrrrri mo m_la m_sz m_it ms mt m_st m_mv m_tp (nI mz) ml (nI mp) mk mv mb mw m_rd m_ac (nI man_21) m_as m_wo m_ik m_ke m_tr (nI mx)), (xI m_st cI 38 fsn_22)]) hP hD [0, 1] [2] rfl rfl (by decide +kernel) (by decide +kernel) hk1 hc_22.2.2 hP1 hD1
          generalize H1 = H at hP hS ⊢
          have hP : va_P (dC, dI) vwCl [(xI m_ac cI 912 fcn_21), (xo_8_rrriirrriiiiiiirrirrrrri mo m_la m_sz m_it ms mt m_st m_mv m_tp (nI mz) ml (nI mp) mk mv mb mw m_rd m_ac (nI man_21) m_as m_wo m_ik m_ke m_tr (nI mx)), (xI m_st cI 38 fsn_22)] H := hP
          have hD := dto hP hD
          refine lv_pop hx hb dX8_hours_57 rfl ?_
          refine lv_iinc (v := (nI (ii + 1))) (lv' := [(2, .int (nI (ii + 1))), (0, .ref mo), (1, .int (nI j_2))]) hx hb dX8_hours_58 hl (k := 0) rfl (nI_add ii 1) (by decide) rfl (fun ls hl => ?_)
          refine lv_goto (tgt := 44) hx hb dX8_hours_61 (by decide) ?_
          exact ih (man_21, fsn_22, fcn_21) _ _ _ ⟨lv_sub hl [0, 1, 2] rfl, hP.sub (ws' := [(xo_8_rrriirrriiiiiiirrirrrrri mo m_la m_sz m_it ms mt m_st m_mv m_tp (nI mz) ml (nI mp) mk mv mb mw m_rd m_ac (nI man_21) m_as m_wo m_ik m_ke m_tr (nI mx)), (xI m_st cI 38 fsn_22), (xI m_ac cI 912 fcn_21)]) [1, 2, 0] rfl, hD.sub (ws' := [(xo_8_rrriirrriiiiiiirrirrrrri mo m_la m_sz m_it ms mt m_st m_mv m_tp (nI mz) ml (nI mp) mk mv mb mw m_rd m_ac (nI man_21) m_as m_wo m_ik m_ke m_tr (nI mx)), (xI m_st cI 38 fsn_22), (xI m_ac cI 912 fcn_21)]) [1, 2, 0] (by decide +kernel) rfl, hS, hF_22_0, hF_21_0, (lf_X8_hours_6 hM hT h999 hT0 hac hma c_1 hkn1 hw1 h01 f_2_1_0 q_2 hj_2 c_7 hii haf_0 haf_1 hnb_w_11 hMl hF_21_0 hF_21_1 hF_21_2 hF_21_3 hF_21_4 hF_22_0 hF_22_1), (by omega)⟩
        · rintro ⟨w_11, w_12, w_13⟩ H locs ls ⟨hl, hP, hD, hS, hMl, haf_0, haf_1, hnb_w_11⟩
          refine lv_iload_n hx hb dX8_hours_44 rfl (lv_at hl 0 rfl) ?_
          refine lv_iload_n hx hb dX8_hours_45 rfl (lv_at hl 2 rfl) ?_
          refine lv_icmp_ge (tgt := 64) hx hb dX8_hours_46 (by decide) (fun _ => ?_) (fun c_ => absurd ((nI_leI (a := j_2) (b := j_2) (by omega) (by omega)).mpr (by omega)) c_)
          refine lv_aload_n hx hb dX8_hours_64 rfl (lv_at hl 1 rfl) ?_
          refine va_get (D := (dC, dI)) (ci := 8) (v := .ref m_st) (C := RX8) (T := TX8) (N := 24) hx hb hts i_X8_hours_X8 hown hK hP 0 rfl rfl 5 (by decide) (hts _ mx_X8_hours_5) (fun _ h9 => h9) rfl dX8_hours_65 ?_
          refine lv_bipush (v := 7) hx hb dX8_hours_68 (by decide) ?_
          refine va_iald hx hb hK hP 1 0 rfl rfl (by unfold vp_in; decide) dX8_hours_70 ?_
          refine lv_topi (fun v_24 e_24 => ?_)
          have e_24 : v_24 = w_12 7 := e_24
          have hX9 := cut2 (wc := [(xo_8_rrriirrriiiiiiirrirrrrri mo m_la m_sz m_it ms mt m_st m_mv m_tp (nI mz) ml (nI mp) mk mv mb mw m_rd m_ac (nI w_11) m_as m_wo m_ik m_ke m_tr (nI mx)), (xI m_st cI 38 w_12), (xI m_ac cI 912 w_13)]) hP hD [0, 1, 2] (by decide +kernel) rfl
          exact W.iret (v := v_24) hx hb hr (fun t ht hW => ⟨⟨v_24, (), rfl, (lf_X8_hours_11 hM hT h999 hT0 hac hma c_1 hkn1 hw1 h01 f_2_1_0 q_2 hj_2 c_7 haf_0 haf_1 hnb_w_11 hMl e_24), ⟨w_12, w_13, w_11, w9, k9, (h9 + j_2), va_Ht ht hX9.1, hX9.2, hMl, hT, (by omega), haf_0, (by omega), (lf_X8_hours_7 hM hT h999 hT0 hac hma c_1 hkn1 hw1 h01 f_2_1_0 q_2 hj_2 c_7 haf_0 haf_1 hnb_w_11 hMl e_24), (lf_X8_hours_8 hM hT h999 hT0 hac hma c_1 hkn1 hw1 h01 f_2_1_0 q_2 hj_2 c_7 haf_0 haf_1 hnb_w_11 hMl e_24), (lf_X8_hours_9 hM hT h999 hT0 hac hma c_1 hkn1 hw1 h01 f_2_1_0 q_2 hj_2 c_7 haf_0 haf_1 hnb_w_11 hMl e_24), (lf_X8_hours_10 hM hT h999 hT0 hac hma c_1 hkn1 hw1 h01 f_2_1_0 q_2 hj_2 c_7 haf_0 haf_1 hnb_w_11 hMl e_24)⟩⟩, hS.F ht⟩) hS.2.2 dX8_hours_71
      · have c_7 : ¬ ((h9 + j_2) ≤ 999) := fun q_ => c_7 ((nI_leI (a := (h9 + j_2)) (b := 999) (by omega) (by omega)).mpr q_)
        refine lv_ldc (own := RX8) (v := (-1000003)) hx hb hown (hts _ mx_X8_hours_6) dX8_hours_39 ?_
        have hX9 := cut2 (wc := [(xo_8_rrriirrriiiiiiirrirrrrri mo m_la m_sz m_it ms mt m_st m_mv m_tp (nI mz) ml (nI mp) mk mv mb mw m_rd m_ac (nI ma) m_as m_wo m_ik m_ke m_tr (nI mx)), (xI m_st cI 38 fs), (xI m_ac cI 912 fc)]) hP hD [0, 1, 2] (by decide +kernel) rfl
        exact W.iret (v := (-1000003)) hx hb hr (fun t ht hW => ⟨⟨(-1000003), (), rfl, (lf_X8_hours_16 hM hT h999 hT0 hac hma c_1 hkn1 hw1 h01 f_2_1_0 q_2 hj_2 c_7), ⟨fs, fc, ma, w9, k9, h9, va_Ht ht hX9.1, hX9.2, hM, hT, (by omega), hac, (by omega), (lf_X8_hours_12 hM hT h999 hT0 hac hma c_1 hkn1 hw1 h01 f_2_1_0 q_2 hj_2 c_7), (lf_X8_hours_13 hM hT h999 hT0 hac hma c_1 hkn1 hw1 h01 f_2_1_0 q_2 hj_2 c_7), (lf_X8_hours_14 hM hT h999 hT0 hac hma c_1 hkn1 hw1 h01 f_2_1_0 q_2 hj_2 c_7), (lf_X8_hours_15 hM hT h999 hT0 hac hma c_1 hkn1 hw1 h01 f_2_1_0 q_2 hj_2 c_7)⟩⟩, hS.F ht⟩) hS.2.2 dX8_hours_41
  · skip
    have h00 : fs 0 = 0 := (hT0 c_1).1
    refine lv_ldc (own := RX8) (v := (-1000002)) hx hb hown (hts _ mx_X8_hours_2) dX8_hours_7 ?_
    have hX9 := cut2 (wc := [(xo_8_rrriirrriiiiiiirrirrrrri mo m_la m_sz m_it ms mt m_st m_mv m_tp (nI mz) ml (nI mp) mk mv mb mw m_rd m_ac (nI ma) m_as m_wo m_ik m_ke m_tr (nI mx)), (xI m_st cI 38 fs), (xI m_ac cI 912 fc)]) hP hD [0, 1, 2] (by decide +kernel) rfl
    exact W.iret (v := (-1000002)) hx hb hr (fun t ht hW => ⟨⟨(-1000002), (), rfl, (lf_X8_hours_21 hM hT h999 hT0 hac hma c_1 h00), ⟨fs, fc, ma, w9, k9, h9, va_Ht ht hX9.1, hX9.2, hM, hT, (by omega), hac, (by omega), (lf_X8_hours_17 hM hT h999 hT0 hac hma c_1 h00), (lf_X8_hours_18 hM hT h999 hT0 hac hma c_1 h00), (lf_X8_hours_19 hM hT h999 hT0 hac hma c_1 h00), (lf_X8_hours_20 hM hT h999 hT0 hac hma c_1 h00)⟩⟩, hS.F ht⟩) hS.2.2 dX8_hours_9
-- 48.mod4_d
theorem dX8_byTurns_0 : decode cX8_byTurns 0 = .ok (.aload_n 0, 1) := dq_42 (by decide +kernel)
theorem dX8_byTurns_1 : decode cX8_byTurns 1 = .ok (.getfield 138, 3) := dq_180 (b1 := 0) (b2 := 138) (by decide +kernel) (by decide)
theorem dX8_byTurns_10 : decode cX8_byTurns 10 = .ok (.iload_n 1, 1) := dq_27 (by decide +kernel)
theorem dX8_byTurns_102 : decode cX8_byTurns 102 = .ok (.iload 5, 2) := dq_21 (b1 := 5) (by decide +kernel) (by decide)
theorem dX8_byTurns_104 : decode cX8_byTurns 104 = .ok (.iconst 2, 1) := dq_5 (by decide +kernel)
theorem dX8_byTurns_105 : decode cX8_byTurns 105 = .ok (.irem, 1) := dq_112 (by decide +kernel)
theorem dX8_byTurns_106 : decode cX8_byTurns 106 = .ok (.ifCond .ne 15, 3) := dq_154 (b1 := 0) (b2 := 15) (by decide +kernel) (by decide)
theorem dX8_byTurns_109 : decode cX8_byTurns 109 = .ok (.iconst 1, 1) := dq_4 (by decide +kernel)
theorem dX8_byTurns_11 : decode cX8_byTurns 11 = .ok (.i2l, 1) := dq_133 (by decide +kernel)
theorem dX8_byTurns_110 : decode cX8_byTurns 110 = .ok (.aload_n 0, 1) := dq_42 (by decide +kernel)
theorem dX8_byTurns_111 : decode cX8_byTurns 111 = .ok (.getfield 19, 3) := dq_180 (b1 := 0) (b2 := 19) (by decide +kernel) (by decide)
theorem dX8_byTurns_114 : decode cX8_byTurns 114 = .ok (.bipush 6, 2) := dq_16 (b1 := 6) (by decide +kernel) (by decide)
theorem dX8_byTurns_116 : decode cX8_byTurns 116 = .ok (.iaload, 1) := dq_46 (by decide +kernel)
theorem dX8_byTurns_117 : decode cX8_byTurns 117 = .ok (.isub, 1) := dq_100 (by decide +kernel)
theorem dX8_byTurns_118 : decode cX8_byTurns 118 = .ok (.goto 10, 3) := dq_167 (b1 := 0) (b2 := 10) (by decide +kernel) (by decide)
theorem dX8_byTurns_12 : decode cX8_byTurns 12 = .ok (.lconst 0, 1) := dq_9 (by decide +kernel)
theorem dX8_byTurns_121 : decode cX8_byTurns 121 = .ok (.aload_n 0, 1) := dq_42 (by decide +kernel)
theorem dX8_byTurns_122 : decode cX8_byTurns 122 = .ok (.getfield 19, 3) := dq_180 (b1 := 0) (b2 := 19) (by decide +kernel) (by decide)
theorem dX8_byTurns_125 : decode cX8_byTurns 125 = .ok (.bipush 6, 2) := dq_16 (b1 := 6) (by decide +kernel) (by decide)
theorem dX8_byTurns_127 : decode cX8_byTurns 127 = .ok (.iaload, 1) := dq_46 (by decide +kernel)
theorem dX8_byTurns_128 : decode cX8_byTurns 128 = .ok (.iastore, 1) := dq_79 (by decide +kernel)
theorem dX8_byTurns_129 : decode cX8_byTurns 129 = .ok (.aload_n 0, 1) := dq_42 (by decide +kernel)
theorem dX8_byTurns_13 : decode cX8_byTurns 13 = .ok (.ldc2_w 171, 3) := dq_20 (b1 := 0) (b2 := 171) (by decide +kernel) (by decide)
theorem dX8_byTurns_130 : decode cX8_byTurns 130 = .ok (.getfield 19, 3) := dq_180 (b1 := 0) (b2 := 19) (by decide +kernel) (by decide)
theorem dX8_byTurns_133 : decode cX8_byTurns 133 = .ok (.iload_n 3, 1) := dq_29 (by decide +kernel)
theorem dX8_byTurns_134 : decode cX8_byTurns 134 = .ok (.iload 6, 2) := dq_21 (b1 := 6) (by decide +kernel) (by decide)
theorem dX8_byTurns_136 : decode cX8_byTurns 136 = .ok (.ifCond .eq 22, 3) := dq_153 (b1 := 0) (b2 := 22) (by decide +kernel) (by decide)
theorem dX8_byTurns_139 : decode cX8_byTurns 139 = .ok (.iload 5, 2) := dq_21 (b1 := 5) (by decide +kernel) (by decide)
theorem dX8_byTurns_141 : decode cX8_byTurns 141 = .ok (.iconst 2, 1) := dq_5 (by decide +kernel)
theorem dX8_byTurns_142 : decode cX8_byTurns 142 = .ok (.irem, 1) := dq_112 (by decide +kernel)
theorem dX8_byTurns_143 : decode cX8_byTurns 143 = .ok (.iconst 1, 1) := dq_4 (by decide +kernel)
theorem dX8_byTurns_144 : decode cX8_byTurns 144 = .ok (.if_icmp .ne 14, 3) := dq_160 (b1 := 0) (b2 := 14) (by decide +kernel) (by decide)
theorem dX8_byTurns_147 : decode cX8_byTurns 147 = .ok (.iconst 4, 1) := dq_7 (by decide +kernel)
theorem dX8_byTurns_148 : decode cX8_byTurns 148 = .ok (.aload_n 0, 1) := dq_42 (by decide +kernel)
theorem dX8_byTurns_149 : decode cX8_byTurns 149 = .ok (.getfield 19, 3) := dq_180 (b1 := 0) (b2 := 19) (by decide +kernel) (by decide)
theorem dX8_byTurns_152 : decode cX8_byTurns 152 = .ok (.iload_n 3, 1) := dq_29 (by decide +kernel)
theorem dX8_byTurns_153 : decode cX8_byTurns 153 = .ok (.iaload, 1) := dq_46 (by decide +kernel)
theorem dX8_byTurns_154 : decode cX8_byTurns 154 = .ok (.isub, 1) := dq_100 (by decide +kernel)
theorem dX8_byTurns_155 : decode cX8_byTurns 155 = .ok (.goto 9, 3) := dq_167 (b1 := 0) (b2 := 9) (by decide +kernel) (by decide)
theorem dX8_byTurns_158 : decode cX8_byTurns 158 = .ok (.aload_n 0, 1) := dq_42 (by decide +kernel)
theorem dX8_byTurns_159 : decode cX8_byTurns 159 = .ok (.getfield 19, 3) := dq_180 (b1 := 0) (b2 := 19) (by decide +kernel) (by decide)
theorem dX8_byTurns_16 : decode cX8_byTurns 16 = .ok (.invokestatic 57, 3) := dq_184 (b1 := 0) (b2 := 57) (by decide +kernel) (by decide)
theorem dX8_byTurns_162 : decode cX8_byTurns 162 = .ok (.iload_n 3, 1) := dq_29 (by decide +kernel)
theorem dX8_byTurns_163 : decode cX8_byTurns 163 = .ok (.iaload, 1) := dq_46 (by decide +kernel)
theorem dX8_byTurns_164 : decode cX8_byTurns 164 = .ok (.iastore, 1) := dq_79 (by decide +kernel)
theorem dX8_byTurns_165 : decode cX8_byTurns 165 = .ok (.iinc 5 1, 3) := dq_132 (b1 := 5) (b2 := 1) (by decide +kernel) (by decide) (by decide)
theorem dX8_byTurns_168 : decode cX8_byTurns 168 = .ok (.goto (-96), 3) := dq_167 (b1 := 255) (b2 := 160) (by decide +kernel) (by decide)
theorem dX8_byTurns_171 : decode cX8_byTurns 171 = .ok (.aload_n 0, 1) := dq_42 (by decide +kernel)
theorem dX8_byTurns_172 : decode cX8_byTurns 172 = .ok (.getfield 37, 3) := dq_180 (b1 := 0) (b2 := 37) (by decide +kernel) (by decide)
theorem dX8_byTurns_175 : decode cX8_byTurns 175 = .ok (.iload 4, 2) := dq_21 (b1 := 4) (by decide +kernel) (by decide)
theorem dX8_byTurns_177 : decode cX8_byTurns 177 = .ok (.aload_n 0, 1) := dq_42 (by decide +kernel)
theorem dX8_byTurns_178 : decode cX8_byTurns 178 = .ok (.iload_n 2, 1) := dq_28 (by decide +kernel)
theorem dX8_byTurns_179 : decode cX8_byTurns 179 = .ok (.invokevirtual 200, 3) := dq_182 (b1 := 0) (b2 := 200) (by decide +kernel) (by decide)
theorem dX8_byTurns_182 : decode cX8_byTurns 182 = .ok (.iastore, 1) := dq_79 (by decide +kernel)
theorem dX8_byTurns_183 : decode cX8_byTurns 183 = .ok (.iinc 4 1, 3) := dq_132 (b1 := 4) (b2 := 1) (by decide +kernel) (by decide) (by decide)
theorem dX8_byTurns_186 : decode cX8_byTurns 186 = .ok (.goto (-125), 3) := dq_167 (b1 := 255) (b2 := 131) (by decide +kernel) (by decide)
theorem dX8_byTurns_189 : decode cX8_byTurns 189 = .ok (.iload_n 1, 1) := dq_27 (by decide +kernel)
theorem dX8_byTurns_19 : decode cX8_byTurns 19 = .ok (.ifCond .eq 15, 3) := dq_153 (b1 := 0) (b2 := 15) (by decide +kernel) (by decide)
theorem dX8_byTurns_190 : decode cX8_byTurns 190 = .ok (.iconst 1, 1) := dq_4 (by decide +kernel)
theorem dX8_byTurns_191 : decode cX8_byTurns 191 = .ok (.isub, 1) := dq_100 (by decide +kernel)
theorem dX8_byTurns_192 : decode cX8_byTurns 192 = .ok (.istore 4, 2) := dq_54 (b1 := 4) (by decide +kernel) (by decide)
theorem dX8_byTurns_194 : decode cX8_byTurns 194 = .ok (.iload 4, 2) := dq_21 (b1 := 4) (by decide +kernel) (by decide)
theorem dX8_byTurns_196 : decode cX8_byTurns 196 = .ok (.ifCond .lt 92, 3) := dq_155 (b1 := 0) (b2 := 92) (by decide +kernel) (by decide)
theorem dX8_byTurns_199 : decode cX8_byTurns 199 = .ok (.iconst 0, 1) := dq_3 (by decide +kernel)
theorem dX8_byTurns_200 : decode cX8_byTurns 200 = .ok (.istore 5, 2) := dq_54 (b1 := 5) (by decide +kernel) (by decide)
theorem dX8_byTurns_202 : decode cX8_byTurns 202 = .ok (.iload 5, 2) := dq_21 (b1 := 5) (by decide +kernel) (by decide)
theorem dX8_byTurns_204 : decode cX8_byTurns 204 = .ok (.iconst 1, 1) := dq_4 (by decide +kernel)
theorem dX8_byTurns_205 : decode cX8_byTurns 205 = .ok (.iload 4, 2) := dq_21 (b1 := 4) (by decide +kernel) (by decide)
theorem dX8_byTurns_207 : decode cX8_byTurns 207 = .ok (.ishl, 1) := dq_120 (by decide +kernel)
theorem dX8_byTurns_208 : decode cX8_byTurns 208 = .ok (.if_icmp .ge 74, 3) := dq_162 (b1 := 0) (b2 := 74) (by decide +kernel) (by decide)
theorem dX8_byTurns_211 : decode cX8_byTurns 211 = .ok (.aload_n 0, 1) := dq_42 (by decide +kernel)
theorem dX8_byTurns_212 : decode cX8_byTurns 212 = .ok (.getfield 37, 3) := dq_180 (b1 := 0) (b2 := 37) (by decide +kernel) (by decide)
theorem dX8_byTurns_215 : decode cX8_byTurns 215 = .ok (.iconst 2, 1) := dq_5 (by decide +kernel)
theorem dX8_byTurns_216 : decode cX8_byTurns 216 = .ok (.iload 5, 2) := dq_21 (b1 := 5) (by decide +kernel) (by decide)
theorem dX8_byTurns_218 : decode cX8_byTurns 218 = .ok (.imul, 1) := dq_104 (by decide +kernel)
theorem dX8_byTurns_219 : decode cX8_byTurns 219 = .ok (.iaload, 1) := dq_46 (by decide +kernel)
theorem dX8_byTurns_22 : decode cX8_byTurns 22 = .ok (.iload_n 2, 1) := dq_28 (by decide +kernel)
theorem dX8_byTurns_220 : decode cX8_byTurns 220 = .ok (.istore 6, 2) := dq_54 (b1 := 6) (by decide +kernel) (by decide)
theorem dX8_byTurns_222 : decode cX8_byTurns 222 = .ok (.aload_n 0, 1) := dq_42 (by decide +kernel)
theorem dX8_byTurns_223 : decode cX8_byTurns 223 = .ok (.getfield 37, 3) := dq_180 (b1 := 0) (b2 := 37) (by decide +kernel) (by decide)
theorem dX8_byTurns_226 : decode cX8_byTurns 226 = .ok (.iconst 2, 1) := dq_5 (by decide +kernel)
theorem dX8_byTurns_227 : decode cX8_byTurns 227 = .ok (.iload 5, 2) := dq_21 (b1 := 5) (by decide +kernel) (by decide)
theorem dX8_byTurns_229 : decode cX8_byTurns 229 = .ok (.imul, 1) := dq_104 (by decide +kernel)
theorem dX8_byTurns_23 : decode cX8_byTurns 23 = .ok (.i2l, 1) := dq_133 (by decide +kernel)
theorem dX8_byTurns_230 : decode cX8_byTurns 230 = .ok (.iconst 1, 1) := dq_4 (by decide +kernel)
theorem dX8_byTurns_231 : decode cX8_byTurns 231 = .ok (.iadd, 1) := dq_96 (by decide +kernel)
theorem dX8_byTurns_232 : decode cX8_byTurns 232 = .ok (.iaload, 1) := dq_46 (by decide +kernel)
theorem dX8_byTurns_233 : decode cX8_byTurns 233 = .ok (.istore 7, 2) := dq_54 (b1 := 7) (by decide +kernel) (by decide)
theorem dX8_byTurns_235 : decode cX8_byTurns 235 = .ok (.aload_n 0, 1) := dq_42 (by decide +kernel)
theorem dX8_byTurns_236 : decode cX8_byTurns 236 = .ok (.getfield 37, 3) := dq_180 (b1 := 0) (b2 := 37) (by decide +kernel) (by decide)
theorem dX8_byTurns_239 : decode cX8_byTurns 239 = .ok (.iload 5, 2) := dq_21 (b1 := 5) (by decide +kernel) (by decide)
theorem dX8_byTurns_24 : decode cX8_byTurns 24 = .ok (.lconst 1, 1) := dq_10 (by decide +kernel)
theorem dX8_byTurns_241 : decode cX8_byTurns 241 = .ok (.iload 6, 2) := dq_21 (b1 := 6) (by decide +kernel) (by decide)
theorem dX8_byTurns_243 : decode cX8_byTurns 243 = .ok (.iload 7, 2) := dq_21 (b1 := 7) (by decide +kernel) (by decide)
theorem dX8_byTurns_245 : decode cX8_byTurns 245 = .ok (.if_icmp .le 7, 3) := dq_164 (b1 := 0) (b2 := 7) (by decide +kernel) (by decide)
theorem dX8_byTurns_248 : decode cX8_byTurns 248 = .ok (.iconst 1, 1) := dq_4 (by decide +kernel)
theorem dX8_byTurns_249 : decode cX8_byTurns 249 = .ok (.goto 4, 3) := dq_167 (b1 := 0) (b2 := 4) (by decide +kernel) (by decide)
theorem dX8_byTurns_25 : decode cX8_byTurns 25 = .ok (.ldc2_w 176, 3) := dq_20 (b1 := 0) (b2 := 176) (by decide +kernel) (by decide)
theorem dX8_byTurns_252 : decode cX8_byTurns 252 = .ok (.iconst 0, 1) := dq_3 (by decide +kernel)
theorem dX8_byTurns_253 : decode cX8_byTurns 253 = .ok (.iload 4, 2) := dq_21 (b1 := 4) (by decide +kernel) (by decide)
theorem dX8_byTurns_255 : decode cX8_byTurns 255 = .ok (.iconst 2, 1) := dq_5 (by decide +kernel)
theorem dX8_byTurns_256 : decode cX8_byTurns 256 = .ok (.irem, 1) := dq_112 (by decide +kernel)
theorem dX8_byTurns_257 : decode cX8_byTurns 257 = .ok (.ifCond .ne 7, 3) := dq_154 (b1 := 0) (b2 := 7) (by decide +kernel) (by decide)
theorem dX8_byTurns_260 : decode cX8_byTurns 260 = .ok (.iconst 1, 1) := dq_4 (by decide +kernel)
theorem dX8_byTurns_261 : decode cX8_byTurns 261 = .ok (.goto 4, 3) := dq_167 (b1 := 0) (b2 := 4) (by decide +kernel) (by decide)
theorem dX8_byTurns_264 : decode cX8_byTurns 264 = .ok (.iconst 0, 1) := dq_3 (by decide +kernel)
theorem dX8_byTurns_265 : decode cX8_byTurns 265 = .ok (.if_icmp .ne 8, 3) := dq_160 (b1 := 0) (b2 := 8) (by decide +kernel) (by decide)
theorem dX8_byTurns_268 : decode cX8_byTurns 268 = .ok (.iload 6, 2) := dq_21 (b1 := 6) (by decide +kernel) (by decide)
theorem dX8_byTurns_270 : decode cX8_byTurns 270 = .ok (.goto 5, 3) := dq_167 (b1 := 0) (b2 := 5) (by decide +kernel) (by decide)
theorem dX8_byTurns_273 : decode cX8_byTurns 273 = .ok (.iload 7, 2) := dq_21 (b1 := 7) (by decide +kernel) (by decide)
theorem dX8_byTurns_275 : decode cX8_byTurns 275 = .ok (.iastore, 1) := dq_79 (by decide +kernel)
theorem dX8_byTurns_276 : decode cX8_byTurns 276 = .ok (.iinc 5 1, 3) := dq_132 (b1 := 5) (b2 := 1) (by decide +kernel) (by decide) (by decide)
theorem dX8_byTurns_279 : decode cX8_byTurns 279 = .ok (.goto (-77), 3) := dq_167 (b1 := 255) (b2 := 179) (by decide +kernel) (by decide)
theorem dX8_byTurns_28 : decode cX8_byTurns 28 = .ok (.invokestatic 57, 3) := dq_184 (b1 := 0) (b2 := 57) (by decide +kernel) (by decide)
theorem dX8_byTurns_282 : decode cX8_byTurns 282 = .ok (.iinc 4 (-1), 3) := dq_132 (b1 := 4) (b2 := 255) (by decide +kernel) (by decide) (by decide)
theorem dX8_byTurns_285 : decode cX8_byTurns 285 = .ok (.goto (-91), 3) := dq_167 (b1 := 255) (b2 := 165) (by decide +kernel) (by decide)
theorem dX8_byTurns_288 : decode cX8_byTurns 288 = .ok (.aload_n 0, 1) := dq_42 (by decide +kernel)
theorem dX8_byTurns_289 : decode cX8_byTurns 289 = .ok (.getfield 37, 3) := dq_180 (b1 := 0) (b2 := 37) (by decide +kernel) (by decide)
theorem dX8_byTurns_292 : decode cX8_byTurns 292 = .ok (.iconst 0, 1) := dq_3 (by decide +kernel)
theorem dX8_byTurns_293 : decode cX8_byTurns 293 = .ok (.iaload, 1) := dq_46 (by decide +kernel)
theorem dX8_byTurns_294 : decode cX8_byTurns 294 = .ok (.ireturn, 1) := dq_172 (by decide +kernel)
theorem dX8_byTurns_31 : decode cX8_byTurns 31 = .ok (.ifCond .ne 6, 3) := dq_154 (b1 := 0) (b2 := 6) (by decide +kernel) (by decide)
theorem dX8_byTurns_34 : decode cX8_byTurns 34 = .ok (.ldc 67, 2) := dq_18 (b1 := 67) (by decide +kernel) (by decide)
theorem dX8_byTurns_36 : decode cX8_byTurns 36 = .ok (.ireturn, 1) := dq_172 (by decide +kernel)
theorem dX8_byTurns_37 : decode cX8_byTurns 37 = .ok (.aload_n 0, 1) := dq_42 (by decide +kernel)
theorem dX8_byTurns_38 : decode cX8_byTurns 38 = .ok (.invokevirtual 197, 3) := dq_182 (b1 := 0) (b2 := 197) (by decide +kernel) (by decide)
theorem dX8_byTurns_4 : decode cX8_byTurns 4 = .ok (.ifCond .ne 6, 3) := dq_154 (b1 := 0) (b2 := 6) (by decide +kernel) (by decide)
theorem dX8_byTurns_41 : decode cX8_byTurns 41 = .ok (.bipush 8, 2) := dq_16 (b1 := 8) (by decide +kernel) (by decide)
theorem dX8_byTurns_43 : decode cX8_byTurns 43 = .ok (.aload_n 0, 1) := dq_42 (by decide +kernel)
theorem dX8_byTurns_44 : decode cX8_byTurns 44 = .ok (.getfield 19, 3) := dq_180 (b1 := 0) (b2 := 19) (by decide +kernel) (by decide)
theorem dX8_byTurns_47 : decode cX8_byTurns 47 = .ok (.iconst 5, 1) := dq_8 (by decide +kernel)
theorem dX8_byTurns_48 : decode cX8_byTurns 48 = .ok (.iaload, 1) := dq_46 (by decide +kernel)
theorem dX8_byTurns_49 : decode cX8_byTurns 49 = .ok (.aload_n 0, 1) := dq_42 (by decide +kernel)
theorem dX8_byTurns_50 : decode cX8_byTurns 50 = .ok (.getfield 19, 3) := dq_180 (b1 := 0) (b2 := 19) (by decide +kernel) (by decide)
theorem dX8_byTurns_53 : decode cX8_byTurns 53 = .ok (.iconst 3, 1) := dq_6 (by decide +kernel)
theorem dX8_byTurns_54 : decode cX8_byTurns 54 = .ok (.iaload, 1) := dq_46 (by decide +kernel)
theorem dX8_byTurns_55 : decode cX8_byTurns 55 = .ok (.irem, 1) := dq_112 (by decide +kernel)
theorem dX8_byTurns_56 : decode cX8_byTurns 56 = .ok (.iadd, 1) := dq_96 (by decide +kernel)
theorem dX8_byTurns_57 : decode cX8_byTurns 57 = .ok (.istore_n 3, 1) := dq_62 (by decide +kernel)
theorem dX8_byTurns_58 : decode cX8_byTurns 58 = .ok (.iconst 0, 1) := dq_3 (by decide +kernel)
theorem dX8_byTurns_59 : decode cX8_byTurns 59 = .ok (.istore 4, 2) := dq_54 (b1 := 4) (by decide +kernel) (by decide)
theorem dX8_byTurns_61 : decode cX8_byTurns 61 = .ok (.iload 4, 2) := dq_21 (b1 := 4) (by decide +kernel) (by decide)
theorem dX8_byTurns_63 : decode cX8_byTurns 63 = .ok (.iconst 1, 1) := dq_4 (by decide +kernel)
theorem dX8_byTurns_64 : decode cX8_byTurns 64 = .ok (.iload_n 1, 1) := dq_27 (by decide +kernel)
theorem dX8_byTurns_65 : decode cX8_byTurns 65 = .ok (.ishl, 1) := dq_120 (by decide +kernel)
theorem dX8_byTurns_66 : decode cX8_byTurns 66 = .ok (.if_icmp .ge 123, 3) := dq_162 (b1 := 0) (b2 := 123) (by decide +kernel) (by decide)
theorem dX8_byTurns_69 : decode cX8_byTurns 69 = .ok (.iconst 0, 1) := dq_3 (by decide +kernel)
theorem dX8_byTurns_7 : decode cX8_byTurns 7 = .ok (.ldc 161, 2) := dq_18 (b1 := 161) (by decide +kernel) (by decide)
theorem dX8_byTurns_70 : decode cX8_byTurns 70 = .ok (.istore 5, 2) := dq_54 (b1 := 5) (by decide +kernel) (by decide)
theorem dX8_byTurns_72 : decode cX8_byTurns 72 = .ok (.iload 5, 2) := dq_21 (b1 := 5) (by decide +kernel) (by decide)
theorem dX8_byTurns_74 : decode cX8_byTurns 74 = .ok (.iload_n 1, 1) := dq_27 (by decide +kernel)
theorem dX8_byTurns_75 : decode cX8_byTurns 75 = .ok (.if_icmp .ge 96, 3) := dq_162 (b1 := 0) (b2 := 96) (by decide +kernel) (by decide)
theorem dX8_byTurns_78 : decode cX8_byTurns 78 = .ok (.iload 4, 2) := dq_21 (b1 := 4) (by decide +kernel) (by decide)
theorem dX8_byTurns_80 : decode cX8_byTurns 80 = .ok (.iload_n 1, 1) := dq_27 (by decide +kernel)
theorem dX8_byTurns_81 : decode cX8_byTurns 81 = .ok (.iconst 1, 1) := dq_4 (by decide +kernel)
theorem dX8_byTurns_82 : decode cX8_byTurns 82 = .ok (.isub, 1) := dq_100 (by decide +kernel)
theorem dX8_byTurns_83 : decode cX8_byTurns 83 = .ok (.iload 5, 2) := dq_21 (b1 := 5) (by decide +kernel) (by decide)
theorem dX8_byTurns_85 : decode cX8_byTurns 85 = .ok (.isub, 1) := dq_100 (by decide +kernel)
theorem dX8_byTurns_86 : decode cX8_byTurns 86 = .ok (.invokestatic 213, 3) := dq_184 (b1 := 0) (b2 := 213) (by decide +kernel) (by decide)
theorem dX8_byTurns_89 : decode cX8_byTurns 89 = .ok (.istore 6, 2) := dq_54 (b1 := 6) (by decide +kernel) (by decide)
theorem dX8_byTurns_9 : decode cX8_byTurns 9 = .ok (.ireturn, 1) := dq_172 (by decide +kernel)
theorem dX8_byTurns_91 : decode cX8_byTurns 91 = .ok (.aload_n 0, 1) := dq_42 (by decide +kernel)
theorem dX8_byTurns_92 : decode cX8_byTurns 92 = .ok (.getfield 19, 3) := dq_180 (b1 := 0) (b2 := 19) (by decide +kernel) (by decide)
theorem dX8_byTurns_95 : decode cX8_byTurns 95 = .ok (.bipush 6, 2) := dq_16 (b1 := 6) (by decide +kernel) (by decide)
theorem dX8_byTurns_97 : decode cX8_byTurns 97 = .ok (.iload 6, 2) := dq_21 (b1 := 6) (by decide +kernel) (by decide)
theorem dX8_byTurns_99 : decode cX8_byTurns 99 = .ok (.ifCond .eq 22, 3) := dq_153 (b1 := 0) (b2 := 22) (by decide +kernel) (by decide)
theorem dX8_share_0 : decode cX8_share 0 = .ok (.aload_n 0, 1) := dq_42 (by decide +kernel)
theorem dX8_share_1 : decode cX8_share 1 = .ok (.iload_n 1, 1) := dq_27 (by decide +kernel)
theorem dX8_share_10 : decode cX8_share 10 = .ok (.lconst 0, 1) := dq_9 (by decide +kernel)
theorem dX8_share_101 : decode cX8_share 101 = .ok (.iload_n 3, 1) := dq_29 (by decide +kernel)
theorem dX8_share_102 : decode cX8_share 102 = .ok (.iload 7, 2) := dq_21 (b1 := 7) (by decide +kernel) (by decide)
theorem dX8_share_104 : decode cX8_share 104 = .ok (.invokestatic 213, 3) := dq_184 (b1 := 0) (b2 := 213) (by decide +kernel) (by decide)
theorem dX8_share_107 : decode cX8_share 107 = .ok (.ifCond .eq 13, 3) := dq_153 (b1 := 0) (b2 := 13) (by decide +kernel) (by decide)
theorem dX8_share_11 : decode cX8_share 11 = .ok (.ldc2_w 185, 3) := dq_20 (b1 := 0) (b2 := 185) (by decide +kernel) (by decide)
theorem dX8_share_110 : decode cX8_share 110 = .ok (.iload 7, 2) := dq_21 (b1 := 7) (by decide +kernel) (by decide)
theorem dX8_share_112 : decode cX8_share 112 = .ok (.iload_n 1, 1) := dq_27 (by decide +kernel)
theorem dX8_share_113 : decode cX8_share 113 = .ok (.if_icmp .ge 7, 3) := dq_162 (b1 := 0) (b2 := 7) (by decide +kernel) (by decide)
theorem dX8_share_116 : decode cX8_share 116 = .ok (.iconst 1, 1) := dq_4 (by decide +kernel)
theorem dX8_share_117 : decode cX8_share 117 = .ok (.goto 4, 3) := dq_167 (b1 := 0) (b2 := 4) (by decide +kernel) (by decide)
theorem dX8_share_120 : decode cX8_share 120 = .ok (.iconst 0, 1) := dq_3 (by decide +kernel)
theorem dX8_share_121 : decode cX8_share 121 = .ok (.iadd, 1) := dq_96 (by decide +kernel)
theorem dX8_share_122 : decode cX8_share 122 = .ok (.istore 6, 2) := dq_54 (b1 := 6) (by decide +kernel) (by decide)
theorem dX8_share_124 : decode cX8_share 124 = .ok (.iinc 7 1, 3) := dq_132 (b1 := 7) (b2 := 1) (by decide +kernel) (by decide) (by decide)
theorem dX8_share_127 : decode cX8_share 127 = .ok (.goto (-72), 3) := dq_167 (b1 := 255) (b2 := 184) (by decide +kernel) (by decide)
theorem dX8_share_130 : decode cX8_share 130 = .ok (.iload_n 2, 1) := dq_28 (by decide +kernel)
theorem dX8_share_131 : decode cX8_share 131 = .ok (.aload_n 0, 1) := dq_42 (by decide +kernel)
theorem dX8_share_132 : decode cX8_share 132 = .ok (.getfield 19, 3) := dq_180 (b1 := 0) (b2 := 19) (by decide +kernel) (by decide)
theorem dX8_share_135 : decode cX8_share 135 = .ok (.bipush 32, 2) := dq_16 (b1 := 32) (by decide +kernel) (by decide)
theorem dX8_share_137 : decode cX8_share 137 = .ok (.iload_n 1, 1) := dq_27 (by decide +kernel)
theorem dX8_share_138 : decode cX8_share 138 = .ok (.iadd, 1) := dq_96 (by decide +kernel)
theorem dX8_share_139 : decode cX8_share 139 = .ok (.iaload, 1) := dq_46 (by decide +kernel)
theorem dX8_share_14 : decode cX8_share 14 = .ok (.invokestatic 57, 3) := dq_184 (b1 := 0) (b2 := 57) (by decide +kernel) (by decide)
theorem dX8_share_140 : decode cX8_share 140 = .ok (.imul, 1) := dq_104 (by decide +kernel)
theorem dX8_share_141 : decode cX8_share 141 = .ok (.iload 4, 2) := dq_21 (b1 := 4) (by decide +kernel) (by decide)
theorem dX8_share_143 : decode cX8_share 143 = .ok (.idiv, 1) := dq_108 (by decide +kernel)
theorem dX8_share_144 : decode cX8_share 144 = .ok (.iload 5, 2) := dq_21 (b1 := 5) (by decide +kernel) (by decide)
theorem dX8_share_146 : decode cX8_share 146 = .ok (.iload 6, 2) := dq_21 (b1 := 6) (by decide +kernel) (by decide)
theorem dX8_share_148 : decode cX8_share 148 = .ok (.if_icmp .le 7, 3) := dq_164 (b1 := 0) (b2 := 7) (by decide +kernel) (by decide)
theorem dX8_share_151 : decode cX8_share 151 = .ok (.iconst 1, 1) := dq_4 (by decide +kernel)
theorem dX8_share_152 : decode cX8_share 152 = .ok (.goto 4, 3) := dq_167 (b1 := 0) (b2 := 4) (by decide +kernel) (by decide)
theorem dX8_share_155 : decode cX8_share 155 = .ok (.iconst 0, 1) := dq_3 (by decide +kernel)
theorem dX8_share_156 : decode cX8_share 156 = .ok (.iadd, 1) := dq_96 (by decide +kernel)
theorem dX8_share_157 : decode cX8_share 157 = .ok (.ireturn, 1) := dq_172 (by decide +kernel)
theorem dX8_share_17 : decode cX8_share 17 = .ok (.ifCond .ne 6, 3) := dq_154 (b1 := 0) (b2 := 6) (by decide +kernel) (by decide)
theorem dX8_share_2 : decode cX8_share 2 = .ok (.invokevirtual 173, 3) := dq_182 (b1 := 0) (b2 := 173) (by decide +kernel) (by decide)
theorem dX8_share_20 : decode cX8_share 20 = .ok (.ldc 67, 2) := dq_18 (b1 := 67) (by decide +kernel) (by decide)
theorem dX8_share_22 : decode cX8_share 22 = .ok (.ireturn, 1) := dq_172 (by decide +kernel)
theorem dX8_share_23 : decode cX8_share 23 = .ok (.aload_n 0, 1) := dq_42 (by decide +kernel)
theorem dX8_share_24 : decode cX8_share 24 = .ok (.iconst 0, 1) := dq_3 (by decide +kernel)
theorem dX8_share_25 : decode cX8_share 25 = .ok (.invokevirtual 182, 3) := dq_182 (b1 := 0) (b2 := 182) (by decide +kernel) (by decide)
theorem dX8_share_28 : decode cX8_share 28 = .ok (.istore_n 3, 1) := dq_62 (by decide +kernel)
theorem dX8_share_29 : decode cX8_share 29 = .ok (.iload_n 3, 1) := dq_29 (by decide +kernel)
theorem dX8_share_30 : decode cX8_share 30 = .ok (.iload_n 1, 1) := dq_27 (by decide +kernel)
theorem dX8_share_31 : decode cX8_share 31 = .ok (.invokestatic 213, 3) := dq_184 (b1 := 0) (b2 := 213) (by decide +kernel) (by decide)
theorem dX8_share_34 : decode cX8_share 34 = .ok (.ifCond .ne 5, 3) := dq_154 (b1 := 0) (b2 := 5) (by decide +kernel) (by decide)
theorem dX8_share_37 : decode cX8_share 37 = .ok (.iconst 0, 1) := dq_3 (by decide +kernel)
theorem dX8_share_38 : decode cX8_share 38 = .ok (.ireturn, 1) := dq_172 (by decide +kernel)
theorem dX8_share_39 : decode cX8_share 39 = .ok (.aload_n 0, 1) := dq_42 (by decide +kernel)
theorem dX8_share_40 : decode cX8_share 40 = .ok (.iload_n 3, 1) := dq_29 (by decide +kernel)
theorem dX8_share_41 : decode cX8_share 41 = .ok (.invokevirtual 219, 3) := dq_182 (b1 := 0) (b2 := 219) (by decide +kernel) (by decide)
theorem dX8_share_44 : decode cX8_share 44 = .ok (.istore 4, 2) := dq_54 (b1 := 4) (by decide +kernel) (by decide)
theorem dX8_share_46 : decode cX8_share 46 = .ok (.iload_n 2, 1) := dq_28 (by decide +kernel)
theorem dX8_share_47 : decode cX8_share 47 = .ok (.istore 5, 2) := dq_54 (b1 := 5) (by decide +kernel) (by decide)
theorem dX8_share_49 : decode cX8_share 49 = .ok (.iconst 0, 1) := dq_3 (by decide +kernel)
theorem dX8_share_5 : decode cX8_share 5 = .ok (.ifCond .eq 15, 3) := dq_153 (b1 := 0) (b2 := 15) (by decide +kernel) (by decide)
theorem dX8_share_50 : decode cX8_share 50 = .ok (.istore 6, 2) := dq_54 (b1 := 6) (by decide +kernel) (by decide)
theorem dX8_share_52 : decode cX8_share 52 = .ok (.iconst 0, 1) := dq_3 (by decide +kernel)
theorem dX8_share_53 : decode cX8_share 53 = .ok (.istore 7, 2) := dq_54 (b1 := 7) (by decide +kernel) (by decide)
theorem dX8_share_55 : decode cX8_share 55 = .ok (.iload 7, 2) := dq_21 (b1 := 7) (by decide +kernel) (by decide)
theorem dX8_share_57 : decode cX8_share 57 = .ok (.aload_n 0, 1) := dq_42 (by decide +kernel)
theorem dX8_share_58 : decode cX8_share 58 = .ok (.getfield 19, 3) := dq_180 (b1 := 0) (b2 := 19) (by decide +kernel) (by decide)
theorem dX8_share_61 : decode cX8_share 61 = .ok (.iconst 4, 1) := dq_7 (by decide +kernel)
theorem dX8_share_62 : decode cX8_share 62 = .ok (.iaload, 1) := dq_46 (by decide +kernel)
theorem dX8_share_63 : decode cX8_share 63 = .ok (.if_icmp .ge 67, 3) := dq_162 (b1 := 0) (b2 := 67) (by decide +kernel) (by decide)
theorem dX8_share_66 : decode cX8_share 66 = .ok (.iload 5, 2) := dq_21 (b1 := 5) (by decide +kernel) (by decide)
theorem dX8_share_68 : decode cX8_share 68 = .ok (.iload_n 3, 1) := dq_29 (by decide +kernel)
theorem dX8_share_69 : decode cX8_share 69 = .ok (.iload 7, 2) := dq_21 (b1 := 7) (by decide +kernel) (by decide)
theorem dX8_share_71 : decode cX8_share 71 = .ok (.invokestatic 213, 3) := dq_184 (b1 := 0) (b2 := 213) (by decide +kernel) (by decide)
theorem dX8_share_74 : decode cX8_share 74 = .ok (.ifCond .eq 21, 3) := dq_153 (b1 := 0) (b2 := 21) (by decide +kernel) (by decide)
theorem dX8_share_77 : decode cX8_share 77 = .ok (.iload_n 2, 1) := dq_28 (by decide +kernel)
theorem dX8_share_78 : decode cX8_share 78 = .ok (.aload_n 0, 1) := dq_42 (by decide +kernel)
theorem dX8_share_79 : decode cX8_share 79 = .ok (.getfield 19, 3) := dq_180 (b1 := 0) (b2 := 19) (by decide +kernel) (by decide)
theorem dX8_share_8 : decode cX8_share 8 = .ok (.iload_n 2, 1) := dq_28 (by decide +kernel)
theorem dX8_share_82 : decode cX8_share 82 = .ok (.bipush 32, 2) := dq_16 (b1 := 32) (by decide +kernel) (by decide)
theorem dX8_share_84 : decode cX8_share 84 = .ok (.iload 7, 2) := dq_21 (b1 := 7) (by decide +kernel) (by decide)
theorem dX8_share_86 : decode cX8_share 86 = .ok (.iadd, 1) := dq_96 (by decide +kernel)
theorem dX8_share_87 : decode cX8_share 87 = .ok (.iaload, 1) := dq_46 (by decide +kernel)
theorem dX8_share_88 : decode cX8_share 88 = .ok (.imul, 1) := dq_104 (by decide +kernel)
theorem dX8_share_89 : decode cX8_share 89 = .ok (.iload 4, 2) := dq_21 (b1 := 4) (by decide +kernel) (by decide)
theorem dX8_share_9 : decode cX8_share 9 = .ok (.i2l, 1) := dq_133 (by decide +kernel)
theorem dX8_share_91 : decode cX8_share 91 = .ok (.idiv, 1) := dq_108 (by decide +kernel)
theorem dX8_share_92 : decode cX8_share 92 = .ok (.goto 4, 3) := dq_167 (b1 := 0) (b2 := 4) (by decide +kernel) (by decide)
theorem dX8_share_95 : decode cX8_share 95 = .ok (.iconst 0, 1) := dq_3 (by decide +kernel)
theorem dX8_share_96 : decode cX8_share 96 = .ok (.isub, 1) := dq_100 (by decide +kernel)
theorem dX8_share_97 : decode cX8_share 97 = .ok (.istore 5, 2) := dq_54 (b1 := 5) (by decide +kernel) (by decide)
theorem dX8_share_99 : decode cX8_share 99 = .ok (.iload 6, 2) := dq_21 (b1 := 6) (by decide +kernel) (by decide)
theorem mb_X8_byTurns_wsX8_byTurns_r1 {w : Cond} (h : w ∈ wsX8_byTurns_r1) : w ∈ wsX8_byTurns := by unfold wsX8_byTurns; exact List.mem_cons_of_mem _ (List.mem_append_left _ (List.mem_append_left _ (h)))
theorem mx_X8_byTurns_19 : Cond.code yX8_has cX8_has 2 (some .boolean) ∈ wsX8_byTurns := mb_X8_byTurns_wsX8_byTurns_r1 (List.mem_of_getElem? (i := 18) rfl)
theorem ggX8_byTurns_X8_has : GoodIn wsX8_byTurns wsX8_has := goodIn_sub (by unfold wsX8_has; exact List.forall_mem_cons.mpr ⟨mx_X8_byTurns_19, fun _ h_ => absurd h_ List.not_mem_nil⟩) (by decide +kernel)
set_option maxRecDepth 20000 in
theorem gX8_byTurns_X8_has : GoodIn wsX8_byTurns (va_wsS RX8 213 yX8_has wsX8_has) := goodIn_app (goodIn_of _ (by decide +kernel)) ggX8_byTurns_X8_has
theorem mx_X8_byTurns_11 : Cond.code yX8_in cX8_in 6 (some .boolean) ∈ wsX8_byTurns := mb_X8_byTurns_wsX8_byTurns_r1 (List.mem_of_getElem? (i := 10) rfl)
theorem ggX8_byTurns_X8_in : GoodIn wsX8_byTurns wsX8_in := goodIn_sub (by unfold wsX8_in; exact List.forall_mem_cons.mpr ⟨mx_X8_byTurns_11, fun _ h_ => absurd h_ List.not_mem_nil⟩) (by decide +kernel)
set_option maxRecDepth 20000 in
theorem gX8_byTurns_X8_in : GoodIn wsX8_byTurns (va_wsS RX8 57 yX8_in wsX8_in) := goodIn_app (goodIn_of _ (by decide +kernel)) ggX8_byTurns_X8_in
theorem mx_X8_byTurns_23 : Cond.code yX8_mealBehind cX8_mealBehind 3 (some .int) ∈ wsX8_byTurns := mb_X8_byTurns_wsX8_byTurns_r1 (List.mem_of_getElem? (i := 22) rfl)
theorem mx_X8_byTurns_6 : Cond.fieldLink RX8 19 "MillTalkModel" "st" "[I" ∈ wsX8_byTurns := mb_X8_byTurns_wsX8_byTurns_r1 (List.mem_of_getElem? (i := 5) rfl)
theorem mx_X8_byTurns_24 : Cond.methodLink RX8 190 yX8_goOn ∈ wsX8_byTurns := mb_X8_byTurns_wsX8_byTurns_r1 (List.mem_of_getElem? (i := 23) rfl)
theorem mb_X8_byTurns_wsX8_byTurns_r2 {w : Cond} (h : w ∈ wsX8_byTurns_r2) : w ∈ wsX8_byTurns := by unfold wsX8_byTurns; exact List.mem_cons_of_mem _ (List.mem_append_left _ (List.mem_append_right _ (List.mem_append_left _ (h))))
theorem mx_X8_byTurns_25 : Cond.instanceMethod yX8_goOn ∈ wsX8_byTurns := mb_X8_byTurns_wsX8_byTurns_r2 (List.mem_of_getElem? (i := 0) rfl)
theorem mx_X8_byTurns_26 : Cond.selects RX8 yX8_goOn yX8_goOn ∈ wsX8_byTurns := mb_X8_byTurns_wsX8_byTurns_r2 (List.mem_of_getElem? (i := 1) rfl)
theorem mx_X8_byTurns_10 : Cond.initialized RX8 ∈ wsX8_byTurns := mb_X8_byTurns_wsX8_byTurns_r1 (List.mem_of_getElem? (i := 9) rfl)
theorem mx_X8_byTurns_27 : Cond.code yX8_goOn cX8_goOn 3 none ∈ wsX8_byTurns := mb_X8_byTurns_wsX8_byTurns_r2 (List.mem_of_getElem? (i := 2) rfl)
theorem mx_X8_byTurns_28 : Cond.methodLink RX8 167 yX8_oneHour ∈ wsX8_byTurns := mb_X8_byTurns_wsX8_byTurns_r2 (List.mem_of_getElem? (i := 3) rfl)
theorem mx_X8_byTurns_29 : Cond.instanceMethod yX8_oneHour ∈ wsX8_byTurns := mb_X8_byTurns_wsX8_byTurns_r2 (List.mem_of_getElem? (i := 4) rfl)
theorem mx_X8_byTurns_30 : Cond.selects RX8 yX8_oneHour yX8_oneHour ∈ wsX8_byTurns := mb_X8_byTurns_wsX8_byTurns_r2 (List.mem_of_getElem? (i := 5) rfl)
theorem mx_X8_byTurns_31 : Cond.code yX8_oneHour cX8_oneHour 4 (some .int) ∈ wsX8_byTurns := mb_X8_byTurns_wsX8_byTurns_r2 (List.mem_of_getElem? (i := 6) rfl)
theorem mx_X8_byTurns_32 : Cond.methodLink RX8 151 yX8_gustOf ∈ wsX8_byTurns := mb_X8_byTurns_wsX8_byTurns_r2 (List.mem_of_getElem? (i := 7) rfl)
theorem mx_X8_byTurns_33 : Cond.instanceMethod yX8_gustOf ∈ wsX8_byTurns := mb_X8_byTurns_wsX8_byTurns_r2 (List.mem_of_getElem? (i := 8) rfl)
theorem mx_X8_byTurns_34 : Cond.selects RX8 yX8_gustOf yX8_gustOf ∈ wsX8_byTurns := mb_X8_byTurns_wsX8_byTurns_r2 (List.mem_of_getElem? (i := 9) rfl)
theorem mx_X8_byTurns_35 : Cond.code yX8_gustOf cX8_gustOf 2 (some .int) ∈ wsX8_byTurns := mb_X8_byTurns_wsX8_byTurns_r2 (List.mem_of_getElem? (i := 10) rfl)
theorem mx_X8_byTurns_36 : Cond.methodLink RX8 154 yX8_drift ∈ wsX8_byTurns := mb_X8_byTurns_wsX8_byTurns_r2 (List.mem_of_getElem? (i := 11) rfl)
theorem mx_X8_byTurns_37 : Cond.instanceMethod yX8_drift ∈ wsX8_byTurns := mb_X8_byTurns_wsX8_byTurns_r2 (List.mem_of_getElem? (i := 12) rfl)
theorem mx_X8_byTurns_38 : Cond.selects RX8 yX8_drift yX8_drift ∈ wsX8_byTurns := mb_X8_byTurns_wsX8_byTurns_r2 (List.mem_of_getElem? (i := 13) rfl)
theorem mx_X8_byTurns_39 : Cond.code yX8_drift cX8_drift 7 none ∈ wsX8_byTurns := mb_X8_byTurns_wsX8_byTurns_r2 (List.mem_of_getElem? (i := 14) rfl)
theorem mx_X8_byTurns_40 : Cond.methodLink RX8 145 yX8_drifts ∈ wsX8_byTurns := mb_X8_byTurns_wsX8_byTurns_r2 (List.mem_of_getElem? (i := 15) rfl)
theorem mx_X8_byTurns_41 : Cond.static yX8_drifts ∈ wsX8_byTurns := mb_X8_byTurns_wsX8_byTurns_r2 (List.mem_of_getElem? (i := 16) rfl)
theorem mx_X8_byTurns_42 : Cond.code yX8_drifts cX8_drifts 2 (some .int) ∈ wsX8_byTurns := mb_X8_byTurns_wsX8_byTurns_r2 (List.mem_of_getElem? (i := 17) rfl)
theorem mx_X8_byTurns_43 : Cond.methodLink RX8 148 yX8_isCell ∈ wsX8_byTurns := mb_X8_byTurns_wsX8_byTurns_r2 (List.mem_of_getElem? (i := 18) rfl)
theorem mx_X8_byTurns_44 : Cond.instanceMethod yX8_isCell ∈ wsX8_byTurns := mb_X8_byTurns_wsX8_byTurns_r2 (List.mem_of_getElem? (i := 19) rfl)
theorem mx_X8_byTurns_45 : Cond.selects RX8 yX8_isCell yX8_isCell ∈ wsX8_byTurns := mb_X8_byTurns_wsX8_byTurns_r2 (List.mem_of_getElem? (i := 20) rfl)
theorem mx_X8_byTurns_46 : Cond.code yX8_isCell cX8_isCell 2 (some .boolean) ∈ wsX8_byTurns := mb_X8_byTurns_wsX8_byTurns_r2 (List.mem_of_getElem? (i := 21) rfl)
theorem mx_X8_byTurns_8 : Cond.methodLink RX8 57 yX8_in ∈ wsX8_byTurns := mb_X8_byTurns_wsX8_byTurns_r1 (List.mem_of_getElem? (i := 7) rfl)
theorem mx_X8_byTurns_9 : Cond.static yX8_in ∈ wsX8_byTurns := mb_X8_byTurns_wsX8_byTurns_r1 (List.mem_of_getElem? (i := 8) rfl)
theorem mx_X8_byTurns_47 : Cond.methodLink RX8 158 yX8_isAtMill ∈ wsX8_byTurns := mb_X8_byTurns_wsX8_byTurns_r2 (List.mem_of_getElem? (i := 22) rfl)
theorem mx_X8_byTurns_48 : Cond.instanceMethod yX8_isAtMill ∈ wsX8_byTurns := mb_X8_byTurns_wsX8_byTurns_r2 (List.mem_of_getElem? (i := 23) rfl)
theorem mb_X8_byTurns_wsX8_byTurns_r3 {w : Cond} (h : w ∈ wsX8_byTurns_r3) : w ∈ wsX8_byTurns := by unfold wsX8_byTurns; exact List.mem_cons_of_mem _ (List.mem_append_left _ (List.mem_append_right _ (List.mem_append_right _ (h))))
theorem mx_X8_byTurns_49 : Cond.selects RX8 yX8_isAtMill yX8_isAtMill ∈ wsX8_byTurns := mb_X8_byTurns_wsX8_byTurns_r3 (List.mem_of_getElem? (i := 0) rfl)
theorem mx_X8_byTurns_50 : Cond.code yX8_isAtMill cX8_isAtMill 3 (some .boolean) ∈ wsX8_byTurns := mb_X8_byTurns_wsX8_byTurns_r3 (List.mem_of_getElem? (i := 1) rfl)
theorem mx_X8_byTurns_51 : Cond.methodLink RX8 194 yX8_takeBack ∈ wsX8_byTurns := mb_X8_byTurns_wsX8_byTurns_r3 (List.mem_of_getElem? (i := 2) rfl)
theorem mx_X8_byTurns_52 : Cond.instanceMethod yX8_takeBack ∈ wsX8_byTurns := mb_X8_byTurns_wsX8_byTurns_r3 (List.mem_of_getElem? (i := 3) rfl)
theorem mx_X8_byTurns_53 : Cond.selects RX8 yX8_takeBack yX8_takeBack ∈ wsX8_byTurns := mb_X8_byTurns_wsX8_byTurns_r3 (List.mem_of_getElem? (i := 4) rfl)
theorem mx_X8_byTurns_54 : Cond.code yX8_takeBack cX8_takeBack 2 none ∈ wsX8_byTurns := mb_X8_byTurns_wsX8_byTurns_r3 (List.mem_of_getElem? (i := 5) rfl)
theorem mx_X8_byTurns_16 : Cond.fieldLink RX8 34 "MillTalkModel" "aside" "[I" ∈ wsX8_byTurns := mb_X8_byTurns_wsX8_byTurns_r1 (List.mem_of_getElem? (i := 15) rfl)
theorem mb_X8_byTurns_wsX80 {w : Cond} (h : w ∈ wsX80) : w ∈ wsX8_byTurns := by unfold wsX8_byTurns; exact List.mem_cons_of_mem _ (List.mem_append_right _ (h))
theorem ggX8_byTurns_X8_mealBehind : GoodIn wsX8_byTurns wsX8_mealBehind := goodIn_sub (by unfold wsX8_mealBehind; exact List.forall_mem_cons.mpr ⟨mx_X8_byTurns_23, List.forall_mem_append.mpr ⟨List.forall_mem_append.mpr ⟨(by unfold wsX8_mealBehind_r1; exact List.forall_mem_cons.mpr ⟨mx_X8_byTurns_6, List.forall_mem_cons.mpr ⟨mx_X8_byTurns_24, List.forall_mem_cons.mpr ⟨mx_X8_byTurns_25, List.forall_mem_cons.mpr ⟨mx_X8_byTurns_26, List.forall_mem_cons.mpr ⟨mx_X8_byTurns_10, List.forall_mem_cons.mpr ⟨mx_X8_byTurns_27, List.forall_mem_cons.mpr ⟨mx_X8_byTurns_28, List.forall_mem_cons.mpr ⟨mx_X8_byTurns_29, List.forall_mem_cons.mpr ⟨mx_X8_byTurns_30, List.forall_mem_cons.mpr ⟨mx_X8_byTurns_31, List.forall_mem_cons.mpr ⟨mx_X8_byTurns_32, List.forall_mem_cons.mpr ⟨mx_X8_byTurns_33, List.forall_mem_cons.mpr ⟨mx_X8_byTurns_34, List.forall_mem_cons.mpr ⟨mx_X8_byTurns_35, List.forall_mem_cons.mpr ⟨mx_X8_byTurns_36, List.forall_mem_cons.mpr ⟨mx_X8_byTurns_37, List.forall_mem_cons.mpr ⟨mx_X8_byTurns_38, List.forall_mem_cons.mpr ⟨mx_X8_byTurns_39, List.forall_mem_cons.mpr ⟨mx_X8_byTurns_40, List.forall_mem_cons.mpr ⟨mx_X8_byTurns_41, List.forall_mem_cons.mpr ⟨mx_X8_byTurns_42, List.forall_mem_cons.mpr ⟨mx_X8_byTurns_43, List.forall_mem_cons.mpr ⟨mx_X8_byTurns_44, List.forall_mem_cons.mpr ⟨mx_X8_byTurns_45, fun _ h_ => absurd h_ List.not_mem_nil⟩⟩⟩⟩⟩⟩⟩⟩⟩⟩⟩⟩⟩⟩⟩⟩⟩⟩⟩⟩⟩⟩⟩⟩), (by unfold wsX8_mealBehind_r2; exact List.forall_mem_cons.mpr ⟨mx_X8_byTurns_46, List.forall_mem_cons.mpr ⟨mx_X8_byTurns_8, List.forall_mem_cons.mpr ⟨mx_X8_byTurns_9, List.forall_mem_cons.mpr ⟨mx_X8_byTurns_11, List.forall_mem_cons.mpr ⟨mx_X8_byTurns_47, List.forall_mem_cons.mpr ⟨mx_X8_byTurns_48, List.forall_mem_cons.mpr ⟨mx_X8_byTurns_49, List.forall_mem_cons.mpr ⟨mx_X8_byTurns_50, List.forall_mem_cons.mpr ⟨mx_X8_byTurns_51, List.forall_mem_cons.mpr ⟨mx_X8_byTurns_52, List.forall_mem_cons.mpr ⟨mx_X8_byTurns_53, List.forall_mem_cons.mpr ⟨mx_X8_byTurns_54, List.forall_mem_cons.mpr ⟨mx_X8_byTurns_16, fun _ h_ => absurd h_ List.not_mem_nil⟩⟩⟩⟩⟩⟩⟩⟩⟩⟩⟩⟩⟩)⟩, (fun _ h_ => mb_X8_byTurns_wsX80 h_)⟩⟩) (by decide +kernel)
theorem mx_X8_byTurns_20 : Cond.methodLink RX8 200 yX8_mealBehind ∈ wsX8_byTurns := mb_X8_byTurns_wsX8_byTurns_r1 (List.mem_of_getElem? (i := 19) rfl)
theorem mx_X8_byTurns_21 : Cond.instanceMethod yX8_mealBehind ∈ wsX8_byTurns := mb_X8_byTurns_wsX8_byTurns_r1 (List.mem_of_getElem? (i := 20) rfl)
theorem mx_X8_byTurns_22 : Cond.selects RX8 yX8_mealBehind yX8_mealBehind ∈ wsX8_byTurns := mb_X8_byTurns_wsX8_byTurns_r1 (List.mem_of_getElem? (i := 21) rfl)
theorem gX8_byTurns_X8_mealBehind : GoodIn wsX8_byTurns (wsV RX8 200 RX8 yX8_mealBehind wsX8_mealBehind) := goodIn_app (goodIn_sub (List.forall_mem_cons.mpr ⟨mx_X8_byTurns_20, List.forall_mem_cons.mpr ⟨mx_X8_byTurns_21, List.forall_mem_cons.mpr ⟨mx_X8_byTurns_22, List.forall_mem_cons.mpr ⟨mx_X8_byTurns_10, fun _ h_ => absurd h_ List.not_mem_nil⟩⟩⟩⟩) (by decide +kernel)) ggX8_byTurns_X8_mealBehind
theorem mx_X8_byTurns_15 : Cond.code yX8_putAside cX8_putAside 2 none ∈ wsX8_byTurns := mb_X8_byTurns_wsX8_byTurns_r1 (List.mem_of_getElem? (i := 14) rfl)
theorem ggX8_byTurns_X8_putAside : GoodIn wsX8_byTurns wsX8_putAside := goodIn_sub (by unfold wsX8_putAside; exact List.forall_mem_cons.mpr ⟨mx_X8_byTurns_15, List.forall_mem_append.mpr ⟨List.forall_mem_cons.mpr ⟨mx_X8_byTurns_16, List.forall_mem_cons.mpr ⟨mx_X8_byTurns_6, fun _ h_ => absurd h_ List.not_mem_nil⟩⟩, (fun _ h_ => mb_X8_byTurns_wsX80 h_)⟩⟩) (by decide +kernel)
theorem mx_X8_byTurns_12 : Cond.methodLink RX8 197 yX8_putAside ∈ wsX8_byTurns := mb_X8_byTurns_wsX8_byTurns_r1 (List.mem_of_getElem? (i := 11) rfl)
theorem mx_X8_byTurns_13 : Cond.instanceMethod yX8_putAside ∈ wsX8_byTurns := mb_X8_byTurns_wsX8_byTurns_r1 (List.mem_of_getElem? (i := 12) rfl)
theorem mx_X8_byTurns_14 : Cond.selects RX8 yX8_putAside yX8_putAside ∈ wsX8_byTurns := mb_X8_byTurns_wsX8_byTurns_r1 (List.mem_of_getElem? (i := 13) rfl)
theorem gX8_byTurns_X8_putAside : GoodIn wsX8_byTurns (wsV RX8 197 RX8 yX8_putAside wsX8_putAside) := goodIn_app (goodIn_sub (List.forall_mem_cons.mpr ⟨mx_X8_byTurns_12, List.forall_mem_cons.mpr ⟨mx_X8_byTurns_13, List.forall_mem_cons.mpr ⟨mx_X8_byTurns_14, List.forall_mem_cons.mpr ⟨mx_X8_byTurns_10, fun _ h_ => absurd h_ List.not_mem_nil⟩⟩⟩⟩) (by decide +kernel)) ggX8_byTurns_X8_putAside
theorem mx_X8_share_18 : Cond.code yX8_has cX8_has 2 (some .boolean) ∈ wsX8_share := by unfold wsX8_share; exact List.mem_cons_of_mem _ (List.mem_append_left _ (List.mem_of_getElem? (i := 17) rfl))
theorem ggX8_share_X8_has : GoodIn wsX8_share wsX8_has := goodIn_sub (by unfold wsX8_has; exact List.forall_mem_cons.mpr ⟨mx_X8_share_18, fun _ h_ => absurd h_ List.not_mem_nil⟩) (by decide +kernel)
set_option maxRecDepth 20000 in
theorem gX8_share_X8_has : GoodIn wsX8_share (va_wsS RX8 213 yX8_has wsX8_has) := goodIn_app (goodIn_of _ (by decide +kernel)) ggX8_share_X8_has
theorem mx_X8_share_11 : Cond.code yX8_in cX8_in 6 (some .boolean) ∈ wsX8_share := by unfold wsX8_share; exact List.mem_cons_of_mem _ (List.mem_append_left _ (List.mem_of_getElem? (i := 10) rfl))
theorem ggX8_share_X8_in : GoodIn wsX8_share wsX8_in := goodIn_sub (by unfold wsX8_in; exact List.forall_mem_cons.mpr ⟨mx_X8_share_11, fun _ h_ => absurd h_ List.not_mem_nil⟩) (by decide +kernel)
set_option maxRecDepth 20000 in
theorem gX8_share_X8_in : GoodIn wsX8_share (va_wsS RX8 57 yX8_in wsX8_in) := goodIn_app (goodIn_of _ (by decide +kernel)) ggX8_share_X8_in
theorem mx_X8_share_8 : Cond.code yX8_isSound cX8_isSound 2 (some .boolean) ∈ wsX8_share := by unfold wsX8_share; exact List.mem_cons_of_mem _ (List.mem_append_left _ (List.mem_of_getElem? (i := 7) rfl))
theorem mx_X8_share_3 : Cond.fieldLink RX8 19 "MillTalkModel" "st" "[I" ∈ wsX8_share := by unfold wsX8_share; exact List.mem_cons_of_mem _ (List.mem_append_left _ (List.mem_of_getElem? (i := 2) rfl))
theorem mx_X8_share_9 : Cond.methodLink RX8 57 yX8_in ∈ wsX8_share := by unfold wsX8_share; exact List.mem_cons_of_mem _ (List.mem_append_left _ (List.mem_of_getElem? (i := 8) rfl))
theorem mx_X8_share_10 : Cond.static yX8_in ∈ wsX8_share := by unfold wsX8_share; exact List.mem_cons_of_mem _ (List.mem_append_left _ (List.mem_of_getElem? (i := 9) rfl))
theorem mx_X8_share_7 : Cond.initialized RX8 ∈ wsX8_share := by unfold wsX8_share; exact List.mem_cons_of_mem _ (List.mem_append_left _ (List.mem_of_getElem? (i := 6) rfl))
theorem mb_X8_share_wsX80 {w : Cond} (h : w ∈ wsX80) : w ∈ wsX8_share := by unfold wsX8_share; exact List.mem_cons_of_mem _ (List.mem_append_right _ (h))
theorem ggX8_share_X8_isSound : GoodIn wsX8_share wsX8_isSound := goodIn_sub (by unfold wsX8_isSound; exact List.forall_mem_cons.mpr ⟨mx_X8_share_8, List.forall_mem_append.mpr ⟨List.forall_mem_cons.mpr ⟨mx_X8_share_3, List.forall_mem_cons.mpr ⟨mx_X8_share_9, List.forall_mem_cons.mpr ⟨mx_X8_share_10, List.forall_mem_cons.mpr ⟨mx_X8_share_7, List.forall_mem_cons.mpr ⟨mx_X8_share_11, fun _ h_ => absurd h_ List.not_mem_nil⟩⟩⟩⟩⟩, (fun _ h_ => mb_X8_share_wsX80 h_)⟩⟩) (by decide +kernel)
theorem mx_X8_share_4 : Cond.methodLink RX8 173 yX8_isSound ∈ wsX8_share := by unfold wsX8_share; exact List.mem_cons_of_mem _ (List.mem_append_left _ (List.mem_of_getElem? (i := 3) rfl))
theorem mx_X8_share_5 : Cond.instanceMethod yX8_isSound ∈ wsX8_share := by unfold wsX8_share; exact List.mem_cons_of_mem _ (List.mem_append_left _ (List.mem_of_getElem? (i := 4) rfl))
theorem mx_X8_share_6 : Cond.selects RX8 yX8_isSound yX8_isSound ∈ wsX8_share := by unfold wsX8_share; exact List.mem_cons_of_mem _ (List.mem_append_left _ (List.mem_of_getElem? (i := 5) rfl))
theorem gX8_share_X8_isSound : GoodIn wsX8_share (wsV RX8 173 RX8 yX8_isSound wsX8_isSound) := goodIn_app (goodIn_sub (List.forall_mem_cons.mpr ⟨mx_X8_share_4, List.forall_mem_cons.mpr ⟨mx_X8_share_5, List.forall_mem_cons.mpr ⟨mx_X8_share_6, List.forall_mem_cons.mpr ⟨mx_X8_share_7, fun _ h_ => absurd h_ List.not_mem_nil⟩⟩⟩⟩) (by decide +kernel)) ggX8_share_X8_isSound
theorem mx_X8_share_22 : Cond.code yX8_loudOf cX8_loudOf 4 (some .int) ∈ wsX8_share := by unfold wsX8_share; exact List.mem_cons_of_mem _ (List.mem_append_left _ (List.mem_of_getElem? (i := 21) rfl))
theorem mx_X8_share_16 : Cond.methodLink RX8 213 yX8_has ∈ wsX8_share := by unfold wsX8_share; exact List.mem_cons_of_mem _ (List.mem_append_left _ (List.mem_of_getElem? (i := 15) rfl))
theorem mx_X8_share_17 : Cond.static yX8_has ∈ wsX8_share := by unfold wsX8_share; exact List.mem_cons_of_mem _ (List.mem_append_left _ (List.mem_of_getElem? (i := 16) rfl))
theorem ggX8_share_X8_loudOf : GoodIn wsX8_share wsX8_loudOf := goodIn_sub (by unfold wsX8_loudOf; exact List.forall_mem_cons.mpr ⟨mx_X8_share_22, List.forall_mem_append.mpr ⟨List.forall_mem_cons.mpr ⟨mx_X8_share_3, List.forall_mem_cons.mpr ⟨mx_X8_share_16, List.forall_mem_cons.mpr ⟨mx_X8_share_17, List.forall_mem_cons.mpr ⟨mx_X8_share_7, List.forall_mem_cons.mpr ⟨mx_X8_share_18, fun _ h_ => absurd h_ List.not_mem_nil⟩⟩⟩⟩⟩, (fun _ h_ => mb_X8_share_wsX80 h_)⟩⟩) (by decide +kernel)
theorem mx_X8_share_19 : Cond.methodLink RX8 219 yX8_loudOf ∈ wsX8_share := by unfold wsX8_share; exact List.mem_cons_of_mem _ (List.mem_append_left _ (List.mem_of_getElem? (i := 18) rfl))
theorem mx_X8_share_20 : Cond.instanceMethod yX8_loudOf ∈ wsX8_share := by unfold wsX8_share; exact List.mem_cons_of_mem _ (List.mem_append_left _ (List.mem_of_getElem? (i := 19) rfl))
theorem mx_X8_share_21 : Cond.selects RX8 yX8_loudOf yX8_loudOf ∈ wsX8_share := by unfold wsX8_share; exact List.mem_cons_of_mem _ (List.mem_append_left _ (List.mem_of_getElem? (i := 20) rfl))
theorem gX8_share_X8_loudOf : GoodIn wsX8_share (wsV RX8 219 RX8 yX8_loudOf wsX8_loudOf) := goodIn_app (goodIn_sub (List.forall_mem_cons.mpr ⟨mx_X8_share_19, List.forall_mem_cons.mpr ⟨mx_X8_share_20, List.forall_mem_cons.mpr ⟨mx_X8_share_21, List.forall_mem_cons.mpr ⟨mx_X8_share_7, fun _ h_ => absurd h_ List.not_mem_nil⟩⟩⟩⟩) (by decide +kernel)) ggX8_share_X8_loudOf
theorem mx_X8_share_15 : Cond.code yX8_those cX8_those 4 (some .int) ∈ wsX8_share := by unfold wsX8_share; exact List.mem_cons_of_mem _ (List.mem_append_left _ (List.mem_of_getElem? (i := 14) rfl))
theorem ggX8_share_X8_those : GoodIn wsX8_share wsX8_those := goodIn_sub (by unfold wsX8_those; exact List.forall_mem_cons.mpr ⟨mx_X8_share_15, List.forall_mem_append.mpr ⟨List.forall_mem_cons.mpr ⟨mx_X8_share_3, fun _ h_ => absurd h_ List.not_mem_nil⟩, (fun _ h_ => mb_X8_share_wsX80 h_)⟩⟩) (by decide +kernel)
theorem mx_X8_share_12 : Cond.methodLink RX8 182 yX8_those ∈ wsX8_share := by unfold wsX8_share; exact List.mem_cons_of_mem _ (List.mem_append_left _ (List.mem_of_getElem? (i := 11) rfl))
theorem mx_X8_share_13 : Cond.instanceMethod yX8_those ∈ wsX8_share := by unfold wsX8_share; exact List.mem_cons_of_mem _ (List.mem_append_left _ (List.mem_of_getElem? (i := 12) rfl))
theorem mx_X8_share_14 : Cond.selects RX8 yX8_those yX8_those ∈ wsX8_share := by unfold wsX8_share; exact List.mem_cons_of_mem _ (List.mem_append_left _ (List.mem_of_getElem? (i := 13) rfl))
theorem gX8_share_X8_those : GoodIn wsX8_share (wsV RX8 182 RX8 yX8_those wsX8_those) := goodIn_app (goodIn_sub (List.forall_mem_cons.mpr ⟨mx_X8_share_12, List.forall_mem_cons.mpr ⟨mx_X8_share_13, List.forall_mem_cons.mpr ⟨mx_X8_share_14, List.forall_mem_cons.mpr ⟨mx_X8_share_7, fun _ h_ => absurd h_ List.not_mem_nil⟩⟩⟩⟩) (by decide +kernel)) ggX8_share_X8_those
theorem i_X8_byTurns_X8 : ∀ w ∈ u_ws RX8 TX8 24, w ∈ wsX8_byTurns := fun _ h_ => mb_X8_byTurns_wsX80 h_
theorem i_X8_share_X8 : ∀ w ∈ u_ws RX8 TX8 24, w ∈ wsX8_share := fun _ h_ => mb_X8_share_wsX80 h_
theorem mx_X8_share_2 : Cond.constant RX8 67 (-1000001) ∈ wsX8_share := by unfold wsX8_share; exact List.mem_cons_of_mem _ (List.mem_append_left _ (List.mem_of_getElem? (i := 1) rfl))
theorem mx_X8_share_1 : Cond.constantLong RX8 185 (999) ∈ wsX8_share := by unfold wsX8_share; exact List.mem_cons_of_mem _ (List.mem_append_left _ (List.mem_of_getElem? (i := 0) rfl))
theorem mx_X8_byTurns_1 : Cond.fieldLink RX8 138 "MillTalkModel" "isThere" "Z" ∈ wsX8_byTurns := mb_X8_byTurns_wsX8_byTurns_r1 (List.mem_of_getElem? (i := 0) rfl)
theorem mx_X8_byTurns_3 : Cond.constantLong RX8 171 (4) ∈ wsX8_byTurns := mb_X8_byTurns_wsX8_byTurns_r1 (List.mem_of_getElem? (i := 2) rfl)
theorem mx_X8_byTurns_5 : Cond.constant RX8 67 (-1000001) ∈ wsX8_byTurns := mb_X8_byTurns_wsX8_byTurns_r1 (List.mem_of_getElem? (i := 4) rfl)
theorem mx_X8_byTurns_4 : Cond.constantLong RX8 176 (20) ∈ wsX8_byTurns := mb_X8_byTurns_wsX8_byTurns_r1 (List.mem_of_getElem? (i := 3) rfl)
theorem mx_X8_byTurns_7 : Cond.fieldLink RX8 37 "MillTalkModel" "worths" "[I" ∈ wsX8_byTurns := mb_X8_byTurns_wsX8_byTurns_r1 (List.mem_of_getElem? (i := 6) rfl)
theorem mx_X8_byTurns_2 : Cond.constant RX8 161 (-1000002) ∈ wsX8_byTurns := mb_X8_byTurns_wsX8_byTurns_r1 (List.mem_of_getElem? (i := 1) rfl)
-- 49.mod4
set_option maxHeartbeats 4000000 in
set_option maxRecDepth 100000 in
theorem r_X8_share (l : Launch) (dC : Nat → ClassId) (dI : Nat → Nat → Nat) (cI cZ cL cJ : ClassId) (mo : Nat) (m_la : Nat) (m_sz : Nat) (m_it : Nat) (m_st : Nat) (m_mv : Nat) (m_tp : Nat) (m_rd : Nat) (m_ac : Nat) (m_as : Nat) (m_wo : Nat) (m_ik : Nat) (m_ke : Nat) (m_tr : Nat) (ms : Int32) (mt : Int32) (ml : Int32) (mk : Int32) (mv : Int32) (mb : Int32) (mw : Int32) (mz : Nat) (mp : Nat) (ma : Nat) (mx : Nat) (fs : Nat → Int32) (w9 : Nat) (k9 : Nat) (h9 : Nat) (a0 : Int32) (a1 : Int32) (hM : okM fs w9 k9 h9) (hT : ¬ mt = 0 → 1 ≤ k9) (h999 : h9 ≤ 999) (hT0 : mt = 0 → fs 0 = 0 ∧ ma = 0) : Met l yX8_share wsX8_share ({ frames := 2, cells := 0, slots := 0, locals := 46 }) (va_Pc [.ref mo, .int a0, .int a1] (fun U => va_P (dC, dI) vwCl [(xo_8_rrriirrriiiiiiirrirrrrri mo m_la m_sz m_it ms mt m_st m_mv m_tp (nI mz) ml (nI mp) mk mv mb mw m_rd m_ac (nI ma) m_as m_wo m_ik m_ke m_tr (nI mx)), (xI m_st cI 38 fs)] U.heap ∧ va_K (dC, dI) vwCl [(cI, .int), (cZ, .boolean), (cL, .object RX3), (cJ, .array .int)] U)) (vp_Si (fun r => True)) 0 0 (fun _ => False) := by
  refine Met.ofW (cc := cX8_share) (maxL := 8) (ret := (some .int)) (by decide) rfl ?_
  intro p e s m args below meth c s₁ B hml hv
  obtain ⟨rfl, hP, hK⟩ := hv
  have hx := B.exec
  have hb := B.bytes
  have hr := B.returns
  have hts := atoms_spec (ws := wsX8_share) B.pre
  have hown : s.vm.findClass RX8 = some m.cls := findClass_of_methodNamed B.named
  have hlocks := B.notSynchronized
  have hP : va_P (dC, dI) vwCl [(xo_8_rrriirrriiiiiiirrirrrrri mo m_la m_sz m_it ms mt m_st m_mv m_tp (nI mz) ml (nI mp) mk mv mb mw m_rd m_ac (nI ma) m_as m_wo m_ik m_ke m_tr (nI mx)), (xI m_st cI 38 fs)] s.heap := hP
  have hl := lv_entry ([.ref mo, .int a0, .int a1]) (n := 8) (Nat.le_of_ble_eq_true rfl)
  rw [lg_entry_eq]
  generalize (lg_sl ([.ref mo, .int a0, .int a1]) ++ List.replicate (8 - (lg_sl ([.ref mo, .int a0, .int a1])).length) Slot.unset).toArray = ls at hl ⊢
  have hl : lv_has ls 8 [(0, .ref mo), (1, .int a0), (2, .int a1)] := hl
  have hk6 := hM.2.2.2.2.1
  have hw6 := hM.2.2.2.1
  refine lv_aload_n hx hb dX8_share_0 rfl (lv_at hl 0 rfl) ?_
  refine lv_iload_n hx hb dX8_share_1 rfl (lv_at hl 1 rfl) ?_
  have hPc_1 := hP
  refine vp_callSi (W.runV (As := [.int a0]) (rest := []) ⟨hx, hb, hml, hown, hts⟩ (r_X8_isSound l dC dI cI cZ cL cJ mo m_la m_sz m_it m_st m_mv m_tp m_rd m_ac m_as m_wo m_ik m_ke m_tr ms mt ml mk mv mb mw mz mp ma mx fs w9 k9 h9 a0 (hM)) (cwV 1 hts gX8_share_X8_isSound rfl rfl rfl (by decide +kernel) ⟨Nat.le_of_ble_eq_true rfl, Nat.le_of_ble_eq_true rfl⟩) (pvP 8 0 hK hP rfl rfl hPc_1) rfl rfl hl.1 rfl (lv_room (Nat.le_of_ble_eq_true rfl)) dX8_share_2 ⟨Nat.le_of_ble_eq_true rfl, Nat.le_of_ble_eq_true rfl⟩) (fun r_1 h_1 => ?_)
  rcases h_1 with ⟨h_1, f_1_0_0⟩ | ⟨h_1, f_1_1_0⟩
  · subst h_1
    refine lv_if_eq (tgt := 20) hx hb dX8_share_5 (by decide) (fun _ => ?_) (fun c_ => absurd (by decide) c_)
    refine lv_ldc (own := RX8) (v := (-1000001)) hx hb hown (hts _ mx_X8_share_2) dX8_share_20 ?_
    exact W.iret (v := (-1000001)) hx hb hr (fun t ht hW => ⟨(-1000001), rfl, trivial, ht⟩) (fun _ h => by cases h) dX8_share_22
  · subst h_1
    obtain ⟨j_1, hj_1, rfl⟩ := vp_in_of f_1_1_0 (by omega)
    have hkn1 : 1 ≤ k9 := by omega
    have hw1 := hM.2.2.2.2.2.1.mp hkn1
    refine lv_if_eq (tgt := 20) hx hb dX8_share_5 (by decide) (fun c_ => absurd c_ (by decide)) (fun _ => ?_)
    refine lv_iload_n hx hb dX8_share_8 rfl (lv_at hl 2 rfl) ?_
    refine lv_i2l hx hb dX8_share_9 rfl ?_
    refine lv_lconst (v := 0) hx hb dX8_share_10 (by decide) ?_
    refine lv_ldc2 (own := RX8) (v := 999) hx hb hown (hts _ mx_X8_share_1) dX8_share_11 ?_
    have hPc_5 := hP.sub (ws' := []) [] rfl
    refine vp_callSi (W.runS (As := [.long (a1).toInt64, .long 0, .long 999]) (rest := []) ⟨hx, hb, hml, hown, hts⟩ (r_X8_in l dC dI cI cZ cL cJ ((a1).toInt64) 0 999 ) (va_cwS 3 hts gX8_share_X8_in rfl rfl rfl (by decide +kernel) ⟨Nat.le_of_ble_eq_true rfl, Nat.le_of_ble_eq_true rfl⟩) (psP hK hPc_5) rfl rfl hl.1 rfl (lv_room (Nat.le_of_ble_eq_true rfl)) dX8_share_14 ⟨Nat.le_of_ble_eq_true rfl, Nat.le_of_ble_eq_true rfl⟩) (fun r_5 h_5 => ?_)
    rcases h_5 with ⟨h_5, f_5_0_0⟩ | ⟨h_5, f_5_1_0⟩
    · subst h_5
      refine lv_if_ne (tgt := 23) hx hb dX8_share_17 (by decide) (fun c_ => absurd (by decide) c_) (fun _ => ?_)
      refine lv_ldc (own := RX8) (v := (-1000001)) hx hb hown (hts _ mx_X8_share_2) dX8_share_20 ?_
      exact W.iret (v := (-1000001)) hx hb hr (fun t ht hW => ⟨(-1000001), rfl, trivial, ht⟩) (fun _ h => by cases h) dX8_share_22
    · subst h_5
      obtain ⟨j_5, hj_5, hl_5, rfl⟩ := in64 (lo := 0) (n := 999) rfl rfl (by decide) f_5_1_0
      refine lv_if_ne (tgt := 23) hx hb dX8_share_17 (by decide) (fun _ => ?_) (fun c_ => absurd c_ (by decide))
      refine lv_aload_n hx hb dX8_share_23 rfl (lv_at hl 0 rfl) ?_
      refine lv_iconst (v := 0) hx hb dX8_share_24 (by decide) ?_
      have hPc_8 := hP
      refine vp_callSi (W.runV (As := [.int 0]) (rest := []) ⟨hx, hb, hml, hown, hts⟩ (r_X8_those l dC dI cI cZ cL cJ mo m_la m_sz m_it m_st m_mv m_tp m_rd m_ac m_as m_wo m_ik m_ke m_tr ms mt ml mk mv mb mw mz mp ma mx fs w9 k9 h9 0 (hM)) (cwV 1 hts gX8_share_X8_those rfl rfl rfl (by decide +kernel) ⟨Nat.le_of_ble_eq_true rfl, Nat.le_of_ble_eq_true rfl⟩) (pvP 8 0 hK hP rfl rfl hPc_8) rfl rfl hl.1 rfl (lv_room (Nat.le_of_ble_eq_true rfl)) dX8_share_25 ⟨Nat.le_of_ble_eq_true rfl, Nat.le_of_ble_eq_true rfl⟩) (fun r_8 h_8 => ?_)
      obtain ⟨j_8, rfl, hz_8_0, hz_8_1⟩ := h_8
      refine lv_istore_n (lv' := [(3, .int (nI j_8)), (0, .ref mo), (1, .int (nI j_1)), (2, .int (nI j_5))]) hx hb dX8_share_28 rfl hl (by decide) rfl (fun ls hl => ?_)
      refine lv_iload_n hx hb dX8_share_29 rfl (lv_at hl 0 rfl) ?_
      refine lv_iload_n hx hb dX8_share_30 rfl (lv_at hl 2 rfl) ?_
      have hPc_9 := hP.sub (ws' := []) [] rfl
      refine vp_callSi (W.runS (As := [.int (nI j_8), .int (nI j_1)]) (rest := []) ⟨hx, hb, hml, hown, hts⟩ (r_X8_has l dC dI cI cZ cL cJ (nI j_8) (nI j_1) ) (va_cwS 2 hts gX8_share_X8_has rfl rfl rfl (by decide +kernel) ⟨Nat.le_of_ble_eq_true rfl, Nat.le_of_ble_eq_true rfl⟩) (psP hK hPc_9) rfl rfl hl.1 rfl (lv_room (Nat.le_of_ble_eq_true rfl)) dX8_share_31 ⟨Nat.le_of_ble_eq_true rfl, Nat.le_of_ble_eq_true rfl⟩) (fun r_9 h_9 => ?_)
      rcases h_9 with ⟨h_9, f_9_0_0⟩ | ⟨h_9, f_9_1_0⟩
      · subst h_9
        refine lv_if_ne (tgt := 39) hx hb dX8_share_34 (by decide) (fun c_ => absurd (by decide) c_) (fun _ => ?_)
        refine lv_iconst (v := 0) hx hb dX8_share_37 (by decide) ?_
        exact W.iret (v := 0) hx hb hr (fun t ht hW => ⟨0, rfl, trivial, ht⟩) (fun _ h => by cases h) dX8_share_38
      · subst h_9
        refine lv_if_ne (tgt := 39) hx hb dX8_share_34 (by decide) (fun _ => ?_) (fun c_ => absurd c_ (by decide))
        refine lv_aload_n hx hb dX8_share_39 rfl (lv_at hl 1 rfl) ?_
        refine lv_iload_n hx hb dX8_share_40 rfl (lv_at hl 0 rfl) ?_
        have hPc_12 := hP
        refine vp_callSi (W.runV (As := [.int (nI j_8)]) (rest := []) ⟨hx, hb, hml, hown, hts⟩ (r_X8_loudOf l dC dI cI cZ cL cJ mo m_la m_sz m_it m_st m_mv m_tp m_rd m_ac m_as m_wo m_ik m_ke m_tr ms mt ml mk mv mb mw mz mp ma mx fs w9 k9 h9 (nI j_8) (hM)) (cwV 1 hts gX8_share_X8_loudOf rfl rfl rfl (by decide +kernel) ⟨Nat.le_of_ble_eq_true rfl, Nat.le_of_ble_eq_true rfl⟩) (pvP 8 0 hK hP rfl rfl hPc_12) rfl rfl hl.1 rfl (lv_room (Nat.le_of_ble_eq_true rfl)) dX8_share_41 ⟨Nat.le_of_ble_eq_true rfl, Nat.le_of_ble_eq_true rfl⟩) (fun r_12 h_12 => ?_)
        obtain ⟨j_12, rfl, hz_12_0, hz_12_1, hz_12_2⟩ := h_12
        have hz1 : 1 ≤ j_12 := hz_12_1 j_1 (by omega) f_9_1_0
        refine lv_istore (lv' := [(4, .int (nI j_12)), (3, .int (nI j_8)), (0, .ref mo), (1, .int (nI j_1)), (2, .int (nI j_5))]) hx hb dX8_share_44 hl (by decide) rfl (fun ls hl => ?_)
        refine lv_iload_n hx hb dX8_share_46 rfl (lv_at hl 4 rfl) ?_
        refine lv_istore (lv' := [(5, .int (nI j_5)), (4, .int (nI j_12)), (3, .int (nI j_8)), (0, .ref mo), (1, .int (nI j_1)), (2, .int (nI j_5))]) hx hb dX8_share_47 hl (by decide) rfl (fun ls hl => ?_)
        refine lv_iconst (v := 0) hx hb dX8_share_49 (by decide) ?_
        refine lv_istore (lv' := [(6, .int 0), (5, .int (nI j_5)), (4, .int (nI j_12)), (3, .int (nI j_8)), (0, .ref mo), (1, .int (nI j_1)), (2, .int (nI j_5))]) hx hb dX8_share_50 hl (by decide) rfl (fun ls hl => ?_)
        refine lv_iconst (v := 0) hx hb dX8_share_52 (by decide) ?_
        refine lv_istore (lv' := [(7, .int 0), (6, .int 0), (5, .int (nI j_5)), (4, .int (nI j_12)), (3, .int (nI j_8)), (0, .ref mo), (1, .int (nI j_1)), (2, .int (nI j_5))]) hx hb dX8_share_53 hl (by decide) rfl (fun ls hl => ?_)
        refine lp_go (σ := (Int32) × (Int32)) (fun ii (st : (Int32) × (Int32)) H locs ls => match st with | (w_38, w_39) => lv_has ls 8 [(7, .int (nI ii)), (6, .int w_38), (5, .int w_39), (4, .int (nI j_12)), (3, .int (nI j_8)), (0, .ref mo), (1, .int (nI j_1)), (2, .int (nI j_5))] ∧ H = s.heap ∧ locs = []) k9 ?_ ?_ 0 (by omega) (0, (nI j_5)) ⟨lv_sub hl [0, 1, 2, 3, 4, 5, 6, 7] rfl, rfl, rfl⟩
        · rintro ii ⟨w_38, w_39⟩ H locs ls hii ⟨hl, rfl, rfl⟩ ih
          refine lv_iload hx hb dX8_share_55 (lv_at hl 0 rfl) ?_
          refine lv_aload_n hx hb dX8_share_57 rfl (lv_at hl 5 rfl) ?_
          refine va_get (D := (dC, dI)) (ci := 8) (v := .ref m_st) (C := RX8) (T := TX8) (N := 24) hx hb hts i_X8_share_X8 hown hK hP 0 rfl rfl 5 (by decide) (hts _ mx_X8_share_3) (fun _ h9 => h9) rfl dX8_share_58 ?_
          refine lv_iconst (v := 4) hx hb dX8_share_61 (by decide) ?_
          refine va_iald hx hb hK hP 1 0 rfl rfl (by unfold vp_in; decide) dX8_share_62 ?_
          refine lv_topi (fun v_67 e_67 => ?_)
          obtain rfl : v_67 = (nI k9) := (e_67).trans hM.2.1
          refine lv_icmp_ge (tgt := 130) hx hb dX8_share_63 (by decide) (fun c_ => absurd c_ (fun q_ => absurd ((nI_leI (a := k9) (b := ii) (by omega) (by omega)).mp q_) (by omega))) (fun _ => ?_)
          refine lv_iload hx hb dX8_share_66 (lv_at hl 2 rfl) ?_
          refine lv_iload_n hx hb dX8_share_68 rfl (lv_at hl 4 rfl) ?_
          refine lv_iload hx hb dX8_share_69 (lv_at hl 0 rfl) ?_
          have hPc_69 := hP.sub (ws' := []) [] rfl
          refine vp_callSi (W.runS (As := [.int (nI j_8), .int (nI ii)]) (rest := [.int w_39]) ⟨hx, hb, hml, hown, hts⟩ (r_X8_has l dC dI cI cZ cL cJ (nI j_8) (nI ii) ) (va_cwS 2 hts gX8_share_X8_has rfl rfl rfl (by decide +kernel) ⟨Nat.le_of_ble_eq_true rfl, Nat.le_of_ble_eq_true rfl⟩) (psP hK hPc_69) rfl rfl hl.1 rfl (lv_room (Nat.le_of_ble_eq_true rfl)) dX8_share_71 ⟨Nat.le_of_ble_eq_true rfl, Nat.le_of_ble_eq_true rfl⟩) (fun r_69 h_69 => ?_)
          rcases h_69 with ⟨h_69, f_69_0_0⟩ | ⟨h_69, f_69_1_0⟩
          · subst h_69
            refine lv_if_eq (tgt := 95) hx hb dX8_share_74 (by decide) (fun _ => ?_) (fun c_ => absurd (by decide) c_)
            refine lv_iconst (v := 0) hx hb dX8_share_95 (by decide) ?_
            refine lv_isub hx hb dX8_share_96 ?_
            refine lv_topi (fun v_71 e_71 => ?_)
            refine lv_istore (lv' := [(5, .int v_71), (7, .int (nI ii)), (6, .int w_38), (4, .int (nI j_12)), (3, .int (nI j_8)), (0, .ref mo), (1, .int (nI j_1)), (2, .int (nI j_5))]) hx hb dX8_share_97 hl (by decide) rfl (fun ls hl => ?_)
            refine lv_iload hx hb dX8_share_99 (lv_at hl 2 rfl) ?_
            refine lv_iload_n hx hb dX8_share_101 rfl (lv_at hl 4 rfl) ?_
            refine lv_iload hx hb dX8_share_102 (lv_at hl 1 rfl) ?_
            have hPc_72 := hP.sub (ws' := []) [] rfl
            refine vp_callSi (W.runS (As := [.int (nI j_8), .int (nI ii)]) (rest := [.int w_38]) ⟨hx, hb, hml, hown, hts⟩ (r_X8_has l dC dI cI cZ cL cJ (nI j_8) (nI ii) ) (va_cwS 2 hts gX8_share_X8_has rfl rfl rfl (by decide +kernel) ⟨Nat.le_of_ble_eq_true rfl, Nat.le_of_ble_eq_true rfl⟩) (psP hK hPc_72) rfl rfl hl.1 rfl (lv_room (Nat.le_of_ble_eq_true rfl)) dX8_share_104 ⟨Nat.le_of_ble_eq_true rfl, Nat.le_of_ble_eq_true rfl⟩) (fun r_72 h_72 => ?_)
            rcases h_72 with ⟨h_72, f_72_0_0⟩ | ⟨h_72, f_72_1_0⟩
            · subst h_72
              refine lv_if_eq (tgt := 120) hx hb dX8_share_107 (by decide) (fun _ => ?_) (fun c_ => absurd (by decide) c_)
              refine lv_iconst (v := 0) hx hb dX8_share_120 (by decide) ?_
              refine lv_iadd hx hb dX8_share_121 ?_
              refine lv_topi (fun v_74 e_74 => ?_)
              refine lv_istore (lv' := [(6, .int v_74), (5, .int v_71), (7, .int (nI ii)), (4, .int (nI j_12)), (3, .int (nI j_8)), (0, .ref mo), (1, .int (nI j_1)), (2, .int (nI j_5))]) hx hb dX8_share_122 hl (by decide) rfl (fun ls hl => ?_)
              refine lv_iinc (v := (nI (ii + 1))) (lv' := [(7, .int (nI (ii + 1))), (6, .int v_74), (5, .int v_71), (4, .int (nI j_12)), (3, .int (nI j_8)), (0, .ref mo), (1, .int (nI j_1)), (2, .int (nI j_5))]) hx hb dX8_share_124 hl (k := 2) rfl (nI_add ii 1) (by decide) rfl (fun ls hl => ?_)
              refine lv_goto (tgt := 55) hx hb dX8_share_127 (by decide) ?_
              exact ih (v_74, v_71) _ _ _ ⟨lv_sub hl [0, 1, 2, 3, 4, 5, 6, 7] rfl, rfl, rfl⟩
            · subst h_72
              refine lv_if_eq (tgt := 120) hx hb dX8_share_107 (by decide) (fun c_ => absurd c_ (by decide)) (fun _ => ?_)
              refine lv_iload hx hb dX8_share_110 (lv_at hl 1 rfl) ?_
              refine lv_iload_n hx hb dX8_share_112 rfl (lv_at hl 6 rfl) ?_
              refine lv_icmp_ge (tgt := 120) hx hb dX8_share_113 (by decide) (fun c_76 => ?_) (fun c_76 => ?_)
              · have c_76 : j_1 ≤ ii := (nI_leI (a := j_1) (b := ii) (by omega) (by omega)).mp c_76
                refine lv_iconst (v := 0) hx hb dX8_share_120 (by decide) ?_
                refine lv_iadd hx hb dX8_share_121 ?_
                refine lv_topi (fun v_77 e_77 => ?_)
                refine lv_istore (lv' := [(6, .int v_77), (5, .int v_71), (7, .int (nI ii)), (4, .int (nI j_12)), (3, .int (nI j_8)), (0, .ref mo), (1, .int (nI j_1)), (2, .int (nI j_5))]) hx hb dX8_share_122 hl (by decide) rfl (fun ls hl => ?_)
                refine lv_iinc (v := (nI (ii + 1))) (lv' := [(7, .int (nI (ii + 1))), (6, .int v_77), (5, .int v_71), (4, .int (nI j_12)), (3, .int (nI j_8)), (0, .ref mo), (1, .int (nI j_1)), (2, .int (nI j_5))]) hx hb dX8_share_124 hl (k := 2) rfl (nI_add ii 1) (by decide) rfl (fun ls hl => ?_)
                refine lv_goto (tgt := 55) hx hb dX8_share_127 (by decide) ?_
                exact ih (v_77, v_71) _ _ _ ⟨lv_sub hl [0, 1, 2, 3, 4, 5, 6, 7] rfl, rfl, rfl⟩
              · have c_76 : ¬ (j_1 ≤ ii) := fun q_ => c_76 ((nI_leI (a := j_1) (b := ii) (by omega) (by omega)).mpr q_)
                refine lv_iconst (v := 1) hx hb dX8_share_116 (by decide) ?_
                refine lv_goto (tgt := 121) hx hb dX8_share_117 (by decide) ?_
                refine lv_iadd hx hb dX8_share_121 ?_
                refine lv_topi (fun v_78 e_78 => ?_)
                refine lv_istore (lv' := [(6, .int v_78), (5, .int v_71), (7, .int (nI ii)), (4, .int (nI j_12)), (3, .int (nI j_8)), (0, .ref mo), (1, .int (nI j_1)), (2, .int (nI j_5))]) hx hb dX8_share_122 hl (by decide) rfl (fun ls hl => ?_)
                refine lv_iinc (v := (nI (ii + 1))) (lv' := [(7, .int (nI (ii + 1))), (6, .int v_78), (5, .int v_71), (4, .int (nI j_12)), (3, .int (nI j_8)), (0, .ref mo), (1, .int (nI j_1)), (2, .int (nI j_5))]) hx hb dX8_share_124 hl (k := 2) rfl (nI_add ii 1) (by decide) rfl (fun ls hl => ?_)
                refine lv_goto (tgt := 55) hx hb dX8_share_127 (by decide) ?_
                exact ih (v_78, v_71) _ _ _ ⟨lv_sub hl [0, 1, 2, 3, 4, 5, 6, 7] rfl, rfl, rfl⟩
          · subst h_69
            refine lv_if_eq (tgt := 95) hx hb dX8_share_74 (by decide) (fun c_ => absurd c_ (by decide)) (fun _ => ?_)
            refine lv_iload_n hx hb dX8_share_77 rfl (lv_at hl 7 rfl) ?_
            refine lv_aload_n hx hb dX8_share_78 rfl (lv_at hl 5 rfl) ?_
            refine va_get (D := (dC, dI)) (ci := 8) (v := .ref m_st) (C := RX8) (T := TX8) (N := 24) hx hb hts i_X8_share_X8 hown hK hP 0 rfl rfl 5 (by decide) (hts _ mx_X8_share_3) (fun _ h9 => h9) rfl dX8_share_79 ?_
            refine lv_bipush (v := 32) hx hb dX8_share_82 (by decide) ?_
            refine lv_iload hx hb dX8_share_84 (lv_at hl 0 rfl) ?_
            refine lv_iadd hx hb dX8_share_86 ?_
            refine lv_topi (fun v_80 e_80 => ?_)
            obtain rfl : v_80 = (nI (32 + ii)) := (e_80).trans (nI_add 32 ii)
            refine va_iald hx hb hK hP 1 0 rfl rfl (vp_in_nI (by omega) (by omega)) dX8_share_87 ?_
            refine lv_topi (fun v_81 e_81 => ?_)
            refine lv_imul hx hb dX8_share_88 ?_
            refine lv_topi (fun v_82 e_82 => ?_)
            refine lv_iload hx hb dX8_share_89 (lv_at hl 3 rfl) ?_
            refine lv_idiv hx hb dX8_share_91 (nI_ne0 (by omega) (by omega)) ?_
            refine lv_topi (fun v_83 e_83 => ?_)
            refine lv_goto (tgt := 96) hx hb dX8_share_92 (by decide) ?_
            refine lv_isub hx hb dX8_share_96 ?_
            refine lv_topi (fun v_84 e_84 => ?_)
            refine lv_istore (lv' := [(5, .int v_84), (7, .int (nI ii)), (6, .int w_38), (4, .int (nI j_12)), (3, .int (nI j_8)), (0, .ref mo), (1, .int (nI j_1)), (2, .int (nI j_5))]) hx hb dX8_share_97 hl (by decide) rfl (fun ls hl => ?_)
            refine lv_iload hx hb dX8_share_99 (lv_at hl 2 rfl) ?_
            refine lv_iload_n hx hb dX8_share_101 rfl (lv_at hl 4 rfl) ?_
            refine lv_iload hx hb dX8_share_102 (lv_at hl 1 rfl) ?_
            have hPc_85 := hP.sub (ws' := []) [] rfl
            refine vp_callSi (W.runS (As := [.int (nI j_8), .int (nI ii)]) (rest := [.int w_38]) ⟨hx, hb, hml, hown, hts⟩ (r_X8_has l dC dI cI cZ cL cJ (nI j_8) (nI ii) ) (va_cwS 2 hts gX8_share_X8_has rfl rfl rfl (by decide +kernel) ⟨Nat.le_of_ble_eq_true rfl, Nat.le_of_ble_eq_true rfl⟩) (psP hK hPc_85) rfl rfl hl.1 rfl (lv_room (Nat.le_of_ble_eq_true rfl)) dX8_share_104 ⟨Nat.le_of_ble_eq_true rfl, Nat.le_of_ble_eq_true rfl⟩) (fun r_85 h_85 => ?_)
            rcases h_85 with ⟨h_85, f_85_0_0⟩ | ⟨h_85, f_85_1_0⟩
            · subst h_85
              refine lv_if_eq (tgt := 120) hx hb dX8_share_107 (by decide) (fun _ => ?_) (fun c_ => absurd (by decide) c_)
              refine lv_iconst (v := 0) hx hb dX8_share_120 (by decide) ?_
              refine lv_iadd hx hb dX8_share_121 ?_
              refine lv_topi (fun v_87 e_87 => ?_)
              refine lv_istore (lv' := [(6, .int v_87), (5, .int v_84), (7, .int (nI ii)), (4, .int (nI j_12)), (3, .int (nI j_8)), (0, .ref mo), (1, .int (nI j_1)), (2, .int (nI j_5))]) hx hb dX8_share_122 hl (by decide) rfl (fun ls hl => ?_)
              refine lv_iinc (v := (nI (ii + 1))) (lv' := [(7, .int (nI (ii + 1))), (6, .int v_87), (5, .int v_84), (4, .int (nI j_12)), (3, .int (nI j_8)), (0, .ref mo), (1, .int (nI j_1)), (2, .int (nI j_5))]) hx hb dX8_share_124 hl (k := 2) rfl (nI_add ii 1) (by decide) rfl (fun ls hl => ?_)
              refine lv_goto (tgt := 55) hx hb dX8_share_127 (by decide) ?_
              exact ih (v_87, v_84) _ _ _ ⟨lv_sub hl [0, 1, 2, 3, 4, 5, 6, 7] rfl, rfl, rfl⟩
            · subst h_85
              refine lv_if_eq (tgt := 120) hx hb dX8_share_107 (by decide) (fun c_ => absurd c_ (by decide)) (fun _ => ?_)
              refine lv_iload hx hb dX8_share_110 (lv_at hl 1 rfl) ?_
              refine lv_iload_n hx hb dX8_share_112 rfl (lv_at hl 6 rfl) ?_
              refine lv_icmp_ge (tgt := 120) hx hb dX8_share_113 (by decide) (fun c_89 => ?_) (fun c_89 => ?_)
              · have c_89 : j_1 ≤ ii := (nI_leI (a := j_1) (b := ii) (by omega) (by omega)).mp c_89
                refine lv_iconst (v := 0) hx hb dX8_share_120 (by decide) ?_
                refine lv_iadd hx hb dX8_share_121 ?_
                refine lv_topi (fun v_90 e_90 => ?_)
                refine lv_istore (lv' := [(6, .int v_90), (5, .int v_84), (7, .int (nI ii)), (4, .int (nI j_12)), (3, .int (nI j_8)), (0, .ref mo), (1, .int (nI j_1)), (2, .int (nI j_5))]) hx hb dX8_share_122 hl (by decide) rfl (fun ls hl => ?_)
                refine lv_iinc (v := (nI (ii + 1))) (lv' := [(7, .int (nI (ii + 1))), (6, .int v_90), (5, .int v_84), (4, .int (nI j_12)), (3, .int (nI j_8)), (0, .ref mo), (1, .int (nI j_1)), (2, .int (nI j_5))]) hx hb dX8_share_124 hl (k := 2) rfl (nI_add ii 1) (by decide) rfl (fun ls hl => ?_)
                refine lv_goto (tgt := 55) hx hb dX8_share_127 (by decide) ?_
                exact ih (v_90, v_84) _ _ _ ⟨lv_sub hl [0, 1, 2, 3, 4, 5, 6, 7] rfl, rfl, rfl⟩
              · have c_89 : ¬ (j_1 ≤ ii) := fun q_ => c_89 ((nI_leI (a := j_1) (b := ii) (by omega) (by omega)).mpr q_)
                refine lv_iconst (v := 1) hx hb dX8_share_116 (by decide) ?_
                refine lv_goto (tgt := 121) hx hb dX8_share_117 (by decide) ?_
                refine lv_iadd hx hb dX8_share_121 ?_
                refine lv_topi (fun v_91 e_91 => ?_)
                refine lv_istore (lv' := [(6, .int v_91), (5, .int v_84), (7, .int (nI ii)), (4, .int (nI j_12)), (3, .int (nI j_8)), (0, .ref mo), (1, .int (nI j_1)), (2, .int (nI j_5))]) hx hb dX8_share_122 hl (by decide) rfl (fun ls hl => ?_)
                refine lv_iinc (v := (nI (ii + 1))) (lv' := [(7, .int (nI (ii + 1))), (6, .int v_91), (5, .int v_84), (4, .int (nI j_12)), (3, .int (nI j_8)), (0, .ref mo), (1, .int (nI j_1)), (2, .int (nI j_5))]) hx hb dX8_share_124 hl (k := 2) rfl (nI_add ii 1) (by decide) rfl (fun ls hl => ?_)
                refine lv_goto (tgt := 55) hx hb dX8_share_127 (by decide) ?_
                exact ih (v_91, v_84) _ _ _ ⟨lv_sub hl [0, 1, 2, 3, 4, 5, 6, 7] rfl, rfl, rfl⟩
        · rintro ⟨w_38, w_39⟩ H locs ls ⟨hl, rfl, rfl⟩
          refine lv_iload hx hb dX8_share_55 (lv_at hl 0 rfl) ?_
          refine lv_aload_n hx hb dX8_share_57 rfl (lv_at hl 5 rfl) ?_
          refine va_get (D := (dC, dI)) (ci := 8) (v := .ref m_st) (C := RX8) (T := TX8) (N := 24) hx hb hts i_X8_share_X8 hown hK hP 0 rfl rfl 5 (by decide) (hts _ mx_X8_share_3) (fun _ h9 => h9) rfl dX8_share_58 ?_
          refine lv_iconst (v := 4) hx hb dX8_share_61 (by decide) ?_
          refine va_iald hx hb hK hP 1 0 rfl rfl (by unfold vp_in; decide) dX8_share_62 ?_
          refine lv_topi (fun v_92 e_92 => ?_)
          obtain rfl : v_92 = (nI k9) := (e_92).trans hM.2.1
          refine lv_icmp_ge (tgt := 130) hx hb dX8_share_63 (by decide) (fun _ => ?_) (fun c_ => absurd ((nI_leI (a := k9) (b := k9) (by omega) (by omega)).mpr (by omega)) c_)
          refine lv_iload_n hx hb dX8_share_130 rfl (lv_at hl 7 rfl) ?_
          refine lv_aload_n hx hb dX8_share_131 rfl (lv_at hl 5 rfl) ?_
          refine va_get (D := (dC, dI)) (ci := 8) (v := .ref m_st) (C := RX8) (T := TX8) (N := 24) hx hb hts i_X8_share_X8 hown hK hP 0 rfl rfl 5 (by decide) (hts _ mx_X8_share_3) (fun _ h9 => h9) rfl dX8_share_132 ?_
          refine lv_bipush (v := 32) hx hb dX8_share_135 (by decide) ?_
          refine lv_iload_n hx hb dX8_share_137 rfl (lv_at hl 6 rfl) ?_
          refine lv_iadd hx hb dX8_share_138 ?_
          refine lv_topi (fun v_94 e_94 => ?_)
          obtain rfl : v_94 = (nI (32 + j_1)) := (e_94).trans (nI_add 32 j_1)
          refine va_iald hx hb hK hP 1 0 rfl rfl (vp_in_nI (by omega) (by omega)) dX8_share_139 ?_
          refine lv_topi (fun v_95 e_95 => ?_)
          refine lv_imul hx hb dX8_share_140 ?_
          refine lv_topi (fun v_96 e_96 => ?_)
          refine lv_iload hx hb dX8_share_141 (lv_at hl 3 rfl) ?_
          refine lv_idiv hx hb dX8_share_143 (nI_ne0 (by omega) (by omega)) ?_
          refine lv_topi (fun v_97 e_97 => ?_)
          refine lv_iload hx hb dX8_share_144 (lv_at hl 2 rfl) ?_
          refine lv_iload hx hb dX8_share_146 (lv_at hl 1 rfl) ?_
          refine lv_icmp_le (tgt := 155) hx hb dX8_share_148 (by decide) (fun c_98 => ?_) (fun c_98 => ?_)
          · skip
            refine lv_iconst (v := 0) hx hb dX8_share_155 (by decide) ?_
            refine lv_iadd hx hb dX8_share_156 ?_
            refine lv_topi (fun v_99 e_99 => ?_)
            exact W.iret (v := v_99) hx hb hr (fun t ht hW => ⟨v_99, rfl, trivial, ht⟩) (fun _ h => by cases h) dX8_share_157
          · skip
            refine lv_iconst (v := 1) hx hb dX8_share_151 (by decide) ?_
            refine lv_goto (tgt := 156) hx hb dX8_share_152 (by decide) ?_
            refine lv_iadd hx hb dX8_share_156 ?_
            refine lv_topi (fun v_100 e_100 => ?_)
            exact W.iret (v := v_100) hx hb hr (fun t ht hW => ⟨v_100, rfl, trivial, ht⟩) (fun _ h => by cases h) dX8_share_157
set_option maxHeartbeats 4000000 in
set_option maxRecDepth 100000 in
theorem r_X8_byTurns (l : Launch) (dC : Nat → ClassId) (dI : Nat → Nat → Nat) (cI cZ cL cJ : ClassId) (sz : Nat) (mo : Nat) (m_la : Nat) (m_sz : Nat) (m_it : Nat) (m_st : Nat) (m_mv : Nat) (m_tp : Nat) (m_rd : Nat) (m_ac : Nat) (m_as : Nat) (m_wo : Nat) (m_ik : Nat) (m_ke : Nat) (m_tr : Nat) (ms : Int32) (mt : Int32) (ml : Int32) (mk : Int32) (mv : Int32) (mb : Int32) (mw : Int32) (mz : Nat) (mp : Nat) (ma : Nat) (mx : Nat) (fs : Nat → Int32) (w9 : Nat) (k9 : Nat) (h9 : Nat) (fa : Nat → Int32) (fw : Nat → Int32) (a0 : Int32) (a1 : Int32) (hM : okM fs w9 k9 h9) (hT : ¬ mt = 0 → 1 ≤ k9) (h999 : h9 ≤ 999) (hT0 : mt = 0 → fs 0 = 0 ∧ ma = 0) : Met l yX8_byTurns wsX8_byTurns ({ frames := 6, cells := 0, slots := 0, locals := 139 }) (va_Pc [.ref mo, .int a0, .int a1] (fun U => U.heap.size = sz ∧ va_P (dC, dI) vwCl [(xo_8_rrriirrriiiiiiirrirrrrri mo m_la m_sz m_it ms mt m_st m_mv m_tp (nI mz) ml (nI mp) mk mv mb mw m_rd m_ac (nI ma) m_as m_wo m_ik m_ke m_tr (nI mx)), (xI m_st cI 38 fs), (xI m_as cI 38 fa), (xI m_wo cI 16 fw)] U.heap ∧ va_K (dC, dI) vwCl [(cI, .int), (cZ, .boolean), (cL, .object RX3), (cJ, .array .int)] U ∧ va_D (fun _ => True) [(xo_8_rrriirrriiiiiiirrirrrrri mo m_la m_sz m_it ms mt m_st m_mv m_tp (nI mz) ml (nI mp) mk mv mb mw m_rd m_ac (nI ma) m_as m_wo m_ik m_ke m_tr (nI mx)), (xI m_st cI 38 fs), (xI m_as cI 38 fa), (xI m_wo cI 16 fw)])) (va_Qi (fun r (_ : Unit) => True) (fun (_ : Unit) t => ∃ (fsn : Nat → Int32) (fan : Nat → Int32) (fwn : Nat → Int32), va_P (dC, dI) vwCl [(xo_8_rrriirrriiiiiiirrirrrrri mo m_la m_sz m_it ms mt m_st m_mv m_tp (nI mz) ml (nI mp) mk mv mb mw m_rd m_ac (nI ma) m_as m_wo m_ik m_ke m_tr (nI mx)), (xI m_st cI 38 fsn), (xI m_as cI 38 fan), (xI m_wo cI 16 fwn)] t.heap ∧ va_D (va_A [(xo_8_rrriirrriiiiiiirrirrrrri mo m_la m_sz m_it ms mt m_st m_mv m_tp (nI mz) ml (nI mp) mk mv mb mw m_rd m_ac (nI ma) m_as m_wo m_ik m_ke m_tr (nI mx)), (xI m_st cI 38 fs), (xI m_as cI 38 fa), (xI m_wo cI 16 fw)] sz) [(xo_8_rrriirrriiiiiiirrirrrrri mo m_la m_sz m_it ms mt m_st m_mv m_tp (nI mz) ml (nI mp) mk mv mb mw m_rd m_ac (nI ma) m_as m_wo m_ik m_ke m_tr (nI mx)), (xI m_st cI 38 fsn), (xI m_as cI 38 fan), (xI m_wo cI 16 fwn)] ∧ okM fsn w9 k9 h9 ∧ m38 fsn = m38 fs) (va_A [(xo_8_rrriirrriiiiiiirrirrrrri mo m_la m_sz m_it ms mt m_st m_mv m_tp (nI mz) ml (nI mp) mk mv mb mw m_rd m_ac (nI ma) m_as m_wo m_ik m_ke m_tr (nI mx)), (xI m_st cI 38 fs), (xI m_as cI 38 fa), (xI m_wo cI 16 fw)] sz)) 0 0 (va_A [(xo_8_rrriirrriiiiiiirrirrrrri mo m_la m_sz m_it ms mt m_st m_mv m_tp (nI mz) ml (nI mp) mk mv mb mw m_rd m_ac (nI ma) m_as m_wo m_ik m_ke m_tr (nI mx)), (xI m_st cI 38 fs), (xI m_as cI 38 fa), (xI m_wo cI 16 fw)] sz) := by
  refine Met.ofW (cc := cX8_byTurns) (maxL := 8) (ret := (some .int)) (by decide) rfl ?_
  intro p e s m args below meth c s₁ B hml hv
  obtain ⟨rfl, hsz, hP, hK, hD0⟩ := hv
  have hx := B.exec
  have hb := B.bytes
  have hr := B.returns
  have hts := atoms_spec (ws := wsX8_byTurns) B.pre
  have hown : s.vm.findClass RX8 = some m.cls := findClass_of_methodNamed B.named
  have hlocks := B.notSynchronized
  subst hsz
  have hD := hD0.self (sz := s.heap.size)
  generalize hAe : va_A [(xo_8_rrriirrriiiiiiirrirrrrri mo m_la m_sz m_it ms mt m_st m_mv m_tp (nI mz) ml (nI mp) mk mv mb mw m_rd m_ac (nI ma) m_as m_wo m_ik m_ke m_tr (nI mx)), (xI m_st cI 38 fs), (xI m_as cI 38 fa), (xI m_wo cI 16 fw)] s.heap.size = A at hD ⊢
  have hA : ∀ q : Nat, s.heap.size ≤ q → A q := fun q h => by rw [← hAe]; exact Or.inr h
  have hS : va_S A s.heap s.heap [] := va_S.rf
  have hP : va_P (dC, dI) vwCl [(xo_8_rrriirrriiiiiiirrirrrrri mo m_la m_sz m_it ms mt m_st m_mv m_tp (nI mz) ml (nI mp) mk mv mb mw m_rd m_ac (nI ma) m_as m_wo m_ik m_ke m_tr (nI mx)), (xI m_st cI 38 fs), (xI m_as cI 38 fa), (xI m_wo cI 16 fw)] s.heap := hP
  have hl := lv_entry ([.ref mo, .int a0, .int a1]) (n := 8) (Nat.le_of_ble_eq_true rfl)
  rw [lg_entry_eq]
  generalize (lg_sl ([.ref mo, .int a0, .int a1]) ++ List.replicate (8 - (lg_sl ([.ref mo, .int a0, .int a1])).length) Slot.unset).toArray = ls at hl ⊢
  have hl : lv_has ls 8 [(0, .ref mo), (1, .int a0), (2, .int a1)] := hl
  have hk6 := hM.2.2.2.2.1
  have hw6 := hM.2.2.2.1
  refine lv_aload_n hx hb dX8_byTurns_0 rfl (lv_at hl 0 rfl) ?_
  refine va_get (D := (dC, dI)) (ci := 8) (v := .int mt) (C := RX8) (T := TX8) (N := 24) hx hb hts i_X8_byTurns_X8 hown hK hP 0 rfl rfl 4 (by decide) (hts _ mx_X8_byTurns_1) (fun _ h9 => h9) rfl dX8_byTurns_1 ?_
  refine lv_if_ne (tgt := 10) hx hb dX8_byTurns_4 (by decide) (fun c_1 => ?_) (fun c_1 => ?_)
  · skip
    have hkn1 := hT c_1
    have hw1 := hM.2.2.2.2.2.1.mp hkn1
    refine lv_iload_n hx hb dX8_byTurns_10 rfl (lv_at hl 1 rfl) ?_
    refine lv_i2l hx hb dX8_byTurns_11 rfl ?_
    refine lv_lconst (v := 0) hx hb dX8_byTurns_12 (by decide) ?_
    refine lv_ldc2 (own := RX8) (v := 4) hx hb hown (hts _ mx_X8_byTurns_3) dX8_byTurns_13 ?_
    have hPc_2 := hP.sub (ws' := []) [] rfl
    refine vp_callSi (W.runS (As := [.long (a0).toInt64, .long 0, .long 4]) (rest := []) ⟨hx, hb, hml, hown, hts⟩ (r_X8_in l dC dI cI cZ cL cJ ((a0).toInt64) 0 4 ) (va_cwS 3 hts gX8_byTurns_X8_in rfl rfl rfl (by decide +kernel) ⟨Nat.le_of_ble_eq_true rfl, Nat.le_of_ble_eq_true rfl⟩) (psP hK hPc_2) rfl rfl hl.1 rfl (lv_room (Nat.le_of_ble_eq_true rfl)) dX8_byTurns_16 ⟨Nat.le_of_ble_eq_true rfl, Nat.le_of_ble_eq_true rfl⟩) (fun r_2 h_2 => ?_)
    rcases h_2 with ⟨h_2, f_2_0_0⟩ | ⟨h_2, f_2_1_0⟩
    · subst h_2
      refine lv_if_eq (tgt := 34) hx hb dX8_byTurns_19 (by decide) (fun _ => ?_) (fun c_ => absurd (by decide) c_)
      refine lv_ldc (own := RX8) (v := (-1000001)) hx hb hown (hts _ mx_X8_byTurns_5) dX8_byTurns_34 ?_
      have hX9 := cut2 (wc := [(xo_8_rrriirrriiiiiiirrirrrrri mo m_la m_sz m_it ms mt m_st m_mv m_tp (nI mz) ml (nI mp) mk mv mb mw m_rd m_ac (nI ma) m_as m_wo m_ik m_ke m_tr (nI mx)), (xI m_st cI 38 fs), (xI m_as cI 38 fa), (xI m_wo cI 16 fw)]) hP hD [0, 1, 2, 3] (by decide +kernel) rfl
      exact W.iret (v := (-1000001)) hx hb hr (fun t ht hW => ⟨⟨(-1000001), (), rfl, trivial, ⟨fs, fa, fw, va_Ht ht hX9.1, hX9.2, hM, rfl⟩⟩, hS.F ht⟩) hS.2.2 dX8_byTurns_36
    · subst h_2
      obtain ⟨j_2, hj_2, hl_2, rfl⟩ := in64 (lo := 0) (n := 4) rfl rfl (by decide) f_2_1_0
      refine lv_if_eq (tgt := 34) hx hb dX8_byTurns_19 (by decide) (fun c_ => absurd c_ (by decide)) (fun _ => ?_)
      refine lv_iload_n hx hb dX8_byTurns_22 rfl (lv_at hl 2 rfl) ?_
      refine lv_i2l hx hb dX8_byTurns_23 rfl ?_
      refine lv_lconst (v := 1) hx hb dX8_byTurns_24 (by decide) ?_
      refine lv_ldc2 (own := RX8) (v := 20) hx hb hown (hts _ mx_X8_byTurns_4) dX8_byTurns_25 ?_
      have hPc_5 := hP.sub (ws' := []) [] rfl
      refine vp_callSi (W.runS (As := [.long (a1).toInt64, .long 1, .long 20]) (rest := []) ⟨hx, hb, hml, hown, hts⟩ (r_X8_in l dC dI cI cZ cL cJ ((a1).toInt64) 1 20 ) (va_cwS 3 hts gX8_byTurns_X8_in rfl rfl rfl (by decide +kernel) ⟨Nat.le_of_ble_eq_true rfl, Nat.le_of_ble_eq_true rfl⟩) (psP hK hPc_5) rfl rfl hl.1 rfl (lv_room (Nat.le_of_ble_eq_true rfl)) dX8_byTurns_28 ⟨Nat.le_of_ble_eq_true rfl, Nat.le_of_ble_eq_true rfl⟩) (fun r_5 h_5 => ?_)
      rcases h_5 with ⟨h_5, f_5_0_0⟩ | ⟨h_5, f_5_1_0⟩
      · subst h_5
        refine lv_if_ne (tgt := 37) hx hb dX8_byTurns_31 (by decide) (fun c_ => absurd (by decide) c_) (fun _ => ?_)
        refine lv_ldc (own := RX8) (v := (-1000001)) hx hb hown (hts _ mx_X8_byTurns_5) dX8_byTurns_34 ?_
        have hX9 := cut2 (wc := [(xo_8_rrriirrriiiiiiirrirrrrri mo m_la m_sz m_it ms mt m_st m_mv m_tp (nI mz) ml (nI mp) mk mv mb mw m_rd m_ac (nI ma) m_as m_wo m_ik m_ke m_tr (nI mx)), (xI m_st cI 38 fs), (xI m_as cI 38 fa), (xI m_wo cI 16 fw)]) hP hD [0, 1, 2, 3] (by decide +kernel) rfl
        exact W.iret (v := (-1000001)) hx hb hr (fun t ht hW => ⟨⟨(-1000001), (), rfl, trivial, ⟨fs, fa, fw, va_Ht ht hX9.1, hX9.2, hM, rfl⟩⟩, hS.F ht⟩) hS.2.2 dX8_byTurns_36
      · subst h_5
        obtain ⟨j_5, hj_5, hl_5, rfl⟩ := in64 (lo := 1) (n := 20) rfl rfl (by decide) f_5_1_0
        refine lv_if_ne (tgt := 37) hx hb dX8_byTurns_31 (by decide) (fun _ => ?_) (fun c_ => absurd c_ (by decide))
        refine lv_aload_n hx hb dX8_byTurns_37 rfl (lv_at hl 0 rfl) ?_
        have hc_8 := cutW (wc := [(xo_8_rrriirrriiiiiiirrirrrrri mo m_la m_sz m_it ms mt m_st m_mv m_tp (nI mz) ml (nI mp) mk mv mb mw m_rd m_ac (nI ma) m_as m_wo m_ik m_ke m_tr (nI mx)), (xI m_st cI 38 fs), (xI m_as cI 38 fa)]) hP hD hS hA [0, 1, 2] (by decide +kernel) rfl
        refine va_callv (va_runV (As := []) (rest := []) ⟨hx, hb, hml, hown, hts⟩ (r_X8_putAside l dC dI cI cZ cL cJ s.heap.size mo m_la m_sz m_it m_st m_mv m_tp m_rd m_ac m_as m_wo m_ik m_ke m_tr ms mt ml mk mv mb mw mz mp ma mx fs fa ) (cwV 0 hts gX8_byTurns_X8_putAside rfl rfl rfl (by decide +kernel) ⟨Nat.le_of_ble_eq_true rfl, Nat.le_of_ble_eq_true rfl⟩) (pvW 8 0 hK hP rfl rfl hc_8) rfl rfl hl.1 rfl (lv_room (Nat.le_of_ble_eq_true rfl)) dX8_byTurns_38 ⟨Nat.le_of_ble_eq_true rfl, Nat.le_of_ble_eq_true rfl⟩) hS (fun q _ h => hc_8.2.2 q h) hc_8.2.2 (fun u_8 t_8 H1 locs ht hvm h_8 hB hz1 hk1 hS => ?_)
        refine xl_1_3 hB (fun fan_8 hP1 hD1 hF_8_0 => ?_)
        clear hB
        rw [ht] at hP1
        obtain ⟨hP, hD⟩ := va_join (wr := [(xI m_wo cI 16 fw)]) (w1 := [(xo_8_rrriirrriiiiiiirrirrrrri mo m_la m_sz m_it ms mt m_st m_mv m_tp (nI mz) ml (nI mp) mk mv mb mw m_rd m_ac (nI ma) m_as m_wo m_ik m_ke m_tr (nI mx)), (xI m_st cI 38 fs), (xI m_as cI 38 fan_8)]) hP hD [0, 1, 2] [3] rfl rfl (by decide +kernel) (by decide +kernel) hk1 hc_8.2.2 hP1 hD1
        generalize H1 = H at hP hS ⊢
        have hP : va_P (dC, dI) vwCl [(xI m_wo cI 16 fw), (xo_8_rrriirrriiiiiiirrirrrrri mo m_la m_sz m_it ms mt m_st m_mv m_tp (nI mz) ml (nI mp) mk mv mb mw m_rd m_ac (nI ma) m_as m_wo m_ik m_ke m_tr (nI mx)), (xI m_st cI 38 fs), (xI m_as cI 38 fan_8)] H := hP
        have hD := dto hP hD
        have hA_8 := okM_eq hM hF_8_0
        obtain ⟨sh, hsh, hsb, hs4, hs5, hs6⟩ := shl8 j_2 (by omega)
        refine lv_bipush (v := 8) hx hb dX8_byTurns_41 (by decide) ?_
        refine lv_aload_n hx hb dX8_byTurns_43 rfl (lv_at hl 0 rfl) ?_
        refine va_get (D := (dC, dI)) (ci := 8) (v := .ref m_st) (C := RX8) (T := TX8) (N := 24) hx hb hts i_X8_byTurns_X8 hown hK hP 1 rfl rfl 5 (by decide) (hts _ mx_X8_byTurns_6) (fun _ h9 => h9) rfl dX8_byTurns_44 ?_
        refine lv_iconst (v := 5) hx hb dX8_byTurns_47 (by decide) ?_
        refine va_iald hx hb hK hP 2 0 rfl rfl (by unfold vp_in; decide) dX8_byTurns_48 ?_
        refine lv_topi (fun v_9 e_9 => ?_)
        obtain rfl : v_9 = (nI h9) := (e_9).trans hM.2.2.1
        refine lv_aload_n hx hb dX8_byTurns_49 rfl (lv_at hl 0 rfl) ?_
        refine va_get (D := (dC, dI)) (ci := 8) (v := .ref m_st) (C := RX8) (T := TX8) (N := 24) hx hb hts i_X8_byTurns_X8 hown hK hP 1 rfl rfl 5 (by decide) (hts _ mx_X8_byTurns_6) (fun _ h9 => h9) rfl dX8_byTurns_50 ?_
        refine lv_iconst (v := 3) hx hb dX8_byTurns_53 (by decide) ?_
        refine va_iald hx hb hK hP 2 0 rfl rfl (by unfold vp_in; decide) dX8_byTurns_54 ?_
        refine lv_topi (fun v_10 e_10 => ?_)
        obtain rfl : v_10 = (nI w9) := (e_10).trans hM.1
        refine lv_irem hx hb dX8_byTurns_55 (nI_ne0 (by omega) (by omega)) ?_
        refine lv_topi (fun v_11 e_11 => ?_)
        obtain ⟨z_11, hz_11, hze_11, rfl⟩ : ∃ z : Nat, z < w9 ∧ z = h9 % w9 ∧ v_11 = nI z := ⟨h9 % w9, Nat.mod_lt _ (by omega), rfl, e_11.trans (pk_rem (a := h9) (d := w9) (by omega) (by omega) (by omega))⟩
        refine lv_iadd hx hb dX8_byTurns_56 ?_
        refine lv_topi (fun v_12 e_12 => ?_)
        obtain rfl : v_12 = (nI (8 + z_11)) := (e_12).trans (nI_add 8 z_11)
        refine lv_istore_n (lv' := [(3, .int (nI (8 + z_11))), (0, .ref mo), (1, .int (nI j_2)), (2, .int (nI j_5))]) hx hb dX8_byTurns_57 rfl hl (by decide) rfl (fun ls hl => ?_)
        refine lv_iconst (v := 0) hx hb dX8_byTurns_58 (by decide) ?_
        refine lv_istore (lv' := [(4, .int 0), (3, .int (nI (8 + z_11))), (0, .ref mo), (1, .int (nI j_2)), (2, .int (nI j_5))]) hx hb dX8_byTurns_59 hl (by decide) rfl (fun ls hl => ?_)
        refine lp_go (σ := (Nat → Int32) × (Nat → Int32)) (fun ii (st : (Nat → Int32) × (Nat → Int32)) H locs ls => match st with | (w_113, w_114) => lv_has ls 8 [(4, .int (nI ii)), (3, .int (nI (8 + z_11))), (0, .ref mo), (1, .int (nI j_2)), (2, .int (nI j_5))] ∧ va_P (dC, dI) vwCl [(xI m_wo cI 16 w_113), (xo_8_rrriirrriiiiiiirrirrrrri mo m_la m_sz m_it ms mt m_st m_mv m_tp (nI mz) ml (nI mp) mk mv mb mw m_rd m_ac (nI ma) m_as m_wo m_ik m_ke m_tr (nI mx)), (xI m_st cI 38 w_114), (xI m_as cI 38 fan_8)] H ∧ va_D A [(xI m_wo cI 16 w_113), (xo_8_rrriirrriiiiiiirrirrrrri mo m_la m_sz m_it ms mt m_st m_mv m_tp (nI mz) ml (nI mp) mk mv mb mw m_rd m_ac (nI ma) m_as m_wo m_ik m_ke m_tr (nI mx)), (xI m_st cI 38 w_114), (xI m_as cI 38 fan_8)] ∧ va_S A s.heap H locs ∧ okM w_114 w9 k9 h9 ∧ (m38 w_114 = m38 fs)) sh ?_ ?_ 0 (by omega) (fw, fs) ⟨lv_sub hl [0, 1, 2, 3, 4] rfl, hP.sub (ws' := [(xI m_wo cI 16 fw), (xo_8_rrriirrriiiiiiirrirrrrri mo m_la m_sz m_it ms mt m_st m_mv m_tp (nI mz) ml (nI mp) mk mv mb mw m_rd m_ac (nI ma) m_as m_wo m_ik m_ke m_tr (nI mx)), (xI m_st cI 38 fs), (xI m_as cI 38 fan_8)]) [0, 1, 2, 3] rfl, hD.sub (ws' := [(xI m_wo cI 16 fw), (xo_8_rrriirrriiiiiiirrirrrrri mo m_la m_sz m_it ms mt m_st m_mv m_tp (nI mz) ml (nI mp) mk mv mb mw m_rd m_ac (nI ma) m_as m_wo m_ik m_ke m_tr (nI mx)), (xI m_st cI 38 fs), (xI m_as cI 38 fan_8)]) [0, 1, 2, 3] (by decide +kernel) rfl, hS, hM, rfl⟩
        · rintro ii ⟨w_113, w_114⟩ H locs ls hii ⟨hl, hP, hD, hS, hMl, haf_0⟩ ih
          refine lv_iload hx hb dX8_byTurns_61 (lv_at hl 0 rfl) ?_
          refine lv_iconst (v := 1) hx hb dX8_byTurns_63 (by decide) ?_
          refine lv_iload_n hx hb dX8_byTurns_64 rfl (lv_at hl 3 rfl) ?_
          refine lv_ishl hx hb dX8_byTurns_65 ?_
          refine lv_topi (fun v_217 e_217 => ?_)
          obtain rfl : v_217 = (nI sh) := (e_217).trans hsh
          refine lv_icmp_ge (tgt := 189) hx hb dX8_byTurns_66 (by decide) (fun c_ => absurd c_ (fun q_ => absurd ((nI_leI (a := sh) (b := ii) (by omega) (by omega)).mp q_) (by omega))) (fun _ => ?_)
          refine lv_iconst (v := 0) hx hb dX8_byTurns_69 (by decide) ?_
          refine lv_istore (lv' := [(5, .int 0), (4, .int (nI ii)), (3, .int (nI (8 + z_11))), (0, .ref mo), (1, .int (nI j_2)), (2, .int (nI j_5))]) hx hb dX8_byTurns_70 hl (by decide) rfl (fun ls hl => ?_)
          refine lp_go (σ := (Nat → Int32)) (fun ii1 (st : (Nat → Int32)) H locs ls => match st with | w_250 => lv_has ls 8 [(5, .int (nI ii1)), (4, .int (nI ii)), (3, .int (nI (8 + z_11))), (0, .ref mo), (1, .int (nI j_2)), (2, .int (nI j_5))] ∧ va_P (dC, dI) vwCl [(xI m_wo cI 16 w_113), (xo_8_rrriirrriiiiiiirrirrrrri mo m_la m_sz m_it ms mt m_st m_mv m_tp (nI mz) ml (nI mp) mk mv mb mw m_rd m_ac (nI ma) m_as m_wo m_ik m_ke m_tr (nI mx)), (xI m_st cI 38 w_250), (xI m_as cI 38 fan_8)] H ∧ va_D A [(xI m_wo cI 16 w_113), (xo_8_rrriirrriiiiiiirrirrrrri mo m_la m_sz m_it ms mt m_st m_mv m_tp (nI mz) ml (nI mp) mk mv mb mw m_rd m_ac (nI ma) m_as m_wo m_ik m_ke m_tr (nI mx)), (xI m_st cI 38 w_250), (xI m_as cI 38 fan_8)] ∧ va_S A s.heap H locs ∧ okM w_250 w9 k9 h9) j_2 ?_ ?_ 0 (by omega) (w_114) ⟨lv_sub hl [0, 1, 2, 3, 4, 5] rfl, hP.sub (ws' := [(xI m_wo cI 16 w_113), (xo_8_rrriirrriiiiiiirrirrrrri mo m_la m_sz m_it ms mt m_st m_mv m_tp (nI mz) ml (nI mp) mk mv mb mw m_rd m_ac (nI ma) m_as m_wo m_ik m_ke m_tr (nI mx)), (xI m_st cI 38 w_114), (xI m_as cI 38 fan_8)]) [0, 1, 2, 3] rfl, hD.sub (ws' := [(xI m_wo cI 16 w_113), (xo_8_rrriirrriiiiiiirrirrrrri mo m_la m_sz m_it ms mt m_st m_mv m_tp (nI mz) ml (nI mp) mk mv mb mw m_rd m_ac (nI ma) m_as m_wo m_ik m_ke m_tr (nI mx)), (xI m_st cI 38 w_114), (xI m_as cI 38 fan_8)]) [0, 1, 2, 3] (by decide +kernel) rfl, hS, hMl⟩
          · rintro ii1 w_250 H locs ls hii1 ⟨hl, hP, hD, hS, hMl⟩ ih
            refine lv_iload hx hb dX8_byTurns_72 (lv_at hl 0 rfl) ?_
            refine lv_iload_n hx hb dX8_byTurns_74 rfl (lv_at hl 4 rfl) ?_
            refine lv_icmp_ge (tgt := 171) hx hb dX8_byTurns_75 (by decide) (fun c_ => absurd c_ (fun q_ => absurd ((nI_leI (a := j_2) (b := ii1) (by omega) (by omega)).mp q_) (by omega))) (fun _ => ?_)
            refine lv_iload hx hb dX8_byTurns_78 (lv_at hl 1 rfl) ?_
            refine lv_iload_n hx hb dX8_byTurns_80 rfl (lv_at hl 4 rfl) ?_
            refine lv_iconst (v := 1) hx hb dX8_byTurns_81 (by decide) ?_
            refine lv_isub hx hb dX8_byTurns_82 ?_
            refine lv_topi (fun v_284 e_284 => ?_)
            refine lv_iload hx hb dX8_byTurns_83 (lv_at hl 0 rfl) ?_
            refine lv_isub hx hb dX8_byTurns_85 ?_
            refine lv_topi (fun v_285 e_285 => ?_)
            have hPc_286 := hP.sub (ws' := []) [] rfl
            refine vp_callSi (W.runS (As := [.int (nI ii), .int v_285]) (rest := []) ⟨hx, hb, hml, hown, hts⟩ (r_X8_has l dC dI cI cZ cL cJ (nI ii) v_285 ) (va_cwS 2 hts gX8_byTurns_X8_has rfl rfl rfl (by decide +kernel) ⟨Nat.le_of_ble_eq_true rfl, Nat.le_of_ble_eq_true rfl⟩) (psP hK hPc_286) rfl rfl hl.1 rfl (lv_room (Nat.le_of_ble_eq_true rfl)) dX8_byTurns_86 ⟨Nat.le_of_ble_eq_true rfl, Nat.le_of_ble_eq_true rfl⟩) (fun r_286 h_286 => ?_)
            rcases h_286 with ⟨h_286, f_286_0_0⟩ | ⟨h_286, f_286_1_0⟩
            · subst h_286
              refine lv_istore (lv' := [(6, .int 0), (5, .int (nI ii1)), (4, .int (nI ii)), (3, .int (nI (8 + z_11))), (0, .ref mo), (1, .int (nI j_2)), (2, .int (nI j_5))]) hx hb dX8_byTurns_89 hl (by decide) rfl (fun ls hl => ?_)
              refine lv_aload_n hx hb dX8_byTurns_91 rfl (lv_at hl 4 rfl) ?_
              refine va_get (D := (dC, dI)) (ci := 8) (v := .ref m_st) (C := RX8) (T := TX8) (N := 24) hx hb hts i_X8_byTurns_X8 hown hK hP 1 rfl rfl 5 (by decide) (hts _ mx_X8_byTurns_6) (fun _ h9 => h9) rfl dX8_byTurns_92 ?_
              refine lv_bipush (v := 6) hx hb dX8_byTurns_95 (by decide) ?_
              refine lv_iload hx hb dX8_byTurns_97 (lv_at hl 0 rfl) ?_
              refine lv_if_eq (tgt := 121) hx hb dX8_byTurns_99 (by decide) (fun _ => ?_) (fun c_ => absurd (by decide) c_)
              refine lv_aload_n hx hb dX8_byTurns_121 rfl (lv_at hl 4 rfl) ?_
              refine va_get (D := (dC, dI)) (ci := 8) (v := .ref m_st) (C := RX8) (T := TX8) (N := 24) hx hb hts i_X8_byTurns_X8 hown hK hP 1 rfl rfl 5 (by decide) (hts _ mx_X8_byTurns_6) (fun _ h9 => h9) rfl dX8_byTurns_122 ?_
              refine lv_bipush (v := 6) hx hb dX8_byTurns_125 (by decide) ?_
              refine va_iald hx hb hK hP 2 0 rfl rfl (by unfold vp_in; decide) dX8_byTurns_127 ?_
              refine lv_topi (fun v_288 e_288 => ?_)
              refine va_iast hx hb hK hP hD hS 2 0 rfl rfl (by unfold vp_in; decide) dX8_byTurns_128 (fun H locs hP hD hS => ?_)
              generalize hg_289 : upd w_250 (6 : Int32).toNatClampNeg v_288 = g_289 at hP hD
              have hM_289 : okM g_289 w9 k9 h9 := okM_off (i := 6) hMl hg_289 (by omega) (by omega) (by omega) (by omega) (by omega)
              have hP : va_P (dC, dI) vwCl [(xI m_wo cI 16 w_113), (xo_8_rrriirrriiiiiiirrirrrrri mo m_la m_sz m_it ms mt m_st m_mv m_tp (nI mz) ml (nI mp) mk mv mb mw m_rd m_ac (nI ma) m_as m_wo m_ik m_ke m_tr (nI mx)), (xI m_st cI 38 g_289), (xI m_as cI 38 fan_8)] H := hP
              have hD := dto hP hD
              refine lv_aload_n hx hb dX8_byTurns_129 rfl (lv_at hl 4 rfl) ?_
              refine va_get (D := (dC, dI)) (ci := 8) (v := .ref m_st) (C := RX8) (T := TX8) (N := 24) hx hb hts i_X8_byTurns_X8 hown hK hP 1 rfl rfl 5 (by decide) (hts _ mx_X8_byTurns_6) (fun _ h9 => h9) rfl dX8_byTurns_130 ?_
              refine lv_iload_n hx hb dX8_byTurns_133 rfl (lv_at hl 3 rfl) ?_
              refine lv_iload hx hb dX8_byTurns_134 (lv_at hl 0 rfl) ?_
              refine lv_if_eq (tgt := 158) hx hb dX8_byTurns_136 (by decide) (fun _ => ?_) (fun c_ => absurd (by decide) c_)
              refine lv_aload_n hx hb dX8_byTurns_158 rfl (lv_at hl 4 rfl) ?_
              refine va_get (D := (dC, dI)) (ci := 8) (v := .ref m_st) (C := RX8) (T := TX8) (N := 24) hx hb hts i_X8_byTurns_X8 hown hK hP 1 rfl rfl 5 (by decide) (hts _ mx_X8_byTurns_6) (fun _ h9 => h9) rfl dX8_byTurns_159 ?_
              refine lv_iload_n hx hb dX8_byTurns_162 rfl (lv_at hl 3 rfl) ?_
              refine va_iald hx hb hK hP 2 0 rfl rfl (vp_in_nI (by omega) (by omega)) dX8_byTurns_163 ?_
              refine lv_topi (fun v_291 e_291 => ?_)
              refine va_iast hx hb hK hP hD hS 2 0 rfl rfl (vp_in_nI (by omega) (by omega)) dX8_byTurns_164 (fun H locs hP hD hS => ?_)
              generalize hg_292 : upd g_289 ((nI (8 + z_11)) : Int32).toNatClampNeg v_291 = g_292 at hP hD
              have hM_292 : okM g_292 w9 k9 h9 := okM_off (i := (8 + z_11)) hM_289 hg_292 (by omega) (by omega) (by omega) (by omega) (by omega)
              have hP : va_P (dC, dI) vwCl [(xI m_wo cI 16 w_113), (xo_8_rrriirrriiiiiiirrirrrrri mo m_la m_sz m_it ms mt m_st m_mv m_tp (nI mz) ml (nI mp) mk mv mb mw m_rd m_ac (nI ma) m_as m_wo m_ik m_ke m_tr (nI mx)), (xI m_st cI 38 g_292), (xI m_as cI 38 fan_8)] H := hP
              have hD := dto hP hD
              refine lv_iinc (v := (nI (ii1 + 1))) (lv' := [(5, .int (nI (ii1 + 1))), (6, .int 0), (4, .int (nI ii)), (3, .int (nI (8 + z_11))), (0, .ref mo), (1, .int (nI j_2)), (2, .int (nI j_5))]) hx hb dX8_byTurns_165 hl (k := 1) rfl (nI_add ii1 1) (by decide) rfl (fun ls hl => ?_)
              refine lv_goto (tgt := 72) hx hb dX8_byTurns_168 (by decide) ?_
              exact ih (g_292) _ _ _ ⟨lv_sub hl [0, 2, 3, 4, 5, 6] rfl, hP.sub (ws' := [(xI m_wo cI 16 w_113), (xo_8_rrriirrriiiiiiirrirrrrri mo m_la m_sz m_it ms mt m_st m_mv m_tp (nI mz) ml (nI mp) mk mv mb mw m_rd m_ac (nI ma) m_as m_wo m_ik m_ke m_tr (nI mx)), (xI m_st cI 38 g_292), (xI m_as cI 38 fan_8)]) [0, 1, 2, 3] rfl, hD.sub (ws' := [(xI m_wo cI 16 w_113), (xo_8_rrriirrriiiiiiirrirrrrri mo m_la m_sz m_it ms mt m_st m_mv m_tp (nI mz) ml (nI mp) mk mv mb mw m_rd m_ac (nI ma) m_as m_wo m_ik m_ke m_tr (nI mx)), (xI m_st cI 38 g_292), (xI m_as cI 38 fan_8)]) [0, 1, 2, 3] (by decide +kernel) rfl, hS, hM_292⟩
            · subst h_286
              refine lv_istore (lv' := [(6, .int 1), (5, .int (nI ii1)), (4, .int (nI ii)), (3, .int (nI (8 + z_11))), (0, .ref mo), (1, .int (nI j_2)), (2, .int (nI j_5))]) hx hb dX8_byTurns_89 hl (by decide) rfl (fun ls hl => ?_)
              refine lv_aload_n hx hb dX8_byTurns_91 rfl (lv_at hl 4 rfl) ?_
              refine va_get (D := (dC, dI)) (ci := 8) (v := .ref m_st) (C := RX8) (T := TX8) (N := 24) hx hb hts i_X8_byTurns_X8 hown hK hP 1 rfl rfl 5 (by decide) (hts _ mx_X8_byTurns_6) (fun _ h9 => h9) rfl dX8_byTurns_92 ?_
              refine lv_bipush (v := 6) hx hb dX8_byTurns_95 (by decide) ?_
              refine lv_iload hx hb dX8_byTurns_97 (lv_at hl 0 rfl) ?_
              refine lv_if_eq (tgt := 121) hx hb dX8_byTurns_99 (by decide) (fun c_ => absurd c_ (by decide)) (fun _ => ?_)
              refine lv_iload hx hb dX8_byTurns_102 (lv_at hl 1 rfl) ?_
              refine lv_iconst (v := 2) hx hb dX8_byTurns_104 (by decide) ?_
              refine lv_irem hx hb dX8_byTurns_105 (by decide) ?_
              refine lv_topi (fun v_294 e_294 => ?_)
              obtain ⟨z_294, hz_294, hze_294, rfl⟩ : ∃ z : Nat, z < 2 ∧ z = ii1 % 2 ∧ v_294 = nI z := ⟨ii1 % 2, Nat.mod_lt _ (by omega), rfl, e_294.trans (pk_rem (a := ii1) (d := 2) (by omega) (by omega) (by omega))⟩
              refine jn (σ := (Int32)) (fun (st : (Int32)) H locs g => match st with | w_299 => ∃ ls : Array Slot, g = F0 m 128 ls [.int w_299, .int 6, .ref m_st] ∧ lv_has ls 8 [(6, .int 1), (5, .int (nI ii1)), (4, .int (nI ii)), (3, .int (nI (8 + z_11))), (0, .ref mo), (1, .int (nI j_2)), (2, .int (nI j_5))] ∧ va_P (dC, dI) vwCl [(xI m_wo cI 16 w_113), (xo_8_rrriirrriiiiiiirrirrrrri mo m_la m_sz m_it ms mt m_st m_mv m_tp (nI mz) ml (nI mp) mk mv mb mw m_rd m_ac (nI ma) m_as m_wo m_ik m_ke m_tr (nI mx)), (xI m_st cI 38 w_250), (xI m_as cI 38 fan_8)] H ∧ va_D A [(xI m_wo cI 16 w_113), (xo_8_rrriirrriiiiiiirrirrrrri mo m_la m_sz m_it ms mt m_st m_mv m_tp (nI mz) ml (nI mp) mk mv mb mw m_rd m_ac (nI ma) m_as m_wo m_ik m_ke m_tr (nI mx)), (xI m_st cI 38 w_250), (xI m_as cI 38 fan_8)] ∧ va_S A s.heap H locs ∧ okM w_250 w9 k9 h9) ?_ ?_
              · rintro w_299 H locs _ ⟨ls, rfl, hl, hP, hD, hS, hMl⟩
                refine va_iast hx hb hK hP hD hS 2 0 rfl rfl (by unfold vp_in; decide) dX8_byTurns_128 (fun H locs hP hD hS => ?_)
                generalize hg_301 : upd w_250 (6 : Int32).toNatClampNeg w_299 = g_301 at hP hD
                have hM_301 : okM g_301 w9 k9 h9 := okM_off (i := 6) hMl hg_301 (by omega) (by omega) (by omega) (by omega) (by omega)
                have hP : va_P (dC, dI) vwCl [(xI m_wo cI 16 w_113), (xo_8_rrriirrriiiiiiirrirrrrri mo m_la m_sz m_it ms mt m_st m_mv m_tp (nI mz) ml (nI mp) mk mv mb mw m_rd m_ac (nI ma) m_as m_wo m_ik m_ke m_tr (nI mx)), (xI m_st cI 38 g_301), (xI m_as cI 38 fan_8)] H := hP
                have hD := dto hP hD
                refine lv_aload_n hx hb dX8_byTurns_129 rfl (lv_at hl 4 rfl) ?_
                refine va_get (D := (dC, dI)) (ci := 8) (v := .ref m_st) (C := RX8) (T := TX8) (N := 24) hx hb hts i_X8_byTurns_X8 hown hK hP 1 rfl rfl 5 (by decide) (hts _ mx_X8_byTurns_6) (fun _ h9 => h9) rfl dX8_byTurns_130 ?_
                refine lv_iload_n hx hb dX8_byTurns_133 rfl (lv_at hl 3 rfl) ?_
                refine lv_iload hx hb dX8_byTurns_134 (lv_at hl 0 rfl) ?_
                refine lv_if_eq (tgt := 158) hx hb dX8_byTurns_136 (by decide) (fun c_ => absurd c_ (by decide)) (fun _ => ?_)
                refine lv_iload hx hb dX8_byTurns_139 (lv_at hl 1 rfl) ?_
                refine lv_iconst (v := 2) hx hb dX8_byTurns_141 (by decide) ?_
                refine lv_irem hx hb dX8_byTurns_142 (by decide) ?_
                refine lv_topi (fun v_303 e_303 => ?_)
                obtain ⟨z_303, hz_303, hze_303, rfl⟩ : ∃ z : Nat, z < 2 ∧ z = ii1 % 2 ∧ v_303 = nI z := ⟨ii1 % 2, Nat.mod_lt _ (by omega), rfl, e_303.trans (pk_rem (a := ii1) (d := 2) (by omega) (by omega) (by omega))⟩
                refine lv_iconst (v := 1) hx hb dX8_byTurns_143 (by decide) ?_
                refine lv_icmp_ne (tgt := 158) hx hb dX8_byTurns_144 (by decide) (fun c_304 => ?_) (fun c_304 => ?_)
                · have c_304 : ¬ (z_303 = 1) := fun q_ => c_304 ((nI_eq (a := z_303) (b := 1) (by omega) (by omega)).mpr q_)
                  refine lv_aload_n hx hb dX8_byTurns_158 rfl (lv_at hl 4 rfl) ?_
                  refine va_get (D := (dC, dI)) (ci := 8) (v := .ref m_st) (C := RX8) (T := TX8) (N := 24) hx hb hts i_X8_byTurns_X8 hown hK hP 1 rfl rfl 5 (by decide) (hts _ mx_X8_byTurns_6) (fun _ h9 => h9) rfl dX8_byTurns_159 ?_
                  refine lv_iload_n hx hb dX8_byTurns_162 rfl (lv_at hl 3 rfl) ?_
                  refine va_iald hx hb hK hP 2 0 rfl rfl (vp_in_nI (by omega) (by omega)) dX8_byTurns_163 ?_
                  refine lv_topi (fun v_305 e_305 => ?_)
                  refine va_iast hx hb hK hP hD hS 2 0 rfl rfl (vp_in_nI (by omega) (by omega)) dX8_byTurns_164 (fun H locs hP hD hS => ?_)
                  generalize hg_306 : upd g_301 ((nI (8 + z_11)) : Int32).toNatClampNeg v_305 = g_306 at hP hD
                  have hM_306 : okM g_306 w9 k9 h9 := okM_off (i := (8 + z_11)) hM_301 hg_306 (by omega) (by omega) (by omega) (by omega) (by omega)
                  have hP : va_P (dC, dI) vwCl [(xI m_wo cI 16 w_113), (xo_8_rrriirrriiiiiiirrirrrrri mo m_la m_sz m_it ms mt m_st m_mv m_tp (nI mz) ml (nI mp) mk mv mb mw m_rd m_ac (nI ma) m_as m_wo m_ik m_ke m_tr (nI mx)), (xI m_st cI 38 g_306), (xI m_as cI 38 fan_8)] H := hP
                  have hD := dto hP hD
                  refine lv_iinc (v := (nI (ii1 + 1))) (lv' := [(5, .int (nI (ii1 + 1))), (6, .int 1), (4, .int (nI ii)), (3, .int (nI (8 + z_11))), (0, .ref mo), (1, .int (nI j_2)), (2, .int (nI j_5))]) hx hb dX8_byTurns_165 hl (k := 1) rfl (nI_add ii1 1) (by decide) rfl (fun ls hl => ?_)
                  refine lv_goto (tgt := 72) hx hb dX8_byTurns_168 (by decide) ?_
                  exact ih (g_306) _ _ _ ⟨lv_sub hl [0, 2, 3, 4, 5, 6] rfl, hP.sub (ws' := [(xI m_wo cI 16 w_113), (xo_8_rrriirrriiiiiiirrirrrrri mo m_la m_sz m_it ms mt m_st m_mv m_tp (nI mz) ml (nI mp) mk mv mb mw m_rd m_ac (nI ma) m_as m_wo m_ik m_ke m_tr (nI mx)), (xI m_st cI 38 g_306), (xI m_as cI 38 fan_8)]) [0, 1, 2, 3] rfl, hD.sub (ws' := [(xI m_wo cI 16 w_113), (xo_8_rrriirrriiiiiiirrirrrrri mo m_la m_sz m_it ms mt m_st m_mv m_tp (nI mz) ml (nI mp) mk mv mb mw m_rd m_ac (nI ma) m_as m_wo m_ik m_ke m_tr (nI mx)), (xI m_st cI 38 g_306), (xI m_as cI 38 fan_8)]) [0, 1, 2, 3] (by decide +kernel) rfl, hS, hM_306⟩
                · have c_304 : z_303 = 1 := (nI_eq (a := z_303) (b := 1) (by omega) (by omega)).mp c_304
                  refine lv_iconst (v := 4) hx hb dX8_byTurns_147 (by decide) ?_
                  refine lv_aload_n hx hb dX8_byTurns_148 rfl (lv_at hl 4 rfl) ?_
                  refine va_get (D := (dC, dI)) (ci := 8) (v := .ref m_st) (C := RX8) (T := TX8) (N := 24) hx hb hts i_X8_byTurns_X8 hown hK hP 1 rfl rfl 5 (by decide) (hts _ mx_X8_byTurns_6) (fun _ h9 => h9) rfl dX8_byTurns_149 ?_
                  refine lv_iload_n hx hb dX8_byTurns_152 rfl (lv_at hl 3 rfl) ?_
                  refine va_iald hx hb hK hP 2 0 rfl rfl (vp_in_nI (by omega) (by omega)) dX8_byTurns_153 ?_
                  refine lv_topi (fun v_307 e_307 => ?_)
                  refine lv_isub hx hb dX8_byTurns_154 ?_
                  refine lv_topi (fun v_308 e_308 => ?_)
                  refine lv_goto (tgt := 164) hx hb dX8_byTurns_155 (by decide) ?_
                  refine va_iast hx hb hK hP hD hS 2 0 rfl rfl (vp_in_nI (by omega) (by omega)) dX8_byTurns_164 (fun H locs hP hD hS => ?_)
                  generalize hg_309 : upd g_301 ((nI (8 + z_11)) : Int32).toNatClampNeg v_308 = g_309 at hP hD
                  have hM_309 : okM g_309 w9 k9 h9 := okM_off (i := (8 + z_11)) hM_301 hg_309 (by omega) (by omega) (by omega) (by omega) (by omega)
                  have hP : va_P (dC, dI) vwCl [(xI m_wo cI 16 w_113), (xo_8_rrriirrriiiiiiirrirrrrri mo m_la m_sz m_it ms mt m_st m_mv m_tp (nI mz) ml (nI mp) mk mv mb mw m_rd m_ac (nI ma) m_as m_wo m_ik m_ke m_tr (nI mx)), (xI m_st cI 38 g_309), (xI m_as cI 38 fan_8)] H := hP
                  have hD := dto hP hD
                  refine lv_iinc (v := (nI (ii1 + 1))) (lv' := [(5, .int (nI (ii1 + 1))), (6, .int 1), (4, .int (nI ii)), (3, .int (nI (8 + z_11))), (0, .ref mo), (1, .int (nI j_2)), (2, .int (nI j_5))]) hx hb dX8_byTurns_165 hl (k := 1) rfl (nI_add ii1 1) (by decide) rfl (fun ls hl => ?_)
                  refine lv_goto (tgt := 72) hx hb dX8_byTurns_168 (by decide) ?_
                  exact ih (g_309) _ _ _ ⟨lv_sub hl [0, 2, 3, 4, 5, 6] rfl, hP.sub (ws' := [(xI m_wo cI 16 w_113), (xo_8_rrriirrriiiiiiirrirrrrri mo m_la m_sz m_it ms mt m_st m_mv m_tp (nI mz) ml (nI mp) mk mv mb mw m_rd m_ac (nI ma) m_as m_wo m_ik m_ke m_tr (nI mx)), (xI m_st cI 38 g_309), (xI m_as cI 38 fan_8)]) [0, 1, 2, 3] rfl, hD.sub (ws' := [(xI m_wo cI 16 w_113), (xo_8_rrriirrriiiiiiirrirrrrri mo m_la m_sz m_it ms mt m_st m_mv m_tp (nI mz) ml (nI mp) mk mv mb mw m_rd m_ac (nI ma) m_as m_wo m_ik m_ke m_tr (nI mx)), (xI m_st cI 38 g_309), (xI m_as cI 38 fan_8)]) [0, 1, 2, 3] (by decide +kernel) rfl, hS, hM_309⟩
              · intro jk_300
                refine lv_if_ne (tgt := 121) hx hb dX8_byTurns_106 (by decide) (fun c_310 => ?_) (fun c_310 => ?_)
                · have c_310 : ¬ (z_294 = 0) := fun q_ => c_310 ((nI_eq (a := z_294) (b := 0) (by omega) (by omega)).mpr q_)
                  refine lv_aload_n hx hb dX8_byTurns_121 rfl (lv_at hl 4 rfl) ?_
                  refine va_get (D := (dC, dI)) (ci := 8) (v := .ref m_st) (C := RX8) (T := TX8) (N := 24) hx hb hts i_X8_byTurns_X8 hown hK hP 1 rfl rfl 5 (by decide) (hts _ mx_X8_byTurns_6) (fun _ h9 => h9) rfl dX8_byTurns_122 ?_
                  refine lv_bipush (v := 6) hx hb dX8_byTurns_125 (by decide) ?_
                  refine va_iald hx hb hK hP 2 0 rfl rfl (by unfold vp_in; decide) dX8_byTurns_127 ?_
                  refine lv_topi (fun v_311 e_311 => ?_)
                  exact jk_300 (v_311) _ _ _ ⟨ls, rfl, lv_sub hl [0, 1, 2, 3, 4, 5, 6] rfl, hP.sub (ws' := [(xI m_wo cI 16 w_113), (xo_8_rrriirrriiiiiiirrirrrrri mo m_la m_sz m_it ms mt m_st m_mv m_tp (nI mz) ml (nI mp) mk mv mb mw m_rd m_ac (nI ma) m_as m_wo m_ik m_ke m_tr (nI mx)), (xI m_st cI 38 w_250), (xI m_as cI 38 fan_8)]) [0, 1, 2, 3] rfl, hD.sub (ws' := [(xI m_wo cI 16 w_113), (xo_8_rrriirrriiiiiiirrirrrrri mo m_la m_sz m_it ms mt m_st m_mv m_tp (nI mz) ml (nI mp) mk mv mb mw m_rd m_ac (nI ma) m_as m_wo m_ik m_ke m_tr (nI mx)), (xI m_st cI 38 w_250), (xI m_as cI 38 fan_8)]) [0, 1, 2, 3] (by decide +kernel) rfl, hS, hMl⟩
                · have c_310 : z_294 = 0 := (nI_eq (a := z_294) (b := 0) (by omega) (by omega)).mp c_310
                  refine lv_iconst (v := 1) hx hb dX8_byTurns_109 (by decide) ?_
                  refine lv_aload_n hx hb dX8_byTurns_110 rfl (lv_at hl 4 rfl) ?_
                  refine va_get (D := (dC, dI)) (ci := 8) (v := .ref m_st) (C := RX8) (T := TX8) (N := 24) hx hb hts i_X8_byTurns_X8 hown hK hP 1 rfl rfl 5 (by decide) (hts _ mx_X8_byTurns_6) (fun _ h9 => h9) rfl dX8_byTurns_111 ?_
                  refine lv_bipush (v := 6) hx hb dX8_byTurns_114 (by decide) ?_
                  refine va_iald hx hb hK hP 2 0 rfl rfl (by unfold vp_in; decide) dX8_byTurns_116 ?_
                  refine lv_topi (fun v_312 e_312 => ?_)
                  refine lv_isub hx hb dX8_byTurns_117 ?_
                  refine lv_topi (fun v_313 e_313 => ?_)
                  refine lv_goto (tgt := 128) hx hb dX8_byTurns_118 (by decide) ?_
                  exact jk_300 (v_313) _ _ _ ⟨ls, rfl, lv_sub hl [0, 1, 2, 3, 4, 5, 6] rfl, hP.sub (ws' := [(xI m_wo cI 16 w_113), (xo_8_rrriirrriiiiiiirrirrrrri mo m_la m_sz m_it ms mt m_st m_mv m_tp (nI mz) ml (nI mp) mk mv mb mw m_rd m_ac (nI ma) m_as m_wo m_ik m_ke m_tr (nI mx)), (xI m_st cI 38 w_250), (xI m_as cI 38 fan_8)]) [0, 1, 2, 3] rfl, hD.sub (ws' := [(xI m_wo cI 16 w_113), (xo_8_rrriirrriiiiiiirrirrrrri mo m_la m_sz m_it ms mt m_st m_mv m_tp (nI mz) ml (nI mp) mk mv mb mw m_rd m_ac (nI ma) m_as m_wo m_ik m_ke m_tr (nI mx)), (xI m_st cI 38 w_250), (xI m_as cI 38 fan_8)]) [0, 1, 2, 3] (by decide +kernel) rfl, hS, hMl⟩
          · rintro w_250 H locs ls ⟨hl, hP, hD, hS, hMl⟩
            refine lv_iload hx hb dX8_byTurns_72 (lv_at hl 0 rfl) ?_
            refine lv_iload_n hx hb dX8_byTurns_74 rfl (lv_at hl 4 rfl) ?_
            refine lv_icmp_ge (tgt := 171) hx hb dX8_byTurns_75 (by decide) (fun _ => ?_) (fun c_ => absurd ((nI_leI (a := j_2) (b := j_2) (by omega) (by omega)).mpr (by omega)) c_)
            refine lv_aload_n hx hb dX8_byTurns_171 rfl (lv_at hl 3 rfl) ?_
            refine va_get (D := (dC, dI)) (ci := 8) (v := .ref m_wo) (C := RX8) (T := TX8) (N := 24) hx hb hts i_X8_byTurns_X8 hown hK hP 1 rfl rfl 19 (by decide) (hts _ mx_X8_byTurns_7) (fun _ h9 => h9) rfl dX8_byTurns_172 ?_
            refine lv_iload hx hb dX8_byTurns_175 (lv_at hl 1 rfl) ?_
            refine lv_aload_n hx hb dX8_byTurns_177 rfl (lv_at hl 3 rfl) ?_
            refine lv_iload_n hx hb dX8_byTurns_178 rfl (lv_at hl 5 rfl) ?_
            have hc_315 := cutW (wc := [(xo_8_rrriirrriiiiiiirrirrrrri mo m_la m_sz m_it ms mt m_st m_mv m_tp (nI mz) ml (nI mp) mk mv mb mw m_rd m_ac (nI ma) m_as m_wo m_ik m_ke m_tr (nI mx)), (xI m_st cI 38 w_250), (xI m_as cI 38 fan_8)]) hP hD hS hA [1, 2, 3] (by decide +kernel) rfl
            refine va_calli (va_runV (As := [.int (nI j_5)]) (rest := [.int (nI ii), .ref m_wo]) ⟨hx, hb, hml, hown, hts⟩ (r_X8_mealBehind l dC dI cI cZ cL cJ H.size mo m_la m_sz m_it m_st m_mv m_tp m_rd m_ac m_as m_wo m_ik m_ke m_tr ms mt ml mk mv mb mw mz mp ma mx w_250 w9 k9 h9 fan_8 j_5 (hMl) (by omega) (by omega) (by omega)) (cwV 1 hts gX8_byTurns_X8_mealBehind rfl rfl rfl (by decide +kernel) ⟨Nat.le_of_ble_eq_true rfl, Nat.le_of_ble_eq_true rfl⟩) (pvW 8 1 hK hP rfl rfl hc_315) rfl rfl hl.1 rfl (lv_room (Nat.le_of_ble_eq_true rfl)) dX8_byTurns_179 ⟨Nat.le_of_ble_eq_true rfl, Nat.le_of_ble_eq_true rfl⟩) hS (fun q _ h => hc_315.2.2 q h) hc_315.2.2 (fun r_315 u_315 t_315 H1 locs ht hvm h_315 hB hz1 hk1 hS => ?_)
            refine xl_1_3 hB (fun fsn_315 hP1 hD1 hF_315_0 => ?_)
            clear hB
            rw [ht] at hP1
            obtain ⟨hP, hD⟩ := va_join (wr := [(xI m_wo cI 16 w_113)]) (w1 := [(xo_8_rrriirrriiiiiiirrirrrrri mo m_la m_sz m_it ms mt m_st m_mv m_tp (nI mz) ml (nI mp) mk mv mb mw m_rd m_ac (nI ma) m_as m_wo m_ik m_ke m_tr (nI mx)), (xI m_st cI 38 fsn_315), (xI m_as cI 38 fan_8)]) hP hD [1, 2, 3] [0] rfl rfl (by decide +kernel) (by decide +kernel) hk1 hc_315.2.2 hP1 hD1
            generalize H1 = H at hP hS ⊢
            have hP : va_P (dC, dI) vwCl [(xI m_wo cI 16 w_113), (xo_8_rrriirrriiiiiiirrirrrrri mo m_la m_sz m_it ms mt m_st m_mv m_tp (nI mz) ml (nI mp) mk mv mb mw m_rd m_ac (nI ma) m_as m_wo m_ik m_ke m_tr (nI mx)), (xI m_st cI 38 fsn_315), (xI m_as cI 38 fan_8)] H := hP
            have hD := dto hP hD
            have hT_315 := okM_eq hA_8 hF_315_0
            refine va_iast hx hb hK hP hD hS 0 0 rfl rfl (vp_in_nI (by omega) (by omega)) dX8_byTurns_182 (fun H locs hP hD hS => ?_)
            generalize hg_316 : upd w_113 ((nI ii) : Int32).toNatClampNeg r_315 = g_316 at hP hD
            have hP : va_P (dC, dI) vwCl [(xI m_wo cI 16 g_316), (xo_8_rrriirrriiiiiiirrirrrrri mo m_la m_sz m_it ms mt m_st m_mv m_tp (nI mz) ml (nI mp) mk mv mb mw m_rd m_ac (nI ma) m_as m_wo m_ik m_ke m_tr (nI mx)), (xI m_st cI 38 fsn_315), (xI m_as cI 38 fan_8)] H := hP
            have hD := dto hP hD
            refine lv_iinc (v := (nI (ii + 1))) (lv' := [(4, .int (nI (ii + 1))), (5, .int (nI j_2)), (3, .int (nI (8 + z_11))), (0, .ref mo), (1, .int (nI j_2)), (2, .int (nI j_5))]) hx hb dX8_byTurns_183 hl (k := 1) rfl (nI_add ii 1) (by decide) rfl (fun ls hl => ?_)
            refine lv_goto (tgt := 61) hx hb dX8_byTurns_186 (by decide) ?_
            exact ih (g_316, fsn_315) _ _ _ ⟨lv_sub hl [0, 2, 3, 4, 5] rfl, hP.sub (ws' := [(xI m_wo cI 16 g_316), (xo_8_rrriirrriiiiiiirrirrrrri mo m_la m_sz m_it ms mt m_st m_mv m_tp (nI mz) ml (nI mp) mk mv mb mw m_rd m_ac (nI ma) m_as m_wo m_ik m_ke m_tr (nI mx)), (xI m_st cI 38 fsn_315), (xI m_as cI 38 fan_8)]) [0, 1, 2, 3] rfl, hD.sub (ws' := [(xI m_wo cI 16 g_316), (xo_8_rrriirrriiiiiiirrirrrrri mo m_la m_sz m_it ms mt m_st m_mv m_tp (nI mz) ml (nI mp) mk mv mb mw m_rd m_ac (nI ma) m_as m_wo m_ik m_ke m_tr (nI mx)), (xI m_st cI 38 fsn_315), (xI m_as cI 38 fan_8)]) [0, 1, 2, 3] (by decide +kernel) rfl, hS, hT_315, ((m38_eq hF_315_0).trans ((m38_eq hF_8_0).trans rfl))⟩
        · rintro ⟨w_113, w_114⟩ H locs ls ⟨hl, hP, hD, hS, hMl, haf_0⟩
          refine lv_iload hx hb dX8_byTurns_61 (lv_at hl 0 rfl) ?_
          refine lv_iconst (v := 1) hx hb dX8_byTurns_63 (by decide) ?_
          refine lv_iload_n hx hb dX8_byTurns_64 rfl (lv_at hl 3 rfl) ?_
          refine lv_ishl hx hb dX8_byTurns_65 ?_
          refine lv_topi (fun v_317 e_317 => ?_)
          obtain rfl : v_317 = (nI sh) := (e_317).trans hsh
          refine lv_icmp_ge (tgt := 189) hx hb dX8_byTurns_66 (by decide) (fun _ => ?_) (fun c_ => absurd ((nI_leI (a := sh) (b := sh) (by omega) (by omega)).mpr (by omega)) c_)
          refine lv_iload_n hx hb dX8_byTurns_189 rfl (lv_at hl 3 rfl) ?_
          refine lv_iconst (v := 1) hx hb dX8_byTurns_190 (by decide) ?_
          refine lv_isub hx hb dX8_byTurns_191 ?_
          refine lv_topi (fun v_319 e_319 => ?_)
          obtain rfl : v_319 = cdn j_2 0 := e_319.trans (cdn_0 j_2)
          refine lv_istore (lv' := [(4, .int (cdn j_2 0)), (3, .int (nI (8 + z_11))), (0, .ref mo), (1, .int (nI j_2)), (2, .int (nI j_5))]) hx hb dX8_byTurns_192 hl (by decide) rfl (fun ls hl => ?_)
          refine lp_go (σ := (Nat → Int32)) (fun ii1 (st : (Nat → Int32)) H locs ls => match st with | w_382 => lv_has ls 8 [(4, .int (cdn j_2 ii1)), (3, .int (nI (8 + z_11))), (0, .ref mo), (1, .int (nI j_2)), (2, .int (nI j_5))] ∧ va_P (dC, dI) vwCl [(xI m_wo cI 16 w_382), (xo_8_rrriirrriiiiiiirrirrrrri mo m_la m_sz m_it ms mt m_st m_mv m_tp (nI mz) ml (nI mp) mk mv mb mw m_rd m_ac (nI ma) m_as m_wo m_ik m_ke m_tr (nI mx)), (xI m_st cI 38 w_114), (xI m_as cI 38 fan_8)] H ∧ va_D A [(xI m_wo cI 16 w_382), (xo_8_rrriirrriiiiiiirrirrrrri mo m_la m_sz m_it ms mt m_st m_mv m_tp (nI mz) ml (nI mp) mk mv mb mw m_rd m_ac (nI ma) m_as m_wo m_ik m_ke m_tr (nI mx)), (xI m_st cI 38 w_114), (xI m_as cI 38 fan_8)] ∧ va_S A s.heap H locs ∧ okM w_114 w9 k9 h9) j_2 ?_ ?_ 0 (by omega) (w_113) ⟨lv_sub hl [0, 1, 2, 3, 4] rfl, hP.sub (ws' := [(xI m_wo cI 16 w_113), (xo_8_rrriirrriiiiiiirrirrrrri mo m_la m_sz m_it ms mt m_st m_mv m_tp (nI mz) ml (nI mp) mk mv mb mw m_rd m_ac (nI ma) m_as m_wo m_ik m_ke m_tr (nI mx)), (xI m_st cI 38 w_114), (xI m_as cI 38 fan_8)]) [0, 1, 2, 3] rfl, hD.sub (ws' := [(xI m_wo cI 16 w_113), (xo_8_rrriirrriiiiiiirrirrrrri mo m_la m_sz m_it ms mt m_st m_mv m_tp (nI mz) ml (nI mp) mk mv mb mw m_rd m_ac (nI ma) m_as m_wo m_ik m_ke m_tr (nI mx)), (xI m_st cI 38 w_114), (xI m_as cI 38 fan_8)]) [0, 1, 2, 3] (by decide +kernel) rfl, hS, hMl⟩
          · rintro ii1 w_382 H locs ls hii1 ⟨hl, hP, hD, hS, hMl⟩ ih
            refine lv_iload hx hb dX8_byTurns_194 (lv_at hl 0 rfl) ?_
            refine lv_if_lt (tgt := 288) hx hb dX8_byTurns_196 (by decide) (fun c_ => absurd c_ (cdn_lt (by omega) hii1)) (fun _ => ?_)
            obtain ⟨sd, hsd, hsd8⟩ := cdn_shl (n := j_2) (i := ii1) (by omega) hii1
            refine lv_iconst (v := 0) hx hb dX8_byTurns_199 (by decide) ?_
            refine lv_istore (lv' := [(5, .int 0), (4, .int (cdn j_2 ii1)), (3, .int (nI (8 + z_11))), (0, .ref mo), (1, .int (nI j_2)), (2, .int (nI j_5))]) hx hb dX8_byTurns_200 hl (by decide) rfl (fun ls hl => ?_)
            refine lp_go (σ := (Nat → Int32)) (fun ii2 (st : (Nat → Int32)) H locs ls => match st with | w_466 => lv_has ls 8 [(5, .int (nI ii2)), (4, .int (cdn j_2 ii1)), (3, .int (nI (8 + z_11))), (0, .ref mo), (1, .int (nI j_2)), (2, .int (nI j_5))] ∧ va_P (dC, dI) vwCl [(xI m_wo cI 16 w_466), (xo_8_rrriirrriiiiiiirrirrrrri mo m_la m_sz m_it ms mt m_st m_mv m_tp (nI mz) ml (nI mp) mk mv mb mw m_rd m_ac (nI ma) m_as m_wo m_ik m_ke m_tr (nI mx)), (xI m_st cI 38 w_114), (xI m_as cI 38 fan_8)] H ∧ va_D A [(xI m_wo cI 16 w_466), (xo_8_rrriirrriiiiiiirrirrrrri mo m_la m_sz m_it ms mt m_st m_mv m_tp (nI mz) ml (nI mp) mk mv mb mw m_rd m_ac (nI ma) m_as m_wo m_ik m_ke m_tr (nI mx)), (xI m_st cI 38 w_114), (xI m_as cI 38 fan_8)] ∧ va_S A s.heap H locs ∧ okM w_114 w9 k9 h9) sd ?_ ?_ 0 (by omega) (w_382) ⟨lv_sub hl [0, 1, 2, 3, 4, 5] rfl, hP.sub (ws' := [(xI m_wo cI 16 w_382), (xo_8_rrriirrriiiiiiirrirrrrri mo m_la m_sz m_it ms mt m_st m_mv m_tp (nI mz) ml (nI mp) mk mv mb mw m_rd m_ac (nI ma) m_as m_wo m_ik m_ke m_tr (nI mx)), (xI m_st cI 38 w_114), (xI m_as cI 38 fan_8)]) [0, 1, 2, 3] rfl, hD.sub (ws' := [(xI m_wo cI 16 w_382), (xo_8_rrriirrriiiiiiirrirrrrri mo m_la m_sz m_it ms mt m_st m_mv m_tp (nI mz) ml (nI mp) mk mv mb mw m_rd m_ac (nI ma) m_as m_wo m_ik m_ke m_tr (nI mx)), (xI m_st cI 38 w_114), (xI m_as cI 38 fan_8)]) [0, 1, 2, 3] (by decide +kernel) rfl, hS, hMl⟩
            · rintro ii2 w_466 H locs ls hii2 ⟨hl, hP, hD, hS, hMl⟩ ih
              refine lv_iload hx hb dX8_byTurns_202 (lv_at hl 0 rfl) ?_
              refine lv_iconst (v := 1) hx hb dX8_byTurns_204 (by decide) ?_
              refine lv_iload hx hb dX8_byTurns_205 (lv_at hl 1 rfl) ?_
              refine lv_ishl hx hb dX8_byTurns_207 ?_
              refine lv_topi (fun v_487 e_487 => ?_)
              obtain rfl : v_487 = (nI sd) := (e_487).trans hsd
              refine lv_icmp_ge (tgt := 282) hx hb dX8_byTurns_208 (by decide) (fun c_ => absurd c_ (fun q_ => absurd ((nI_leI (a := sd) (b := ii2) (by omega) (by omega)).mp q_) (by omega))) (fun _ => ?_)
              refine lv_aload_n hx hb dX8_byTurns_211 rfl (lv_at hl 3 rfl) ?_
              refine va_get (D := (dC, dI)) (ci := 8) (v := .ref m_wo) (C := RX8) (T := TX8) (N := 24) hx hb hts i_X8_byTurns_X8 hown hK hP 1 rfl rfl 19 (by decide) (hts _ mx_X8_byTurns_7) (fun _ h9 => h9) rfl dX8_byTurns_212 ?_
              refine lv_iconst (v := 2) hx hb dX8_byTurns_215 (by decide) ?_
              refine lv_iload hx hb dX8_byTurns_216 (lv_at hl 0 rfl) ?_
              refine lv_imul hx hb dX8_byTurns_218 ?_
              refine lv_topi (fun v_489 e_489 => ?_)
              obtain rfl : v_489 = (nI (2 * ii2)) := (e_489).trans (pk_mul 2 ii2)
              refine va_iald hx hb hK hP 0 0 rfl rfl (vp_in_nI (by omega) (by omega)) dX8_byTurns_219 ?_
              refine lv_topi (fun v_490 e_490 => ?_)
              refine lv_istore (lv' := [(6, .int v_490), (5, .int (nI ii2)), (4, .int (cdn j_2 ii1)), (3, .int (nI (8 + z_11))), (0, .ref mo), (1, .int (nI j_2)), (2, .int (nI j_5))]) hx hb dX8_byTurns_220 hl (by decide) rfl (fun ls hl => ?_)
              refine lv_aload_n hx hb dX8_byTurns_222 rfl (lv_at hl 4 rfl) ?_
              refine va_get (D := (dC, dI)) (ci := 8) (v := .ref m_wo) (C := RX8) (T := TX8) (N := 24) hx hb hts i_X8_byTurns_X8 hown hK hP 1 rfl rfl 19 (by decide) (hts _ mx_X8_byTurns_7) (fun _ h9 => h9) rfl dX8_byTurns_223 ?_
              refine lv_iconst (v := 2) hx hb dX8_byTurns_226 (by decide) ?_
              refine lv_iload hx hb dX8_byTurns_227 (lv_at hl 1 rfl) ?_
              refine lv_imul hx hb dX8_byTurns_229 ?_
              refine lv_topi (fun v_491 e_491 => ?_)
              obtain rfl : v_491 = (nI (2 * ii2)) := (e_491).trans (pk_mul 2 ii2)
              refine lv_iconst (v := 1) hx hb dX8_byTurns_230 (by decide) ?_
              refine lv_iadd hx hb dX8_byTurns_231 ?_
              refine lv_topi (fun v_492 e_492 => ?_)
              obtain rfl : v_492 = (nI ((2 * ii2) + 1)) := (e_492).trans (nI_add (2 * ii2) 1)
              refine va_iald hx hb hK hP 0 0 rfl rfl (vp_in_nI (by omega) (by omega)) dX8_byTurns_232 ?_
              refine lv_topi (fun v_493 e_493 => ?_)
              refine lv_istore (lv' := [(7, .int v_493), (6, .int v_490), (5, .int (nI ii2)), (4, .int (cdn j_2 ii1)), (3, .int (nI (8 + z_11))), (0, .ref mo), (1, .int (nI j_2)), (2, .int (nI j_5))]) hx hb dX8_byTurns_233 hl (by decide) rfl (fun ls hl => ?_)
              refine lv_aload_n hx hb dX8_byTurns_235 rfl (lv_at hl 5 rfl) ?_
              refine va_get (D := (dC, dI)) (ci := 8) (v := .ref m_wo) (C := RX8) (T := TX8) (N := 24) hx hb hts i_X8_byTurns_X8 hown hK hP 1 rfl rfl 19 (by decide) (hts _ mx_X8_byTurns_7) (fun _ h9 => h9) rfl dX8_byTurns_236 ?_
              refine lv_iload hx hb dX8_byTurns_239 (lv_at hl 2 rfl) ?_
              refine lv_iload hx hb dX8_byTurns_241 (lv_at hl 1 rfl) ?_
              refine lv_iload hx hb dX8_byTurns_243 (lv_at hl 0 rfl) ?_
              refine jn (σ := (Int32)) (fun (st : (Int32)) H locs g => match st with | w_495 => ∃ ls : Array Slot, g = F0 m 253 ls [.int w_495, .int (nI ii2), .ref m_wo] ∧ lv_has ls 8 [(7, .int v_493), (6, .int v_490), (5, .int (nI ii2)), (4, .int (cdn j_2 ii1)), (3, .int (nI (8 + z_11))), (0, .ref mo), (1, .int (nI j_2)), (2, .int (nI j_5))] ∧ va_P (dC, dI) vwCl [(xI m_wo cI 16 w_466), (xo_8_rrriirrriiiiiiirrirrrrri mo m_la m_sz m_it ms mt m_st m_mv m_tp (nI mz) ml (nI mp) mk mv mb mw m_rd m_ac (nI ma) m_as m_wo m_ik m_ke m_tr (nI mx)), (xI m_st cI 38 w_114), (xI m_as cI 38 fan_8)] H ∧ va_D A [(xI m_wo cI 16 w_466), (xo_8_rrriirrriiiiiiirrirrrrri mo m_la m_sz m_it ms mt m_st m_mv m_tp (nI mz) ml (nI mp) mk mv mb mw m_rd m_ac (nI ma) m_as m_wo m_ik m_ke m_tr (nI mx)), (xI m_st cI 38 w_114), (xI m_as cI 38 fan_8)] ∧ va_S A s.heap H locs ∧ okM w_114 w9 k9 h9) ?_ ?_
              · rintro w_495 H locs _ ⟨ls, rfl, hl, hP, hD, hS, hMl⟩
                refine lv_iload hx hb dX8_byTurns_253 (lv_at hl 3 rfl) ?_
                refine lv_iconst (v := 2) hx hb dX8_byTurns_255 (by decide) ?_
                refine lv_irem hx hb dX8_byTurns_256 (by decide) ?_
                refine lv_topi (fun v_497 e_497 => ?_)
                refine jn (σ := (Int32)) (fun (st : (Int32)) H locs g => match st with | w_499 => ∃ ls : Array Slot, g = F0 m 265 ls [.int w_499, .int w_495, .int (nI ii2), .ref m_wo] ∧ lv_has ls 8 [(7, .int v_493), (6, .int v_490), (5, .int (nI ii2)), (4, .int (cdn j_2 ii1)), (3, .int (nI (8 + z_11))), (0, .ref mo), (1, .int (nI j_2)), (2, .int (nI j_5))] ∧ va_P (dC, dI) vwCl [(xI m_wo cI 16 w_466), (xo_8_rrriirrriiiiiiirrirrrrri mo m_la m_sz m_it ms mt m_st m_mv m_tp (nI mz) ml (nI mp) mk mv mb mw m_rd m_ac (nI ma) m_as m_wo m_ik m_ke m_tr (nI mx)), (xI m_st cI 38 w_114), (xI m_as cI 38 fan_8)] H ∧ va_D A [(xI m_wo cI 16 w_466), (xo_8_rrriirrriiiiiiirrirrrrri mo m_la m_sz m_it ms mt m_st m_mv m_tp (nI mz) ml (nI mp) mk mv mb mw m_rd m_ac (nI ma) m_as m_wo m_ik m_ke m_tr (nI mx)), (xI m_st cI 38 w_114), (xI m_as cI 38 fan_8)] ∧ va_S A s.heap H locs ∧ okM w_114 w9 k9 h9) ?_ ?_
                · rintro w_499 H locs _ ⟨ls, rfl, hl, hP, hD, hS, hMl⟩
                  refine lv_icmp_ne (tgt := 273) hx hb dX8_byTurns_265 (by decide) (fun c_501 => ?_) (fun c_501 => ?_)
                  · skip
                    refine lv_iload hx hb dX8_byTurns_273 (lv_at hl 0 rfl) ?_
                    refine va_iast hx hb hK hP hD hS 0 0 rfl rfl (vp_in_nI (by omega) (by omega)) dX8_byTurns_275 (fun H locs hP hD hS => ?_)
                    generalize hg_502 : upd w_466 ((nI ii2) : Int32).toNatClampNeg v_493 = g_502 at hP hD
                    have hP : va_P (dC, dI) vwCl [(xI m_wo cI 16 g_502), (xo_8_rrriirrriiiiiiirrirrrrri mo m_la m_sz m_it ms mt m_st m_mv m_tp (nI mz) ml (nI mp) mk mv mb mw m_rd m_ac (nI ma) m_as m_wo m_ik m_ke m_tr (nI mx)), (xI m_st cI 38 w_114), (xI m_as cI 38 fan_8)] H := hP
                    have hD := dto hP hD
                    refine lv_iinc (v := (nI (ii2 + 1))) (lv' := [(5, .int (nI (ii2 + 1))), (7, .int v_493), (6, .int v_490), (4, .int (cdn j_2 ii1)), (3, .int (nI (8 + z_11))), (0, .ref mo), (1, .int (nI j_2)), (2, .int (nI j_5))]) hx hb dX8_byTurns_276 hl (k := 2) rfl (nI_add ii2 1) (by decide) rfl (fun ls hl => ?_)
                    refine lv_goto (tgt := 202) hx hb dX8_byTurns_279 (by decide) ?_
                    exact ih (g_502) _ _ _ ⟨lv_sub hl [0, 3, 4, 5, 6, 7] rfl, hP.sub (ws' := [(xI m_wo cI 16 g_502), (xo_8_rrriirrriiiiiiirrirrrrri mo m_la m_sz m_it ms mt m_st m_mv m_tp (nI mz) ml (nI mp) mk mv mb mw m_rd m_ac (nI ma) m_as m_wo m_ik m_ke m_tr (nI mx)), (xI m_st cI 38 w_114), (xI m_as cI 38 fan_8)]) [0, 1, 2, 3] rfl, hD.sub (ws' := [(xI m_wo cI 16 g_502), (xo_8_rrriirrriiiiiiirrirrrrri mo m_la m_sz m_it ms mt m_st m_mv m_tp (nI mz) ml (nI mp) mk mv mb mw m_rd m_ac (nI ma) m_as m_wo m_ik m_ke m_tr (nI mx)), (xI m_st cI 38 w_114), (xI m_as cI 38 fan_8)]) [0, 1, 2, 3] (by decide +kernel) rfl, hS, hMl⟩
                  · skip
                    refine lv_iload hx hb dX8_byTurns_268 (lv_at hl 1 rfl) ?_
                    refine lv_goto (tgt := 275) hx hb dX8_byTurns_270 (by decide) ?_
                    refine va_iast hx hb hK hP hD hS 0 0 rfl rfl (vp_in_nI (by omega) (by omega)) dX8_byTurns_275 (fun H locs hP hD hS => ?_)
                    generalize hg_503 : upd w_466 ((nI ii2) : Int32).toNatClampNeg v_490 = g_503 at hP hD
                    have hP : va_P (dC, dI) vwCl [(xI m_wo cI 16 g_503), (xo_8_rrriirrriiiiiiirrirrrrri mo m_la m_sz m_it ms mt m_st m_mv m_tp (nI mz) ml (nI mp) mk mv mb mw m_rd m_ac (nI ma) m_as m_wo m_ik m_ke m_tr (nI mx)), (xI m_st cI 38 w_114), (xI m_as cI 38 fan_8)] H := hP
                    have hD := dto hP hD
                    refine lv_iinc (v := (nI (ii2 + 1))) (lv' := [(5, .int (nI (ii2 + 1))), (7, .int v_493), (6, .int v_490), (4, .int (cdn j_2 ii1)), (3, .int (nI (8 + z_11))), (0, .ref mo), (1, .int (nI j_2)), (2, .int (nI j_5))]) hx hb dX8_byTurns_276 hl (k := 2) rfl (nI_add ii2 1) (by decide) rfl (fun ls hl => ?_)
                    refine lv_goto (tgt := 202) hx hb dX8_byTurns_279 (by decide) ?_
                    exact ih (g_503) _ _ _ ⟨lv_sub hl [0, 3, 4, 5, 6, 7] rfl, hP.sub (ws' := [(xI m_wo cI 16 g_503), (xo_8_rrriirrriiiiiiirrirrrrri mo m_la m_sz m_it ms mt m_st m_mv m_tp (nI mz) ml (nI mp) mk mv mb mw m_rd m_ac (nI ma) m_as m_wo m_ik m_ke m_tr (nI mx)), (xI m_st cI 38 w_114), (xI m_as cI 38 fan_8)]) [0, 1, 2, 3] rfl, hD.sub (ws' := [(xI m_wo cI 16 g_503), (xo_8_rrriirrriiiiiiirrirrrrri mo m_la m_sz m_it ms mt m_st m_mv m_tp (nI mz) ml (nI mp) mk mv mb mw m_rd m_ac (nI ma) m_as m_wo m_ik m_ke m_tr (nI mx)), (xI m_st cI 38 w_114), (xI m_as cI 38 fan_8)]) [0, 1, 2, 3] (by decide +kernel) rfl, hS, hMl⟩
                · intro jk_500
                  refine lv_if_ne (tgt := 264) hx hb dX8_byTurns_257 (by decide) (fun c_504 => ?_) (fun c_504 => ?_)
                  · skip
                    refine lv_iconst (v := 0) hx hb dX8_byTurns_264 (by decide) ?_
                    exact jk_500 (0) _ _ _ ⟨ls, rfl, lv_sub hl [0, 1, 2, 3, 4, 5, 6, 7] rfl, hP.sub (ws' := [(xI m_wo cI 16 w_466), (xo_8_rrriirrriiiiiiirrirrrrri mo m_la m_sz m_it ms mt m_st m_mv m_tp (nI mz) ml (nI mp) mk mv mb mw m_rd m_ac (nI ma) m_as m_wo m_ik m_ke m_tr (nI mx)), (xI m_st cI 38 w_114), (xI m_as cI 38 fan_8)]) [0, 1, 2, 3] rfl, hD.sub (ws' := [(xI m_wo cI 16 w_466), (xo_8_rrriirrriiiiiiirrirrrrri mo m_la m_sz m_it ms mt m_st m_mv m_tp (nI mz) ml (nI mp) mk mv mb mw m_rd m_ac (nI ma) m_as m_wo m_ik m_ke m_tr (nI mx)), (xI m_st cI 38 w_114), (xI m_as cI 38 fan_8)]) [0, 1, 2, 3] (by decide +kernel) rfl, hS, hMl⟩
                  · skip
                    refine lv_iconst (v := 1) hx hb dX8_byTurns_260 (by decide) ?_
                    refine lv_goto (tgt := 265) hx hb dX8_byTurns_261 (by decide) ?_
                    exact jk_500 (1) _ _ _ ⟨ls, rfl, lv_sub hl [0, 1, 2, 3, 4, 5, 6, 7] rfl, hP.sub (ws' := [(xI m_wo cI 16 w_466), (xo_8_rrriirrriiiiiiirrirrrrri mo m_la m_sz m_it ms mt m_st m_mv m_tp (nI mz) ml (nI mp) mk mv mb mw m_rd m_ac (nI ma) m_as m_wo m_ik m_ke m_tr (nI mx)), (xI m_st cI 38 w_114), (xI m_as cI 38 fan_8)]) [0, 1, 2, 3] rfl, hD.sub (ws' := [(xI m_wo cI 16 w_466), (xo_8_rrriirrriiiiiiirrirrrrri mo m_la m_sz m_it ms mt m_st m_mv m_tp (nI mz) ml (nI mp) mk mv mb mw m_rd m_ac (nI ma) m_as m_wo m_ik m_ke m_tr (nI mx)), (xI m_st cI 38 w_114), (xI m_as cI 38 fan_8)]) [0, 1, 2, 3] (by decide +kernel) rfl, hS, hMl⟩
              · intro jk_496
                refine lv_icmp_le (tgt := 252) hx hb dX8_byTurns_245 (by decide) (fun c_505 => ?_) (fun c_505 => ?_)
                · skip
                  refine lv_iconst (v := 0) hx hb dX8_byTurns_252 (by decide) ?_
                  exact jk_496 (0) _ _ _ ⟨ls, rfl, lv_sub hl [0, 1, 2, 3, 4, 5, 6, 7] rfl, hP.sub (ws' := [(xI m_wo cI 16 w_466), (xo_8_rrriirrriiiiiiirrirrrrri mo m_la m_sz m_it ms mt m_st m_mv m_tp (nI mz) ml (nI mp) mk mv mb mw m_rd m_ac (nI ma) m_as m_wo m_ik m_ke m_tr (nI mx)), (xI m_st cI 38 w_114), (xI m_as cI 38 fan_8)]) [0, 1, 2, 3] rfl, hD.sub (ws' := [(xI m_wo cI 16 w_466), (xo_8_rrriirrriiiiiiirrirrrrri mo m_la m_sz m_it ms mt m_st m_mv m_tp (nI mz) ml (nI mp) mk mv mb mw m_rd m_ac (nI ma) m_as m_wo m_ik m_ke m_tr (nI mx)), (xI m_st cI 38 w_114), (xI m_as cI 38 fan_8)]) [0, 1, 2, 3] (by decide +kernel) rfl, hS, hMl⟩
                · skip
                  refine lv_iconst (v := 1) hx hb dX8_byTurns_248 (by decide) ?_
                  refine lv_goto (tgt := 253) hx hb dX8_byTurns_249 (by decide) ?_
                  exact jk_496 (1) _ _ _ ⟨ls, rfl, lv_sub hl [0, 1, 2, 3, 4, 5, 6, 7] rfl, hP.sub (ws' := [(xI m_wo cI 16 w_466), (xo_8_rrriirrriiiiiiirrirrrrri mo m_la m_sz m_it ms mt m_st m_mv m_tp (nI mz) ml (nI mp) mk mv mb mw m_rd m_ac (nI ma) m_as m_wo m_ik m_ke m_tr (nI mx)), (xI m_st cI 38 w_114), (xI m_as cI 38 fan_8)]) [0, 1, 2, 3] rfl, hD.sub (ws' := [(xI m_wo cI 16 w_466), (xo_8_rrriirrriiiiiiirrirrrrri mo m_la m_sz m_it ms mt m_st m_mv m_tp (nI mz) ml (nI mp) mk mv mb mw m_rd m_ac (nI ma) m_as m_wo m_ik m_ke m_tr (nI mx)), (xI m_st cI 38 w_114), (xI m_as cI 38 fan_8)]) [0, 1, 2, 3] (by decide +kernel) rfl, hS, hMl⟩
            · rintro w_466 H locs ls ⟨hl, hP, hD, hS, hMl⟩
              refine lv_iload hx hb dX8_byTurns_202 (lv_at hl 0 rfl) ?_
              refine lv_iconst (v := 1) hx hb dX8_byTurns_204 (by decide) ?_
              refine lv_iload hx hb dX8_byTurns_205 (lv_at hl 1 rfl) ?_
              refine lv_ishl hx hb dX8_byTurns_207 ?_
              refine lv_topi (fun v_506 e_506 => ?_)
              obtain rfl : v_506 = (nI sd) := (e_506).trans hsd
              refine lv_icmp_ge (tgt := 282) hx hb dX8_byTurns_208 (by decide) (fun _ => ?_) (fun c_ => absurd ((nI_leI (a := sd) (b := sd) (by omega) (by omega)).mpr (by omega)) c_)
              refine lv_iinc (v := (cdn j_2 (ii1 + 1))) (lv' := [(4, .int (cdn j_2 (ii1 + 1))), (5, .int (nI sd)), (3, .int (nI (8 + z_11))), (0, .ref mo), (1, .int (nI j_2)), (2, .int (nI j_5))]) hx hb dX8_byTurns_282 hl (k := 1) rfl (cdn_s (by omega) hii1) (by decide) rfl (fun ls hl => ?_)
              refine lv_goto (tgt := 194) hx hb dX8_byTurns_285 (by decide) ?_
              exact ih (w_466) _ _ _ ⟨lv_sub hl [0, 2, 3, 4, 5] rfl, hP.sub (ws' := [(xI m_wo cI 16 w_466), (xo_8_rrriirrriiiiiiirrirrrrri mo m_la m_sz m_it ms mt m_st m_mv m_tp (nI mz) ml (nI mp) mk mv mb mw m_rd m_ac (nI ma) m_as m_wo m_ik m_ke m_tr (nI mx)), (xI m_st cI 38 w_114), (xI m_as cI 38 fan_8)]) [0, 1, 2, 3] rfl, hD.sub (ws' := [(xI m_wo cI 16 w_466), (xo_8_rrriirrriiiiiiirrirrrrri mo m_la m_sz m_it ms mt m_st m_mv m_tp (nI mz) ml (nI mp) mk mv mb mw m_rd m_ac (nI ma) m_as m_wo m_ik m_ke m_tr (nI mx)), (xI m_st cI 38 w_114), (xI m_as cI 38 fan_8)]) [0, 1, 2, 3] (by decide +kernel) rfl, hS, hMl⟩
          · rintro w_382 H locs ls ⟨hl, hP, hD, hS, hMl⟩
            refine lv_iload hx hb dX8_byTurns_194 (lv_at hl 0 rfl) ?_
            refine lv_if_lt (tgt := 288) hx hb dX8_byTurns_196 (by decide) (fun _ => ?_) (fun c_ => absurd (cdn_end (by omega)) c_)
            refine lv_aload_n hx hb dX8_byTurns_288 rfl (lv_at hl 2 rfl) ?_
            refine va_get (D := (dC, dI)) (ci := 8) (v := .ref m_wo) (C := RX8) (T := TX8) (N := 24) hx hb hts i_X8_byTurns_X8 hown hK hP 1 rfl rfl 19 (by decide) (hts _ mx_X8_byTurns_7) (fun _ h9 => h9) rfl dX8_byTurns_289 ?_
            refine lv_iconst (v := 0) hx hb dX8_byTurns_292 (by decide) ?_
            refine va_iald hx hb hK hP 0 0 rfl rfl (by unfold vp_in; decide) dX8_byTurns_293 ?_
            refine lv_topi (fun v_509 e_509 => ?_)
            have hX9 := cut2 (wc := [(xo_8_rrriirrriiiiiiirrirrrrri mo m_la m_sz m_it ms mt m_st m_mv m_tp (nI mz) ml (nI mp) mk mv mb mw m_rd m_ac (nI ma) m_as m_wo m_ik m_ke m_tr (nI mx)), (xI m_st cI 38 w_114), (xI m_as cI 38 fan_8), (xI m_wo cI 16 w_382)]) hP hD [1, 2, 3, 0] (by decide +kernel) rfl
            exact W.iret (v := v_509) hx hb hr (fun t ht hW => ⟨⟨v_509, (), rfl, trivial, ⟨w_114, fan_8, w_382, va_Ht ht hX9.1, hX9.2, hMl, haf_0⟩⟩, hS.F ht⟩) hS.2.2 dX8_byTurns_294
  · skip
    refine lv_ldc (own := RX8) (v := (-1000002)) hx hb hown (hts _ mx_X8_byTurns_2) dX8_byTurns_7 ?_
    have hX9 := cut2 (wc := [(xo_8_rrriirrriiiiiiirrirrrrri mo m_la m_sz m_it ms mt m_st m_mv m_tp (nI mz) ml (nI mp) mk mv mb mw m_rd m_ac (nI ma) m_as m_wo m_ik m_ke m_tr (nI mx)), (xI m_st cI 38 fs), (xI m_as cI 38 fa), (xI m_wo cI 16 fw)]) hP hD [0, 1, 2, 3] (by decide +kernel) rfl
    exact W.iret (v := (-1000002)) hx hb hr (fun t ht hW => ⟨⟨(-1000002), (), rfl, trivial, ⟨fs, fa, fw, va_Ht ht hX9.1, hX9.2, hM, rfl⟩⟩, hS.F ht⟩) hS.2.2 dX8_byTurns_9
-- 50.mod5_d
theorem p10_nz {w : Nat} (h : w ≤ 6) : ¬ lN (10 ^ w) = 0 := by
  rcases (show w = 0 ∨ w = 1 ∨ w = 2 ∨ w = 3 ∨ w = 4 ∨ w = 5 ∨ w = 6 by omega) with rfl | rfl | rfl | rfl | rfl | rfl | rfl <;> decide
noncomputable def okKP (fk fq : Nat → Int32) : Prop := ∀ r : Nat, r < 2 → ¬ fk r = 0 → okK (fun j => fq (38 * r + j))
theorem kp_set {fk gk fq gq src : Nat → Int32} {n : Nat} {v : Int32} (h : okKP fk fq) (hn : n ≤ 1) (hs : okK src) (hk : upd fk (nI n).toNatClampNeg v = gk) (e1 : ∀ j : Nat, j < 38 → gq (38 * n + j) = src j) (e2 : ∀ j : Nat, j < 38 * n ∨ 38 * n + 38 ≤ j → gq j = fq j) : okKP gk gq := by
  intro r hr hz
  rw [nI_clamp (by omega)] at hk
  by_cases q : r = n
  · subst q
    exact okK_eq hs e1
  · rw [← hk] at hz
    unfold upd at hz
    rw [if_neg q] at hz
    exact okK_eq (h r hr hz) (fun j hj => e2 _ (by omega))
theorem sz_up {f g : Nat → Int32} {j n : Nat} (h : ∀ j : Nat, j < 8 → f j = -1 ∨ ∃ q : Nat, q ≤ 40 ∧ f j = nI q) (hj : j < 2 ^ 31) (hn : n ≤ 40) (e : upd f (nI j).toNatClampNeg (nI n) = g) : ∀ j : Nat, j < 8 → g j = -1 ∨ ∃ q : Nat, q ≤ 40 ∧ g j = nI q := by
  intro i hi
  rw [← e]
  unfold upd
  split
  · exact Or.inr ⟨n, hn, rfl⟩
  · exact h i hi
theorem sz_dn {f g : Nat → Int32} {j : Int32} (h : ∀ j : Nat, j < 8 → f j = -1 ∨ ∃ q : Nat, q ≤ 40 ∧ f j = nI q) (e : upd f j.toNatClampNeg (-1) = g) : ∀ j : Nat, j < 8 → g j = -1 ∨ ∃ q : Nat, q ≤ 40 ∧ g j = nI q := by
  intro i hi
  rw [← e]
  unfold upd
  split
  · exact Or.inl rfl
  · exact h i hi
theorem ar_1 {a b n : Int32} (h : a < 0 ∨ 8 ≤ a) : -1000001 = an_row a b n := by
  unfold an_row
  rw [if_pos (Or.inl h)]
theorem ar_2 {a b n : Int32} (h : b.toInt64 < 0 ∨ 2 < b.toInt64) : -1000001 = an_row a b n := by
  unfold an_row
  rw [if_pos (Or.inr (Or.inl (lane64.mp h)))]
theorem ar_3 {a b n : Int32} (h : ¬ n ≤ 40) : -1000001 = an_row a b n := by
  unfold an_row
  rw [if_pos (Or.inr (Or.inr h))]
theorem ar_no {a b n : Int32} (h1 : vp_in a 8) (h2 : ¬ (b.toInt64 < 0 ∨ 2 < b.toInt64)) (h3 : n ≤ 40) : ¬ ((a < 0 ∨ 8 ≤ a) ∨ (b < 0 ∨ 2 < b) ∨ ¬ n ≤ 40) := by
  obtain ⟨j, hj, rfl⟩ := vp_in_of h1 (by decide)
  rintro ((q | q) | q | q)
  · exact nI_pos (by omega) q
  · exact nI_ge (b := 8) hj (by decide) q
  · exact h2 (lane64.mpr q)
  · exact q h3
theorem ar_4 {a b n : Int32} (h1 : vp_in a 8) (h2 : ¬ (b.toInt64 < 0 ∨ 2 < b.toInt64)) (h3 : n ≤ 40) (h4 : ¬ 0 ≤ n) : (-1000010 - 4 : Int32) = an_row a b n := by
  unfold an_row
  rw [if_neg (ar_no h1 h2 h3), if_neg h4]
  decide
theorem ar_5 {a b n : Int32} (h1 : vp_in a 8) (h2 : ¬ (b.toInt64 < 0 ∨ 2 < b.toInt64)) (h3 : n ≤ 40) (h4 : 0 ≤ n) : n = an_row a b n := by
  unfold an_row
  rw [if_neg (ar_no h1 h2 h3), if_pos h4]
theorem im_fact {fk gk fq gq s : RF} {n r : Nat} (hn : n ≤ 1) (hr : r ≤ 1) (h0 : ¬ s 0 = 0) (hk : upd fk (nI n).toNatClampNeg (vp_nar .boolean 1) = gk) (e1 : ∀ j : Nat, j < 38 → gq (38 * n + j) = s j) (e2 : ∀ j : Nat, j < 38 * n ∨ 38 * n + 38 ≤ j → gq j = fq j) : imM gk gq r = n_image (m38 s) (imM fk fq r) (nI n) (nI r) := by
  have hv : vp_nar .boolean 1 = 1 := by decide
  rw [nI_clamp (by omega), hv] at hk
  unfold n_image imM
  rw [mm0, ← hk]
  by_cases q : n = r
  · subst q
    have c1 : nI n = nI n ∧ ¬ s 0 = 0 := ⟨rfl, h0⟩
    have c2 : ¬ upd fk n 1 n = 0 := by
      rw [pk_us]
      decide
    rw [if_pos c1, if_neg c2]
    exact m38_eq e1
  · have q2 : ¬ nI n = nI r := fun z => q ((nI_eq (by omega) (by omega)).mp z)
    have c1 : ¬ (nI n = nI r ∧ ¬ s 0 = 0) := fun z => q2 z.1
    have c2 : upd fk n 1 r = fk r := pk_un (fun z => q z.symm)
    rw [if_neg c1, c2]
    by_cases k : fk r = 0
    · rw [if_pos k, if_pos k]
    · rw [if_neg k, if_neg k]
      exact m38_eq (fun j hj => e2 _ (by omega))
theorem pk_at {fk fq : RF} {n : Nat} (hn : n ≤ 1) : pkI (imM fk fq 0) (imM fk fq 1) (nI n) = imM fk fq n := by
  unfold pkI
  rcases (show n = 0 ∨ n = 1 by omega) with rfl | rfl
  · exact if_pos (by decide)
  · exact if_neg (by decide)
theorem rst_done {fk fq s r : RF} {a n : Nat} {A : AC} (hke : okKP fk fq) (hn : n ≤ 1) (hv : ¬ fk n = 0) (e : ∀ j : Nat, j < 38 → s j = fq (38 * n + j)) : n_rst r (imM fk fq 0) (imM fk fq 1) (nI n) = m38 s ∧ m_rst a (imM fk fq 0) (imM fk fq 1) (nI n) = 0 ∧ c_rst A (imM fk fq 0) (imM fk fq 1) (nI n) = (fun _ => zR) ∧ a_rst (imM fk fq 0) (imM fk fq 1) (nI n) = 1 := by
  have h1 : imM fk fq n = m38 s := by
    unfold imM
    rw [if_neg hv]
    exact m38_eq (fun j hj => (e j hj).symm)
  have h2 : ¬ imM fk fq n 0 = 0 := by
    obtain ⟨w, k, h, hM, hk, -⟩ := hke n (by omega) hv
    rw [h1, mm0, e 0 (by decide)]
    exact cell_nz hM hk
  have hg : gd_rst (imM fk fq 0) (imM fk fq 1) (nI n) := ⟨nb2 hn, by rw [pk_at hn]; exact h2⟩
  unfold n_rst m_rst c_rst a_rst
  rw [if_pos hg, if_pos hg, if_pos hg, if_neg hg.1, if_neg hg.2, pk_at hn]
  exact ⟨h1, rfl, rfl, rfl⟩
theorem rst_not {fk fq r : RF} {a n : Nat} {A : AC} (hn : n ≤ 1) (hv : fk n = 0) : n_rst r (imM fk fq 0) (imM fk fq 1) (nI n) = r ∧ m_rst a (imM fk fq 0) (imM fk fq 1) (nI n) = a ∧ c_rst A (imM fk fq 0) (imM fk fq 1) (nI n) = A ∧ a_rst (imM fk fq 0) (imM fk fq 1) (nI n) = -1000002 := by
  have h2 : pkI (imM fk fq 0) (imM fk fq 1) (nI n) 0 = 0 := by
    rw [pk_at hn]
    unfold imM
    rw [if_pos hv]
    rfl
  unfold n_rst m_rst c_rst a_rst
  rw [if_neg (fun z => z.2 h2), if_neg (fun z => z.2 h2), if_neg (fun z => z.2 h2), if_neg (nb2 hn), if_pos h2]
  exact ⟨rfl, rfl, rfl, rfl⟩
theorem rst_bad {I0 I1 r : RF} {a : Nat} {A : AC} {k : Int32} (hb : bd2 k) : n_rst r I0 I1 k = r ∧ m_rst a I0 I1 k = a ∧ c_rst A I0 I1 k = A ∧ a_rst I0 I1 k = -1000001 := by
  unfold n_rst m_rst c_rst a_rst
  rw [if_neg (fun z => z.1 hb), if_neg (fun z => z.1 hb), if_neg (fun z => z.1 hb), if_pos hb]
  exact ⟨rfl, rfl, rfl, rfl⟩
theorem rs_01 {fk : RF} {n : Nat} (hn : n ≤ 1) (h : fk 0 = 0 ∧ fk 1 = 0) : fk n = 0 := by
  rcases (show n = 0 ∨ n = 1 by omega) with rfl | rfl
  · exact h.1
  · exact h.2
theorem dX8_calm_0 : decode cX8_calm 0 = .ok (.aload_n 0, 1) := dq_42 (by decide +kernel)
theorem dX8_calm_1 : decode cX8_calm 1 = .ok (.iload_n 1, 1) := dq_27 (by decide +kernel)
theorem dX8_calm_10 : decode cX8_calm 10 = .ok (.lconst 0, 1) := dq_9 (by decide +kernel)
theorem dX8_calm_101 : decode cX8_calm 101 = .ok (.iconst 0, 1) := dq_3 (by decide +kernel)
theorem dX8_calm_102 : decode cX8_calm 102 = .ok (.istore 12, 2) := dq_54 (b1 := 12) (by decide +kernel) (by decide)
theorem dX8_calm_104 : decode cX8_calm 104 = .ok (.iload 12, 2) := dq_21 (b1 := 12) (by decide +kernel) (by decide)
theorem dX8_calm_106 : decode cX8_calm 106 = .ok (.aload_n 0, 1) := dq_42 (by decide +kernel)
theorem dX8_calm_107 : decode cX8_calm 107 = .ok (.getfield 19, 3) := dq_180 (b1 := 0) (b2 := 19) (by decide +kernel) (by decide)
theorem dX8_calm_11 : decode cX8_calm 11 = .ok (.ldc2_w 188, 3) := dq_20 (b1 := 0) (b2 := 188) (by decide +kernel) (by decide)
theorem dX8_calm_110 : decode cX8_calm 110 = .ok (.iconst 3, 1) := dq_6 (by decide +kernel)
theorem dX8_calm_111 : decode cX8_calm 111 = .ok (.iaload, 1) := dq_46 (by decide +kernel)
theorem dX8_calm_112 : decode cX8_calm 112 = .ok (.if_icmp .ge 68, 3) := dq_162 (b1 := 0) (b2 := 68) (by decide +kernel) (by decide)
theorem dX8_calm_115 : decode cX8_calm 115 = .ok (.lload 10, 2) := dq_22 (b1 := 10) (by decide +kernel) (by decide)
theorem dX8_calm_117 : decode cX8_calm 117 = .ok (.iload 9, 2) := dq_21 (b1 := 9) (by decide +kernel) (by decide)
theorem dX8_calm_119 : decode cX8_calm 119 = .ok (.iload 12, 2) := dq_21 (b1 := 12) (by decide +kernel) (by decide)
theorem dX8_calm_121 : decode cX8_calm 121 = .ok (.invokestatic 213, 3) := dq_184 (b1 := 0) (b2 := 213) (by decide +kernel) (by decide)
theorem dX8_calm_124 : decode cX8_calm 124 = .ok (.ifCond .eq 8, 3) := dq_153 (b1 := 0) (b2 := 8) (by decide +kernel) (by decide)
theorem dX8_calm_127 : decode cX8_calm 127 = .ok (.iload_n 3, 1) := dq_29 (by decide +kernel)
theorem dX8_calm_128 : decode cX8_calm 128 = .ok (.i2l, 1) := dq_133 (by decide +kernel)
theorem dX8_calm_129 : decode cX8_calm 129 = .ok (.goto 8, 3) := dq_167 (b1 := 0) (b2 := 8) (by decide +kernel) (by decide)
theorem dX8_calm_132 : decode cX8_calm 132 = .ok (.bipush 10, 2) := dq_16 (b1 := 10) (by decide +kernel) (by decide)
theorem dX8_calm_134 : decode cX8_calm 134 = .ok (.iload_n 3, 1) := dq_29 (by decide +kernel)
theorem dX8_calm_135 : decode cX8_calm 135 = .ok (.isub, 1) := dq_100 (by decide +kernel)
theorem dX8_calm_136 : decode cX8_calm 136 = .ok (.i2l, 1) := dq_133 (by decide +kernel)
theorem dX8_calm_137 : decode cX8_calm 137 = .ok (.lmul, 1) := dq_105 (by decide +kernel)
theorem dX8_calm_138 : decode cX8_calm 138 = .ok (.lstore 10, 2) := dq_55 (b1 := 10) (by decide +kernel) (by decide)
theorem dX8_calm_14 : decode cX8_calm 14 = .ok (.invokestatic 57, 3) := dq_184 (b1 := 0) (b2 := 57) (by decide +kernel) (by decide)
theorem dX8_calm_140 : decode cX8_calm 140 = .ok (.aload_n 0, 1) := dq_42 (by decide +kernel)
theorem dX8_calm_141 : decode cX8_calm 141 = .ok (.getfield 19, 3) := dq_180 (b1 := 0) (b2 := 19) (by decide +kernel) (by decide)
theorem dX8_calm_144 : decode cX8_calm 144 = .ok (.bipush 8, 2) := dq_16 (b1 := 8) (by decide +kernel) (by decide)
theorem dX8_calm_146 : decode cX8_calm 146 = .ok (.iload 12, 2) := dq_21 (b1 := 12) (by decide +kernel) (by decide)
theorem dX8_calm_148 : decode cX8_calm 148 = .ok (.iadd, 1) := dq_96 (by decide +kernel)
theorem dX8_calm_149 : decode cX8_calm 149 = .ok (.iload 9, 2) := dq_21 (b1 := 9) (by decide +kernel) (by decide)
theorem dX8_calm_151 : decode cX8_calm 151 = .ok (.iload 12, 2) := dq_21 (b1 := 12) (by decide +kernel) (by decide)
theorem dX8_calm_153 : decode cX8_calm 153 = .ok (.invokestatic 213, 3) := dq_184 (b1 := 0) (b2 := 213) (by decide +kernel) (by decide)
theorem dX8_calm_156 : decode cX8_calm 156 = .ok (.ifCond .eq 7, 3) := dq_153 (b1 := 0) (b2 := 7) (by decide +kernel) (by decide)
theorem dX8_calm_159 : decode cX8_calm 159 = .ok (.iconst 2, 1) := dq_5 (by decide +kernel)
theorem dX8_calm_160 : decode cX8_calm 160 = .ok (.goto 13, 3) := dq_167 (b1 := 0) (b2 := 13) (by decide +kernel) (by decide)
theorem dX8_calm_163 : decode cX8_calm 163 = .ok (.aload_n 0, 1) := dq_42 (by decide +kernel)
theorem dX8_calm_164 : decode cX8_calm 164 = .ok (.getfield 19, 3) := dq_180 (b1 := 0) (b2 := 19) (by decide +kernel) (by decide)
theorem dX8_calm_167 : decode cX8_calm 167 = .ok (.bipush 8, 2) := dq_16 (b1 := 8) (by decide +kernel) (by decide)
theorem dX8_calm_169 : decode cX8_calm 169 = .ok (.iload 12, 2) := dq_21 (b1 := 12) (by decide +kernel) (by decide)
theorem dX8_calm_17 : decode cX8_calm 17 = .ok (.ifCond .eq 23, 3) := dq_153 (b1 := 0) (b2 := 23) (by decide +kernel) (by decide)
theorem dX8_calm_171 : decode cX8_calm 171 = .ok (.iadd, 1) := dq_96 (by decide +kernel)
theorem dX8_calm_172 : decode cX8_calm 172 = .ok (.iaload, 1) := dq_46 (by decide +kernel)
theorem dX8_calm_173 : decode cX8_calm 173 = .ok (.iastore, 1) := dq_79 (by decide +kernel)
theorem dX8_calm_174 : decode cX8_calm 174 = .ok (.iinc 12 1, 3) := dq_132 (b1 := 12) (b2 := 1) (by decide +kernel) (by decide) (by decide)
theorem dX8_calm_177 : decode cX8_calm 177 = .ok (.goto (-73), 3) := dq_167 (b1 := 255) (b2 := 183) (by decide +kernel) (by decide)
theorem dX8_calm_180 : decode cX8_calm 180 = .ok (.aload_n 0, 1) := dq_42 (by decide +kernel)
theorem dX8_calm_181 : decode cX8_calm 181 = .ok (.iload_n 2, 1) := dq_28 (by decide +kernel)
theorem dX8_calm_182 : decode cX8_calm 182 = .ok (.invokevirtual 190, 3) := dq_182 (b1 := 0) (b2 := 190) (by decide +kernel) (by decide)
theorem dX8_calm_185 : decode cX8_calm 185 = .ok (.lload 5, 2) := dq_22 (b1 := 5) (by decide +kernel) (by decide)
theorem dX8_calm_187 : decode cX8_calm 187 = .ok (.aload_n 0, 1) := dq_42 (by decide +kernel)
theorem dX8_calm_188 : decode cX8_calm 188 = .ok (.getfield 19, 3) := dq_180 (b1 := 0) (b2 := 19) (by decide +kernel) (by decide)
theorem dX8_calm_191 : decode cX8_calm 191 = .ok (.bipush 26, 2) := dq_16 (b1 := 26) (by decide +kernel) (by decide)
theorem dX8_calm_193 : decode cX8_calm 193 = .ok (.iload_n 1, 1) := dq_27 (by decide +kernel)
theorem dX8_calm_194 : decode cX8_calm 194 = .ok (.iadd, 1) := dq_96 (by decide +kernel)
theorem dX8_calm_195 : decode cX8_calm 195 = .ok (.iaload, 1) := dq_46 (by decide +kernel)
theorem dX8_calm_196 : decode cX8_calm 196 = .ok (.iconst 1, 1) := dq_4 (by decide +kernel)
theorem dX8_calm_197 : decode cX8_calm 197 = .ok (.if_icmp .ne 8, 3) := dq_160 (b1 := 0) (b2 := 8) (by decide +kernel) (by decide)
theorem dX8_calm_2 : decode cX8_calm 2 = .ok (.invokevirtual 173, 3) := dq_182 (b1 := 0) (b2 := 173) (by decide +kernel) (by decide)
theorem dX8_calm_20 : decode cX8_calm 20 = .ok (.iload_n 3, 1) := dq_29 (by decide +kernel)
theorem dX8_calm_200 : decode cX8_calm 200 = .ok (.lload 10, 2) := dq_22 (b1 := 10) (by decide +kernel) (by decide)
theorem dX8_calm_202 : decode cX8_calm 202 = .ok (.goto 4, 3) := dq_167 (b1 := 0) (b2 := 4) (by decide +kernel) (by decide)
theorem dX8_calm_205 : decode cX8_calm 205 = .ok (.lconst 0, 1) := dq_9 (by decide +kernel)
theorem dX8_calm_206 : decode cX8_calm 206 = .ok (.ladd, 1) := dq_97 (by decide +kernel)
theorem dX8_calm_207 : decode cX8_calm 207 = .ok (.lstore 5, 2) := dq_55 (b1 := 5) (by decide +kernel) (by decide)
theorem dX8_calm_209 : decode cX8_calm 209 = .ok (.aload_n 0, 1) := dq_42 (by decide +kernel)
theorem dX8_calm_21 : decode cX8_calm 21 = .ok (.i2l, 1) := dq_133 (by decide +kernel)
theorem dX8_calm_210 : decode cX8_calm 210 = .ok (.invokevirtual 194, 3) := dq_182 (b1 := 0) (b2 := 194) (by decide +kernel) (by decide)
theorem dX8_calm_213 : decode cX8_calm 213 = .ok (.iinc 9 1, 3) := dq_132 (b1 := 9) (b2 := 1) (by decide +kernel) (by decide) (by decide)
theorem dX8_calm_216 : decode cX8_calm 216 = .ok (.goto (-131), 3) := dq_167 (b1 := 255) (b2 := 125) (by decide +kernel) (by decide)
theorem dX8_calm_219 : decode cX8_calm 219 = .ok (.lload 5, 2) := dq_22 (b1 := 5) (by decide +kernel) (by decide)
theorem dX8_calm_22 : decode cX8_calm 22 = .ok (.lconst 0, 1) := dq_9 (by decide +kernel)
theorem dX8_calm_221 : decode cX8_calm 221 = .ok (.lstore 9, 2) := dq_55 (b1 := 9) (by decide +kernel) (by decide)
theorem dX8_calm_223 : decode cX8_calm 223 = .ok (.lload 7, 2) := dq_22 (b1 := 7) (by decide +kernel) (by decide)
theorem dX8_calm_225 : decode cX8_calm 225 = .ok (.lstore 11, 2) := dq_55 (b1 := 11) (by decide +kernel) (by decide)
theorem dX8_calm_227 : decode cX8_calm 227 = .ok (.lload 11, 2) := dq_22 (b1 := 11) (by decide +kernel) (by decide)
theorem dX8_calm_229 : decode cX8_calm 229 = .ok (.lconst 0, 1) := dq_9 (by decide +kernel)
theorem dX8_calm_23 : decode cX8_calm 23 = .ok (.ldc2_w 238, 3) := dq_20 (b1 := 0) (b2 := 238) (by decide +kernel) (by decide)
theorem dX8_calm_230 : decode cX8_calm 230 = .ok (.lcmp, 1) := dq_148 (by decide +kernel)
theorem dX8_calm_231 : decode cX8_calm 231 = .ok (.ifCond .eq 21, 3) := dq_153 (b1 := 0) (b2 := 21) (by decide +kernel) (by decide)
theorem dX8_calm_234 : decode cX8_calm 234 = .ok (.lload 9, 2) := dq_22 (b1 := 9) (by decide +kernel) (by decide)
theorem dX8_calm_236 : decode cX8_calm 236 = .ok (.lload 11, 2) := dq_22 (b1 := 11) (by decide +kernel) (by decide)
theorem dX8_calm_238 : decode cX8_calm 238 = .ok (.lrem, 1) := dq_113 (by decide +kernel)
theorem dX8_calm_239 : decode cX8_calm 239 = .ok (.lstore 13, 2) := dq_55 (b1 := 13) (by decide +kernel) (by decide)
theorem dX8_calm_241 : decode cX8_calm 241 = .ok (.lload 11, 2) := dq_22 (b1 := 11) (by decide +kernel) (by decide)
theorem dX8_calm_243 : decode cX8_calm 243 = .ok (.lstore 9, 2) := dq_55 (b1 := 9) (by decide +kernel) (by decide)
theorem dX8_calm_245 : decode cX8_calm 245 = .ok (.lload 13, 2) := dq_22 (b1 := 13) (by decide +kernel) (by decide)
theorem dX8_calm_247 : decode cX8_calm 247 = .ok (.lstore 11, 2) := dq_55 (b1 := 11) (by decide +kernel) (by decide)
theorem dX8_calm_249 : decode cX8_calm 249 = .ok (.goto (-22), 3) := dq_167 (b1 := 255) (b2 := 234) (by decide +kernel) (by decide)
theorem dX8_calm_252 : decode cX8_calm 252 = .ok (.iload 4, 2) := dq_21 (b1 := 4) (by decide +kernel) (by decide)
theorem dX8_calm_254 : decode cX8_calm 254 = .ok (.ifCond .ne 11, 3) := dq_154 (b1 := 0) (b2 := 11) (by decide +kernel) (by decide)
theorem dX8_calm_257 : decode cX8_calm 257 = .ok (.lload 5, 2) := dq_22 (b1 := 5) (by decide +kernel) (by decide)
theorem dX8_calm_259 : decode cX8_calm 259 = .ok (.lload 9, 2) := dq_22 (b1 := 9) (by decide +kernel) (by decide)
theorem dX8_calm_26 : decode cX8_calm 26 = .ok (.invokestatic 57, 3) := dq_184 (b1 := 0) (b2 := 57) (by decide +kernel) (by decide)
theorem dX8_calm_261 : decode cX8_calm 261 = .ok (.ldiv, 1) := dq_109 (by decide +kernel)
theorem dX8_calm_262 : decode cX8_calm 262 = .ok (.goto 8, 3) := dq_167 (b1 := 0) (b2 := 8) (by decide +kernel) (by decide)
theorem dX8_calm_265 : decode cX8_calm 265 = .ok (.lload 7, 2) := dq_22 (b1 := 7) (by decide +kernel) (by decide)
theorem dX8_calm_267 : decode cX8_calm 267 = .ok (.lload 9, 2) := dq_22 (b1 := 9) (by decide +kernel) (by decide)
theorem dX8_calm_269 : decode cX8_calm 269 = .ok (.ldiv, 1) := dq_109 (by decide +kernel)
theorem dX8_calm_270 : decode cX8_calm 270 = .ok (.lreturn, 1) := dq_173 (by decide +kernel)
theorem dX8_calm_29 : decode cX8_calm 29 = .ok (.ifCond .eq 11, 3) := dq_153 (b1 := 0) (b2 := 11) (by decide +kernel) (by decide)
theorem dX8_calm_32 : decode cX8_calm 32 = .ok (.iload 4, 2) := dq_21 (b1 := 4) (by decide +kernel) (by decide)
theorem dX8_calm_34 : decode cX8_calm 34 = .ok (.invokestatic 210, 3) := dq_184 (b1 := 0) (b2 := 210) (by decide +kernel) (by decide)
theorem dX8_calm_37 : decode cX8_calm 37 = .ok (.ifCond .ne 7, 3) := dq_154 (b1 := 0) (b2 := 7) (by decide +kernel) (by decide)
theorem dX8_calm_40 : decode cX8_calm 40 = .ok (.ldc2_w 240, 3) := dq_20 (b1 := 0) (b2 := 240) (by decide +kernel) (by decide)
theorem dX8_calm_43 : decode cX8_calm 43 = .ok (.lreturn, 1) := dq_173 (by decide +kernel)
theorem dX8_calm_44 : decode cX8_calm 44 = .ok (.aload_n 0, 1) := dq_42 (by decide +kernel)
theorem dX8_calm_45 : decode cX8_calm 45 = .ok (.invokevirtual 197, 3) := dq_182 (b1 := 0) (b2 := 197) (by decide +kernel) (by decide)
theorem dX8_calm_48 : decode cX8_calm 48 = .ok (.lconst 0, 1) := dq_9 (by decide +kernel)
theorem dX8_calm_49 : decode cX8_calm 49 = .ok (.lstore 5, 2) := dq_55 (b1 := 5) (by decide +kernel) (by decide)
theorem dX8_calm_5 : decode cX8_calm 5 = .ok (.ifCond .eq 35, 3) := dq_153 (b1 := 0) (b2 := 35) (by decide +kernel) (by decide)
theorem dX8_calm_51 : decode cX8_calm 51 = .ok (.lconst 1, 1) := dq_10 (by decide +kernel)
theorem dX8_calm_52 : decode cX8_calm 52 = .ok (.lstore 7, 2) := dq_55 (b1 := 7) (by decide +kernel) (by decide)
theorem dX8_calm_54 : decode cX8_calm 54 = .ok (.iconst 0, 1) := dq_3 (by decide +kernel)
theorem dX8_calm_55 : decode cX8_calm 55 = .ok (.istore 9, 2) := dq_54 (b1 := 9) (by decide +kernel) (by decide)
theorem dX8_calm_57 : decode cX8_calm 57 = .ok (.iload 9, 2) := dq_21 (b1 := 9) (by decide +kernel) (by decide)
theorem dX8_calm_59 : decode cX8_calm 59 = .ok (.aload_n 0, 1) := dq_42 (by decide +kernel)
theorem dX8_calm_60 : decode cX8_calm 60 = .ok (.getfield 19, 3) := dq_180 (b1 := 0) (b2 := 19) (by decide +kernel) (by decide)
theorem dX8_calm_63 : decode cX8_calm 63 = .ok (.iconst 3, 1) := dq_6 (by decide +kernel)
theorem dX8_calm_64 : decode cX8_calm 64 = .ok (.iaload, 1) := dq_46 (by decide +kernel)
theorem dX8_calm_65 : decode cX8_calm 65 = .ok (.if_icmp .ge 17, 3) := dq_162 (b1 := 0) (b2 := 17) (by decide +kernel) (by decide)
theorem dX8_calm_68 : decode cX8_calm 68 = .ok (.lload 7, 2) := dq_22 (b1 := 7) (by decide +kernel) (by decide)
theorem dX8_calm_70 : decode cX8_calm 70 = .ok (.ldc2_w 238, 3) := dq_20 (b1 := 0) (b2 := 238) (by decide +kernel) (by decide)
theorem dX8_calm_73 : decode cX8_calm 73 = .ok (.lmul, 1) := dq_105 (by decide +kernel)
theorem dX8_calm_74 : decode cX8_calm 74 = .ok (.lstore 7, 2) := dq_55 (b1 := 7) (by decide +kernel) (by decide)
theorem dX8_calm_76 : decode cX8_calm 76 = .ok (.iinc 9 1, 3) := dq_132 (b1 := 9) (b2 := 1) (by decide +kernel) (by decide) (by decide)
theorem dX8_calm_79 : decode cX8_calm 79 = .ok (.goto (-22), 3) := dq_167 (b1 := 255) (b2 := 234) (by decide +kernel) (by decide)
theorem dX8_calm_8 : decode cX8_calm 8 = .ok (.iload_n 2, 1) := dq_28 (by decide +kernel)
theorem dX8_calm_82 : decode cX8_calm 82 = .ok (.iconst 0, 1) := dq_3 (by decide +kernel)
theorem dX8_calm_83 : decode cX8_calm 83 = .ok (.istore 9, 2) := dq_54 (b1 := 9) (by decide +kernel) (by decide)
theorem dX8_calm_85 : decode cX8_calm 85 = .ok (.iload 9, 2) := dq_21 (b1 := 9) (by decide +kernel) (by decide)
theorem dX8_calm_87 : decode cX8_calm 87 = .ok (.iconst 1, 1) := dq_4 (by decide +kernel)
theorem dX8_calm_88 : decode cX8_calm 88 = .ok (.aload_n 0, 1) := dq_42 (by decide +kernel)
theorem dX8_calm_89 : decode cX8_calm 89 = .ok (.getfield 34, 3) := dq_180 (b1 := 0) (b2 := 34) (by decide +kernel) (by decide)
theorem dX8_calm_9 : decode cX8_calm 9 = .ok (.i2l, 1) := dq_133 (by decide +kernel)
theorem dX8_calm_92 : decode cX8_calm 92 = .ok (.iconst 3, 1) := dq_6 (by decide +kernel)
theorem dX8_calm_93 : decode cX8_calm 93 = .ok (.iaload, 1) := dq_46 (by decide +kernel)
theorem dX8_calm_94 : decode cX8_calm 94 = .ok (.ishl, 1) := dq_120 (by decide +kernel)
theorem dX8_calm_95 : decode cX8_calm 95 = .ok (.if_icmp .ge 124, 3) := dq_162 (b1 := 0) (b2 := 124) (by decide +kernel) (by decide)
theorem dX8_calm_98 : decode cX8_calm 98 = .ok (.lconst 1, 1) := dq_10 (by decide +kernel)
theorem dX8_calm_99 : decode cX8_calm 99 = .ok (.lstore 10, 2) := dq_55 (b1 := 10) (by decide +kernel) (by decide)
theorem dX8_drawn_0 : decode cX8_drawn 0 = .ok (.aload_n 0, 1) := dq_42 (by decide +kernel)
theorem dX8_drawn_1 : decode cX8_drawn 1 = .ok (.getfield 138, 3) := dq_180 (b1 := 0) (b2 := 138) (by decide +kernel) (by decide)
theorem dX8_drawn_10 : decode cX8_drawn 10 = .ok (.iload_n 1, 1) := dq_27 (by decide +kernel)
theorem dX8_drawn_100 : decode cX8_drawn 100 = .ok (.iaload, 1) := dq_46 (by decide +kernel)
theorem dX8_drawn_101 : decode cX8_drawn 101 = .ok (.i2l, 1) := dq_133 (by decide +kernel)
theorem dX8_drawn_102 : decode cX8_drawn 102 = .ok (.lrem, 1) := dq_113 (by decide +kernel)
theorem dX8_drawn_103 : decode cX8_drawn 103 = .ok (.l2i, 1) := dq_136 (by decide +kernel)
theorem dX8_drawn_104 : decode cX8_drawn 104 = .ok (.iadd, 1) := dq_96 (by decide +kernel)
theorem dX8_drawn_105 : decode cX8_drawn 105 = .ok (.lload 4, 2) := dq_22 (b1 := 4) (by decide +kernel) (by decide)
theorem dX8_drawn_107 : decode cX8_drawn 107 = .ok (.ldc2_w 250, 3) := dq_20 (b1 := 0) (b2 := 250) (by decide +kernel) (by decide)
theorem dX8_drawn_11 : decode cX8_drawn 11 = .ok (.i2l, 1) := dq_133 (by decide +kernel)
theorem dX8_drawn_110 : decode cX8_drawn 110 = .ok (.lrem, 1) := dq_113 (by decide +kernel)
theorem dX8_drawn_111 : decode cX8_drawn 111 = .ok (.l2i, 1) := dq_136 (by decide +kernel)
theorem dX8_drawn_112 : decode cX8_drawn 112 = .ok (.iastore, 1) := dq_79 (by decide +kernel)
theorem dX8_drawn_113 : decode cX8_drawn 113 = .ok (.aload_n 0, 1) := dq_42 (by decide +kernel)
theorem dX8_drawn_114 : decode cX8_drawn 114 = .ok (.getfield 19, 3) := dq_180 (b1 := 0) (b2 := 19) (by decide +kernel) (by decide)
theorem dX8_drawn_117 : decode cX8_drawn 117 = .ok (.bipush 6, 2) := dq_16 (b1 := 6) (by decide +kernel) (by decide)
theorem dX8_drawn_119 : decode cX8_drawn 119 = .ok (.lload 4, 2) := dq_22 (b1 := 4) (by decide +kernel) (by decide)
theorem dX8_drawn_12 : decode cX8_drawn 12 = .ok (.lconst 0, 1) := dq_9 (by decide +kernel)
theorem dX8_drawn_121 : decode cX8_drawn 121 = .ok (.ldc2_w 65, 3) := dq_20 (b1 := 0) (b2 := 65) (by decide +kernel) (by decide)
theorem dX8_drawn_124 : decode cX8_drawn 124 = .ok (.lrem, 1) := dq_113 (by decide +kernel)
theorem dX8_drawn_125 : decode cX8_drawn 125 = .ok (.l2i, 1) := dq_136 (by decide +kernel)
theorem dX8_drawn_126 : decode cX8_drawn 126 = .ok (.iastore, 1) := dq_79 (by decide +kernel)
theorem dX8_drawn_127 : decode cX8_drawn 127 = .ok (.lload 4, 2) := dq_22 (b1 := 4) (by decide +kernel) (by decide)
theorem dX8_drawn_129 : decode cX8_drawn 129 = .ok (.aload_n 0, 1) := dq_42 (by decide +kernel)
theorem dX8_drawn_13 : decode cX8_drawn 13 = .ok (.ldc2_w 188, 3) := dq_20 (b1 := 0) (b2 := 188) (by decide +kernel) (by decide)
theorem dX8_drawn_130 : decode cX8_drawn 130 = .ok (.getfield 19, 3) := dq_180 (b1 := 0) (b2 := 19) (by decide +kernel) (by decide)
theorem dX8_drawn_133 : decode cX8_drawn 133 = .ok (.iconst 4, 1) := dq_7 (by decide +kernel)
theorem dX8_drawn_134 : decode cX8_drawn 134 = .ok (.iaload, 1) := dq_46 (by decide +kernel)
theorem dX8_drawn_135 : decode cX8_drawn 135 = .ok (.i2l, 1) := dq_133 (by decide +kernel)
theorem dX8_drawn_136 : decode cX8_drawn 136 = .ok (.lrem, 1) := dq_113 (by decide +kernel)
theorem dX8_drawn_137 : decode cX8_drawn 137 = .ok (.l2i, 1) := dq_136 (by decide +kernel)
theorem dX8_drawn_138 : decode cX8_drawn 138 = .ok (.istore 8, 2) := dq_54 (b1 := 8) (by decide +kernel) (by decide)
theorem dX8_drawn_140 : decode cX8_drawn 140 = .ok (.aload_n 0, 1) := dq_42 (by decide +kernel)
theorem dX8_drawn_141 : decode cX8_drawn 141 = .ok (.getfield 19, 3) := dq_180 (b1 := 0) (b2 := 19) (by decide +kernel) (by decide)
theorem dX8_drawn_144 : decode cX8_drawn 144 = .ok (.bipush 26, 2) := dq_16 (b1 := 26) (by decide +kernel) (by decide)
theorem dX8_drawn_146 : decode cX8_drawn 146 = .ok (.iload 8, 2) := dq_21 (b1 := 8) (by decide +kernel) (by decide)
theorem dX8_drawn_148 : decode cX8_drawn 148 = .ok (.iadd, 1) := dq_96 (by decide +kernel)
theorem dX8_drawn_149 : decode cX8_drawn 149 = .ok (.iaload, 1) := dq_46 (by decide +kernel)
theorem dX8_drawn_150 : decode cX8_drawn 150 = .ok (.ifCond .eq 29, 3) := dq_153 (b1 := 0) (b2 := 29) (by decide +kernel) (by decide)
theorem dX8_drawn_153 : decode cX8_drawn 153 = .ok (.aload_n 0, 1) := dq_42 (by decide +kernel)
theorem dX8_drawn_154 : decode cX8_drawn 154 = .ok (.iload 8, 2) := dq_21 (b1 := 8) (by decide +kernel) (by decide)
theorem dX8_drawn_156 : decode cX8_drawn 156 = .ok (.lload 4, 2) := dq_22 (b1 := 4) (by decide +kernel) (by decide)
theorem dX8_drawn_158 : decode cX8_drawn 158 = .ok (.aload_n 0, 1) := dq_42 (by decide +kernel)
theorem dX8_drawn_159 : decode cX8_drawn 159 = .ok (.getfield 19, 3) := dq_180 (b1 := 0) (b2 := 19) (by decide +kernel) (by decide)
theorem dX8_drawn_16 : decode cX8_drawn 16 = .ok (.invokestatic 57, 3) := dq_184 (b1 := 0) (b2 := 57) (by decide +kernel) (by decide)
theorem dX8_drawn_162 : decode cX8_drawn 162 = .ok (.iconst 0, 1) := dq_3 (by decide +kernel)
theorem dX8_drawn_163 : decode cX8_drawn 163 = .ok (.iaload, 1) := dq_46 (by decide +kernel)
theorem dX8_drawn_164 : decode cX8_drawn 164 = .ok (.i2l, 1) := dq_133 (by decide +kernel)
theorem dX8_drawn_165 : decode cX8_drawn 165 = .ok (.lrem, 1) := dq_113 (by decide +kernel)
theorem dX8_drawn_166 : decode cX8_drawn 166 = .ok (.l2i, 1) := dq_136 (by decide +kernel)
theorem dX8_drawn_167 : decode cX8_drawn 167 = .ok (.lload 4, 2) := dq_22 (b1 := 4) (by decide +kernel) (by decide)
theorem dX8_drawn_169 : decode cX8_drawn 169 = .ok (.ldc2_w 252, 3) := dq_20 (b1 := 0) (b2 := 252) (by decide +kernel) (by decide)
theorem dX8_drawn_172 : decode cX8_drawn 172 = .ok (.lrem, 1) := dq_113 (by decide +kernel)
theorem dX8_drawn_173 : decode cX8_drawn 173 = .ok (.l2i, 1) := dq_136 (by decide +kernel)
theorem dX8_drawn_174 : decode cX8_drawn 174 = .ok (.iconst 1, 1) := dq_4 (by decide +kernel)
theorem dX8_drawn_175 : decode cX8_drawn 175 = .ok (.iadd, 1) := dq_96 (by decide +kernel)
theorem dX8_drawn_176 : decode cX8_drawn 176 = .ok (.invokevirtual 178, 3) := dq_182 (b1 := 0) (b2 := 178) (by decide +kernel) (by decide)
theorem dX8_drawn_179 : decode cX8_drawn 179 = .ok (.iload 6, 2) := dq_21 (b1 := 6) (by decide +kernel) (by decide)
theorem dX8_drawn_181 : decode cX8_drawn 181 = .ok (.aload_n 0, 1) := dq_42 (by decide +kernel)
theorem dX8_drawn_182 : decode cX8_drawn 182 = .ok (.invokevirtual 167, 3) := dq_182 (b1 := 0) (b2 := 167) (by decide +kernel) (by decide)
theorem dX8_drawn_185 : decode cX8_drawn 185 = .ok (.iadd, 1) := dq_96 (by decide +kernel)
theorem dX8_drawn_186 : decode cX8_drawn 186 = .ok (.istore 6, 2) := dq_54 (b1 := 6) (by decide +kernel) (by decide)
theorem dX8_drawn_188 : decode cX8_drawn 188 = .ok (.iinc 7 1, 3) := dq_132 (b1 := 7) (b2 := 1) (by decide +kernel) (by decide) (by decide)
theorem dX8_drawn_19 : decode cX8_drawn 19 = .ok (.ifCond .eq 22, 3) := dq_153 (b1 := 0) (b2 := 22) (by decide +kernel) (by decide)
theorem dX8_drawn_191 : decode cX8_drawn 191 = .ok (.goto (-133), 3) := dq_167 (b1 := 255) (b2 := 123) (by decide +kernel) (by decide)
theorem dX8_drawn_194 : decode cX8_drawn 194 = .ok (.aload_n 0, 1) := dq_42 (by decide +kernel)
theorem dX8_drawn_195 : decode cX8_drawn 195 = .ok (.iconst 2, 1) := dq_5 (by decide +kernel)
theorem dX8_drawn_196 : decode cX8_drawn 196 = .ok (.invokevirtual 182, 3) := dq_182 (b1 := 0) (b2 := 182) (by decide +kernel) (by decide)
theorem dX8_drawn_199 : decode cX8_drawn 199 = .ok (.invokestatic 254, 3) := dq_184 (b1 := 0) (b2 := 254) (by decide +kernel) (by decide)
theorem dX8_drawn_202 : decode cX8_drawn 202 = .ok (.istore 7, 2) := dq_54 (b1 := 7) (by decide +kernel) (by decide)
theorem dX8_drawn_204 : decode cX8_drawn 204 = .ok (.aload_n 0, 1) := dq_42 (by decide +kernel)
theorem dX8_drawn_205 : decode cX8_drawn 205 = .ok (.invokevirtual 194, 3) := dq_182 (b1 := 0) (b2 := 194) (by decide +kernel) (by decide)
theorem dX8_drawn_208 : decode cX8_drawn 208 = .ok (.iload_n 3, 1) := dq_29 (by decide +kernel)
theorem dX8_drawn_209 : decode cX8_drawn 209 = .ok (.ifCond .ne 8, 3) := dq_154 (b1 := 0) (b2 := 8) (by decide +kernel) (by decide)
theorem dX8_drawn_212 : decode cX8_drawn 212 = .ok (.iload 6, 2) := dq_21 (b1 := 6) (by decide +kernel) (by decide)
theorem dX8_drawn_214 : decode cX8_drawn 214 = .ok (.goto 5, 3) := dq_167 (b1 := 0) (b2 := 5) (by decide +kernel) (by decide)
theorem dX8_drawn_217 : decode cX8_drawn 217 = .ok (.iload 7, 2) := dq_21 (b1 := 7) (by decide +kernel) (by decide)
theorem dX8_drawn_219 : decode cX8_drawn 219 = .ok (.ireturn, 1) := dq_172 (by decide +kernel)
theorem dX8_drawn_22 : decode cX8_drawn 22 = .ok (.iload_n 2, 1) := dq_28 (by decide +kernel)
theorem dX8_drawn_23 : decode cX8_drawn 23 = .ok (.i2l, 1) := dq_133 (by decide +kernel)
theorem dX8_drawn_24 : decode cX8_drawn 24 = .ok (.lconst 1, 1) := dq_10 (by decide +kernel)
theorem dX8_drawn_25 : decode cX8_drawn 25 = .ok (.ldc2_w 242, 3) := dq_20 (b1 := 0) (b2 := 242) (by decide +kernel) (by decide)
theorem dX8_drawn_28 : decode cX8_drawn 28 = .ok (.invokestatic 57, 3) := dq_184 (b1 := 0) (b2 := 57) (by decide +kernel) (by decide)
theorem dX8_drawn_31 : decode cX8_drawn 31 = .ok (.ifCond .eq 10, 3) := dq_153 (b1 := 0) (b2 := 10) (by decide +kernel) (by decide)
theorem dX8_drawn_34 : decode cX8_drawn 34 = .ok (.iload_n 3, 1) := dq_29 (by decide +kernel)
theorem dX8_drawn_35 : decode cX8_drawn 35 = .ok (.invokestatic 210, 3) := dq_184 (b1 := 0) (b2 := 210) (by decide +kernel) (by decide)
theorem dX8_drawn_38 : decode cX8_drawn 38 = .ok (.ifCond .ne 6, 3) := dq_154 (b1 := 0) (b2 := 6) (by decide +kernel) (by decide)
theorem dX8_drawn_4 : decode cX8_drawn 4 = .ok (.ifCond .ne 6, 3) := dq_154 (b1 := 0) (b2 := 6) (by decide +kernel) (by decide)
theorem dX8_drawn_41 : decode cX8_drawn 41 = .ok (.ldc 67, 2) := dq_18 (b1 := 67) (by decide +kernel) (by decide)
theorem dX8_drawn_43 : decode cX8_drawn 43 = .ok (.ireturn, 1) := dq_172 (by decide +kernel)
theorem dX8_drawn_44 : decode cX8_drawn 44 = .ok (.aload_n 0, 1) := dq_42 (by decide +kernel)
theorem dX8_drawn_45 : decode cX8_drawn 45 = .ok (.invokevirtual 197, 3) := dq_182 (b1 := 0) (b2 := 197) (by decide +kernel) (by decide)
theorem dX8_drawn_48 : decode cX8_drawn 48 = .ok (.iload_n 2, 1) := dq_28 (by decide +kernel)
theorem dX8_drawn_49 : decode cX8_drawn 49 = .ok (.i2l, 1) := dq_133 (by decide +kernel)
theorem dX8_drawn_50 : decode cX8_drawn 50 = .ok (.lstore 4, 2) := dq_55 (b1 := 4) (by decide +kernel) (by decide)
theorem dX8_drawn_52 : decode cX8_drawn 52 = .ok (.iconst 0, 1) := dq_3 (by decide +kernel)
theorem dX8_drawn_53 : decode cX8_drawn 53 = .ok (.istore 6, 2) := dq_54 (b1 := 6) (by decide +kernel) (by decide)
theorem dX8_drawn_55 : decode cX8_drawn 55 = .ok (.iconst 0, 1) := dq_3 (by decide +kernel)
theorem dX8_drawn_56 : decode cX8_drawn 56 = .ok (.istore 7, 2) := dq_54 (b1 := 7) (by decide +kernel) (by decide)
theorem dX8_drawn_58 : decode cX8_drawn 58 = .ok (.iload 7, 2) := dq_21 (b1 := 7) (by decide +kernel) (by decide)
theorem dX8_drawn_60 : decode cX8_drawn 60 = .ok (.iload_n 1, 1) := dq_27 (by decide +kernel)
theorem dX8_drawn_61 : decode cX8_drawn 61 = .ok (.if_icmp .ge 133, 3) := dq_162 (b1 := 0) (b2 := 133) (by decide +kernel) (by decide)
theorem dX8_drawn_64 : decode cX8_drawn 64 = .ok (.lload 4, 2) := dq_22 (b1 := 4) (by decide +kernel) (by decide)
theorem dX8_drawn_66 : decode cX8_drawn 66 = .ok (.ldc2_w 244, 3) := dq_20 (b1 := 0) (b2 := 244) (by decide +kernel) (by decide)
theorem dX8_drawn_69 : decode cX8_drawn 69 = .ok (.lmul, 1) := dq_105 (by decide +kernel)
theorem dX8_drawn_7 : decode cX8_drawn 7 = .ok (.ldc 161, 2) := dq_18 (b1 := 161) (by decide +kernel) (by decide)
theorem dX8_drawn_70 : decode cX8_drawn 70 = .ok (.ldc2_w 246, 3) := dq_20 (b1 := 0) (b2 := 246) (by decide +kernel) (by decide)
theorem dX8_drawn_73 : decode cX8_drawn 73 = .ok (.lrem, 1) := dq_113 (by decide +kernel)
theorem dX8_drawn_74 : decode cX8_drawn 74 = .ok (.lstore 4, 2) := dq_55 (b1 := 4) (by decide +kernel) (by decide)
theorem dX8_drawn_76 : decode cX8_drawn 76 = .ok (.lload 4, 2) := dq_22 (b1 := 4) (by decide +kernel) (by decide)
theorem dX8_drawn_78 : decode cX8_drawn 78 = .ok (.ldc2_w 248, 3) := dq_20 (b1 := 0) (b2 := 248) (by decide +kernel) (by decide)
theorem dX8_drawn_81 : decode cX8_drawn 81 = .ok (.lrem, 1) := dq_113 (by decide +kernel)
theorem dX8_drawn_82 : decode cX8_drawn 82 = .ok (.lconst 0, 1) := dq_9 (by decide +kernel)
theorem dX8_drawn_83 : decode cX8_drawn 83 = .ok (.lcmp, 1) := dq_148 (by decide +kernel)
theorem dX8_drawn_84 : decode cX8_drawn 84 = .ok (.ifCond .ne 29, 3) := dq_154 (b1 := 0) (b2 := 29) (by decide +kernel) (by decide)
theorem dX8_drawn_87 : decode cX8_drawn 87 = .ok (.aload_n 0, 1) := dq_42 (by decide +kernel)
theorem dX8_drawn_88 : decode cX8_drawn 88 = .ok (.getfield 19, 3) := dq_180 (b1 := 0) (b2 := 19) (by decide +kernel) (by decide)
theorem dX8_drawn_9 : decode cX8_drawn 9 = .ok (.ireturn, 1) := dq_172 (by decide +kernel)
theorem dX8_drawn_91 : decode cX8_drawn 91 = .ok (.bipush 8, 2) := dq_16 (b1 := 8) (by decide +kernel) (by decide)
theorem dX8_drawn_93 : decode cX8_drawn 93 = .ok (.lload 4, 2) := dq_22 (b1 := 4) (by decide +kernel) (by decide)
theorem dX8_drawn_95 : decode cX8_drawn 95 = .ok (.aload_n 0, 1) := dq_42 (by decide +kernel)
theorem dX8_drawn_96 : decode cX8_drawn 96 = .ok (.getfield 19, 3) := dq_180 (b1 := 0) (b2 := 19) (by decide +kernel) (by decide)
theorem dX8_drawn_99 : decode cX8_drawn 99 = .ok (.iconst 3, 1) := dq_6 (by decide +kernel)
theorem dX8_fits_0 : decode cX8_fits 0 = .ok (.aload_n 0, 1) := dq_42 (by decide +kernel)
theorem dX8_fits_1 : decode cX8_fits 1 = .ok (.invokevirtual 197, 3) := dq_182 (b1 := 0) (b2 := 197) (by decide +kernel) (by decide)
theorem dX8_fits_10 : decode cX8_fits 10 = .ok (.iload 8, 2) := dq_21 (b1 := 8) (by decide +kernel) (by decide)
theorem dX8_fits_12 : decode cX8_fits 12 = .ok (.iload_n 3, 1) := dq_29 (by decide +kernel)
theorem dX8_fits_13 : decode cX8_fits 13 = .ok (.if_icmp .gt 43, 3) := dq_163 (b1 := 0) (b2 := 43) (by decide +kernel) (by decide)
theorem dX8_fits_16 : decode cX8_fits 16 = .ok (.aload_n 0, 1) := dq_42 (by decide +kernel)
theorem dX8_fits_17 : decode cX8_fits 17 = .ok (.getfield 19, 3) := dq_180 (b1 := 0) (b2 := 19) (by decide +kernel) (by decide)
theorem dX8_fits_20 : decode cX8_fits 20 = .ok (.iload_n 1, 1) := dq_27 (by decide +kernel)
theorem dX8_fits_21 : decode cX8_fits 21 = .ok (.iload 8, 2) := dq_21 (b1 := 8) (by decide +kernel) (by decide)
theorem dX8_fits_23 : decode cX8_fits 23 = .ok (.iastore, 1) := dq_79 (by decide +kernel)
theorem dX8_fits_24 : decode cX8_fits 24 = .ok (.iload 7, 2) := dq_21 (b1 := 7) (by decide +kernel) (by decide)
theorem dX8_fits_26 : decode cX8_fits 26 = .ok (.aload_n 0, 1) := dq_42 (by decide +kernel)
theorem dX8_fits_27 : decode cX8_fits 27 = .ok (.iload 4, 2) := dq_21 (b1 := 4) (by decide +kernel) (by decide)
theorem dX8_fits_29 : decode cX8_fits 29 = .ok (.iload 5, 2) := dq_21 (b1 := 5) (by decide +kernel) (by decide)
theorem dX8_fits_31 : decode cX8_fits 31 = .ok (.iload 6, 2) := dq_21 (b1 := 6) (by decide +kernel) (by decide)
theorem dX8_fits_33 : decode cX8_fits 33 = .ok (.invokevirtual 222, 3) := dq_182 (b1 := 0) (b2 := 222) (by decide +kernel) (by decide)
theorem dX8_fits_36 : decode cX8_fits 36 = .ok (.ifCond .eq 10, 3) := dq_153 (b1 := 0) (b2 := 10) (by decide +kernel) (by decide)
theorem dX8_fits_39 : decode cX8_fits 39 = .ok (.iconst 1, 1) := dq_4 (by decide +kernel)
theorem dX8_fits_4 : decode cX8_fits 4 = .ok (.iconst 0, 1) := dq_3 (by decide +kernel)
theorem dX8_fits_40 : decode cX8_fits 40 = .ok (.iload 8, 2) := dq_21 (b1 := 8) (by decide +kernel) (by decide)
theorem dX8_fits_42 : decode cX8_fits 42 = .ok (.ishl, 1) := dq_120 (by decide +kernel)
theorem dX8_fits_43 : decode cX8_fits 43 = .ok (.goto 4, 3) := dq_167 (b1 := 0) (b2 := 4) (by decide +kernel) (by decide)
theorem dX8_fits_46 : decode cX8_fits 46 = .ok (.iconst 0, 1) := dq_3 (by decide +kernel)
theorem dX8_fits_47 : decode cX8_fits 47 = .ok (.ior, 1) := dq_128 (by decide +kernel)
theorem dX8_fits_48 : decode cX8_fits 48 = .ok (.istore 7, 2) := dq_54 (b1 := 7) (by decide +kernel) (by decide)
theorem dX8_fits_5 : decode cX8_fits 5 = .ok (.istore 7, 2) := dq_54 (b1 := 7) (by decide +kernel) (by decide)
theorem dX8_fits_50 : decode cX8_fits 50 = .ok (.iinc 8 1, 3) := dq_132 (b1 := 8) (b2 := 1) (by decide +kernel) (by decide) (by decide)
theorem dX8_fits_53 : decode cX8_fits 53 = .ok (.goto (-43), 3) := dq_167 (b1 := 255) (b2 := 213) (by decide +kernel) (by decide)
theorem dX8_fits_56 : decode cX8_fits 56 = .ok (.aload_n 0, 1) := dq_42 (by decide +kernel)
theorem dX8_fits_57 : decode cX8_fits 57 = .ok (.iload 7, 2) := dq_21 (b1 := 7) (by decide +kernel) (by decide)
theorem dX8_fits_59 : decode cX8_fits 59 = .ok (.invokevirtual 72, 3) := dq_182 (b1 := 0) (b2 := 72) (by decide +kernel) (by decide)
theorem dX8_fits_62 : decode cX8_fits 62 = .ok (.ireturn, 1) := dq_172 (by decide +kernel)
theorem dX8_fits_7 : decode cX8_fits 7 = .ok (.iload_n 2, 1) := dq_28 (by decide +kernel)
theorem dX8_fits_8 : decode cX8_fits 8 = .ok (.istore 8, 2) := dq_54 (b1 := 8) (by decide +kernel) (by decide)
theorem dX8_gusts_0 : decode cX8_gusts 0 = .ok (.iload_n 1, 1) := dq_27 (by decide +kernel)
theorem dX8_gusts_1 : decode cX8_gusts 1 = .ok (.i2l, 1) := dq_133 (by decide +kernel)
theorem dX8_gusts_10 : decode cX8_gusts 10 = .ok (.iaload, 1) := dq_46 (by decide +kernel)
theorem dX8_gusts_100 : decode cX8_gusts 100 = .ok (.iconst 0, 1) := dq_3 (by decide +kernel)
theorem dX8_gusts_101 : decode cX8_gusts 101 = .ok (.iconst 4, 1) := dq_7 (by decide +kernel)
theorem dX8_gusts_102 : decode cX8_gusts 102 = .ok (.iload_n 2, 1) := dq_28 (by decide +kernel)
theorem dX8_gusts_103 : decode cX8_gusts 103 = .ok (.bipush 40, 2) := dq_16 (b1 := 40) (by decide +kernel) (by decide)
theorem dX8_gusts_105 : decode cX8_gusts 105 = .ok (.iload_n 3, 1) := dq_29 (by decide +kernel)
theorem dX8_gusts_106 : decode cX8_gusts 106 = .ok (.imul, 1) := dq_104 (by decide +kernel)
theorem dX8_gusts_107 : decode cX8_gusts 107 = .ok (.iload 4, 2) := dq_21 (b1 := 4) (by decide +kernel) (by decide)
theorem dX8_gusts_109 : decode cX8_gusts 109 = .ok (.iadd, 1) := dq_96 (by decide +kernel)
theorem dX8_gusts_11 : decode cX8_gusts 11 = .ok (.iconst 1, 1) := dq_4 (by decide +kernel)
theorem dX8_gusts_110 : decode cX8_gusts 110 = .ok (.iload 5, 2) := dq_21 (b1 := 5) (by decide +kernel) (by decide)
theorem dX8_gusts_112 : decode cX8_gusts 112 = .ok (.invokevirtual 232, 3) := dq_182 (b1 := 0) (b2 := 232) (by decide +kernel) (by decide)
theorem dX8_gusts_115 : decode cX8_gusts 115 = .ok (.ireturn, 1) := dq_172 (by decide +kernel)
theorem dX8_gusts_12 : decode cX8_gusts 12 = .ok (.isub, 1) := dq_100 (by decide +kernel)
theorem dX8_gusts_13 : decode cX8_gusts 13 = .ok (.i2l, 1) := dq_133 (by decide +kernel)
theorem dX8_gusts_14 : decode cX8_gusts 14 = .ok (.invokestatic 57, 3) := dq_184 (b1 := 0) (b2 := 57) (by decide +kernel) (by decide)
theorem dX8_gusts_17 : decode cX8_gusts 17 = .ok (.ifCond .eq 31, 3) := dq_153 (b1 := 0) (b2 := 31) (by decide +kernel) (by decide)
theorem dX8_gusts_2 : decode cX8_gusts 2 = .ok (.ldc2_w 236, 3) := dq_20 (b1 := 0) (b2 := 236) (by decide +kernel) (by decide)
theorem dX8_gusts_20 : decode cX8_gusts 20 = .ok (.aload_n 0, 1) := dq_42 (by decide +kernel)
theorem dX8_gusts_21 : decode cX8_gusts 21 = .ok (.iload_n 2, 1) := dq_28 (by decide +kernel)
theorem dX8_gusts_22 : decode cX8_gusts 22 = .ok (.invokevirtual 173, 3) := dq_182 (b1 := 0) (b2 := 173) (by decide +kernel) (by decide)
theorem dX8_gusts_25 : decode cX8_gusts 25 = .ok (.ifCond .eq 23, 3) := dq_153 (b1 := 0) (b2 := 23) (by decide +kernel) (by decide)
theorem dX8_gusts_28 : decode cX8_gusts 28 = .ok (.iload_n 3, 1) := dq_29 (by decide +kernel)
theorem dX8_gusts_29 : decode cX8_gusts 29 = .ok (.invokestatic 61, 3) := dq_184 (b1 := 0) (b2 := 61) (by decide +kernel) (by decide)
theorem dX8_gusts_32 : decode cX8_gusts 32 = .ok (.ifCond .eq 16, 3) := dq_153 (b1 := 0) (b2 := 16) (by decide +kernel) (by decide)
theorem dX8_gusts_35 : decode cX8_gusts 35 = .ok (.iload 5, 2) := dq_21 (b1 := 5) (by decide +kernel) (by decide)
theorem dX8_gusts_37 : decode cX8_gusts 37 = .ok (.i2l, 1) := dq_133 (by decide +kernel)
theorem dX8_gusts_38 : decode cX8_gusts 38 = .ok (.lconst 1, 1) := dq_10 (by decide +kernel)
theorem dX8_gusts_39 : decode cX8_gusts 39 = .ok (.ldc2_w 226, 3) := dq_20 (b1 := 0) (b2 := 226) (by decide +kernel) (by decide)
theorem dX8_gusts_42 : decode cX8_gusts 42 = .ok (.invokestatic 57, 3) := dq_184 (b1 := 0) (b2 := 57) (by decide +kernel) (by decide)
theorem dX8_gusts_45 : decode cX8_gusts 45 = .ok (.ifCond .ne 6, 3) := dq_154 (b1 := 0) (b2 := 6) (by decide +kernel) (by decide)
theorem dX8_gusts_48 : decode cX8_gusts 48 = .ok (.ldc 67, 2) := dq_18 (b1 := 67) (by decide +kernel) (by decide)
theorem dX8_gusts_5 : decode cX8_gusts 5 = .ok (.aload_n 0, 1) := dq_42 (by decide +kernel)
theorem dX8_gusts_50 : decode cX8_gusts 50 = .ok (.ireturn, 1) := dq_172 (by decide +kernel)
theorem dX8_gusts_51 : decode cX8_gusts 51 = .ok (.aload_n 0, 1) := dq_42 (by decide +kernel)
theorem dX8_gusts_52 : decode cX8_gusts 52 = .ok (.getfield 19, 3) := dq_180 (b1 := 0) (b2 := 19) (by decide +kernel) (by decide)
theorem dX8_gusts_55 : decode cX8_gusts 55 = .ok (.bipush 26, 2) := dq_16 (b1 := 26) (by decide +kernel) (by decide)
theorem dX8_gusts_57 : decode cX8_gusts 57 = .ok (.iload_n 2, 1) := dq_28 (by decide +kernel)
theorem dX8_gusts_58 : decode cX8_gusts 58 = .ok (.iadd, 1) := dq_96 (by decide +kernel)
theorem dX8_gusts_59 : decode cX8_gusts 59 = .ok (.iaload, 1) := dq_46 (by decide +kernel)
theorem dX8_gusts_6 : decode cX8_gusts 6 = .ok (.getfield 19, 3) := dq_180 (b1 := 0) (b2 := 19) (by decide +kernel) (by decide)
theorem dX8_gusts_60 : decode cX8_gusts 60 = .ok (.ifCond .eq 6, 3) := dq_153 (b1 := 0) (b2 := 6) (by decide +kernel) (by decide)
theorem dX8_gusts_63 : decode cX8_gusts 63 = .ok (.ldc 161, 2) := dq_18 (b1 := 161) (by decide +kernel) (by decide)
theorem dX8_gusts_65 : decode cX8_gusts 65 = .ok (.ireturn, 1) := dq_172 (by decide +kernel)
theorem dX8_gusts_66 : decode cX8_gusts 66 = .ok (.aload_n 0, 1) := dq_42 (by decide +kernel)
theorem dX8_gusts_67 : decode cX8_gusts 67 = .ok (.iload_n 3, 1) := dq_29 (by decide +kernel)
theorem dX8_gusts_68 : decode cX8_gusts 68 = .ok (.iload 4, 2) := dq_21 (b1 := 4) (by decide +kernel) (by decide)
theorem dX8_gusts_70 : decode cX8_gusts 70 = .ok (.iload 5, 2) := dq_21 (b1 := 5) (by decide +kernel) (by decide)
theorem dX8_gusts_72 : decode cX8_gusts 72 = .ok (.invokevirtual 228, 3) := dq_182 (b1 := 0) (b2 := 228) (by decide +kernel) (by decide)
theorem dX8_gusts_75 : decode cX8_gusts 75 = .ok (.istore 6, 2) := dq_54 (b1 := 6) (by decide +kernel) (by decide)
theorem dX8_gusts_77 : decode cX8_gusts 77 = .ok (.iload 6, 2) := dq_21 (b1 := 6) (by decide +kernel) (by decide)
theorem dX8_gusts_79 : decode cX8_gusts 79 = .ok (.ifCond .ge 8, 3) := dq_156 (b1 := 0) (b2 := 8) (by decide +kernel) (by decide)
theorem dX8_gusts_82 : decode cX8_gusts 82 = .ok (.iload 6, 2) := dq_21 (b1 := 6) (by decide +kernel) (by decide)
theorem dX8_gusts_84 : decode cX8_gusts 84 = .ok (.goto 31, 3) := dq_167 (b1 := 0) (b2 := 31) (by decide +kernel) (by decide)
theorem dX8_gusts_87 : decode cX8_gusts 87 = .ok (.aload_n 0, 1) := dq_42 (by decide +kernel)
theorem dX8_gusts_88 : decode cX8_gusts 88 = .ok (.iload_n 1, 1) := dq_27 (by decide +kernel)
theorem dX8_gusts_89 : decode cX8_gusts 89 = .ok (.ifCond .ge 7, 3) := dq_156 (b1 := 0) (b2 := 7) (by decide +kernel) (by decide)
theorem dX8_gusts_9 : decode cX8_gusts 9 = .ok (.iconst 3, 1) := dq_6 (by decide +kernel)
theorem dX8_gusts_92 : decode cX8_gusts 92 = .ok (.iconst 2, 1) := dq_5 (by decide +kernel)
theorem dX8_gusts_93 : decode cX8_gusts 93 = .ok (.goto 7, 3) := dq_167 (b1 := 0) (b2 := 7) (by decide +kernel) (by decide)
theorem dX8_gusts_96 : decode cX8_gusts 96 = .ok (.bipush 8, 2) := dq_16 (b1 := 8) (by decide +kernel) (by decide)
theorem dX8_gusts_98 : decode cX8_gusts 98 = .ok (.iload_n 1, 1) := dq_27 (by decide +kernel)
theorem dX8_gusts_99 : decode cX8_gusts 99 = .ok (.iadd, 1) := dq_96 (by decide +kernel)
theorem dX8_isSo_0 : decode cX8_isSo 0 = .ok (.iconst 1, 1) := dq_4 (by decide +kernel)
theorem dX8_isSo_1 : decode cX8_isSo 1 = .ok (.istore 4, 2) := dq_54 (b1 := 4) (by decide +kernel) (by decide)
theorem dX8_isSo_12 : decode cX8_isSo 12 = .ok (.aload_n 0, 1) := dq_42 (by decide +kernel)
theorem dX8_isSo_13 : decode cX8_isSo 13 = .ok (.invokevirtual 167, 3) := dq_182 (b1 := 0) (b2 := 167) (by decide +kernel) (by decide)
theorem dX8_isSo_16 : decode cX8_isSo 16 = .ok (.pop, 1) := dq_87 (by decide +kernel)
theorem dX8_isSo_17 : decode cX8_isSo 17 = .ok (.aload_n 0, 1) := dq_42 (by decide +kernel)
theorem dX8_isSo_18 : decode cX8_isSo 18 = .ok (.getfield 19, 3) := dq_180 (b1 := 0) (b2 := 19) (by decide +kernel) (by decide)
theorem dX8_isSo_21 : decode cX8_isSo 21 = .ok (.bipush 26, 2) := dq_16 (b1 := 26) (by decide +kernel) (by decide)
theorem dX8_isSo_23 : decode cX8_isSo 23 = .ok (.iload_n 1, 1) := dq_27 (by decide +kernel)
theorem dX8_isSo_24 : decode cX8_isSo 24 = .ok (.iadd, 1) := dq_96 (by decide +kernel)
theorem dX8_isSo_25 : decode cX8_isSo 25 = .ok (.iaload, 1) := dq_46 (by decide +kernel)
theorem dX8_isSo_26 : decode cX8_isSo 26 = .ok (.ifCond .ne 15, 3) := dq_154 (b1 := 0) (b2 := 15) (by decide +kernel) (by decide)
theorem dX8_isSo_29 : decode cX8_isSo 29 = .ok (.aload_n 0, 1) := dq_42 (by decide +kernel)
theorem dX8_isSo_3 : decode cX8_isSo 3 = .ok (.iconst 0, 1) := dq_3 (by decide +kernel)
theorem dX8_isSo_30 : decode cX8_isSo 30 = .ok (.getfield 19, 3) := dq_180 (b1 := 0) (b2 := 19) (by decide +kernel) (by decide)
theorem dX8_isSo_33 : decode cX8_isSo 33 = .ok (.bipush 20, 2) := dq_16 (b1 := 20) (by decide +kernel) (by decide)
theorem dX8_isSo_35 : decode cX8_isSo 35 = .ok (.iload_n 1, 1) := dq_27 (by decide +kernel)
theorem dX8_isSo_36 : decode cX8_isSo 36 = .ok (.iadd, 1) := dq_96 (by decide +kernel)
theorem dX8_isSo_37 : decode cX8_isSo 37 = .ok (.iaload, 1) := dq_46 (by decide +kernel)
theorem dX8_isSo_38 : decode cX8_isSo 38 = .ok (.goto 5, 3) := dq_167 (b1 := 0) (b2 := 5) (by decide +kernel) (by decide)
theorem dX8_isSo_4 : decode cX8_isSo 4 = .ok (.istore 5, 2) := dq_54 (b1 := 5) (by decide +kernel) (by decide)
theorem dX8_isSo_41 : decode cX8_isSo 41 = .ok (.bipush 99, 2) := dq_16 (b1 := 99) (by decide +kernel) (by decide)
theorem dX8_isSo_43 : decode cX8_isSo 43 = .ok (.istore 6, 2) := dq_54 (b1 := 6) (by decide +kernel) (by decide)
theorem dX8_isSo_45 : decode cX8_isSo 45 = .ok (.iload 4, 2) := dq_21 (b1 := 4) (by decide +kernel) (by decide)
theorem dX8_isSo_47 : decode cX8_isSo 47 = .ok (.ifCond .eq 21, 3) := dq_153 (b1 := 0) (b2 := 21) (by decide +kernel) (by decide)
theorem dX8_isSo_50 : decode cX8_isSo 50 = .ok (.aload_n 0, 1) := dq_42 (by decide +kernel)
theorem dX8_isSo_51 : decode cX8_isSo 51 = .ok (.getfield 16, 3) := dq_180 (b1 := 0) (b2 := 16) (by decide +kernel) (by decide)
theorem dX8_isSo_54 : decode cX8_isSo 54 = .ok (.iload_n 2, 1) := dq_28 (by decide +kernel)
theorem dX8_isSo_55 : decode cX8_isSo 55 = .ok (.iload 5, 2) := dq_21 (b1 := 5) (by decide +kernel) (by decide)
theorem dX8_isSo_57 : decode cX8_isSo 57 = .ok (.iadd, 1) := dq_96 (by decide +kernel)
theorem dX8_isSo_58 : decode cX8_isSo 58 = .ok (.iaload, 1) := dq_46 (by decide +kernel)
theorem dX8_isSo_59 : decode cX8_isSo 59 = .ok (.iload 6, 2) := dq_21 (b1 := 6) (by decide +kernel) (by decide)
theorem dX8_isSo_6 : decode cX8_isSo 6 = .ok (.iload 5, 2) := dq_21 (b1 := 5) (by decide +kernel) (by decide)
theorem dX8_isSo_61 : decode cX8_isSo 61 = .ok (.if_icmp .ne 7, 3) := dq_160 (b1 := 0) (b2 := 7) (by decide +kernel) (by decide)
theorem dX8_isSo_64 : decode cX8_isSo 64 = .ok (.iconst 1, 1) := dq_4 (by decide +kernel)
theorem dX8_isSo_65 : decode cX8_isSo 65 = .ok (.goto 4, 3) := dq_167 (b1 := 0) (b2 := 4) (by decide +kernel) (by decide)
theorem dX8_isSo_68 : decode cX8_isSo 68 = .ok (.iconst 0, 1) := dq_3 (by decide +kernel)
theorem dX8_isSo_69 : decode cX8_isSo 69 = .ok (.istore 4, 2) := dq_54 (b1 := 4) (by decide +kernel) (by decide)
theorem dX8_isSo_71 : decode cX8_isSo 71 = .ok (.iinc 5 1, 3) := dq_132 (b1 := 5) (b2 := 1) (by decide +kernel) (by decide) (by decide)
theorem dX8_isSo_74 : decode cX8_isSo 74 = .ok (.goto (-68), 3) := dq_167 (b1 := 255) (b2 := 188) (by decide +kernel) (by decide)
theorem dX8_isSo_77 : decode cX8_isSo 77 = .ok (.aload_n 0, 1) := dq_42 (by decide +kernel)
theorem dX8_isSo_78 : decode cX8_isSo 78 = .ok (.invokevirtual 194, 3) := dq_182 (b1 := 0) (b2 := 194) (by decide +kernel) (by decide)
theorem dX8_isSo_8 : decode cX8_isSo 8 = .ok (.iload_n 3, 1) := dq_29 (by decide +kernel)
theorem dX8_isSo_81 : decode cX8_isSo 81 = .ok (.iload 4, 2) := dq_21 (b1 := 4) (by decide +kernel) (by decide)
theorem dX8_isSo_83 : decode cX8_isSo 83 = .ok (.ireturn, 1) := dq_172 (by decide +kernel)
theorem dX8_isSo_9 : decode cX8_isSo 9 = .ok (.if_icmp .ge 68, 3) := dq_162 (b1 := 0) (b2 := 68) (by decide +kernel) (by decide)
theorem dX8_lacks_0 : decode cX8_lacks 0 = .ok (.aload_n 0, 1) := dq_42 (by decide +kernel)
theorem dX8_lacks_1 : decode cX8_lacks 1 = .ok (.getfield 13, 3) := dq_180 (b1 := 0) (b2 := 13) (by decide +kernel) (by decide)
theorem dX8_lacks_10 : decode cX8_lacks 10 = .ok (.iconst 1, 1) := dq_4 (by decide +kernel)
theorem dX8_lacks_11 : decode cX8_lacks 11 = .ok (.invokevirtual 68, 3) := dq_182 (b1 := 0) (b2 := 68) (by decide +kernel) (by decide)
theorem dX8_lacks_14 : decode cX8_lacks 14 = .ok (.ireturn, 1) := dq_172 (by decide +kernel)
theorem dX8_lacks_15 : decode cX8_lacks 15 = .ok (.iload_n 2, 1) := dq_28 (by decide +kernel)
theorem dX8_lacks_16 : decode cX8_lacks 16 = .ok (.i2l, 1) := dq_133 (by decide +kernel)
theorem dX8_lacks_17 : decode cX8_lacks 17 = .ok (.lconst 0, 1) := dq_9 (by decide +kernel)
theorem dX8_lacks_18 : decode cX8_lacks 18 = .ok (.aload_n 0, 1) := dq_42 (by decide +kernel)
theorem dX8_lacks_19 : decode cX8_lacks 19 = .ok (.getfield 13, 3) := dq_180 (b1 := 0) (b2 := 13) (by decide +kernel) (by decide)
theorem dX8_lacks_22 : decode cX8_lacks 22 = .ok (.iload_n 1, 1) := dq_27 (by decide +kernel)
theorem dX8_lacks_23 : decode cX8_lacks 23 = .ok (.iaload, 1) := dq_46 (by decide +kernel)
theorem dX8_lacks_24 : decode cX8_lacks 24 = .ok (.iload_n 3, 1) := dq_29 (by decide +kernel)
theorem dX8_lacks_25 : decode cX8_lacks 25 = .ok (.isub, 1) := dq_100 (by decide +kernel)
theorem dX8_lacks_26 : decode cX8_lacks 26 = .ok (.i2l, 1) := dq_133 (by decide +kernel)
theorem dX8_lacks_27 : decode cX8_lacks 27 = .ok (.invokestatic 57, 3) := dq_184 (b1 := 0) (b2 := 57) (by decide +kernel) (by decide)
theorem dX8_lacks_30 : decode cX8_lacks 30 = .ok (.ifCond .eq 7, 3) := dq_153 (b1 := 0) (b2 := 7) (by decide +kernel) (by decide)
theorem dX8_lacks_33 : decode cX8_lacks 33 = .ok (.iconst 0, 1) := dq_3 (by decide +kernel)
theorem dX8_lacks_34 : decode cX8_lacks 34 = .ok (.goto 8, 3) := dq_167 (b1 := 0) (b2 := 8) (by decide +kernel) (by decide)
theorem dX8_lacks_37 : decode cX8_lacks 37 = .ok (.aload_n 0, 1) := dq_42 (by decide +kernel)
theorem dX8_lacks_38 : decode cX8_lacks 38 = .ok (.iconst 2, 1) := dq_5 (by decide +kernel)
theorem dX8_lacks_39 : decode cX8_lacks 39 = .ok (.invokevirtual 68, 3) := dq_182 (b1 := 0) (b2 := 68) (by decide +kernel) (by decide)
theorem dX8_lacks_4 : decode cX8_lacks 4 = .ok (.iload_n 1, 1) := dq_27 (by decide +kernel)
theorem dX8_lacks_42 : decode cX8_lacks 42 = .ok (.ireturn, 1) := dq_172 (by decide +kernel)
theorem dX8_lacks_5 : decode cX8_lacks 5 = .ok (.iaload, 1) := dq_46 (by decide +kernel)
theorem dX8_lacks_6 : decode cX8_lacks 6 = .ok (.ifCond .ge 9, 3) := dq_156 (b1 := 0) (b2 := 9) (by decide +kernel) (by decide)
theorem dX8_lacks_9 : decode cX8_lacks 9 = .ok (.aload_n 0, 1) := dq_42 (by decide +kernel)
theorem dX8_ones_0 : decode cX8_ones 0 = .ok (.iconst 0, 1) := dq_3 (by decide +kernel)
theorem dX8_ones_1 : decode cX8_ones 1 = .ok (.istore_n 1, 1) := dq_60 (by decide +kernel)
theorem dX8_ones_11 : decode cX8_ones 11 = .ok (.iload_n 2, 1) := dq_28 (by decide +kernel)
theorem dX8_ones_12 : decode cX8_ones 12 = .ok (.iload_n 2, 1) := dq_28 (by decide +kernel)
theorem dX8_ones_13 : decode cX8_ones 13 = .ok (.iconst 1, 1) := dq_4 (by decide +kernel)
theorem dX8_ones_14 : decode cX8_ones 14 = .ok (.isub, 1) := dq_100 (by decide +kernel)
theorem dX8_ones_15 : decode cX8_ones 15 = .ok (.iand, 1) := dq_126 (by decide +kernel)
theorem dX8_ones_16 : decode cX8_ones 16 = .ok (.istore_n 2, 1) := dq_61 (by decide +kernel)
theorem dX8_ones_17 : decode cX8_ones 17 = .ok (.goto (-13), 3) := dq_167 (b1 := 255) (b2 := 243) (by decide +kernel) (by decide)
theorem dX8_ones_2 : decode cX8_ones 2 = .ok (.iload_n 0, 1) := dq_26 (by decide +kernel)
theorem dX8_ones_20 : decode cX8_ones 20 = .ok (.iload_n 1, 1) := dq_27 (by decide +kernel)
theorem dX8_ones_21 : decode cX8_ones 21 = .ok (.ireturn, 1) := dq_172 (by decide +kernel)
theorem dX8_ones_3 : decode cX8_ones 3 = .ok (.istore_n 2, 1) := dq_61 (by decide +kernel)
theorem dX8_ones_4 : decode cX8_ones 4 = .ok (.iload_n 2, 1) := dq_28 (by decide +kernel)
theorem dX8_ones_5 : decode cX8_ones 5 = .ok (.ifCond .eq 15, 3) := dq_153 (b1 := 0) (b2 := 15) (by decide +kernel) (by decide)
theorem dX8_ones_8 : decode cX8_ones 8 = .ok (.iinc 1 1, 3) := dq_132 (b1 := 1) (b2 := 1) (by decide +kernel) (by decide) (by decide)
theorem dX8_who_0 : decode cX8_who 0 = .ok (.aload_n 0, 1) := dq_42 (by decide +kernel)
theorem dX8_who_1 : decode cX8_who 1 = .ok (.iload_n 1, 1) := dq_27 (by decide +kernel)
theorem dX8_who_102 : decode cX8_who 102 = .ok (.goto 25, 3) := dq_167 (b1 := 0) (b2 := 25) (by decide +kernel) (by decide)
theorem dX8_who_105 : decode cX8_who 105 = .ok (.aload_n 0, 1) := dq_42 (by decide +kernel)
theorem dX8_who_106 : decode cX8_who 106 = .ok (.bipush 20, 2) := dq_16 (b1 := 20) (by decide +kernel) (by decide)
theorem dX8_who_108 : decode cX8_who 108 = .ok (.iload_n 1, 1) := dq_27 (by decide +kernel)
theorem dX8_who_109 : decode cX8_who 109 = .ok (.iadd, 1) := dq_96 (by decide +kernel)
theorem dX8_who_110 : decode cX8_who 110 = .ok (.iconst 0, 1) := dq_3 (by decide +kernel)
theorem dX8_who_111 : decode cX8_who 111 = .ok (.aload_n 0, 1) := dq_42 (by decide +kernel)
theorem dX8_who_112 : decode cX8_who 112 = .ok (.getfield 19, 3) := dq_180 (b1 := 0) (b2 := 19) (by decide +kernel) (by decide)
theorem dX8_who_115 : decode cX8_who 115 = .ok (.iconst 0, 1) := dq_3 (by decide +kernel)
theorem dX8_who_116 : decode cX8_who 116 = .ok (.iaload, 1) := dq_46 (by decide +kernel)
theorem dX8_who_117 : decode cX8_who 117 = .ok (.iconst 1, 1) := dq_4 (by decide +kernel)
theorem dX8_who_118 : decode cX8_who 118 = .ok (.isub, 1) := dq_100 (by decide +kernel)
theorem dX8_who_119 : decode cX8_who 119 = .ok (.iload_n 1, 1) := dq_27 (by decide +kernel)
theorem dX8_who_12 : decode cX8_who 12 = .ok (.ifCond .eq 23, 3) := dq_153 (b1 := 0) (b2 := 23) (by decide +kernel) (by decide)
theorem dX8_who_120 : decode cX8_who 120 = .ok (.iload 7, 2) := dq_21 (b1 := 7) (by decide +kernel) (by decide)
theorem dX8_who_122 : decode cX8_who 122 = .ok (.iload 5, 2) := dq_21 (b1 := 5) (by decide +kernel) (by decide)
theorem dX8_who_124 : decode cX8_who 124 = .ok (.invokevirtual 232, 3) := dq_182 (b1 := 0) (b2 := 232) (by decide +kernel) (by decide)
theorem dX8_who_127 : decode cX8_who 127 = .ok (.ireturn, 1) := dq_172 (by decide +kernel)
theorem dX8_who_15 : decode cX8_who 15 = .ok (.iload_n 3, 1) := dq_29 (by decide +kernel)
theorem dX8_who_16 : decode cX8_who 16 = .ok (.invokestatic 61, 3) := dq_184 (b1 := 0) (b2 := 61) (by decide +kernel) (by decide)
theorem dX8_who_19 : decode cX8_who 19 = .ok (.ifCond .eq 16, 3) := dq_153 (b1 := 0) (b2 := 16) (by decide +kernel) (by decide)
theorem dX8_who_2 : decode cX8_who 2 = .ok (.invokevirtual 173, 3) := dq_182 (b1 := 0) (b2 := 173) (by decide +kernel) (by decide)
theorem dX8_who_22 : decode cX8_who 22 = .ok (.iload 5, 2) := dq_21 (b1 := 5) (by decide +kernel) (by decide)
theorem dX8_who_24 : decode cX8_who 24 = .ok (.i2l, 1) := dq_133 (by decide +kernel)
theorem dX8_who_25 : decode cX8_who 25 = .ok (.lconst 1, 1) := dq_10 (by decide +kernel)
theorem dX8_who_26 : decode cX8_who 26 = .ok (.ldc2_w 226, 3) := dq_20 (b1 := 0) (b2 := 226) (by decide +kernel) (by decide)
theorem dX8_who_29 : decode cX8_who 29 = .ok (.invokestatic 57, 3) := dq_184 (b1 := 0) (b2 := 57) (by decide +kernel) (by decide)
theorem dX8_who_32 : decode cX8_who 32 = .ok (.ifCond .ne 6, 3) := dq_154 (b1 := 0) (b2 := 6) (by decide +kernel) (by decide)
theorem dX8_who_35 : decode cX8_who 35 = .ok (.ldc 67, 2) := dq_18 (b1 := 67) (by decide +kernel) (by decide)
theorem dX8_who_37 : decode cX8_who 37 = .ok (.ireturn, 1) := dq_172 (by decide +kernel)
theorem dX8_who_38 : decode cX8_who 38 = .ok (.aload_n 0, 1) := dq_42 (by decide +kernel)
theorem dX8_who_39 : decode cX8_who 39 = .ok (.getfield 19, 3) := dq_180 (b1 := 0) (b2 := 19) (by decide +kernel) (by decide)
theorem dX8_who_42 : decode cX8_who 42 = .ok (.bipush 26, 2) := dq_16 (b1 := 26) (by decide +kernel) (by decide)
theorem dX8_who_44 : decode cX8_who 44 = .ok (.iload_n 1, 1) := dq_27 (by decide +kernel)
theorem dX8_who_45 : decode cX8_who 45 = .ok (.iadd, 1) := dq_96 (by decide +kernel)
theorem dX8_who_46 : decode cX8_who 46 = .ok (.iaload, 1) := dq_46 (by decide +kernel)
theorem dX8_who_47 : decode cX8_who 47 = .ok (.ifCond .eq 6, 3) := dq_153 (b1 := 0) (b2 := 6) (by decide +kernel) (by decide)
theorem dX8_who_5 : decode cX8_who 5 = .ok (.ifCond .eq 30, 3) := dq_153 (b1 := 0) (b2 := 30) (by decide +kernel) (by decide)
theorem dX8_who_50 : decode cX8_who 50 = .ok (.ldc 161, 2) := dq_18 (b1 := 161) (by decide +kernel) (by decide)
theorem dX8_who_52 : decode cX8_who 52 = .ok (.ireturn, 1) := dq_172 (by decide +kernel)
theorem dX8_who_53 : decode cX8_who 53 = .ok (.aload_n 0, 1) := dq_42 (by decide +kernel)
theorem dX8_who_54 : decode cX8_who 54 = .ok (.iload_n 3, 1) := dq_29 (by decide +kernel)
theorem dX8_who_55 : decode cX8_who 55 = .ok (.iload 4, 2) := dq_21 (b1 := 4) (by decide +kernel) (by decide)
theorem dX8_who_57 : decode cX8_who 57 = .ok (.iload 5, 2) := dq_21 (b1 := 5) (by decide +kernel) (by decide)
theorem dX8_who_59 : decode cX8_who 59 = .ok (.invokevirtual 228, 3) := dq_182 (b1 := 0) (b2 := 228) (by decide +kernel) (by decide)
theorem dX8_who_62 : decode cX8_who 62 = .ok (.istore 6, 2) := dq_54 (b1 := 6) (by decide +kernel) (by decide)
theorem dX8_who_64 : decode cX8_who 64 = .ok (.bipush 40, 2) := dq_16 (b1 := 40) (by decide +kernel) (by decide)
theorem dX8_who_66 : decode cX8_who 66 = .ok (.iload_n 3, 1) := dq_29 (by decide +kernel)
theorem dX8_who_67 : decode cX8_who 67 = .ok (.imul, 1) := dq_104 (by decide +kernel)
theorem dX8_who_68 : decode cX8_who 68 = .ok (.iload 4, 2) := dq_21 (b1 := 4) (by decide +kernel) (by decide)
theorem dX8_who_70 : decode cX8_who 70 = .ok (.iadd, 1) := dq_96 (by decide +kernel)
theorem dX8_who_71 : decode cX8_who 71 = .ok (.istore 7, 2) := dq_54 (b1 := 7) (by decide +kernel) (by decide)
theorem dX8_who_73 : decode cX8_who 73 = .ok (.iload 6, 2) := dq_21 (b1 := 6) (by decide +kernel) (by decide)
theorem dX8_who_75 : decode cX8_who 75 = .ok (.ifCond .ge 8, 3) := dq_156 (b1 := 0) (b2 := 8) (by decide +kernel) (by decide)
theorem dX8_who_78 : decode cX8_who 78 = .ok (.iload 6, 2) := dq_21 (b1 := 6) (by decide +kernel) (by decide)
theorem dX8_who_8 : decode cX8_who 8 = .ok (.iload_n 2, 1) := dq_28 (by decide +kernel)
theorem dX8_who_80 : decode cX8_who 80 = .ok (.goto 47, 3) := dq_167 (b1 := 0) (b2 := 47) (by decide +kernel) (by decide)
theorem dX8_who_83 : decode cX8_who 83 = .ok (.iload_n 2, 1) := dq_28 (by decide +kernel)
theorem dX8_who_84 : decode cX8_who 84 = .ok (.ifCond .ne 21, 3) := dq_154 (b1 := 0) (b2 := 21) (by decide +kernel) (by decide)
theorem dX8_who_87 : decode cX8_who 87 = .ok (.aload_n 0, 1) := dq_42 (by decide +kernel)
theorem dX8_who_88 : decode cX8_who 88 = .ok (.bipush 14, 2) := dq_16 (b1 := 14) (by decide +kernel) (by decide)
theorem dX8_who_9 : decode cX8_who 9 = .ok (.invokestatic 210, 3) := dq_184 (b1 := 0) (b2 := 210) (by decide +kernel) (by decide)
theorem dX8_who_90 : decode cX8_who 90 = .ok (.iload_n 1, 1) := dq_27 (by decide +kernel)
theorem dX8_who_91 : decode cX8_who 91 = .ok (.iadd, 1) := dq_96 (by decide +kernel)
theorem dX8_who_92 : decode cX8_who 92 = .ok (.iconst 1, 1) := dq_4 (by decide +kernel)
theorem dX8_who_93 : decode cX8_who 93 = .ok (.iconst 5, 1) := dq_8 (by decide +kernel)
theorem dX8_who_94 : decode cX8_who 94 = .ok (.iload_n 1, 1) := dq_27 (by decide +kernel)
theorem dX8_who_95 : decode cX8_who 95 = .ok (.iload 7, 2) := dq_21 (b1 := 7) (by decide +kernel) (by decide)
theorem dX8_who_97 : decode cX8_who 97 = .ok (.iload 5, 2) := dq_21 (b1 := 5) (by decide +kernel) (by decide)
theorem dX8_who_99 : decode cX8_who 99 = .ok (.invokevirtual 232, 3) := dq_182 (b1 := 0) (b2 := 232) (by decide +kernel) (by decide)
theorem mb_X8_calm_wsX8_calm_r2 {w : Cond} (h : w ∈ wsX8_calm_r2) : w ∈ wsX8_calm := by unfold wsX8_calm; exact List.mem_cons_of_mem _ (List.mem_append_left _ (List.mem_append_right _ (List.mem_append_left _ (h))))
theorem mx_X8_calm_27 : Cond.code yX8_goOn cX8_goOn 3 none ∈ wsX8_calm := mb_X8_calm_wsX8_calm_r2 (List.mem_of_getElem? (i := 2) rfl)
theorem mx_X8_calm_28 : Cond.methodLink RX8 167 yX8_oneHour ∈ wsX8_calm := mb_X8_calm_wsX8_calm_r2 (List.mem_of_getElem? (i := 3) rfl)
theorem mx_X8_calm_29 : Cond.instanceMethod yX8_oneHour ∈ wsX8_calm := mb_X8_calm_wsX8_calm_r2 (List.mem_of_getElem? (i := 4) rfl)
theorem mx_X8_calm_30 : Cond.selects RX8 yX8_oneHour yX8_oneHour ∈ wsX8_calm := mb_X8_calm_wsX8_calm_r2 (List.mem_of_getElem? (i := 5) rfl)
theorem mb_X8_calm_wsX8_calm_r1 {w : Cond} (h : w ∈ wsX8_calm_r1) : w ∈ wsX8_calm := by unfold wsX8_calm; exact List.mem_cons_of_mem _ (List.mem_append_left _ (List.mem_append_left _ (h)))
theorem mx_X8_calm_9 : Cond.initialized RX8 ∈ wsX8_calm := mb_X8_calm_wsX8_calm_r1 (List.mem_of_getElem? (i := 8) rfl)
theorem mx_X8_calm_31 : Cond.code yX8_oneHour cX8_oneHour 4 (some .int) ∈ wsX8_calm := mb_X8_calm_wsX8_calm_r2 (List.mem_of_getElem? (i := 6) rfl)
theorem mx_X8_calm_4 : Cond.fieldLink RX8 19 "MillTalkModel" "st" "[I" ∈ wsX8_calm := mb_X8_calm_wsX8_calm_r1 (List.mem_of_getElem? (i := 3) rfl)
theorem mx_X8_calm_32 : Cond.methodLink RX8 151 yX8_gustOf ∈ wsX8_calm := mb_X8_calm_wsX8_calm_r2 (List.mem_of_getElem? (i := 7) rfl)
theorem mx_X8_calm_33 : Cond.instanceMethod yX8_gustOf ∈ wsX8_calm := mb_X8_calm_wsX8_calm_r2 (List.mem_of_getElem? (i := 8) rfl)
theorem mx_X8_calm_34 : Cond.selects RX8 yX8_gustOf yX8_gustOf ∈ wsX8_calm := mb_X8_calm_wsX8_calm_r2 (List.mem_of_getElem? (i := 9) rfl)
theorem mx_X8_calm_35 : Cond.code yX8_gustOf cX8_gustOf 2 (some .int) ∈ wsX8_calm := mb_X8_calm_wsX8_calm_r2 (List.mem_of_getElem? (i := 10) rfl)
theorem mx_X8_calm_36 : Cond.methodLink RX8 154 yX8_drift ∈ wsX8_calm := mb_X8_calm_wsX8_calm_r2 (List.mem_of_getElem? (i := 11) rfl)
theorem mx_X8_calm_37 : Cond.instanceMethod yX8_drift ∈ wsX8_calm := mb_X8_calm_wsX8_calm_r2 (List.mem_of_getElem? (i := 12) rfl)
theorem mx_X8_calm_38 : Cond.selects RX8 yX8_drift yX8_drift ∈ wsX8_calm := mb_X8_calm_wsX8_calm_r2 (List.mem_of_getElem? (i := 13) rfl)
theorem mx_X8_calm_39 : Cond.code yX8_drift cX8_drift 7 none ∈ wsX8_calm := mb_X8_calm_wsX8_calm_r2 (List.mem_of_getElem? (i := 14) rfl)
theorem mx_X8_calm_40 : Cond.methodLink RX8 145 yX8_drifts ∈ wsX8_calm := mb_X8_calm_wsX8_calm_r2 (List.mem_of_getElem? (i := 15) rfl)
theorem mx_X8_calm_41 : Cond.static yX8_drifts ∈ wsX8_calm := mb_X8_calm_wsX8_calm_r2 (List.mem_of_getElem? (i := 16) rfl)
theorem mx_X8_calm_42 : Cond.code yX8_drifts cX8_drifts 2 (some .int) ∈ wsX8_calm := mb_X8_calm_wsX8_calm_r2 (List.mem_of_getElem? (i := 17) rfl)
theorem mx_X8_calm_43 : Cond.methodLink RX8 148 yX8_isCell ∈ wsX8_calm := mb_X8_calm_wsX8_calm_r2 (List.mem_of_getElem? (i := 18) rfl)
theorem mx_X8_calm_44 : Cond.instanceMethod yX8_isCell ∈ wsX8_calm := mb_X8_calm_wsX8_calm_r2 (List.mem_of_getElem? (i := 19) rfl)
theorem mx_X8_calm_45 : Cond.selects RX8 yX8_isCell yX8_isCell ∈ wsX8_calm := mb_X8_calm_wsX8_calm_r2 (List.mem_of_getElem? (i := 20) rfl)
theorem mx_X8_calm_46 : Cond.code yX8_isCell cX8_isCell 2 (some .boolean) ∈ wsX8_calm := mb_X8_calm_wsX8_calm_r2 (List.mem_of_getElem? (i := 21) rfl)
theorem mx_X8_calm_11 : Cond.methodLink RX8 57 yX8_in ∈ wsX8_calm := mb_X8_calm_wsX8_calm_r1 (List.mem_of_getElem? (i := 10) rfl)
theorem mx_X8_calm_12 : Cond.static yX8_in ∈ wsX8_calm := mb_X8_calm_wsX8_calm_r1 (List.mem_of_getElem? (i := 11) rfl)
theorem mx_X8_calm_13 : Cond.code yX8_in cX8_in 6 (some .boolean) ∈ wsX8_calm := mb_X8_calm_wsX8_calm_r1 (List.mem_of_getElem? (i := 12) rfl)
theorem mx_X8_calm_47 : Cond.methodLink RX8 158 yX8_isAtMill ∈ wsX8_calm := mb_X8_calm_wsX8_calm_r2 (List.mem_of_getElem? (i := 22) rfl)
theorem mx_X8_calm_48 : Cond.instanceMethod yX8_isAtMill ∈ wsX8_calm := mb_X8_calm_wsX8_calm_r2 (List.mem_of_getElem? (i := 23) rfl)
theorem mb_X8_calm_wsX8_calm_r3 {w : Cond} (h : w ∈ wsX8_calm_r3) : w ∈ wsX8_calm := by unfold wsX8_calm; exact List.mem_cons_of_mem _ (List.mem_append_left _ (List.mem_append_right _ (List.mem_append_right _ (h))))
theorem mx_X8_calm_49 : Cond.selects RX8 yX8_isAtMill yX8_isAtMill ∈ wsX8_calm := mb_X8_calm_wsX8_calm_r3 (List.mem_of_getElem? (i := 0) rfl)
theorem mx_X8_calm_50 : Cond.code yX8_isAtMill cX8_isAtMill 3 (some .boolean) ∈ wsX8_calm := mb_X8_calm_wsX8_calm_r3 (List.mem_of_getElem? (i := 1) rfl)
theorem mb_X8_calm_wsX80 {w : Cond} (h : w ∈ wsX80) : w ∈ wsX8_calm := by unfold wsX8_calm; exact List.mem_cons_of_mem _ (List.mem_append_right _ (h))
theorem ggX8_calm_X8_goOn : GoodIn wsX8_calm wsX8_goOn := goodIn_sub (by unfold wsX8_goOn; exact List.forall_mem_cons.mpr ⟨mx_X8_calm_27, List.forall_mem_append.mpr ⟨List.forall_mem_append.mpr ⟨(by unfold wsX8_goOn_r1; exact List.forall_mem_cons.mpr ⟨mx_X8_calm_28, List.forall_mem_cons.mpr ⟨mx_X8_calm_29, List.forall_mem_cons.mpr ⟨mx_X8_calm_30, List.forall_mem_cons.mpr ⟨mx_X8_calm_9, List.forall_mem_cons.mpr ⟨mx_X8_calm_31, List.forall_mem_cons.mpr ⟨mx_X8_calm_4, List.forall_mem_cons.mpr ⟨mx_X8_calm_32, List.forall_mem_cons.mpr ⟨mx_X8_calm_33, List.forall_mem_cons.mpr ⟨mx_X8_calm_34, List.forall_mem_cons.mpr ⟨mx_X8_calm_35, List.forall_mem_cons.mpr ⟨mx_X8_calm_36, List.forall_mem_cons.mpr ⟨mx_X8_calm_37, List.forall_mem_cons.mpr ⟨mx_X8_calm_38, List.forall_mem_cons.mpr ⟨mx_X8_calm_39, List.forall_mem_cons.mpr ⟨mx_X8_calm_40, List.forall_mem_cons.mpr ⟨mx_X8_calm_41, List.forall_mem_cons.mpr ⟨mx_X8_calm_42, List.forall_mem_cons.mpr ⟨mx_X8_calm_43, List.forall_mem_cons.mpr ⟨mx_X8_calm_44, List.forall_mem_cons.mpr ⟨mx_X8_calm_45, List.forall_mem_cons.mpr ⟨mx_X8_calm_46, List.forall_mem_cons.mpr ⟨mx_X8_calm_11, List.forall_mem_cons.mpr ⟨mx_X8_calm_12, List.forall_mem_cons.mpr ⟨mx_X8_calm_13, fun _ h_ => absurd h_ List.not_mem_nil⟩⟩⟩⟩⟩⟩⟩⟩⟩⟩⟩⟩⟩⟩⟩⟩⟩⟩⟩⟩⟩⟩⟩⟩), (by unfold wsX8_goOn_r2; exact List.forall_mem_cons.mpr ⟨mx_X8_calm_47, List.forall_mem_cons.mpr ⟨mx_X8_calm_48, List.forall_mem_cons.mpr ⟨mx_X8_calm_49, List.forall_mem_cons.mpr ⟨mx_X8_calm_50, fun _ h_ => absurd h_ List.not_mem_nil⟩⟩⟩⟩)⟩, (fun _ h_ => mb_X8_calm_wsX80 h_)⟩⟩) (by decide +kernel)
theorem mx_X8_calm_24 : Cond.methodLink RX8 190 yX8_goOn ∈ wsX8_calm := mb_X8_calm_wsX8_calm_r1 (List.mem_of_getElem? (i := 23) rfl)
theorem mx_X8_calm_25 : Cond.instanceMethod yX8_goOn ∈ wsX8_calm := mb_X8_calm_wsX8_calm_r2 (List.mem_of_getElem? (i := 0) rfl)
theorem mx_X8_calm_26 : Cond.selects RX8 yX8_goOn yX8_goOn ∈ wsX8_calm := mb_X8_calm_wsX8_calm_r2 (List.mem_of_getElem? (i := 1) rfl)
theorem gX8_calm_X8_goOn : GoodIn wsX8_calm (wsV RX8 190 RX8 yX8_goOn wsX8_goOn) := goodIn_app (goodIn_sub (List.forall_mem_cons.mpr ⟨mx_X8_calm_24, List.forall_mem_cons.mpr ⟨mx_X8_calm_25, List.forall_mem_cons.mpr ⟨mx_X8_calm_26, List.forall_mem_cons.mpr ⟨mx_X8_calm_9, fun _ h_ => absurd h_ List.not_mem_nil⟩⟩⟩⟩) (by decide +kernel)) ggX8_calm_X8_goOn
theorem mx_X8_calm_23 : Cond.code yX8_has cX8_has 2 (some .boolean) ∈ wsX8_calm := mb_X8_calm_wsX8_calm_r1 (List.mem_of_getElem? (i := 22) rfl)
theorem ggX8_calm_X8_has : GoodIn wsX8_calm wsX8_has := goodIn_sub (by unfold wsX8_has; exact List.forall_mem_cons.mpr ⟨mx_X8_calm_23, fun _ h_ => absurd h_ List.not_mem_nil⟩) (by decide +kernel)
set_option maxRecDepth 20000 in
theorem gX8_calm_X8_has : GoodIn wsX8_calm (va_wsS RX8 213 yX8_has wsX8_has) := goodIn_app (goodIn_of _ (by decide +kernel)) ggX8_calm_X8_has
theorem ggX8_calm_X8_in : GoodIn wsX8_calm wsX8_in := goodIn_sub (by unfold wsX8_in; exact List.forall_mem_cons.mpr ⟨mx_X8_calm_13, fun _ h_ => absurd h_ List.not_mem_nil⟩) (by decide +kernel)
set_option maxRecDepth 20000 in
theorem gX8_calm_X8_in : GoodIn wsX8_calm (va_wsS RX8 57 yX8_in wsX8_in) := goodIn_app (goodIn_of _ (by decide +kernel)) ggX8_calm_X8_in
theorem mx_X8_calm_10 : Cond.code yX8_isSound cX8_isSound 2 (some .boolean) ∈ wsX8_calm := mb_X8_calm_wsX8_calm_r1 (List.mem_of_getElem? (i := 9) rfl)
theorem ggX8_calm_X8_isSound : GoodIn wsX8_calm wsX8_isSound := goodIn_sub (by unfold wsX8_isSound; exact List.forall_mem_cons.mpr ⟨mx_X8_calm_10, List.forall_mem_append.mpr ⟨List.forall_mem_cons.mpr ⟨mx_X8_calm_4, List.forall_mem_cons.mpr ⟨mx_X8_calm_11, List.forall_mem_cons.mpr ⟨mx_X8_calm_12, List.forall_mem_cons.mpr ⟨mx_X8_calm_9, List.forall_mem_cons.mpr ⟨mx_X8_calm_13, fun _ h_ => absurd h_ List.not_mem_nil⟩⟩⟩⟩⟩, (fun _ h_ => mb_X8_calm_wsX80 h_)⟩⟩) (by decide +kernel)
theorem mx_X8_calm_6 : Cond.methodLink RX8 173 yX8_isSound ∈ wsX8_calm := mb_X8_calm_wsX8_calm_r1 (List.mem_of_getElem? (i := 5) rfl)
theorem mx_X8_calm_7 : Cond.instanceMethod yX8_isSound ∈ wsX8_calm := mb_X8_calm_wsX8_calm_r1 (List.mem_of_getElem? (i := 6) rfl)
theorem mx_X8_calm_8 : Cond.selects RX8 yX8_isSound yX8_isSound ∈ wsX8_calm := mb_X8_calm_wsX8_calm_r1 (List.mem_of_getElem? (i := 7) rfl)
theorem gX8_calm_X8_isSound : GoodIn wsX8_calm (wsV RX8 173 RX8 yX8_isSound wsX8_isSound) := goodIn_app (goodIn_sub (List.forall_mem_cons.mpr ⟨mx_X8_calm_6, List.forall_mem_cons.mpr ⟨mx_X8_calm_7, List.forall_mem_cons.mpr ⟨mx_X8_calm_8, List.forall_mem_cons.mpr ⟨mx_X8_calm_9, fun _ h_ => absurd h_ List.not_mem_nil⟩⟩⟩⟩) (by decide +kernel)) ggX8_calm_X8_isSound
theorem mx_X8_calm_16 : Cond.code yX8_isWhat cX8_isWhat 1 (some .boolean) ∈ wsX8_calm := mb_X8_calm_wsX8_calm_r1 (List.mem_of_getElem? (i := 15) rfl)
theorem ggX8_calm_X8_isWhat : GoodIn wsX8_calm wsX8_isWhat := goodIn_sub (by unfold wsX8_isWhat; exact List.forall_mem_cons.mpr ⟨mx_X8_calm_16, List.forall_mem_cons.mpr ⟨mx_X8_calm_11, List.forall_mem_cons.mpr ⟨mx_X8_calm_12, List.forall_mem_cons.mpr ⟨mx_X8_calm_9, List.forall_mem_cons.mpr ⟨mx_X8_calm_13, fun _ h_ => absurd h_ List.not_mem_nil⟩⟩⟩⟩⟩) (by decide +kernel)
set_option maxRecDepth 20000 in
theorem gX8_calm_X8_isWhat : GoodIn wsX8_calm (va_wsS RX8 210 yX8_isWhat wsX8_isWhat) := goodIn_app (goodIn_of _ (by decide +kernel)) ggX8_calm_X8_isWhat
theorem mx_X8_calm_20 : Cond.code yX8_putAside cX8_putAside 2 none ∈ wsX8_calm := mb_X8_calm_wsX8_calm_r1 (List.mem_of_getElem? (i := 19) rfl)
theorem mx_X8_calm_5 : Cond.fieldLink RX8 34 "MillTalkModel" "aside" "[I" ∈ wsX8_calm := mb_X8_calm_wsX8_calm_r1 (List.mem_of_getElem? (i := 4) rfl)
theorem ggX8_calm_X8_putAside : GoodIn wsX8_calm wsX8_putAside := goodIn_sub (by unfold wsX8_putAside; exact List.forall_mem_cons.mpr ⟨mx_X8_calm_20, List.forall_mem_append.mpr ⟨List.forall_mem_cons.mpr ⟨mx_X8_calm_5, List.forall_mem_cons.mpr ⟨mx_X8_calm_4, fun _ h_ => absurd h_ List.not_mem_nil⟩⟩, (fun _ h_ => mb_X8_calm_wsX80 h_)⟩⟩) (by decide +kernel)
theorem mx_X8_calm_17 : Cond.methodLink RX8 197 yX8_putAside ∈ wsX8_calm := mb_X8_calm_wsX8_calm_r1 (List.mem_of_getElem? (i := 16) rfl)
theorem mx_X8_calm_18 : Cond.instanceMethod yX8_putAside ∈ wsX8_calm := mb_X8_calm_wsX8_calm_r1 (List.mem_of_getElem? (i := 17) rfl)
theorem mx_X8_calm_19 : Cond.selects RX8 yX8_putAside yX8_putAside ∈ wsX8_calm := mb_X8_calm_wsX8_calm_r1 (List.mem_of_getElem? (i := 18) rfl)
theorem gX8_calm_X8_putAside : GoodIn wsX8_calm (wsV RX8 197 RX8 yX8_putAside wsX8_putAside) := goodIn_app (goodIn_sub (List.forall_mem_cons.mpr ⟨mx_X8_calm_17, List.forall_mem_cons.mpr ⟨mx_X8_calm_18, List.forall_mem_cons.mpr ⟨mx_X8_calm_19, List.forall_mem_cons.mpr ⟨mx_X8_calm_9, fun _ h_ => absurd h_ List.not_mem_nil⟩⟩⟩⟩) (by decide +kernel)) ggX8_calm_X8_putAside
theorem mx_X8_calm_54 : Cond.code yX8_takeBack cX8_takeBack 2 none ∈ wsX8_calm := mb_X8_calm_wsX8_calm_r3 (List.mem_of_getElem? (i := 5) rfl)
theorem ggX8_calm_X8_takeBack : GoodIn wsX8_calm wsX8_takeBack := goodIn_sub (by unfold wsX8_takeBack; exact List.forall_mem_cons.mpr ⟨mx_X8_calm_54, List.forall_mem_append.mpr ⟨List.forall_mem_cons.mpr ⟨mx_X8_calm_4, List.forall_mem_cons.mpr ⟨mx_X8_calm_5, fun _ h_ => absurd h_ List.not_mem_nil⟩⟩, (fun _ h_ => mb_X8_calm_wsX80 h_)⟩⟩) (by decide +kernel)
theorem mx_X8_calm_51 : Cond.methodLink RX8 194 yX8_takeBack ∈ wsX8_calm := mb_X8_calm_wsX8_calm_r3 (List.mem_of_getElem? (i := 2) rfl)
theorem mx_X8_calm_52 : Cond.instanceMethod yX8_takeBack ∈ wsX8_calm := mb_X8_calm_wsX8_calm_r3 (List.mem_of_getElem? (i := 3) rfl)
theorem mx_X8_calm_53 : Cond.selects RX8 yX8_takeBack yX8_takeBack ∈ wsX8_calm := mb_X8_calm_wsX8_calm_r3 (List.mem_of_getElem? (i := 4) rfl)
theorem gX8_calm_X8_takeBack : GoodIn wsX8_calm (wsV RX8 194 RX8 yX8_takeBack wsX8_takeBack) := goodIn_app (goodIn_sub (List.forall_mem_cons.mpr ⟨mx_X8_calm_51, List.forall_mem_cons.mpr ⟨mx_X8_calm_52, List.forall_mem_cons.mpr ⟨mx_X8_calm_53, List.forall_mem_cons.mpr ⟨mx_X8_calm_9, fun _ h_ => absurd h_ List.not_mem_nil⟩⟩⟩⟩) (by decide +kernel)) ggX8_calm_X8_takeBack
theorem mb_X8_drawn_wsX8_drawn_r1 {w : Cond} (h : w ∈ wsX8_drawn_r1) : w ∈ wsX8_drawn := by unfold wsX8_drawn; exact List.mem_cons_of_mem _ (List.mem_append_left _ (List.mem_append_left _ (h)))
theorem mx_X8_drawn_16 : Cond.code yX8_in cX8_in 6 (some .boolean) ∈ wsX8_drawn := mb_X8_drawn_wsX8_drawn_r1 (List.mem_of_getElem? (i := 15) rfl)
theorem ggX8_drawn_X8_in : GoodIn wsX8_drawn wsX8_in := goodIn_sub (by unfold wsX8_in; exact List.forall_mem_cons.mpr ⟨mx_X8_drawn_16, fun _ h_ => absurd h_ List.not_mem_nil⟩) (by decide +kernel)
set_option maxRecDepth 20000 in
theorem gX8_drawn_X8_in : GoodIn wsX8_drawn (va_wsS RX8 57 yX8_in wsX8_in) := goodIn_app (goodIn_of _ (by decide +kernel)) ggX8_drawn_X8_in
theorem mx_X8_drawn_19 : Cond.code yX8_isWhat cX8_isWhat 1 (some .boolean) ∈ wsX8_drawn := mb_X8_drawn_wsX8_drawn_r1 (List.mem_of_getElem? (i := 18) rfl)
theorem mx_X8_drawn_13 : Cond.methodLink RX8 57 yX8_in ∈ wsX8_drawn := mb_X8_drawn_wsX8_drawn_r1 (List.mem_of_getElem? (i := 12) rfl)
theorem mx_X8_drawn_14 : Cond.static yX8_in ∈ wsX8_drawn := mb_X8_drawn_wsX8_drawn_r1 (List.mem_of_getElem? (i := 13) rfl)
theorem mx_X8_drawn_15 : Cond.initialized RX8 ∈ wsX8_drawn := mb_X8_drawn_wsX8_drawn_r1 (List.mem_of_getElem? (i := 14) rfl)
theorem ggX8_drawn_X8_isWhat : GoodIn wsX8_drawn wsX8_isWhat := goodIn_sub (by unfold wsX8_isWhat; exact List.forall_mem_cons.mpr ⟨mx_X8_drawn_19, List.forall_mem_cons.mpr ⟨mx_X8_drawn_13, List.forall_mem_cons.mpr ⟨mx_X8_drawn_14, List.forall_mem_cons.mpr ⟨mx_X8_drawn_15, List.forall_mem_cons.mpr ⟨mx_X8_drawn_16, fun _ h_ => absurd h_ List.not_mem_nil⟩⟩⟩⟩⟩) (by decide +kernel)
set_option maxRecDepth 20000 in
theorem gX8_drawn_X8_isWhat : GoodIn wsX8_drawn (va_wsS RX8 210 yX8_isWhat wsX8_isWhat) := goodIn_app (goodIn_of _ (by decide +kernel)) ggX8_drawn_X8_isWhat
theorem mb_X8_drawn_wsX8_drawn_r2 {w : Cond} (h : w ∈ wsX8_drawn_r2) : w ∈ wsX8_drawn := by unfold wsX8_drawn; exact List.mem_cons_of_mem _ (List.mem_append_left _ (List.mem_append_right _ (List.mem_append_left _ (h))))
theorem mx_X8_drawn_28 : Cond.code yX8_letLoose cX8_letLoose 4 none ∈ wsX8_drawn := mb_X8_drawn_wsX8_drawn_r2 (List.mem_of_getElem? (i := 3) rfl)
theorem mx_X8_drawn_9 : Cond.fieldLink RX8 19 "MillTalkModel" "st" "[I" ∈ wsX8_drawn := mb_X8_drawn_wsX8_drawn_r1 (List.mem_of_getElem? (i := 8) rfl)
theorem mb_X8_drawn_wsX80 {w : Cond} (h : w ∈ wsX80) : w ∈ wsX8_drawn := by unfold wsX8_drawn; exact List.mem_cons_of_mem _ (List.mem_append_right _ (h))
theorem ggX8_drawn_X8_letLoose : GoodIn wsX8_drawn wsX8_letLoose := goodIn_sub (by unfold wsX8_letLoose; exact List.forall_mem_cons.mpr ⟨mx_X8_drawn_28, List.forall_mem_append.mpr ⟨List.forall_mem_cons.mpr ⟨mx_X8_drawn_9, fun _ h_ => absurd h_ List.not_mem_nil⟩, (fun _ h_ => mb_X8_drawn_wsX80 h_)⟩⟩) (by decide +kernel)
theorem mx_X8_drawn_25 : Cond.methodLink RX8 178 yX8_letLoose ∈ wsX8_drawn := mb_X8_drawn_wsX8_drawn_r2 (List.mem_of_getElem? (i := 0) rfl)
theorem mx_X8_drawn_26 : Cond.instanceMethod yX8_letLoose ∈ wsX8_drawn := mb_X8_drawn_wsX8_drawn_r2 (List.mem_of_getElem? (i := 1) rfl)
theorem mx_X8_drawn_27 : Cond.selects RX8 yX8_letLoose yX8_letLoose ∈ wsX8_drawn := mb_X8_drawn_wsX8_drawn_r2 (List.mem_of_getElem? (i := 2) rfl)
theorem gX8_drawn_X8_letLoose : GoodIn wsX8_drawn (wsV RX8 178 RX8 yX8_letLoose wsX8_letLoose) := goodIn_app (goodIn_sub (List.forall_mem_cons.mpr ⟨mx_X8_drawn_25, List.forall_mem_cons.mpr ⟨mx_X8_drawn_26, List.forall_mem_cons.mpr ⟨mx_X8_drawn_27, List.forall_mem_cons.mpr ⟨mx_X8_drawn_15, fun _ h_ => absurd h_ List.not_mem_nil⟩⟩⟩⟩) (by decide +kernel)) ggX8_drawn_X8_letLoose
theorem mx_X8_drawn_32 : Cond.code yX8_oneHour cX8_oneHour 4 (some .int) ∈ wsX8_drawn := mb_X8_drawn_wsX8_drawn_r2 (List.mem_of_getElem? (i := 7) rfl)
theorem mx_X8_drawn_33 : Cond.methodLink RX8 151 yX8_gustOf ∈ wsX8_drawn := mb_X8_drawn_wsX8_drawn_r2 (List.mem_of_getElem? (i := 8) rfl)
theorem mx_X8_drawn_34 : Cond.instanceMethod yX8_gustOf ∈ wsX8_drawn := mb_X8_drawn_wsX8_drawn_r2 (List.mem_of_getElem? (i := 9) rfl)
theorem mx_X8_drawn_35 : Cond.selects RX8 yX8_gustOf yX8_gustOf ∈ wsX8_drawn := mb_X8_drawn_wsX8_drawn_r2 (List.mem_of_getElem? (i := 10) rfl)
theorem mx_X8_drawn_36 : Cond.code yX8_gustOf cX8_gustOf 2 (some .int) ∈ wsX8_drawn := mb_X8_drawn_wsX8_drawn_r2 (List.mem_of_getElem? (i := 11) rfl)
theorem mx_X8_drawn_37 : Cond.methodLink RX8 154 yX8_drift ∈ wsX8_drawn := mb_X8_drawn_wsX8_drawn_r2 (List.mem_of_getElem? (i := 12) rfl)
theorem mx_X8_drawn_38 : Cond.instanceMethod yX8_drift ∈ wsX8_drawn := mb_X8_drawn_wsX8_drawn_r2 (List.mem_of_getElem? (i := 13) rfl)
theorem mx_X8_drawn_39 : Cond.selects RX8 yX8_drift yX8_drift ∈ wsX8_drawn := mb_X8_drawn_wsX8_drawn_r2 (List.mem_of_getElem? (i := 14) rfl)
theorem mx_X8_drawn_40 : Cond.code yX8_drift cX8_drift 7 none ∈ wsX8_drawn := mb_X8_drawn_wsX8_drawn_r2 (List.mem_of_getElem? (i := 15) rfl)
theorem mx_X8_drawn_41 : Cond.methodLink RX8 145 yX8_drifts ∈ wsX8_drawn := mb_X8_drawn_wsX8_drawn_r2 (List.mem_of_getElem? (i := 16) rfl)
theorem mx_X8_drawn_42 : Cond.static yX8_drifts ∈ wsX8_drawn := mb_X8_drawn_wsX8_drawn_r2 (List.mem_of_getElem? (i := 17) rfl)
theorem mx_X8_drawn_43 : Cond.code yX8_drifts cX8_drifts 2 (some .int) ∈ wsX8_drawn := mb_X8_drawn_wsX8_drawn_r2 (List.mem_of_getElem? (i := 18) rfl)
theorem mx_X8_drawn_44 : Cond.methodLink RX8 148 yX8_isCell ∈ wsX8_drawn := mb_X8_drawn_wsX8_drawn_r2 (List.mem_of_getElem? (i := 19) rfl)
theorem mx_X8_drawn_45 : Cond.instanceMethod yX8_isCell ∈ wsX8_drawn := mb_X8_drawn_wsX8_drawn_r2 (List.mem_of_getElem? (i := 20) rfl)
theorem mx_X8_drawn_46 : Cond.selects RX8 yX8_isCell yX8_isCell ∈ wsX8_drawn := mb_X8_drawn_wsX8_drawn_r2 (List.mem_of_getElem? (i := 21) rfl)
theorem mx_X8_drawn_47 : Cond.code yX8_isCell cX8_isCell 2 (some .boolean) ∈ wsX8_drawn := mb_X8_drawn_wsX8_drawn_r2 (List.mem_of_getElem? (i := 22) rfl)
theorem mx_X8_drawn_48 : Cond.methodLink RX8 158 yX8_isAtMill ∈ wsX8_drawn := mb_X8_drawn_wsX8_drawn_r2 (List.mem_of_getElem? (i := 23) rfl)
theorem mb_X8_drawn_wsX8_drawn_r3 {w : Cond} (h : w ∈ wsX8_drawn_r3) : w ∈ wsX8_drawn := by unfold wsX8_drawn; exact List.mem_cons_of_mem _ (List.mem_append_left _ (List.mem_append_right _ (List.mem_append_right _ (h))))
theorem mx_X8_drawn_49 : Cond.instanceMethod yX8_isAtMill ∈ wsX8_drawn := mb_X8_drawn_wsX8_drawn_r3 (List.mem_of_getElem? (i := 0) rfl)
theorem mx_X8_drawn_50 : Cond.selects RX8 yX8_isAtMill yX8_isAtMill ∈ wsX8_drawn := mb_X8_drawn_wsX8_drawn_r3 (List.mem_of_getElem? (i := 1) rfl)
theorem mx_X8_drawn_51 : Cond.code yX8_isAtMill cX8_isAtMill 3 (some .boolean) ∈ wsX8_drawn := mb_X8_drawn_wsX8_drawn_r3 (List.mem_of_getElem? (i := 2) rfl)
theorem ggX8_drawn_X8_oneHour : GoodIn wsX8_drawn wsX8_oneHour := goodIn_sub (by unfold wsX8_oneHour; exact List.forall_mem_cons.mpr ⟨mx_X8_drawn_32, List.forall_mem_append.mpr ⟨List.forall_mem_cons.mpr ⟨mx_X8_drawn_9, List.forall_mem_cons.mpr ⟨mx_X8_drawn_33, List.forall_mem_cons.mpr ⟨mx_X8_drawn_34, List.forall_mem_cons.mpr ⟨mx_X8_drawn_35, List.forall_mem_cons.mpr ⟨mx_X8_drawn_15, List.forall_mem_cons.mpr ⟨mx_X8_drawn_36, List.forall_mem_cons.mpr ⟨mx_X8_drawn_37, List.forall_mem_cons.mpr ⟨mx_X8_drawn_38, List.forall_mem_cons.mpr ⟨mx_X8_drawn_39, List.forall_mem_cons.mpr ⟨mx_X8_drawn_40, List.forall_mem_cons.mpr ⟨mx_X8_drawn_41, List.forall_mem_cons.mpr ⟨mx_X8_drawn_42, List.forall_mem_cons.mpr ⟨mx_X8_drawn_43, List.forall_mem_cons.mpr ⟨mx_X8_drawn_44, List.forall_mem_cons.mpr ⟨mx_X8_drawn_45, List.forall_mem_cons.mpr ⟨mx_X8_drawn_46, List.forall_mem_cons.mpr ⟨mx_X8_drawn_47, List.forall_mem_cons.mpr ⟨mx_X8_drawn_13, List.forall_mem_cons.mpr ⟨mx_X8_drawn_14, List.forall_mem_cons.mpr ⟨mx_X8_drawn_16, List.forall_mem_cons.mpr ⟨mx_X8_drawn_48, List.forall_mem_cons.mpr ⟨mx_X8_drawn_49, List.forall_mem_cons.mpr ⟨mx_X8_drawn_50, List.forall_mem_cons.mpr ⟨mx_X8_drawn_51, fun _ h_ => absurd h_ List.not_mem_nil⟩⟩⟩⟩⟩⟩⟩⟩⟩⟩⟩⟩⟩⟩⟩⟩⟩⟩⟩⟩⟩⟩⟩⟩, (fun _ h_ => mb_X8_drawn_wsX80 h_)⟩⟩) (by decide +kernel)
theorem mx_X8_drawn_29 : Cond.methodLink RX8 167 yX8_oneHour ∈ wsX8_drawn := mb_X8_drawn_wsX8_drawn_r2 (List.mem_of_getElem? (i := 4) rfl)
theorem mx_X8_drawn_30 : Cond.instanceMethod yX8_oneHour ∈ wsX8_drawn := mb_X8_drawn_wsX8_drawn_r2 (List.mem_of_getElem? (i := 5) rfl)
theorem mx_X8_drawn_31 : Cond.selects RX8 yX8_oneHour yX8_oneHour ∈ wsX8_drawn := mb_X8_drawn_wsX8_drawn_r2 (List.mem_of_getElem? (i := 6) rfl)
theorem gX8_drawn_X8_oneHour : GoodIn wsX8_drawn (wsV RX8 167 RX8 yX8_oneHour wsX8_oneHour) := goodIn_app (goodIn_sub (List.forall_mem_cons.mpr ⟨mx_X8_drawn_29, List.forall_mem_cons.mpr ⟨mx_X8_drawn_30, List.forall_mem_cons.mpr ⟨mx_X8_drawn_31, List.forall_mem_cons.mpr ⟨mx_X8_drawn_15, fun _ h_ => absurd h_ List.not_mem_nil⟩⟩⟩⟩) (by decide +kernel)) ggX8_drawn_X8_oneHour
theorem mx_X8_drawn_58 : Cond.code yX8_ones cX8_ones 3 (some .int) ∈ wsX8_drawn := mb_X8_drawn_wsX8_drawn_r3 (List.mem_of_getElem? (i := 9) rfl)
theorem ggX8_drawn_X8_ones : GoodIn wsX8_drawn wsX8_ones := goodIn_sub (by unfold wsX8_ones; exact List.forall_mem_cons.mpr ⟨mx_X8_drawn_58, fun _ h_ => absurd h_ List.not_mem_nil⟩) (by decide +kernel)
set_option maxRecDepth 20000 in
theorem gX8_drawn_X8_ones : GoodIn wsX8_drawn (va_wsS RX8 254 yX8_ones wsX8_ones) := goodIn_app (goodIn_of _ (by decide +kernel)) ggX8_drawn_X8_ones
theorem mx_X8_drawn_23 : Cond.code yX8_putAside cX8_putAside 2 none ∈ wsX8_drawn := mb_X8_drawn_wsX8_drawn_r1 (List.mem_of_getElem? (i := 22) rfl)
theorem mx_X8_drawn_24 : Cond.fieldLink RX8 34 "MillTalkModel" "aside" "[I" ∈ wsX8_drawn := mb_X8_drawn_wsX8_drawn_r1 (List.mem_of_getElem? (i := 23) rfl)
theorem ggX8_drawn_X8_putAside : GoodIn wsX8_drawn wsX8_putAside := goodIn_sub (by unfold wsX8_putAside; exact List.forall_mem_cons.mpr ⟨mx_X8_drawn_23, List.forall_mem_append.mpr ⟨List.forall_mem_cons.mpr ⟨mx_X8_drawn_24, List.forall_mem_cons.mpr ⟨mx_X8_drawn_9, fun _ h_ => absurd h_ List.not_mem_nil⟩⟩, (fun _ h_ => mb_X8_drawn_wsX80 h_)⟩⟩) (by decide +kernel)
theorem mx_X8_drawn_20 : Cond.methodLink RX8 197 yX8_putAside ∈ wsX8_drawn := mb_X8_drawn_wsX8_drawn_r1 (List.mem_of_getElem? (i := 19) rfl)
theorem mx_X8_drawn_21 : Cond.instanceMethod yX8_putAside ∈ wsX8_drawn := mb_X8_drawn_wsX8_drawn_r1 (List.mem_of_getElem? (i := 20) rfl)
theorem mx_X8_drawn_22 : Cond.selects RX8 yX8_putAside yX8_putAside ∈ wsX8_drawn := mb_X8_drawn_wsX8_drawn_r1 (List.mem_of_getElem? (i := 21) rfl)
theorem gX8_drawn_X8_putAside : GoodIn wsX8_drawn (wsV RX8 197 RX8 yX8_putAside wsX8_putAside) := goodIn_app (goodIn_sub (List.forall_mem_cons.mpr ⟨mx_X8_drawn_20, List.forall_mem_cons.mpr ⟨mx_X8_drawn_21, List.forall_mem_cons.mpr ⟨mx_X8_drawn_22, List.forall_mem_cons.mpr ⟨mx_X8_drawn_15, fun _ h_ => absurd h_ List.not_mem_nil⟩⟩⟩⟩) (by decide +kernel)) ggX8_drawn_X8_putAside
theorem mx_X8_drawn_62 : Cond.code yX8_takeBack cX8_takeBack 2 none ∈ wsX8_drawn := mb_X8_drawn_wsX8_drawn_r3 (List.mem_of_getElem? (i := 13) rfl)
theorem ggX8_drawn_X8_takeBack : GoodIn wsX8_drawn wsX8_takeBack := goodIn_sub (by unfold wsX8_takeBack; exact List.forall_mem_cons.mpr ⟨mx_X8_drawn_62, List.forall_mem_append.mpr ⟨List.forall_mem_cons.mpr ⟨mx_X8_drawn_9, List.forall_mem_cons.mpr ⟨mx_X8_drawn_24, fun _ h_ => absurd h_ List.not_mem_nil⟩⟩, (fun _ h_ => mb_X8_drawn_wsX80 h_)⟩⟩) (by decide +kernel)
theorem mx_X8_drawn_59 : Cond.methodLink RX8 194 yX8_takeBack ∈ wsX8_drawn := mb_X8_drawn_wsX8_drawn_r3 (List.mem_of_getElem? (i := 10) rfl)
theorem mx_X8_drawn_60 : Cond.instanceMethod yX8_takeBack ∈ wsX8_drawn := mb_X8_drawn_wsX8_drawn_r3 (List.mem_of_getElem? (i := 11) rfl)
theorem mx_X8_drawn_61 : Cond.selects RX8 yX8_takeBack yX8_takeBack ∈ wsX8_drawn := mb_X8_drawn_wsX8_drawn_r3 (List.mem_of_getElem? (i := 12) rfl)
theorem gX8_drawn_X8_takeBack : GoodIn wsX8_drawn (wsV RX8 194 RX8 yX8_takeBack wsX8_takeBack) := goodIn_app (goodIn_sub (List.forall_mem_cons.mpr ⟨mx_X8_drawn_59, List.forall_mem_cons.mpr ⟨mx_X8_drawn_60, List.forall_mem_cons.mpr ⟨mx_X8_drawn_61, List.forall_mem_cons.mpr ⟨mx_X8_drawn_15, fun _ h_ => absurd h_ List.not_mem_nil⟩⟩⟩⟩) (by decide +kernel)) ggX8_drawn_X8_takeBack
theorem mx_X8_drawn_55 : Cond.code yX8_those cX8_those 4 (some .int) ∈ wsX8_drawn := mb_X8_drawn_wsX8_drawn_r3 (List.mem_of_getElem? (i := 6) rfl)
theorem ggX8_drawn_X8_those : GoodIn wsX8_drawn wsX8_those := goodIn_sub (by unfold wsX8_those; exact List.forall_mem_cons.mpr ⟨mx_X8_drawn_55, List.forall_mem_append.mpr ⟨List.forall_mem_cons.mpr ⟨mx_X8_drawn_9, fun _ h_ => absurd h_ List.not_mem_nil⟩, (fun _ h_ => mb_X8_drawn_wsX80 h_)⟩⟩) (by decide +kernel)
theorem mx_X8_drawn_52 : Cond.methodLink RX8 182 yX8_those ∈ wsX8_drawn := mb_X8_drawn_wsX8_drawn_r3 (List.mem_of_getElem? (i := 3) rfl)
theorem mx_X8_drawn_53 : Cond.instanceMethod yX8_those ∈ wsX8_drawn := mb_X8_drawn_wsX8_drawn_r3 (List.mem_of_getElem? (i := 4) rfl)
theorem mx_X8_drawn_54 : Cond.selects RX8 yX8_those yX8_those ∈ wsX8_drawn := mb_X8_drawn_wsX8_drawn_r3 (List.mem_of_getElem? (i := 5) rfl)
theorem gX8_drawn_X8_those : GoodIn wsX8_drawn (wsV RX8 182 RX8 yX8_those wsX8_those) := goodIn_app (goodIn_sub (List.forall_mem_cons.mpr ⟨mx_X8_drawn_52, List.forall_mem_cons.mpr ⟨mx_X8_drawn_53, List.forall_mem_cons.mpr ⟨mx_X8_drawn_54, List.forall_mem_cons.mpr ⟨mx_X8_drawn_15, fun _ h_ => absurd h_ List.not_mem_nil⟩⟩⟩⟩) (by decide +kernel)) ggX8_drawn_X8_those
theorem mb_X8_fits_wsX8_fits_r1 {w : Cond} (h : w ∈ wsX8_fits_r1) : w ∈ wsX8_fits := by unfold wsX8_fits; exact List.mem_cons_of_mem _ (List.mem_append_left _ (List.mem_append_left _ (h)))
theorem mx_X8_fits_11 : Cond.code yX8_isSo cX8_isSo 7 (some .boolean) ∈ wsX8_fits := mb_X8_fits_wsX8_fits_r1 (List.mem_of_getElem? (i := 10) rfl)
theorem mx_X8_fits_1 : Cond.fieldLink RX8 19 "MillTalkModel" "st" "[I" ∈ wsX8_fits := mb_X8_fits_wsX8_fits_r1 (List.mem_of_getElem? (i := 0) rfl)
theorem mx_X8_fits_12 : Cond.fieldLink RX8 16 "MillTalkModel" "items" "[I" ∈ wsX8_fits := mb_X8_fits_wsX8_fits_r1 (List.mem_of_getElem? (i := 11) rfl)
theorem mx_X8_fits_13 : Cond.methodLink RX8 167 yX8_oneHour ∈ wsX8_fits := mb_X8_fits_wsX8_fits_r1 (List.mem_of_getElem? (i := 12) rfl)
theorem mx_X8_fits_14 : Cond.instanceMethod yX8_oneHour ∈ wsX8_fits := mb_X8_fits_wsX8_fits_r1 (List.mem_of_getElem? (i := 13) rfl)
theorem mx_X8_fits_15 : Cond.selects RX8 yX8_oneHour yX8_oneHour ∈ wsX8_fits := mb_X8_fits_wsX8_fits_r1 (List.mem_of_getElem? (i := 14) rfl)
theorem mx_X8_fits_5 : Cond.initialized RX8 ∈ wsX8_fits := mb_X8_fits_wsX8_fits_r1 (List.mem_of_getElem? (i := 4) rfl)
theorem mx_X8_fits_16 : Cond.code yX8_oneHour cX8_oneHour 4 (some .int) ∈ wsX8_fits := mb_X8_fits_wsX8_fits_r1 (List.mem_of_getElem? (i := 15) rfl)
theorem mx_X8_fits_17 : Cond.methodLink RX8 151 yX8_gustOf ∈ wsX8_fits := mb_X8_fits_wsX8_fits_r1 (List.mem_of_getElem? (i := 16) rfl)
theorem mx_X8_fits_18 : Cond.instanceMethod yX8_gustOf ∈ wsX8_fits := mb_X8_fits_wsX8_fits_r1 (List.mem_of_getElem? (i := 17) rfl)
theorem mx_X8_fits_19 : Cond.selects RX8 yX8_gustOf yX8_gustOf ∈ wsX8_fits := mb_X8_fits_wsX8_fits_r1 (List.mem_of_getElem? (i := 18) rfl)
theorem mx_X8_fits_20 : Cond.code yX8_gustOf cX8_gustOf 2 (some .int) ∈ wsX8_fits := mb_X8_fits_wsX8_fits_r1 (List.mem_of_getElem? (i := 19) rfl)
theorem mx_X8_fits_21 : Cond.methodLink RX8 154 yX8_drift ∈ wsX8_fits := mb_X8_fits_wsX8_fits_r1 (List.mem_of_getElem? (i := 20) rfl)
theorem mx_X8_fits_22 : Cond.instanceMethod yX8_drift ∈ wsX8_fits := mb_X8_fits_wsX8_fits_r1 (List.mem_of_getElem? (i := 21) rfl)
theorem mx_X8_fits_23 : Cond.selects RX8 yX8_drift yX8_drift ∈ wsX8_fits := mb_X8_fits_wsX8_fits_r1 (List.mem_of_getElem? (i := 22) rfl)
theorem mx_X8_fits_24 : Cond.code yX8_drift cX8_drift 7 none ∈ wsX8_fits := mb_X8_fits_wsX8_fits_r1 (List.mem_of_getElem? (i := 23) rfl)
theorem mb_X8_fits_wsX8_fits_r2 {w : Cond} (h : w ∈ wsX8_fits_r2) : w ∈ wsX8_fits := by unfold wsX8_fits; exact List.mem_cons_of_mem _ (List.mem_append_left _ (List.mem_append_right _ (h)))
theorem mx_X8_fits_25 : Cond.methodLink RX8 145 yX8_drifts ∈ wsX8_fits := mb_X8_fits_wsX8_fits_r2 (List.mem_of_getElem? (i := 0) rfl)
theorem mx_X8_fits_26 : Cond.static yX8_drifts ∈ wsX8_fits := mb_X8_fits_wsX8_fits_r2 (List.mem_of_getElem? (i := 1) rfl)
theorem mx_X8_fits_27 : Cond.code yX8_drifts cX8_drifts 2 (some .int) ∈ wsX8_fits := mb_X8_fits_wsX8_fits_r2 (List.mem_of_getElem? (i := 2) rfl)
theorem mx_X8_fits_28 : Cond.methodLink RX8 148 yX8_isCell ∈ wsX8_fits := mb_X8_fits_wsX8_fits_r2 (List.mem_of_getElem? (i := 3) rfl)
theorem mx_X8_fits_29 : Cond.instanceMethod yX8_isCell ∈ wsX8_fits := mb_X8_fits_wsX8_fits_r2 (List.mem_of_getElem? (i := 4) rfl)
theorem mx_X8_fits_30 : Cond.selects RX8 yX8_isCell yX8_isCell ∈ wsX8_fits := mb_X8_fits_wsX8_fits_r2 (List.mem_of_getElem? (i := 5) rfl)
theorem mx_X8_fits_31 : Cond.code yX8_isCell cX8_isCell 2 (some .boolean) ∈ wsX8_fits := mb_X8_fits_wsX8_fits_r2 (List.mem_of_getElem? (i := 6) rfl)
theorem mx_X8_fits_32 : Cond.methodLink RX8 57 yX8_in ∈ wsX8_fits := mb_X8_fits_wsX8_fits_r2 (List.mem_of_getElem? (i := 7) rfl)
theorem mx_X8_fits_33 : Cond.static yX8_in ∈ wsX8_fits := mb_X8_fits_wsX8_fits_r2 (List.mem_of_getElem? (i := 8) rfl)
theorem mx_X8_fits_34 : Cond.code yX8_in cX8_in 6 (some .boolean) ∈ wsX8_fits := mb_X8_fits_wsX8_fits_r2 (List.mem_of_getElem? (i := 9) rfl)
theorem mx_X8_fits_35 : Cond.methodLink RX8 158 yX8_isAtMill ∈ wsX8_fits := mb_X8_fits_wsX8_fits_r2 (List.mem_of_getElem? (i := 10) rfl)
theorem mx_X8_fits_36 : Cond.instanceMethod yX8_isAtMill ∈ wsX8_fits := mb_X8_fits_wsX8_fits_r2 (List.mem_of_getElem? (i := 11) rfl)
theorem mx_X8_fits_37 : Cond.selects RX8 yX8_isAtMill yX8_isAtMill ∈ wsX8_fits := mb_X8_fits_wsX8_fits_r2 (List.mem_of_getElem? (i := 12) rfl)
theorem mx_X8_fits_38 : Cond.code yX8_isAtMill cX8_isAtMill 3 (some .boolean) ∈ wsX8_fits := mb_X8_fits_wsX8_fits_r2 (List.mem_of_getElem? (i := 13) rfl)
theorem mx_X8_fits_39 : Cond.methodLink RX8 194 yX8_takeBack ∈ wsX8_fits := mb_X8_fits_wsX8_fits_r2 (List.mem_of_getElem? (i := 14) rfl)
theorem mx_X8_fits_40 : Cond.instanceMethod yX8_takeBack ∈ wsX8_fits := mb_X8_fits_wsX8_fits_r2 (List.mem_of_getElem? (i := 15) rfl)
theorem mx_X8_fits_41 : Cond.selects RX8 yX8_takeBack yX8_takeBack ∈ wsX8_fits := mb_X8_fits_wsX8_fits_r2 (List.mem_of_getElem? (i := 16) rfl)
theorem mx_X8_fits_42 : Cond.code yX8_takeBack cX8_takeBack 2 none ∈ wsX8_fits := mb_X8_fits_wsX8_fits_r2 (List.mem_of_getElem? (i := 17) rfl)
theorem mx_X8_fits_7 : Cond.fieldLink RX8 34 "MillTalkModel" "aside" "[I" ∈ wsX8_fits := mb_X8_fits_wsX8_fits_r1 (List.mem_of_getElem? (i := 6) rfl)
theorem mb_X8_fits_wsX80 {w : Cond} (h : w ∈ wsX80) : w ∈ wsX8_fits := by unfold wsX8_fits; exact List.mem_cons_of_mem _ (List.mem_append_right _ (h))
theorem ggX8_fits_X8_isSo : GoodIn wsX8_fits wsX8_isSo := goodIn_sub (by unfold wsX8_isSo; exact List.forall_mem_cons.mpr ⟨mx_X8_fits_11, List.forall_mem_append.mpr ⟨List.forall_mem_append.mpr ⟨(by unfold wsX8_isSo_r1; exact List.forall_mem_cons.mpr ⟨mx_X8_fits_1, List.forall_mem_cons.mpr ⟨mx_X8_fits_12, List.forall_mem_cons.mpr ⟨mx_X8_fits_13, List.forall_mem_cons.mpr ⟨mx_X8_fits_14, List.forall_mem_cons.mpr ⟨mx_X8_fits_15, List.forall_mem_cons.mpr ⟨mx_X8_fits_5, List.forall_mem_cons.mpr ⟨mx_X8_fits_16, List.forall_mem_cons.mpr ⟨mx_X8_fits_17, List.forall_mem_cons.mpr ⟨mx_X8_fits_18, List.forall_mem_cons.mpr ⟨mx_X8_fits_19, List.forall_mem_cons.mpr ⟨mx_X8_fits_20, List.forall_mem_cons.mpr ⟨mx_X8_fits_21, List.forall_mem_cons.mpr ⟨mx_X8_fits_22, List.forall_mem_cons.mpr ⟨mx_X8_fits_23, List.forall_mem_cons.mpr ⟨mx_X8_fits_24, List.forall_mem_cons.mpr ⟨mx_X8_fits_25, List.forall_mem_cons.mpr ⟨mx_X8_fits_26, List.forall_mem_cons.mpr ⟨mx_X8_fits_27, List.forall_mem_cons.mpr ⟨mx_X8_fits_28, List.forall_mem_cons.mpr ⟨mx_X8_fits_29, List.forall_mem_cons.mpr ⟨mx_X8_fits_30, List.forall_mem_cons.mpr ⟨mx_X8_fits_31, List.forall_mem_cons.mpr ⟨mx_X8_fits_32, List.forall_mem_cons.mpr ⟨mx_X8_fits_33, fun _ h_ => absurd h_ List.not_mem_nil⟩⟩⟩⟩⟩⟩⟩⟩⟩⟩⟩⟩⟩⟩⟩⟩⟩⟩⟩⟩⟩⟩⟩⟩), (by unfold wsX8_isSo_r2; exact List.forall_mem_cons.mpr ⟨mx_X8_fits_34, List.forall_mem_cons.mpr ⟨mx_X8_fits_35, List.forall_mem_cons.mpr ⟨mx_X8_fits_36, List.forall_mem_cons.mpr ⟨mx_X8_fits_37, List.forall_mem_cons.mpr ⟨mx_X8_fits_38, List.forall_mem_cons.mpr ⟨mx_X8_fits_39, List.forall_mem_cons.mpr ⟨mx_X8_fits_40, List.forall_mem_cons.mpr ⟨mx_X8_fits_41, List.forall_mem_cons.mpr ⟨mx_X8_fits_42, List.forall_mem_cons.mpr ⟨mx_X8_fits_7, fun _ h_ => absurd h_ List.not_mem_nil⟩⟩⟩⟩⟩⟩⟩⟩⟩⟩)⟩, (fun _ h_ => mb_X8_fits_wsX80 h_)⟩⟩) (by decide +kernel)
theorem mx_X8_fits_8 : Cond.methodLink RX8 222 yX8_isSo ∈ wsX8_fits := mb_X8_fits_wsX8_fits_r1 (List.mem_of_getElem? (i := 7) rfl)
theorem mx_X8_fits_9 : Cond.instanceMethod yX8_isSo ∈ wsX8_fits := mb_X8_fits_wsX8_fits_r1 (List.mem_of_getElem? (i := 8) rfl)
theorem mx_X8_fits_10 : Cond.selects RX8 yX8_isSo yX8_isSo ∈ wsX8_fits := mb_X8_fits_wsX8_fits_r1 (List.mem_of_getElem? (i := 9) rfl)
theorem gX8_fits_X8_isSo : GoodIn wsX8_fits (wsV RX8 222 RX8 yX8_isSo wsX8_isSo) := goodIn_app (goodIn_sub (List.forall_mem_cons.mpr ⟨mx_X8_fits_8, List.forall_mem_cons.mpr ⟨mx_X8_fits_9, List.forall_mem_cons.mpr ⟨mx_X8_fits_10, List.forall_mem_cons.mpr ⟨mx_X8_fits_5, fun _ h_ => absurd h_ List.not_mem_nil⟩⟩⟩⟩) (by decide +kernel)) ggX8_fits_X8_isSo
theorem mx_X8_fits_6 : Cond.code yX8_putAside cX8_putAside 2 none ∈ wsX8_fits := mb_X8_fits_wsX8_fits_r1 (List.mem_of_getElem? (i := 5) rfl)
theorem ggX8_fits_X8_putAside : GoodIn wsX8_fits wsX8_putAside := goodIn_sub (by unfold wsX8_putAside; exact List.forall_mem_cons.mpr ⟨mx_X8_fits_6, List.forall_mem_append.mpr ⟨List.forall_mem_cons.mpr ⟨mx_X8_fits_7, List.forall_mem_cons.mpr ⟨mx_X8_fits_1, fun _ h_ => absurd h_ List.not_mem_nil⟩⟩, (fun _ h_ => mb_X8_fits_wsX80 h_)⟩⟩) (by decide +kernel)
theorem mx_X8_fits_2 : Cond.methodLink RX8 197 yX8_putAside ∈ wsX8_fits := mb_X8_fits_wsX8_fits_r1 (List.mem_of_getElem? (i := 1) rfl)
theorem mx_X8_fits_3 : Cond.instanceMethod yX8_putAside ∈ wsX8_fits := mb_X8_fits_wsX8_fits_r1 (List.mem_of_getElem? (i := 2) rfl)
theorem mx_X8_fits_4 : Cond.selects RX8 yX8_putAside yX8_putAside ∈ wsX8_fits := mb_X8_fits_wsX8_fits_r1 (List.mem_of_getElem? (i := 3) rfl)
theorem gX8_fits_X8_putAside : GoodIn wsX8_fits (wsV RX8 197 RX8 yX8_putAside wsX8_putAside) := goodIn_app (goodIn_sub (List.forall_mem_cons.mpr ⟨mx_X8_fits_2, List.forall_mem_cons.mpr ⟨mx_X8_fits_3, List.forall_mem_cons.mpr ⟨mx_X8_fits_4, List.forall_mem_cons.mpr ⟨mx_X8_fits_5, fun _ h_ => absurd h_ List.not_mem_nil⟩⟩⟩⟩) (by decide +kernel)) ggX8_fits_X8_putAside
theorem mx_X8_fits_46 : Cond.code yX8_well cX8_well 2 (some .int) ∈ wsX8_fits := mb_X8_fits_wsX8_fits_r2 (List.mem_of_getElem? (i := 21) rfl)
theorem mx_X8_fits_47 : Cond.fieldLink RX8 50 "MillTalkModel" "status" "I" ∈ wsX8_fits := mb_X8_fits_wsX8_fits_r2 (List.mem_of_getElem? (i := 22) rfl)
theorem ggX8_fits_X8_well : GoodIn wsX8_fits wsX8_well := goodIn_sub (by unfold wsX8_well; exact List.forall_mem_cons.mpr ⟨mx_X8_fits_46, List.forall_mem_append.mpr ⟨List.forall_mem_cons.mpr ⟨mx_X8_fits_47, fun _ h_ => absurd h_ List.not_mem_nil⟩, (fun _ h_ => mb_X8_fits_wsX80 h_)⟩⟩) (by decide +kernel)
theorem mx_X8_fits_43 : Cond.methodLink RX8 72 yX8_well ∈ wsX8_fits := mb_X8_fits_wsX8_fits_r2 (List.mem_of_getElem? (i := 18) rfl)
theorem mx_X8_fits_44 : Cond.instanceMethod yX8_well ∈ wsX8_fits := mb_X8_fits_wsX8_fits_r2 (List.mem_of_getElem? (i := 19) rfl)
theorem mx_X8_fits_45 : Cond.selects RX8 yX8_well yX8_well ∈ wsX8_fits := mb_X8_fits_wsX8_fits_r2 (List.mem_of_getElem? (i := 20) rfl)
theorem gX8_fits_X8_well : GoodIn wsX8_fits (wsV RX8 72 RX8 yX8_well wsX8_well) := goodIn_app (goodIn_sub (List.forall_mem_cons.mpr ⟨mx_X8_fits_43, List.forall_mem_cons.mpr ⟨mx_X8_fits_44, List.forall_mem_cons.mpr ⟨mx_X8_fits_45, List.forall_mem_cons.mpr ⟨mx_X8_fits_5, fun _ h_ => absurd h_ List.not_mem_nil⟩⟩⟩⟩) (by decide +kernel)) ggX8_fits_X8_well
theorem mb_X8_gusts_wsX8_gusts_r2 {w : Cond} (h : w ∈ wsX8_gusts_r2) : w ∈ wsX8_gusts := by unfold wsX8_gusts; exact List.mem_cons_of_mem _ (List.mem_append_left _ (List.mem_append_right _ (List.mem_append_left _ (h))))
theorem mx_X8_gusts_32 : Cond.code yX8_fits cX8_fits 9 (some .int) ∈ wsX8_gusts := mb_X8_gusts_wsX8_gusts_r2 (List.mem_of_getElem? (i := 7) rfl)
theorem mb_X8_gusts_wsX8_gusts_r1 {w : Cond} (h : w ∈ wsX8_gusts_r1) : w ∈ wsX8_gusts := by unfold wsX8_gusts; exact List.mem_cons_of_mem _ (List.mem_append_left _ (List.mem_append_left _ (h)))
theorem mx_X8_gusts_2 : Cond.fieldLink RX8 19 "MillTalkModel" "st" "[I" ∈ wsX8_gusts := mb_X8_gusts_wsX8_gusts_r1 (List.mem_of_getElem? (i := 1) rfl)
theorem mx_X8_gusts_33 : Cond.methodLink RX8 197 yX8_putAside ∈ wsX8_gusts := mb_X8_gusts_wsX8_gusts_r2 (List.mem_of_getElem? (i := 8) rfl)
theorem mx_X8_gusts_34 : Cond.instanceMethod yX8_putAside ∈ wsX8_gusts := mb_X8_gusts_wsX8_gusts_r2 (List.mem_of_getElem? (i := 9) rfl)
theorem mx_X8_gusts_35 : Cond.selects RX8 yX8_putAside yX8_putAside ∈ wsX8_gusts := mb_X8_gusts_wsX8_gusts_r2 (List.mem_of_getElem? (i := 10) rfl)
theorem mx_X8_gusts_8 : Cond.initialized RX8 ∈ wsX8_gusts := mb_X8_gusts_wsX8_gusts_r1 (List.mem_of_getElem? (i := 7) rfl)
theorem mx_X8_gusts_36 : Cond.code yX8_putAside cX8_putAside 2 none ∈ wsX8_gusts := mb_X8_gusts_wsX8_gusts_r2 (List.mem_of_getElem? (i := 11) rfl)
theorem mx_X8_gusts_37 : Cond.fieldLink RX8 34 "MillTalkModel" "aside" "[I" ∈ wsX8_gusts := mb_X8_gusts_wsX8_gusts_r2 (List.mem_of_getElem? (i := 12) rfl)
theorem mx_X8_gusts_38 : Cond.methodLink RX8 222 yX8_isSo ∈ wsX8_gusts := mb_X8_gusts_wsX8_gusts_r2 (List.mem_of_getElem? (i := 13) rfl)
theorem mx_X8_gusts_39 : Cond.instanceMethod yX8_isSo ∈ wsX8_gusts := mb_X8_gusts_wsX8_gusts_r2 (List.mem_of_getElem? (i := 14) rfl)
theorem mx_X8_gusts_40 : Cond.selects RX8 yX8_isSo yX8_isSo ∈ wsX8_gusts := mb_X8_gusts_wsX8_gusts_r2 (List.mem_of_getElem? (i := 15) rfl)
theorem mx_X8_gusts_41 : Cond.code yX8_isSo cX8_isSo 7 (some .boolean) ∈ wsX8_gusts := mb_X8_gusts_wsX8_gusts_r2 (List.mem_of_getElem? (i := 16) rfl)
theorem mx_X8_gusts_42 : Cond.fieldLink RX8 16 "MillTalkModel" "items" "[I" ∈ wsX8_gusts := mb_X8_gusts_wsX8_gusts_r2 (List.mem_of_getElem? (i := 17) rfl)
theorem mx_X8_gusts_43 : Cond.methodLink RX8 167 yX8_oneHour ∈ wsX8_gusts := mb_X8_gusts_wsX8_gusts_r2 (List.mem_of_getElem? (i := 18) rfl)
theorem mx_X8_gusts_44 : Cond.instanceMethod yX8_oneHour ∈ wsX8_gusts := mb_X8_gusts_wsX8_gusts_r2 (List.mem_of_getElem? (i := 19) rfl)
theorem mx_X8_gusts_45 : Cond.selects RX8 yX8_oneHour yX8_oneHour ∈ wsX8_gusts := mb_X8_gusts_wsX8_gusts_r2 (List.mem_of_getElem? (i := 20) rfl)
theorem mx_X8_gusts_46 : Cond.code yX8_oneHour cX8_oneHour 4 (some .int) ∈ wsX8_gusts := mb_X8_gusts_wsX8_gusts_r2 (List.mem_of_getElem? (i := 21) rfl)
theorem mx_X8_gusts_47 : Cond.methodLink RX8 151 yX8_gustOf ∈ wsX8_gusts := mb_X8_gusts_wsX8_gusts_r2 (List.mem_of_getElem? (i := 22) rfl)
theorem mx_X8_gusts_48 : Cond.instanceMethod yX8_gustOf ∈ wsX8_gusts := mb_X8_gusts_wsX8_gusts_r2 (List.mem_of_getElem? (i := 23) rfl)
theorem mb_X8_gusts_wsX8_gusts_r3 {w : Cond} (h : w ∈ wsX8_gusts_r3) : w ∈ wsX8_gusts := by unfold wsX8_gusts; exact List.mem_cons_of_mem _ (List.mem_append_left _ (List.mem_append_right _ (List.mem_append_right _ (List.mem_append_left _ (h)))))
theorem mx_X8_gusts_49 : Cond.selects RX8 yX8_gustOf yX8_gustOf ∈ wsX8_gusts := mb_X8_gusts_wsX8_gusts_r3 (List.mem_of_getElem? (i := 0) rfl)
theorem mx_X8_gusts_50 : Cond.code yX8_gustOf cX8_gustOf 2 (some .int) ∈ wsX8_gusts := mb_X8_gusts_wsX8_gusts_r3 (List.mem_of_getElem? (i := 1) rfl)
theorem mx_X8_gusts_51 : Cond.methodLink RX8 154 yX8_drift ∈ wsX8_gusts := mb_X8_gusts_wsX8_gusts_r3 (List.mem_of_getElem? (i := 2) rfl)
theorem mx_X8_gusts_52 : Cond.instanceMethod yX8_drift ∈ wsX8_gusts := mb_X8_gusts_wsX8_gusts_r3 (List.mem_of_getElem? (i := 3) rfl)
theorem mx_X8_gusts_53 : Cond.selects RX8 yX8_drift yX8_drift ∈ wsX8_gusts := mb_X8_gusts_wsX8_gusts_r3 (List.mem_of_getElem? (i := 4) rfl)
theorem mx_X8_gusts_54 : Cond.code yX8_drift cX8_drift 7 none ∈ wsX8_gusts := mb_X8_gusts_wsX8_gusts_r3 (List.mem_of_getElem? (i := 5) rfl)
theorem mx_X8_gusts_55 : Cond.methodLink RX8 145 yX8_drifts ∈ wsX8_gusts := mb_X8_gusts_wsX8_gusts_r3 (List.mem_of_getElem? (i := 6) rfl)
theorem mx_X8_gusts_56 : Cond.static yX8_drifts ∈ wsX8_gusts := mb_X8_gusts_wsX8_gusts_r3 (List.mem_of_getElem? (i := 7) rfl)
theorem mx_X8_gusts_57 : Cond.code yX8_drifts cX8_drifts 2 (some .int) ∈ wsX8_gusts := mb_X8_gusts_wsX8_gusts_r3 (List.mem_of_getElem? (i := 8) rfl)
theorem mx_X8_gusts_58 : Cond.methodLink RX8 148 yX8_isCell ∈ wsX8_gusts := mb_X8_gusts_wsX8_gusts_r3 (List.mem_of_getElem? (i := 9) rfl)
theorem mx_X8_gusts_59 : Cond.instanceMethod yX8_isCell ∈ wsX8_gusts := mb_X8_gusts_wsX8_gusts_r3 (List.mem_of_getElem? (i := 10) rfl)
theorem mx_X8_gusts_60 : Cond.selects RX8 yX8_isCell yX8_isCell ∈ wsX8_gusts := mb_X8_gusts_wsX8_gusts_r3 (List.mem_of_getElem? (i := 11) rfl)
theorem mx_X8_gusts_61 : Cond.code yX8_isCell cX8_isCell 2 (some .boolean) ∈ wsX8_gusts := mb_X8_gusts_wsX8_gusts_r3 (List.mem_of_getElem? (i := 12) rfl)
theorem mx_X8_gusts_6 : Cond.methodLink RX8 57 yX8_in ∈ wsX8_gusts := mb_X8_gusts_wsX8_gusts_r1 (List.mem_of_getElem? (i := 5) rfl)
theorem mx_X8_gusts_7 : Cond.static yX8_in ∈ wsX8_gusts := mb_X8_gusts_wsX8_gusts_r1 (List.mem_of_getElem? (i := 6) rfl)
theorem mx_X8_gusts_9 : Cond.code yX8_in cX8_in 6 (some .boolean) ∈ wsX8_gusts := mb_X8_gusts_wsX8_gusts_r1 (List.mem_of_getElem? (i := 8) rfl)
theorem mx_X8_gusts_62 : Cond.methodLink RX8 158 yX8_isAtMill ∈ wsX8_gusts := mb_X8_gusts_wsX8_gusts_r3 (List.mem_of_getElem? (i := 13) rfl)
theorem mx_X8_gusts_63 : Cond.instanceMethod yX8_isAtMill ∈ wsX8_gusts := mb_X8_gusts_wsX8_gusts_r3 (List.mem_of_getElem? (i := 14) rfl)
theorem mx_X8_gusts_64 : Cond.selects RX8 yX8_isAtMill yX8_isAtMill ∈ wsX8_gusts := mb_X8_gusts_wsX8_gusts_r3 (List.mem_of_getElem? (i := 15) rfl)
theorem mx_X8_gusts_65 : Cond.code yX8_isAtMill cX8_isAtMill 3 (some .boolean) ∈ wsX8_gusts := mb_X8_gusts_wsX8_gusts_r3 (List.mem_of_getElem? (i := 16) rfl)
theorem mx_X8_gusts_66 : Cond.methodLink RX8 194 yX8_takeBack ∈ wsX8_gusts := mb_X8_gusts_wsX8_gusts_r3 (List.mem_of_getElem? (i := 17) rfl)
theorem mx_X8_gusts_67 : Cond.instanceMethod yX8_takeBack ∈ wsX8_gusts := mb_X8_gusts_wsX8_gusts_r3 (List.mem_of_getElem? (i := 18) rfl)
theorem mx_X8_gusts_68 : Cond.selects RX8 yX8_takeBack yX8_takeBack ∈ wsX8_gusts := mb_X8_gusts_wsX8_gusts_r3 (List.mem_of_getElem? (i := 19) rfl)
theorem mx_X8_gusts_69 : Cond.code yX8_takeBack cX8_takeBack 2 none ∈ wsX8_gusts := mb_X8_gusts_wsX8_gusts_r3 (List.mem_of_getElem? (i := 20) rfl)
theorem mx_X8_gusts_70 : Cond.methodLink RX8 72 yX8_well ∈ wsX8_gusts := mb_X8_gusts_wsX8_gusts_r3 (List.mem_of_getElem? (i := 21) rfl)
theorem mx_X8_gusts_71 : Cond.instanceMethod yX8_well ∈ wsX8_gusts := mb_X8_gusts_wsX8_gusts_r3 (List.mem_of_getElem? (i := 22) rfl)
theorem mx_X8_gusts_72 : Cond.selects RX8 yX8_well yX8_well ∈ wsX8_gusts := mb_X8_gusts_wsX8_gusts_r3 (List.mem_of_getElem? (i := 23) rfl)
theorem mb_X8_gusts_wsX8_gusts_r4 {w : Cond} (h : w ∈ wsX8_gusts_r4) : w ∈ wsX8_gusts := by unfold wsX8_gusts; exact List.mem_cons_of_mem _ (List.mem_append_left _ (List.mem_append_right _ (List.mem_append_right _ (List.mem_append_right _ (h)))))
theorem mx_X8_gusts_73 : Cond.code yX8_well cX8_well 2 (some .int) ∈ wsX8_gusts := mb_X8_gusts_wsX8_gusts_r4 (List.mem_of_getElem? (i := 0) rfl)
theorem mx_X8_gusts_27 : Cond.fieldLink RX8 50 "MillTalkModel" "status" "I" ∈ wsX8_gusts := mb_X8_gusts_wsX8_gusts_r2 (List.mem_of_getElem? (i := 2) rfl)
theorem mb_X8_gusts_wsX80 {w : Cond} (h : w ∈ wsX80) : w ∈ wsX8_gusts := by unfold wsX8_gusts; exact List.mem_cons_of_mem _ (List.mem_append_right _ (h))
theorem ggX8_gusts_X8_fits : GoodIn wsX8_gusts wsX8_fits := goodIn_sub (by unfold wsX8_fits; exact List.forall_mem_cons.mpr ⟨mx_X8_gusts_32, List.forall_mem_append.mpr ⟨List.forall_mem_append.mpr ⟨(by unfold wsX8_fits_r1; exact List.forall_mem_cons.mpr ⟨mx_X8_gusts_2, List.forall_mem_cons.mpr ⟨mx_X8_gusts_33, List.forall_mem_cons.mpr ⟨mx_X8_gusts_34, List.forall_mem_cons.mpr ⟨mx_X8_gusts_35, List.forall_mem_cons.mpr ⟨mx_X8_gusts_8, List.forall_mem_cons.mpr ⟨mx_X8_gusts_36, List.forall_mem_cons.mpr ⟨mx_X8_gusts_37, List.forall_mem_cons.mpr ⟨mx_X8_gusts_38, List.forall_mem_cons.mpr ⟨mx_X8_gusts_39, List.forall_mem_cons.mpr ⟨mx_X8_gusts_40, List.forall_mem_cons.mpr ⟨mx_X8_gusts_41, List.forall_mem_cons.mpr ⟨mx_X8_gusts_42, List.forall_mem_cons.mpr ⟨mx_X8_gusts_43, List.forall_mem_cons.mpr ⟨mx_X8_gusts_44, List.forall_mem_cons.mpr ⟨mx_X8_gusts_45, List.forall_mem_cons.mpr ⟨mx_X8_gusts_46, List.forall_mem_cons.mpr ⟨mx_X8_gusts_47, List.forall_mem_cons.mpr ⟨mx_X8_gusts_48, List.forall_mem_cons.mpr ⟨mx_X8_gusts_49, List.forall_mem_cons.mpr ⟨mx_X8_gusts_50, List.forall_mem_cons.mpr ⟨mx_X8_gusts_51, List.forall_mem_cons.mpr ⟨mx_X8_gusts_52, List.forall_mem_cons.mpr ⟨mx_X8_gusts_53, List.forall_mem_cons.mpr ⟨mx_X8_gusts_54, fun _ h_ => absurd h_ List.not_mem_nil⟩⟩⟩⟩⟩⟩⟩⟩⟩⟩⟩⟩⟩⟩⟩⟩⟩⟩⟩⟩⟩⟩⟩⟩), (by unfold wsX8_fits_r2; exact List.forall_mem_cons.mpr ⟨mx_X8_gusts_55, List.forall_mem_cons.mpr ⟨mx_X8_gusts_56, List.forall_mem_cons.mpr ⟨mx_X8_gusts_57, List.forall_mem_cons.mpr ⟨mx_X8_gusts_58, List.forall_mem_cons.mpr ⟨mx_X8_gusts_59, List.forall_mem_cons.mpr ⟨mx_X8_gusts_60, List.forall_mem_cons.mpr ⟨mx_X8_gusts_61, List.forall_mem_cons.mpr ⟨mx_X8_gusts_6, List.forall_mem_cons.mpr ⟨mx_X8_gusts_7, List.forall_mem_cons.mpr ⟨mx_X8_gusts_9, List.forall_mem_cons.mpr ⟨mx_X8_gusts_62, List.forall_mem_cons.mpr ⟨mx_X8_gusts_63, List.forall_mem_cons.mpr ⟨mx_X8_gusts_64, List.forall_mem_cons.mpr ⟨mx_X8_gusts_65, List.forall_mem_cons.mpr ⟨mx_X8_gusts_66, List.forall_mem_cons.mpr ⟨mx_X8_gusts_67, List.forall_mem_cons.mpr ⟨mx_X8_gusts_68, List.forall_mem_cons.mpr ⟨mx_X8_gusts_69, List.forall_mem_cons.mpr ⟨mx_X8_gusts_70, List.forall_mem_cons.mpr ⟨mx_X8_gusts_71, List.forall_mem_cons.mpr ⟨mx_X8_gusts_72, List.forall_mem_cons.mpr ⟨mx_X8_gusts_73, List.forall_mem_cons.mpr ⟨mx_X8_gusts_27, fun _ h_ => absurd h_ List.not_mem_nil⟩⟩⟩⟩⟩⟩⟩⟩⟩⟩⟩⟩⟩⟩⟩⟩⟩⟩⟩⟩⟩⟩⟩)⟩, (fun _ h_ => mb_X8_gusts_wsX80 h_)⟩⟩) (by decide +kernel)
theorem mx_X8_gusts_29 : Cond.methodLink RX8 232 yX8_fits ∈ wsX8_gusts := mb_X8_gusts_wsX8_gusts_r2 (List.mem_of_getElem? (i := 4) rfl)
theorem mx_X8_gusts_30 : Cond.instanceMethod yX8_fits ∈ wsX8_gusts := mb_X8_gusts_wsX8_gusts_r2 (List.mem_of_getElem? (i := 5) rfl)
theorem mx_X8_gusts_31 : Cond.selects RX8 yX8_fits yX8_fits ∈ wsX8_gusts := mb_X8_gusts_wsX8_gusts_r2 (List.mem_of_getElem? (i := 6) rfl)
theorem gX8_gusts_X8_fits : GoodIn wsX8_gusts (wsV RX8 232 RX8 yX8_fits wsX8_fits) := goodIn_app (goodIn_sub (List.forall_mem_cons.mpr ⟨mx_X8_gusts_29, List.forall_mem_cons.mpr ⟨mx_X8_gusts_30, List.forall_mem_cons.mpr ⟨mx_X8_gusts_31, List.forall_mem_cons.mpr ⟨mx_X8_gusts_8, fun _ h_ => absurd h_ List.not_mem_nil⟩⟩⟩⟩) (by decide +kernel)) ggX8_gusts_X8_fits
theorem ggX8_gusts_X8_in : GoodIn wsX8_gusts wsX8_in := goodIn_sub (by unfold wsX8_in; exact List.forall_mem_cons.mpr ⟨mx_X8_gusts_9, fun _ h_ => absurd h_ List.not_mem_nil⟩) (by decide +kernel)
set_option maxRecDepth 20000 in
theorem gX8_gusts_X8_in : GoodIn wsX8_gusts (va_wsS RX8 57 yX8_in wsX8_in) := goodIn_app (goodIn_of _ (by decide +kernel)) ggX8_gusts_X8_in
theorem mx_X8_gusts_16 : Cond.code yX8_isRow cX8_isRow 1 (some .boolean) ∈ wsX8_gusts := mb_X8_gusts_wsX8_gusts_r1 (List.mem_of_getElem? (i := 15) rfl)
theorem mx_X8_gusts_17 : Cond.constantLong RX8 55 (7) ∈ wsX8_gusts := mb_X8_gusts_wsX8_gusts_r1 (List.mem_of_getElem? (i := 16) rfl)
theorem ggX8_gusts_X8_isRow : GoodIn wsX8_gusts wsX8_isRow := goodIn_sub (by unfold wsX8_isRow; exact List.forall_mem_cons.mpr ⟨mx_X8_gusts_16, List.forall_mem_cons.mpr ⟨mx_X8_gusts_17, List.forall_mem_cons.mpr ⟨mx_X8_gusts_6, List.forall_mem_cons.mpr ⟨mx_X8_gusts_7, List.forall_mem_cons.mpr ⟨mx_X8_gusts_8, List.forall_mem_cons.mpr ⟨mx_X8_gusts_9, fun _ h_ => absurd h_ List.not_mem_nil⟩⟩⟩⟩⟩⟩) (by decide +kernel)
set_option maxRecDepth 20000 in
theorem gX8_gusts_X8_isRow : GoodIn wsX8_gusts (va_wsS RX8 61 yX8_isRow wsX8_isRow) := goodIn_app (goodIn_of _ (by decide +kernel)) ggX8_gusts_X8_isRow
theorem mx_X8_gusts_13 : Cond.code yX8_isSound cX8_isSound 2 (some .boolean) ∈ wsX8_gusts := mb_X8_gusts_wsX8_gusts_r1 (List.mem_of_getElem? (i := 12) rfl)
theorem ggX8_gusts_X8_isSound : GoodIn wsX8_gusts wsX8_isSound := goodIn_sub (by unfold wsX8_isSound; exact List.forall_mem_cons.mpr ⟨mx_X8_gusts_13, List.forall_mem_append.mpr ⟨List.forall_mem_cons.mpr ⟨mx_X8_gusts_2, List.forall_mem_cons.mpr ⟨mx_X8_gusts_6, List.forall_mem_cons.mpr ⟨mx_X8_gusts_7, List.forall_mem_cons.mpr ⟨mx_X8_gusts_8, List.forall_mem_cons.mpr ⟨mx_X8_gusts_9, fun _ h_ => absurd h_ List.not_mem_nil⟩⟩⟩⟩⟩, (fun _ h_ => mb_X8_gusts_wsX80 h_)⟩⟩) (by decide +kernel)
theorem mx_X8_gusts_10 : Cond.methodLink RX8 173 yX8_isSound ∈ wsX8_gusts := mb_X8_gusts_wsX8_gusts_r1 (List.mem_of_getElem? (i := 9) rfl)
theorem mx_X8_gusts_11 : Cond.instanceMethod yX8_isSound ∈ wsX8_gusts := mb_X8_gusts_wsX8_gusts_r1 (List.mem_of_getElem? (i := 10) rfl)
theorem mx_X8_gusts_12 : Cond.selects RX8 yX8_isSound yX8_isSound ∈ wsX8_gusts := mb_X8_gusts_wsX8_gusts_r1 (List.mem_of_getElem? (i := 11) rfl)
theorem gX8_gusts_X8_isSound : GoodIn wsX8_gusts (wsV RX8 173 RX8 yX8_isSound wsX8_isSound) := goodIn_app (goodIn_sub (List.forall_mem_cons.mpr ⟨mx_X8_gusts_10, List.forall_mem_cons.mpr ⟨mx_X8_gusts_11, List.forall_mem_cons.mpr ⟨mx_X8_gusts_12, List.forall_mem_cons.mpr ⟨mx_X8_gusts_8, fun _ h_ => absurd h_ List.not_mem_nil⟩⟩⟩⟩) (by decide +kernel)) ggX8_gusts_X8_isSound
theorem mx_X8_gusts_21 : Cond.code yX8_lacks cX8_lacks 4 (some .int) ∈ wsX8_gusts := mb_X8_gusts_wsX8_gusts_r1 (List.mem_of_getElem? (i := 20) rfl)
theorem mx_X8_gusts_22 : Cond.fieldLink RX8 13 "MillTalkModel" "sizes" "[I" ∈ wsX8_gusts := mb_X8_gusts_wsX8_gusts_r1 (List.mem_of_getElem? (i := 21) rfl)
theorem mx_X8_gusts_23 : Cond.methodLink RX8 68 yX8_find ∈ wsX8_gusts := mb_X8_gusts_wsX8_gusts_r1 (List.mem_of_getElem? (i := 22) rfl)
theorem mx_X8_gusts_24 : Cond.instanceMethod yX8_find ∈ wsX8_gusts := mb_X8_gusts_wsX8_gusts_r1 (List.mem_of_getElem? (i := 23) rfl)
theorem mx_X8_gusts_25 : Cond.selects RX8 yX8_find yX8_find ∈ wsX8_gusts := mb_X8_gusts_wsX8_gusts_r2 (List.mem_of_getElem? (i := 0) rfl)
theorem mx_X8_gusts_26 : Cond.code yX8_find cX8_find 2 (some .int) ∈ wsX8_gusts := mb_X8_gusts_wsX8_gusts_r2 (List.mem_of_getElem? (i := 1) rfl)
theorem mx_X8_gusts_28 : Cond.constant RX8 54 (-1000010) ∈ wsX8_gusts := mb_X8_gusts_wsX8_gusts_r2 (List.mem_of_getElem? (i := 3) rfl)
theorem ggX8_gusts_X8_lacks : GoodIn wsX8_gusts wsX8_lacks := goodIn_sub (by unfold wsX8_lacks; exact List.forall_mem_cons.mpr ⟨mx_X8_gusts_21, List.forall_mem_append.mpr ⟨List.forall_mem_cons.mpr ⟨mx_X8_gusts_22, List.forall_mem_cons.mpr ⟨mx_X8_gusts_23, List.forall_mem_cons.mpr ⟨mx_X8_gusts_24, List.forall_mem_cons.mpr ⟨mx_X8_gusts_25, List.forall_mem_cons.mpr ⟨mx_X8_gusts_8, List.forall_mem_cons.mpr ⟨mx_X8_gusts_26, List.forall_mem_cons.mpr ⟨mx_X8_gusts_27, List.forall_mem_cons.mpr ⟨mx_X8_gusts_28, List.forall_mem_cons.mpr ⟨mx_X8_gusts_6, List.forall_mem_cons.mpr ⟨mx_X8_gusts_7, List.forall_mem_cons.mpr ⟨mx_X8_gusts_9, fun _ h_ => absurd h_ List.not_mem_nil⟩⟩⟩⟩⟩⟩⟩⟩⟩⟩⟩, (fun _ h_ => mb_X8_gusts_wsX80 h_)⟩⟩) (by decide +kernel)
theorem mx_X8_gusts_18 : Cond.methodLink RX8 228 yX8_lacks ∈ wsX8_gusts := mb_X8_gusts_wsX8_gusts_r1 (List.mem_of_getElem? (i := 17) rfl)
theorem mx_X8_gusts_19 : Cond.instanceMethod yX8_lacks ∈ wsX8_gusts := mb_X8_gusts_wsX8_gusts_r1 (List.mem_of_getElem? (i := 18) rfl)
theorem mx_X8_gusts_20 : Cond.selects RX8 yX8_lacks yX8_lacks ∈ wsX8_gusts := mb_X8_gusts_wsX8_gusts_r1 (List.mem_of_getElem? (i := 19) rfl)
theorem gX8_gusts_X8_lacks : GoodIn wsX8_gusts (wsV RX8 228 RX8 yX8_lacks wsX8_lacks) := goodIn_app (goodIn_sub (List.forall_mem_cons.mpr ⟨mx_X8_gusts_18, List.forall_mem_cons.mpr ⟨mx_X8_gusts_19, List.forall_mem_cons.mpr ⟨mx_X8_gusts_20, List.forall_mem_cons.mpr ⟨mx_X8_gusts_8, fun _ h_ => absurd h_ List.not_mem_nil⟩⟩⟩⟩) (by decide +kernel)) ggX8_gusts_X8_lacks
theorem mb_X8_isSo_wsX8_isSo_r1 {w : Cond} (h : w ∈ wsX8_isSo_r1) : w ∈ wsX8_isSo := by unfold wsX8_isSo; exact List.mem_cons_of_mem _ (List.mem_append_left _ (List.mem_append_left _ (h)))
theorem mx_X8_isSo_7 : Cond.code yX8_oneHour cX8_oneHour 4 (some .int) ∈ wsX8_isSo := mb_X8_isSo_wsX8_isSo_r1 (List.mem_of_getElem? (i := 6) rfl)
theorem mx_X8_isSo_1 : Cond.fieldLink RX8 19 "MillTalkModel" "st" "[I" ∈ wsX8_isSo := mb_X8_isSo_wsX8_isSo_r1 (List.mem_of_getElem? (i := 0) rfl)
theorem mx_X8_isSo_8 : Cond.methodLink RX8 151 yX8_gustOf ∈ wsX8_isSo := mb_X8_isSo_wsX8_isSo_r1 (List.mem_of_getElem? (i := 7) rfl)
theorem mx_X8_isSo_9 : Cond.instanceMethod yX8_gustOf ∈ wsX8_isSo := mb_X8_isSo_wsX8_isSo_r1 (List.mem_of_getElem? (i := 8) rfl)
theorem mx_X8_isSo_10 : Cond.selects RX8 yX8_gustOf yX8_gustOf ∈ wsX8_isSo := mb_X8_isSo_wsX8_isSo_r1 (List.mem_of_getElem? (i := 9) rfl)
theorem mx_X8_isSo_6 : Cond.initialized RX8 ∈ wsX8_isSo := mb_X8_isSo_wsX8_isSo_r1 (List.mem_of_getElem? (i := 5) rfl)
theorem mx_X8_isSo_11 : Cond.code yX8_gustOf cX8_gustOf 2 (some .int) ∈ wsX8_isSo := mb_X8_isSo_wsX8_isSo_r1 (List.mem_of_getElem? (i := 10) rfl)
theorem mx_X8_isSo_12 : Cond.methodLink RX8 154 yX8_drift ∈ wsX8_isSo := mb_X8_isSo_wsX8_isSo_r1 (List.mem_of_getElem? (i := 11) rfl)
theorem mx_X8_isSo_13 : Cond.instanceMethod yX8_drift ∈ wsX8_isSo := mb_X8_isSo_wsX8_isSo_r1 (List.mem_of_getElem? (i := 12) rfl)
theorem mx_X8_isSo_14 : Cond.selects RX8 yX8_drift yX8_drift ∈ wsX8_isSo := mb_X8_isSo_wsX8_isSo_r1 (List.mem_of_getElem? (i := 13) rfl)
theorem mx_X8_isSo_15 : Cond.code yX8_drift cX8_drift 7 none ∈ wsX8_isSo := mb_X8_isSo_wsX8_isSo_r1 (List.mem_of_getElem? (i := 14) rfl)
theorem mx_X8_isSo_16 : Cond.methodLink RX8 145 yX8_drifts ∈ wsX8_isSo := mb_X8_isSo_wsX8_isSo_r1 (List.mem_of_getElem? (i := 15) rfl)
theorem mx_X8_isSo_17 : Cond.static yX8_drifts ∈ wsX8_isSo := mb_X8_isSo_wsX8_isSo_r1 (List.mem_of_getElem? (i := 16) rfl)
theorem mx_X8_isSo_18 : Cond.code yX8_drifts cX8_drifts 2 (some .int) ∈ wsX8_isSo := mb_X8_isSo_wsX8_isSo_r1 (List.mem_of_getElem? (i := 17) rfl)
theorem mx_X8_isSo_19 : Cond.methodLink RX8 148 yX8_isCell ∈ wsX8_isSo := mb_X8_isSo_wsX8_isSo_r1 (List.mem_of_getElem? (i := 18) rfl)
theorem mx_X8_isSo_20 : Cond.instanceMethod yX8_isCell ∈ wsX8_isSo := mb_X8_isSo_wsX8_isSo_r1 (List.mem_of_getElem? (i := 19) rfl)
theorem mx_X8_isSo_21 : Cond.selects RX8 yX8_isCell yX8_isCell ∈ wsX8_isSo := mb_X8_isSo_wsX8_isSo_r1 (List.mem_of_getElem? (i := 20) rfl)
theorem mx_X8_isSo_22 : Cond.code yX8_isCell cX8_isCell 2 (some .boolean) ∈ wsX8_isSo := mb_X8_isSo_wsX8_isSo_r1 (List.mem_of_getElem? (i := 21) rfl)
theorem mx_X8_isSo_23 : Cond.methodLink RX8 57 yX8_in ∈ wsX8_isSo := mb_X8_isSo_wsX8_isSo_r1 (List.mem_of_getElem? (i := 22) rfl)
theorem mx_X8_isSo_24 : Cond.static yX8_in ∈ wsX8_isSo := mb_X8_isSo_wsX8_isSo_r1 (List.mem_of_getElem? (i := 23) rfl)
theorem mb_X8_isSo_wsX8_isSo_r2 {w : Cond} (h : w ∈ wsX8_isSo_r2) : w ∈ wsX8_isSo := by unfold wsX8_isSo; exact List.mem_cons_of_mem _ (List.mem_append_left _ (List.mem_append_right _ (h)))
theorem mx_X8_isSo_25 : Cond.code yX8_in cX8_in 6 (some .boolean) ∈ wsX8_isSo := mb_X8_isSo_wsX8_isSo_r2 (List.mem_of_getElem? (i := 0) rfl)
theorem mx_X8_isSo_26 : Cond.methodLink RX8 158 yX8_isAtMill ∈ wsX8_isSo := mb_X8_isSo_wsX8_isSo_r2 (List.mem_of_getElem? (i := 1) rfl)
theorem mx_X8_isSo_27 : Cond.instanceMethod yX8_isAtMill ∈ wsX8_isSo := mb_X8_isSo_wsX8_isSo_r2 (List.mem_of_getElem? (i := 2) rfl)
theorem mx_X8_isSo_28 : Cond.selects RX8 yX8_isAtMill yX8_isAtMill ∈ wsX8_isSo := mb_X8_isSo_wsX8_isSo_r2 (List.mem_of_getElem? (i := 3) rfl)
theorem mx_X8_isSo_29 : Cond.code yX8_isAtMill cX8_isAtMill 3 (some .boolean) ∈ wsX8_isSo := mb_X8_isSo_wsX8_isSo_r2 (List.mem_of_getElem? (i := 4) rfl)
theorem mb_X8_isSo_wsX80 {w : Cond} (h : w ∈ wsX80) : w ∈ wsX8_isSo := by unfold wsX8_isSo; exact List.mem_cons_of_mem _ (List.mem_append_right _ (h))
theorem ggX8_isSo_X8_oneHour : GoodIn wsX8_isSo wsX8_oneHour := goodIn_sub (by unfold wsX8_oneHour; exact List.forall_mem_cons.mpr ⟨mx_X8_isSo_7, List.forall_mem_append.mpr ⟨List.forall_mem_cons.mpr ⟨mx_X8_isSo_1, List.forall_mem_cons.mpr ⟨mx_X8_isSo_8, List.forall_mem_cons.mpr ⟨mx_X8_isSo_9, List.forall_mem_cons.mpr ⟨mx_X8_isSo_10, List.forall_mem_cons.mpr ⟨mx_X8_isSo_6, List.forall_mem_cons.mpr ⟨mx_X8_isSo_11, List.forall_mem_cons.mpr ⟨mx_X8_isSo_12, List.forall_mem_cons.mpr ⟨mx_X8_isSo_13, List.forall_mem_cons.mpr ⟨mx_X8_isSo_14, List.forall_mem_cons.mpr ⟨mx_X8_isSo_15, List.forall_mem_cons.mpr ⟨mx_X8_isSo_16, List.forall_mem_cons.mpr ⟨mx_X8_isSo_17, List.forall_mem_cons.mpr ⟨mx_X8_isSo_18, List.forall_mem_cons.mpr ⟨mx_X8_isSo_19, List.forall_mem_cons.mpr ⟨mx_X8_isSo_20, List.forall_mem_cons.mpr ⟨mx_X8_isSo_21, List.forall_mem_cons.mpr ⟨mx_X8_isSo_22, List.forall_mem_cons.mpr ⟨mx_X8_isSo_23, List.forall_mem_cons.mpr ⟨mx_X8_isSo_24, List.forall_mem_cons.mpr ⟨mx_X8_isSo_25, List.forall_mem_cons.mpr ⟨mx_X8_isSo_26, List.forall_mem_cons.mpr ⟨mx_X8_isSo_27, List.forall_mem_cons.mpr ⟨mx_X8_isSo_28, List.forall_mem_cons.mpr ⟨mx_X8_isSo_29, fun _ h_ => absurd h_ List.not_mem_nil⟩⟩⟩⟩⟩⟩⟩⟩⟩⟩⟩⟩⟩⟩⟩⟩⟩⟩⟩⟩⟩⟩⟩⟩, (fun _ h_ => mb_X8_isSo_wsX80 h_)⟩⟩) (by decide +kernel)
theorem mx_X8_isSo_3 : Cond.methodLink RX8 167 yX8_oneHour ∈ wsX8_isSo := mb_X8_isSo_wsX8_isSo_r1 (List.mem_of_getElem? (i := 2) rfl)
theorem mx_X8_isSo_4 : Cond.instanceMethod yX8_oneHour ∈ wsX8_isSo := mb_X8_isSo_wsX8_isSo_r1 (List.mem_of_getElem? (i := 3) rfl)
theorem mx_X8_isSo_5 : Cond.selects RX8 yX8_oneHour yX8_oneHour ∈ wsX8_isSo := mb_X8_isSo_wsX8_isSo_r1 (List.mem_of_getElem? (i := 4) rfl)
theorem gX8_isSo_X8_oneHour : GoodIn wsX8_isSo (wsV RX8 167 RX8 yX8_oneHour wsX8_oneHour) := goodIn_app (goodIn_sub (List.forall_mem_cons.mpr ⟨mx_X8_isSo_3, List.forall_mem_cons.mpr ⟨mx_X8_isSo_4, List.forall_mem_cons.mpr ⟨mx_X8_isSo_5, List.forall_mem_cons.mpr ⟨mx_X8_isSo_6, fun _ h_ => absurd h_ List.not_mem_nil⟩⟩⟩⟩) (by decide +kernel)) ggX8_isSo_X8_oneHour
theorem mx_X8_isSo_33 : Cond.code yX8_takeBack cX8_takeBack 2 none ∈ wsX8_isSo := mb_X8_isSo_wsX8_isSo_r2 (List.mem_of_getElem? (i := 8) rfl)
theorem mx_X8_isSo_34 : Cond.fieldLink RX8 34 "MillTalkModel" "aside" "[I" ∈ wsX8_isSo := mb_X8_isSo_wsX8_isSo_r2 (List.mem_of_getElem? (i := 9) rfl)
theorem ggX8_isSo_X8_takeBack : GoodIn wsX8_isSo wsX8_takeBack := goodIn_sub (by unfold wsX8_takeBack; exact List.forall_mem_cons.mpr ⟨mx_X8_isSo_33, List.forall_mem_append.mpr ⟨List.forall_mem_cons.mpr ⟨mx_X8_isSo_1, List.forall_mem_cons.mpr ⟨mx_X8_isSo_34, fun _ h_ => absurd h_ List.not_mem_nil⟩⟩, (fun _ h_ => mb_X8_isSo_wsX80 h_)⟩⟩) (by decide +kernel)
theorem mx_X8_isSo_30 : Cond.methodLink RX8 194 yX8_takeBack ∈ wsX8_isSo := mb_X8_isSo_wsX8_isSo_r2 (List.mem_of_getElem? (i := 5) rfl)
theorem mx_X8_isSo_31 : Cond.instanceMethod yX8_takeBack ∈ wsX8_isSo := mb_X8_isSo_wsX8_isSo_r2 (List.mem_of_getElem? (i := 6) rfl)
theorem mx_X8_isSo_32 : Cond.selects RX8 yX8_takeBack yX8_takeBack ∈ wsX8_isSo := mb_X8_isSo_wsX8_isSo_r2 (List.mem_of_getElem? (i := 7) rfl)
theorem gX8_isSo_X8_takeBack : GoodIn wsX8_isSo (wsV RX8 194 RX8 yX8_takeBack wsX8_takeBack) := goodIn_app (goodIn_sub (List.forall_mem_cons.mpr ⟨mx_X8_isSo_30, List.forall_mem_cons.mpr ⟨mx_X8_isSo_31, List.forall_mem_cons.mpr ⟨mx_X8_isSo_32, List.forall_mem_cons.mpr ⟨mx_X8_isSo_6, fun _ h_ => absurd h_ List.not_mem_nil⟩⟩⟩⟩) (by decide +kernel)) ggX8_isSo_X8_takeBack
theorem mx_X8_lacks_6 : Cond.code yX8_find cX8_find 2 (some .int) ∈ wsX8_lacks := by unfold wsX8_lacks; exact List.mem_cons_of_mem _ (List.mem_append_left _ (List.mem_of_getElem? (i := 5) rfl))
theorem mx_X8_lacks_7 : Cond.fieldLink RX8 50 "MillTalkModel" "status" "I" ∈ wsX8_lacks := by unfold wsX8_lacks; exact List.mem_cons_of_mem _ (List.mem_append_left _ (List.mem_of_getElem? (i := 6) rfl))
theorem mx_X8_lacks_8 : Cond.constant RX8 54 (-1000010) ∈ wsX8_lacks := by unfold wsX8_lacks; exact List.mem_cons_of_mem _ (List.mem_append_left _ (List.mem_of_getElem? (i := 7) rfl))
theorem mb_X8_lacks_wsX80 {w : Cond} (h : w ∈ wsX80) : w ∈ wsX8_lacks := by unfold wsX8_lacks; exact List.mem_cons_of_mem _ (List.mem_append_right _ (h))
theorem ggX8_lacks_X8_find : GoodIn wsX8_lacks wsX8_find := goodIn_sub (by unfold wsX8_find; exact List.forall_mem_cons.mpr ⟨mx_X8_lacks_6, List.forall_mem_append.mpr ⟨List.forall_mem_cons.mpr ⟨mx_X8_lacks_7, List.forall_mem_cons.mpr ⟨mx_X8_lacks_8, fun _ h_ => absurd h_ List.not_mem_nil⟩⟩, (fun _ h_ => mb_X8_lacks_wsX80 h_)⟩⟩) (by decide +kernel)
theorem mx_X8_lacks_2 : Cond.methodLink RX8 68 yX8_find ∈ wsX8_lacks := by unfold wsX8_lacks; exact List.mem_cons_of_mem _ (List.mem_append_left _ (List.mem_of_getElem? (i := 1) rfl))
theorem mx_X8_lacks_3 : Cond.instanceMethod yX8_find ∈ wsX8_lacks := by unfold wsX8_lacks; exact List.mem_cons_of_mem _ (List.mem_append_left _ (List.mem_of_getElem? (i := 2) rfl))
theorem mx_X8_lacks_4 : Cond.selects RX8 yX8_find yX8_find ∈ wsX8_lacks := by unfold wsX8_lacks; exact List.mem_cons_of_mem _ (List.mem_append_left _ (List.mem_of_getElem? (i := 3) rfl))
theorem mx_X8_lacks_5 : Cond.initialized RX8 ∈ wsX8_lacks := by unfold wsX8_lacks; exact List.mem_cons_of_mem _ (List.mem_append_left _ (List.mem_of_getElem? (i := 4) rfl))
theorem gX8_lacks_X8_find : GoodIn wsX8_lacks (wsV RX8 68 RX8 yX8_find wsX8_find) := goodIn_app (goodIn_sub (List.forall_mem_cons.mpr ⟨mx_X8_lacks_2, List.forall_mem_cons.mpr ⟨mx_X8_lacks_3, List.forall_mem_cons.mpr ⟨mx_X8_lacks_4, List.forall_mem_cons.mpr ⟨mx_X8_lacks_5, fun _ h_ => absurd h_ List.not_mem_nil⟩⟩⟩⟩) (by decide +kernel)) ggX8_lacks_X8_find
theorem mx_X8_lacks_11 : Cond.code yX8_in cX8_in 6 (some .boolean) ∈ wsX8_lacks := by unfold wsX8_lacks; exact List.mem_cons_of_mem _ (List.mem_append_left _ (List.mem_of_getElem? (i := 10) rfl))
theorem ggX8_lacks_X8_in : GoodIn wsX8_lacks wsX8_in := goodIn_sub (by unfold wsX8_in; exact List.forall_mem_cons.mpr ⟨mx_X8_lacks_11, fun _ h_ => absurd h_ List.not_mem_nil⟩) (by decide +kernel)
set_option maxRecDepth 20000 in
theorem gX8_lacks_X8_in : GoodIn wsX8_lacks (va_wsS RX8 57 yX8_in wsX8_in) := goodIn_app (goodIn_of _ (by decide +kernel)) ggX8_lacks_X8_in
theorem mb_X8_who_wsX8_who_r2 {w : Cond} (h : w ∈ wsX8_who_r2) : w ∈ wsX8_who := by unfold wsX8_who; exact List.mem_cons_of_mem _ (List.mem_append_left _ (List.mem_append_right _ (List.mem_append_left _ (h))))
theorem mx_X8_who_34 : Cond.code yX8_fits cX8_fits 9 (some .int) ∈ wsX8_who := mb_X8_who_wsX8_who_r2 (List.mem_of_getElem? (i := 9) rfl)
theorem mb_X8_who_wsX8_who_r1 {w : Cond} (h : w ∈ wsX8_who_r1) : w ∈ wsX8_who := by unfold wsX8_who; exact List.mem_cons_of_mem _ (List.mem_append_left _ (List.mem_append_left _ (h)))
theorem mx_X8_who_3 : Cond.fieldLink RX8 19 "MillTalkModel" "st" "[I" ∈ wsX8_who := mb_X8_who_wsX8_who_r1 (List.mem_of_getElem? (i := 2) rfl)
theorem mx_X8_who_35 : Cond.methodLink RX8 197 yX8_putAside ∈ wsX8_who := mb_X8_who_wsX8_who_r2 (List.mem_of_getElem? (i := 10) rfl)
theorem mx_X8_who_36 : Cond.instanceMethod yX8_putAside ∈ wsX8_who := mb_X8_who_wsX8_who_r2 (List.mem_of_getElem? (i := 11) rfl)
theorem mx_X8_who_37 : Cond.selects RX8 yX8_putAside yX8_putAside ∈ wsX8_who := mb_X8_who_wsX8_who_r2 (List.mem_of_getElem? (i := 12) rfl)
theorem mx_X8_who_8 : Cond.initialized RX8 ∈ wsX8_who := mb_X8_who_wsX8_who_r1 (List.mem_of_getElem? (i := 7) rfl)
theorem mx_X8_who_38 : Cond.code yX8_putAside cX8_putAside 2 none ∈ wsX8_who := mb_X8_who_wsX8_who_r2 (List.mem_of_getElem? (i := 13) rfl)
theorem mx_X8_who_39 : Cond.fieldLink RX8 34 "MillTalkModel" "aside" "[I" ∈ wsX8_who := mb_X8_who_wsX8_who_r2 (List.mem_of_getElem? (i := 14) rfl)
theorem mx_X8_who_40 : Cond.methodLink RX8 222 yX8_isSo ∈ wsX8_who := mb_X8_who_wsX8_who_r2 (List.mem_of_getElem? (i := 15) rfl)
theorem mx_X8_who_41 : Cond.instanceMethod yX8_isSo ∈ wsX8_who := mb_X8_who_wsX8_who_r2 (List.mem_of_getElem? (i := 16) rfl)
theorem mx_X8_who_42 : Cond.selects RX8 yX8_isSo yX8_isSo ∈ wsX8_who := mb_X8_who_wsX8_who_r2 (List.mem_of_getElem? (i := 17) rfl)
theorem mx_X8_who_43 : Cond.code yX8_isSo cX8_isSo 7 (some .boolean) ∈ wsX8_who := mb_X8_who_wsX8_who_r2 (List.mem_of_getElem? (i := 18) rfl)
theorem mx_X8_who_44 : Cond.fieldLink RX8 16 "MillTalkModel" "items" "[I" ∈ wsX8_who := mb_X8_who_wsX8_who_r2 (List.mem_of_getElem? (i := 19) rfl)
theorem mx_X8_who_45 : Cond.methodLink RX8 167 yX8_oneHour ∈ wsX8_who := mb_X8_who_wsX8_who_r2 (List.mem_of_getElem? (i := 20) rfl)
theorem mx_X8_who_46 : Cond.instanceMethod yX8_oneHour ∈ wsX8_who := mb_X8_who_wsX8_who_r2 (List.mem_of_getElem? (i := 21) rfl)
theorem mx_X8_who_47 : Cond.selects RX8 yX8_oneHour yX8_oneHour ∈ wsX8_who := mb_X8_who_wsX8_who_r2 (List.mem_of_getElem? (i := 22) rfl)
theorem mx_X8_who_48 : Cond.code yX8_oneHour cX8_oneHour 4 (some .int) ∈ wsX8_who := mb_X8_who_wsX8_who_r2 (List.mem_of_getElem? (i := 23) rfl)
theorem mb_X8_who_wsX8_who_r3 {w : Cond} (h : w ∈ wsX8_who_r3) : w ∈ wsX8_who := by unfold wsX8_who; exact List.mem_cons_of_mem _ (List.mem_append_left _ (List.mem_append_right _ (List.mem_append_right _ (List.mem_append_left _ (h)))))
theorem mx_X8_who_49 : Cond.methodLink RX8 151 yX8_gustOf ∈ wsX8_who := mb_X8_who_wsX8_who_r3 (List.mem_of_getElem? (i := 0) rfl)
theorem mx_X8_who_50 : Cond.instanceMethod yX8_gustOf ∈ wsX8_who := mb_X8_who_wsX8_who_r3 (List.mem_of_getElem? (i := 1) rfl)
theorem mx_X8_who_51 : Cond.selects RX8 yX8_gustOf yX8_gustOf ∈ wsX8_who := mb_X8_who_wsX8_who_r3 (List.mem_of_getElem? (i := 2) rfl)
theorem mx_X8_who_52 : Cond.code yX8_gustOf cX8_gustOf 2 (some .int) ∈ wsX8_who := mb_X8_who_wsX8_who_r3 (List.mem_of_getElem? (i := 3) rfl)
theorem mx_X8_who_53 : Cond.methodLink RX8 154 yX8_drift ∈ wsX8_who := mb_X8_who_wsX8_who_r3 (List.mem_of_getElem? (i := 4) rfl)
theorem mx_X8_who_54 : Cond.instanceMethod yX8_drift ∈ wsX8_who := mb_X8_who_wsX8_who_r3 (List.mem_of_getElem? (i := 5) rfl)
theorem mx_X8_who_55 : Cond.selects RX8 yX8_drift yX8_drift ∈ wsX8_who := mb_X8_who_wsX8_who_r3 (List.mem_of_getElem? (i := 6) rfl)
theorem mx_X8_who_56 : Cond.code yX8_drift cX8_drift 7 none ∈ wsX8_who := mb_X8_who_wsX8_who_r3 (List.mem_of_getElem? (i := 7) rfl)
theorem mx_X8_who_57 : Cond.methodLink RX8 145 yX8_drifts ∈ wsX8_who := mb_X8_who_wsX8_who_r3 (List.mem_of_getElem? (i := 8) rfl)
theorem mx_X8_who_58 : Cond.static yX8_drifts ∈ wsX8_who := mb_X8_who_wsX8_who_r3 (List.mem_of_getElem? (i := 9) rfl)
theorem mx_X8_who_59 : Cond.code yX8_drifts cX8_drifts 2 (some .int) ∈ wsX8_who := mb_X8_who_wsX8_who_r3 (List.mem_of_getElem? (i := 10) rfl)
theorem mx_X8_who_60 : Cond.methodLink RX8 148 yX8_isCell ∈ wsX8_who := mb_X8_who_wsX8_who_r3 (List.mem_of_getElem? (i := 11) rfl)
theorem mx_X8_who_61 : Cond.instanceMethod yX8_isCell ∈ wsX8_who := mb_X8_who_wsX8_who_r3 (List.mem_of_getElem? (i := 12) rfl)
theorem mx_X8_who_62 : Cond.selects RX8 yX8_isCell yX8_isCell ∈ wsX8_who := mb_X8_who_wsX8_who_r3 (List.mem_of_getElem? (i := 13) rfl)
theorem mx_X8_who_63 : Cond.code yX8_isCell cX8_isCell 2 (some .boolean) ∈ wsX8_who := mb_X8_who_wsX8_who_r3 (List.mem_of_getElem? (i := 14) rfl)
theorem mx_X8_who_10 : Cond.methodLink RX8 57 yX8_in ∈ wsX8_who := mb_X8_who_wsX8_who_r1 (List.mem_of_getElem? (i := 9) rfl)
theorem mx_X8_who_11 : Cond.static yX8_in ∈ wsX8_who := mb_X8_who_wsX8_who_r1 (List.mem_of_getElem? (i := 10) rfl)
theorem mx_X8_who_12 : Cond.code yX8_in cX8_in 6 (some .boolean) ∈ wsX8_who := mb_X8_who_wsX8_who_r1 (List.mem_of_getElem? (i := 11) rfl)
theorem mx_X8_who_64 : Cond.methodLink RX8 158 yX8_isAtMill ∈ wsX8_who := mb_X8_who_wsX8_who_r3 (List.mem_of_getElem? (i := 15) rfl)
theorem mx_X8_who_65 : Cond.instanceMethod yX8_isAtMill ∈ wsX8_who := mb_X8_who_wsX8_who_r3 (List.mem_of_getElem? (i := 16) rfl)
theorem mx_X8_who_66 : Cond.selects RX8 yX8_isAtMill yX8_isAtMill ∈ wsX8_who := mb_X8_who_wsX8_who_r3 (List.mem_of_getElem? (i := 17) rfl)
theorem mx_X8_who_67 : Cond.code yX8_isAtMill cX8_isAtMill 3 (some .boolean) ∈ wsX8_who := mb_X8_who_wsX8_who_r3 (List.mem_of_getElem? (i := 18) rfl)
theorem mx_X8_who_68 : Cond.methodLink RX8 194 yX8_takeBack ∈ wsX8_who := mb_X8_who_wsX8_who_r3 (List.mem_of_getElem? (i := 19) rfl)
theorem mx_X8_who_69 : Cond.instanceMethod yX8_takeBack ∈ wsX8_who := mb_X8_who_wsX8_who_r3 (List.mem_of_getElem? (i := 20) rfl)
theorem mx_X8_who_70 : Cond.selects RX8 yX8_takeBack yX8_takeBack ∈ wsX8_who := mb_X8_who_wsX8_who_r3 (List.mem_of_getElem? (i := 21) rfl)
theorem mx_X8_who_71 : Cond.code yX8_takeBack cX8_takeBack 2 none ∈ wsX8_who := mb_X8_who_wsX8_who_r3 (List.mem_of_getElem? (i := 22) rfl)
theorem mx_X8_who_72 : Cond.methodLink RX8 72 yX8_well ∈ wsX8_who := mb_X8_who_wsX8_who_r3 (List.mem_of_getElem? (i := 23) rfl)
theorem mb_X8_who_wsX8_who_r4 {w : Cond} (h : w ∈ wsX8_who_r4) : w ∈ wsX8_who := by unfold wsX8_who; exact List.mem_cons_of_mem _ (List.mem_append_left _ (List.mem_append_right _ (List.mem_append_right _ (List.mem_append_right _ (h)))))
theorem mx_X8_who_73 : Cond.instanceMethod yX8_well ∈ wsX8_who := mb_X8_who_wsX8_who_r4 (List.mem_of_getElem? (i := 0) rfl)
theorem mx_X8_who_74 : Cond.selects RX8 yX8_well yX8_well ∈ wsX8_who := mb_X8_who_wsX8_who_r4 (List.mem_of_getElem? (i := 1) rfl)
theorem mx_X8_who_75 : Cond.code yX8_well cX8_well 2 (some .int) ∈ wsX8_who := mb_X8_who_wsX8_who_r4 (List.mem_of_getElem? (i := 2) rfl)
theorem mx_X8_who_29 : Cond.fieldLink RX8 50 "MillTalkModel" "status" "I" ∈ wsX8_who := mb_X8_who_wsX8_who_r2 (List.mem_of_getElem? (i := 4) rfl)
theorem mb_X8_who_wsX80 {w : Cond} (h : w ∈ wsX80) : w ∈ wsX8_who := by unfold wsX8_who; exact List.mem_cons_of_mem _ (List.mem_append_right _ (h))
theorem ggX8_who_X8_fits : GoodIn wsX8_who wsX8_fits := goodIn_sub (by unfold wsX8_fits; exact List.forall_mem_cons.mpr ⟨mx_X8_who_34, List.forall_mem_append.mpr ⟨List.forall_mem_append.mpr ⟨(by unfold wsX8_fits_r1; exact List.forall_mem_cons.mpr ⟨mx_X8_who_3, List.forall_mem_cons.mpr ⟨mx_X8_who_35, List.forall_mem_cons.mpr ⟨mx_X8_who_36, List.forall_mem_cons.mpr ⟨mx_X8_who_37, List.forall_mem_cons.mpr ⟨mx_X8_who_8, List.forall_mem_cons.mpr ⟨mx_X8_who_38, List.forall_mem_cons.mpr ⟨mx_X8_who_39, List.forall_mem_cons.mpr ⟨mx_X8_who_40, List.forall_mem_cons.mpr ⟨mx_X8_who_41, List.forall_mem_cons.mpr ⟨mx_X8_who_42, List.forall_mem_cons.mpr ⟨mx_X8_who_43, List.forall_mem_cons.mpr ⟨mx_X8_who_44, List.forall_mem_cons.mpr ⟨mx_X8_who_45, List.forall_mem_cons.mpr ⟨mx_X8_who_46, List.forall_mem_cons.mpr ⟨mx_X8_who_47, List.forall_mem_cons.mpr ⟨mx_X8_who_48, List.forall_mem_cons.mpr ⟨mx_X8_who_49, List.forall_mem_cons.mpr ⟨mx_X8_who_50, List.forall_mem_cons.mpr ⟨mx_X8_who_51, List.forall_mem_cons.mpr ⟨mx_X8_who_52, List.forall_mem_cons.mpr ⟨mx_X8_who_53, List.forall_mem_cons.mpr ⟨mx_X8_who_54, List.forall_mem_cons.mpr ⟨mx_X8_who_55, List.forall_mem_cons.mpr ⟨mx_X8_who_56, fun _ h_ => absurd h_ List.not_mem_nil⟩⟩⟩⟩⟩⟩⟩⟩⟩⟩⟩⟩⟩⟩⟩⟩⟩⟩⟩⟩⟩⟩⟩⟩), (by unfold wsX8_fits_r2; exact List.forall_mem_cons.mpr ⟨mx_X8_who_57, List.forall_mem_cons.mpr ⟨mx_X8_who_58, List.forall_mem_cons.mpr ⟨mx_X8_who_59, List.forall_mem_cons.mpr ⟨mx_X8_who_60, List.forall_mem_cons.mpr ⟨mx_X8_who_61, List.forall_mem_cons.mpr ⟨mx_X8_who_62, List.forall_mem_cons.mpr ⟨mx_X8_who_63, List.forall_mem_cons.mpr ⟨mx_X8_who_10, List.forall_mem_cons.mpr ⟨mx_X8_who_11, List.forall_mem_cons.mpr ⟨mx_X8_who_12, List.forall_mem_cons.mpr ⟨mx_X8_who_64, List.forall_mem_cons.mpr ⟨mx_X8_who_65, List.forall_mem_cons.mpr ⟨mx_X8_who_66, List.forall_mem_cons.mpr ⟨mx_X8_who_67, List.forall_mem_cons.mpr ⟨mx_X8_who_68, List.forall_mem_cons.mpr ⟨mx_X8_who_69, List.forall_mem_cons.mpr ⟨mx_X8_who_70, List.forall_mem_cons.mpr ⟨mx_X8_who_71, List.forall_mem_cons.mpr ⟨mx_X8_who_72, List.forall_mem_cons.mpr ⟨mx_X8_who_73, List.forall_mem_cons.mpr ⟨mx_X8_who_74, List.forall_mem_cons.mpr ⟨mx_X8_who_75, List.forall_mem_cons.mpr ⟨mx_X8_who_29, fun _ h_ => absurd h_ List.not_mem_nil⟩⟩⟩⟩⟩⟩⟩⟩⟩⟩⟩⟩⟩⟩⟩⟩⟩⟩⟩⟩⟩⟩⟩)⟩, (fun _ h_ => mb_X8_who_wsX80 h_)⟩⟩) (by decide +kernel)
theorem mx_X8_who_31 : Cond.methodLink RX8 232 yX8_fits ∈ wsX8_who := mb_X8_who_wsX8_who_r2 (List.mem_of_getElem? (i := 6) rfl)
theorem mx_X8_who_32 : Cond.instanceMethod yX8_fits ∈ wsX8_who := mb_X8_who_wsX8_who_r2 (List.mem_of_getElem? (i := 7) rfl)
theorem mx_X8_who_33 : Cond.selects RX8 yX8_fits yX8_fits ∈ wsX8_who := mb_X8_who_wsX8_who_r2 (List.mem_of_getElem? (i := 8) rfl)
theorem gX8_who_X8_fits : GoodIn wsX8_who (wsV RX8 232 RX8 yX8_fits wsX8_fits) := goodIn_app (goodIn_sub (List.forall_mem_cons.mpr ⟨mx_X8_who_31, List.forall_mem_cons.mpr ⟨mx_X8_who_32, List.forall_mem_cons.mpr ⟨mx_X8_who_33, List.forall_mem_cons.mpr ⟨mx_X8_who_8, fun _ h_ => absurd h_ List.not_mem_nil⟩⟩⟩⟩) (by decide +kernel)) ggX8_who_X8_fits
theorem ggX8_who_X8_in : GoodIn wsX8_who wsX8_in := goodIn_sub (by unfold wsX8_in; exact List.forall_mem_cons.mpr ⟨mx_X8_who_12, fun _ h_ => absurd h_ List.not_mem_nil⟩) (by decide +kernel)
set_option maxRecDepth 20000 in
theorem gX8_who_X8_in : GoodIn wsX8_who (va_wsS RX8 57 yX8_in wsX8_in) := goodIn_app (goodIn_of _ (by decide +kernel)) ggX8_who_X8_in
theorem mx_X8_who_18 : Cond.code yX8_isRow cX8_isRow 1 (some .boolean) ∈ wsX8_who := mb_X8_who_wsX8_who_r1 (List.mem_of_getElem? (i := 17) rfl)
theorem mx_X8_who_19 : Cond.constantLong RX8 55 (7) ∈ wsX8_who := mb_X8_who_wsX8_who_r1 (List.mem_of_getElem? (i := 18) rfl)
theorem ggX8_who_X8_isRow : GoodIn wsX8_who wsX8_isRow := goodIn_sub (by unfold wsX8_isRow; exact List.forall_mem_cons.mpr ⟨mx_X8_who_18, List.forall_mem_cons.mpr ⟨mx_X8_who_19, List.forall_mem_cons.mpr ⟨mx_X8_who_10, List.forall_mem_cons.mpr ⟨mx_X8_who_11, List.forall_mem_cons.mpr ⟨mx_X8_who_8, List.forall_mem_cons.mpr ⟨mx_X8_who_12, fun _ h_ => absurd h_ List.not_mem_nil⟩⟩⟩⟩⟩⟩) (by decide +kernel)
set_option maxRecDepth 20000 in
theorem gX8_who_X8_isRow : GoodIn wsX8_who (va_wsS RX8 61 yX8_isRow wsX8_isRow) := goodIn_app (goodIn_of _ (by decide +kernel)) ggX8_who_X8_isRow
theorem mx_X8_who_9 : Cond.code yX8_isSound cX8_isSound 2 (some .boolean) ∈ wsX8_who := mb_X8_who_wsX8_who_r1 (List.mem_of_getElem? (i := 8) rfl)
theorem ggX8_who_X8_isSound : GoodIn wsX8_who wsX8_isSound := goodIn_sub (by unfold wsX8_isSound; exact List.forall_mem_cons.mpr ⟨mx_X8_who_9, List.forall_mem_append.mpr ⟨List.forall_mem_cons.mpr ⟨mx_X8_who_3, List.forall_mem_cons.mpr ⟨mx_X8_who_10, List.forall_mem_cons.mpr ⟨mx_X8_who_11, List.forall_mem_cons.mpr ⟨mx_X8_who_8, List.forall_mem_cons.mpr ⟨mx_X8_who_12, fun _ h_ => absurd h_ List.not_mem_nil⟩⟩⟩⟩⟩, (fun _ h_ => mb_X8_who_wsX80 h_)⟩⟩) (by decide +kernel)
theorem mx_X8_who_5 : Cond.methodLink RX8 173 yX8_isSound ∈ wsX8_who := mb_X8_who_wsX8_who_r1 (List.mem_of_getElem? (i := 4) rfl)
theorem mx_X8_who_6 : Cond.instanceMethod yX8_isSound ∈ wsX8_who := mb_X8_who_wsX8_who_r1 (List.mem_of_getElem? (i := 5) rfl)
theorem mx_X8_who_7 : Cond.selects RX8 yX8_isSound yX8_isSound ∈ wsX8_who := mb_X8_who_wsX8_who_r1 (List.mem_of_getElem? (i := 6) rfl)
theorem gX8_who_X8_isSound : GoodIn wsX8_who (wsV RX8 173 RX8 yX8_isSound wsX8_isSound) := goodIn_app (goodIn_sub (List.forall_mem_cons.mpr ⟨mx_X8_who_5, List.forall_mem_cons.mpr ⟨mx_X8_who_6, List.forall_mem_cons.mpr ⟨mx_X8_who_7, List.forall_mem_cons.mpr ⟨mx_X8_who_8, fun _ h_ => absurd h_ List.not_mem_nil⟩⟩⟩⟩) (by decide +kernel)) ggX8_who_X8_isSound
theorem mx_X8_who_15 : Cond.code yX8_isWhat cX8_isWhat 1 (some .boolean) ∈ wsX8_who := mb_X8_who_wsX8_who_r1 (List.mem_of_getElem? (i := 14) rfl)
theorem ggX8_who_X8_isWhat : GoodIn wsX8_who wsX8_isWhat := goodIn_sub (by unfold wsX8_isWhat; exact List.forall_mem_cons.mpr ⟨mx_X8_who_15, List.forall_mem_cons.mpr ⟨mx_X8_who_10, List.forall_mem_cons.mpr ⟨mx_X8_who_11, List.forall_mem_cons.mpr ⟨mx_X8_who_8, List.forall_mem_cons.mpr ⟨mx_X8_who_12, fun _ h_ => absurd h_ List.not_mem_nil⟩⟩⟩⟩⟩) (by decide +kernel)
set_option maxRecDepth 20000 in
theorem gX8_who_X8_isWhat : GoodIn wsX8_who (va_wsS RX8 210 yX8_isWhat wsX8_isWhat) := goodIn_app (goodIn_of _ (by decide +kernel)) ggX8_who_X8_isWhat
theorem mx_X8_who_23 : Cond.code yX8_lacks cX8_lacks 4 (some .int) ∈ wsX8_who := mb_X8_who_wsX8_who_r1 (List.mem_of_getElem? (i := 22) rfl)
theorem mx_X8_who_24 : Cond.fieldLink RX8 13 "MillTalkModel" "sizes" "[I" ∈ wsX8_who := mb_X8_who_wsX8_who_r1 (List.mem_of_getElem? (i := 23) rfl)
theorem mx_X8_who_25 : Cond.methodLink RX8 68 yX8_find ∈ wsX8_who := mb_X8_who_wsX8_who_r2 (List.mem_of_getElem? (i := 0) rfl)
theorem mx_X8_who_26 : Cond.instanceMethod yX8_find ∈ wsX8_who := mb_X8_who_wsX8_who_r2 (List.mem_of_getElem? (i := 1) rfl)
theorem mx_X8_who_27 : Cond.selects RX8 yX8_find yX8_find ∈ wsX8_who := mb_X8_who_wsX8_who_r2 (List.mem_of_getElem? (i := 2) rfl)
theorem mx_X8_who_28 : Cond.code yX8_find cX8_find 2 (some .int) ∈ wsX8_who := mb_X8_who_wsX8_who_r2 (List.mem_of_getElem? (i := 3) rfl)
theorem mx_X8_who_30 : Cond.constant RX8 54 (-1000010) ∈ wsX8_who := mb_X8_who_wsX8_who_r2 (List.mem_of_getElem? (i := 5) rfl)
theorem ggX8_who_X8_lacks : GoodIn wsX8_who wsX8_lacks := goodIn_sub (by unfold wsX8_lacks; exact List.forall_mem_cons.mpr ⟨mx_X8_who_23, List.forall_mem_append.mpr ⟨List.forall_mem_cons.mpr ⟨mx_X8_who_24, List.forall_mem_cons.mpr ⟨mx_X8_who_25, List.forall_mem_cons.mpr ⟨mx_X8_who_26, List.forall_mem_cons.mpr ⟨mx_X8_who_27, List.forall_mem_cons.mpr ⟨mx_X8_who_8, List.forall_mem_cons.mpr ⟨mx_X8_who_28, List.forall_mem_cons.mpr ⟨mx_X8_who_29, List.forall_mem_cons.mpr ⟨mx_X8_who_30, List.forall_mem_cons.mpr ⟨mx_X8_who_10, List.forall_mem_cons.mpr ⟨mx_X8_who_11, List.forall_mem_cons.mpr ⟨mx_X8_who_12, fun _ h_ => absurd h_ List.not_mem_nil⟩⟩⟩⟩⟩⟩⟩⟩⟩⟩⟩, (fun _ h_ => mb_X8_who_wsX80 h_)⟩⟩) (by decide +kernel)
theorem mx_X8_who_20 : Cond.methodLink RX8 228 yX8_lacks ∈ wsX8_who := mb_X8_who_wsX8_who_r1 (List.mem_of_getElem? (i := 19) rfl)
theorem mx_X8_who_21 : Cond.instanceMethod yX8_lacks ∈ wsX8_who := mb_X8_who_wsX8_who_r1 (List.mem_of_getElem? (i := 20) rfl)
theorem mx_X8_who_22 : Cond.selects RX8 yX8_lacks yX8_lacks ∈ wsX8_who := mb_X8_who_wsX8_who_r1 (List.mem_of_getElem? (i := 21) rfl)
theorem gX8_who_X8_lacks : GoodIn wsX8_who (wsV RX8 228 RX8 yX8_lacks wsX8_lacks) := goodIn_app (goodIn_sub (List.forall_mem_cons.mpr ⟨mx_X8_who_20, List.forall_mem_cons.mpr ⟨mx_X8_who_21, List.forall_mem_cons.mpr ⟨mx_X8_who_22, List.forall_mem_cons.mpr ⟨mx_X8_who_8, fun _ h_ => absurd h_ List.not_mem_nil⟩⟩⟩⟩) (by decide +kernel)) ggX8_who_X8_lacks
theorem i_X8_calm_X8 : ∀ w ∈ u_ws RX8 TX8 24, w ∈ wsX8_calm := fun _ h_ => mb_X8_calm_wsX80 h_
theorem i_X8_drawn_X8 : ∀ w ∈ u_ws RX8 TX8 24, w ∈ wsX8_drawn := fun _ h_ => mb_X8_drawn_wsX80 h_
theorem i_X8_fits_X8 : ∀ w ∈ u_ws RX8 TX8 24, w ∈ wsX8_fits := fun _ h_ => mb_X8_fits_wsX80 h_
theorem i_X8_gusts_X8 : ∀ w ∈ u_ws RX8 TX8 24, w ∈ wsX8_gusts := fun _ h_ => mb_X8_gusts_wsX80 h_
theorem i_X8_isSo_X8 : ∀ w ∈ u_ws RX8 TX8 24, w ∈ wsX8_isSo := fun _ h_ => mb_X8_isSo_wsX80 h_
theorem i_X8_lacks_X8 : ∀ w ∈ u_ws RX8 TX8 24, w ∈ wsX8_lacks := fun _ h_ => mb_X8_lacks_wsX80 h_
theorem i_X8_who_X8 : ∀ w ∈ u_ws RX8 TX8 24, w ∈ wsX8_who := fun _ h_ => mb_X8_who_wsX80 h_
theorem mx_X8_lacks_1 : Cond.fieldLink RX8 13 "MillTalkModel" "sizes" "[I" ∈ wsX8_lacks := by unfold wsX8_lacks; exact List.mem_cons_of_mem _ (List.mem_append_left _ (List.mem_of_getElem? (i := 0) rfl))
theorem mx_X8_isSo_2 : Cond.fieldLink RX8 16 "MillTalkModel" "items" "[I" ∈ wsX8_isSo := mb_X8_isSo_wsX8_isSo_r1 (List.mem_of_getElem? (i := 1) rfl)
theorem mx_X8_who_2 : Cond.constant RX8 67 (-1000001) ∈ wsX8_who := mb_X8_who_wsX8_who_r1 (List.mem_of_getElem? (i := 1) rfl)
theorem mx_X8_who_1 : Cond.constantLong RX8 226 (12) ∈ wsX8_who := mb_X8_who_wsX8_who_r1 (List.mem_of_getElem? (i := 0) rfl)
theorem mx_X8_who_4 : Cond.constant RX8 161 (-1000002) ∈ wsX8_who := mb_X8_who_wsX8_who_r1 (List.mem_of_getElem? (i := 3) rfl)
theorem mx_X8_gusts_1 : Cond.constantLong RX8 236 (-1) ∈ wsX8_gusts := mb_X8_gusts_wsX8_gusts_r1 (List.mem_of_getElem? (i := 0) rfl)
theorem mx_X8_gusts_4 : Cond.constant RX8 67 (-1000001) ∈ wsX8_gusts := mb_X8_gusts_wsX8_gusts_r1 (List.mem_of_getElem? (i := 3) rfl)
theorem mx_X8_gusts_3 : Cond.constantLong RX8 226 (12) ∈ wsX8_gusts := mb_X8_gusts_wsX8_gusts_r1 (List.mem_of_getElem? (i := 2) rfl)
theorem mx_X8_gusts_5 : Cond.constant RX8 161 (-1000002) ∈ wsX8_gusts := mb_X8_gusts_wsX8_gusts_r1 (List.mem_of_getElem? (i := 4) rfl)
theorem mx_X8_calm_3 : Cond.constantLong RX8 240 (-1000001) ∈ wsX8_calm := mb_X8_calm_wsX8_calm_r1 (List.mem_of_getElem? (i := 2) rfl)
theorem mx_X8_calm_1 : Cond.constantLong RX8 188 (60) ∈ wsX8_calm := mb_X8_calm_wsX8_calm_r1 (List.mem_of_getElem? (i := 0) rfl)
theorem mx_X8_calm_2 : Cond.constantLong RX8 238 (10) ∈ wsX8_calm := mb_X8_calm_wsX8_calm_r1 (List.mem_of_getElem? (i := 1) rfl)
theorem mx_X8_drawn_1 : Cond.fieldLink RX8 138 "MillTalkModel" "isThere" "Z" ∈ wsX8_drawn := mb_X8_drawn_wsX8_drawn_r1 (List.mem_of_getElem? (i := 0) rfl)
theorem mx_X8_drawn_3 : Cond.constantLong RX8 188 (60) ∈ wsX8_drawn := mb_X8_drawn_wsX8_drawn_r1 (List.mem_of_getElem? (i := 2) rfl)
theorem mx_X8_drawn_5 : Cond.constant RX8 67 (-1000001) ∈ wsX8_drawn := mb_X8_drawn_wsX8_drawn_r1 (List.mem_of_getElem? (i := 4) rfl)
theorem mx_X8_drawn_4 : Cond.constantLong RX8 242 (999999) ∈ wsX8_drawn := mb_X8_drawn_wsX8_drawn_r1 (List.mem_of_getElem? (i := 3) rfl)
theorem mx_X8_drawn_6 : Cond.constantLong RX8 244 (16807) ∈ wsX8_drawn := mb_X8_drawn_wsX8_drawn_r1 (List.mem_of_getElem? (i := 5) rfl)
theorem mx_X8_drawn_7 : Cond.constantLong RX8 246 (2147483647) ∈ wsX8_drawn := mb_X8_drawn_wsX8_drawn_r1 (List.mem_of_getElem? (i := 6) rfl)
theorem mx_X8_drawn_8 : Cond.constantLong RX8 248 (3) ∈ wsX8_drawn := mb_X8_drawn_wsX8_drawn_r1 (List.mem_of_getElem? (i := 7) rfl)
theorem mx_X8_drawn_11 : Cond.constantLong RX8 65 (2) ∈ wsX8_drawn := mb_X8_drawn_wsX8_drawn_r1 (List.mem_of_getElem? (i := 10) rfl)
theorem mx_X8_drawn_12 : Cond.constantLong RX8 252 (9) ∈ wsX8_drawn := mb_X8_drawn_wsX8_drawn_r1 (List.mem_of_getElem? (i := 11) rfl)
theorem mx_X8_drawn_10 : Cond.constantLong RX8 250 (5) ∈ wsX8_drawn := mb_X8_drawn_wsX8_drawn_r1 (List.mem_of_getElem? (i := 9) rfl)
theorem mx_X8_drawn_2 : Cond.constant RX8 161 (-1000002) ∈ wsX8_drawn := mb_X8_drawn_wsX8_drawn_r1 (List.mem_of_getElem? (i := 1) rfl)
