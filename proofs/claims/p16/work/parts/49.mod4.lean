set_option maxHeartbeats 4000000 in
set_option maxRecDepth 100000 in
theorem r_X8_share (l : Launch) (dC : Nat → ClassId) (dI : Nat → Nat → Nat) (cI cZ cL cJ : ClassId) (mo : Nat) (m_la : Nat) (m_sz : Nat) (m_it : Nat) (m_st : Nat) (m_mv : Nat) (m_tp : Nat) (m_rd : Nat) (m_ac : Nat) (m_as : Nat) (m_wo : Nat) (m_ik : Nat) (m_ke : Nat) (m_tr : Nat) (ms : Int32) (mt : Int32) (ml : Int32) (mk : Int32) (mv : Int32) (mb : Int32) (mw : Int32) (mz : Nat) (mp : Nat) (ma : Nat) (mx : Nat) (fs : Nat → Int32) (w9 : Nat) (k9 : Nat) (h9 : Nat) (a0 : Int32) (a1 : Int32) (hM : okM fs w9 k9 h9) (hT : ¬ mt = 0 → 1 ≤ k9) (h999 : h9 ≤ 999) (hT0 : mt = 0 → fs 0 = 0 ∧ ma = 0) : Met l yX8_share wsX8_share ({ frames := 2, cells := 0, slots := 0, locals := 46 }) (va_Pc [.ref mo, .int a0, .int a1] (fun U => va_P (dC, dI) vwCl [(xo_8_rrriirrriiiiiiirrirrrrri mo m_la m_sz m_it ms mt m_st m_mv m_tp (nI mz) ml (nI mp) mk mv mb mw m_rd m_ac (nI ma) m_as m_wo m_ik m_ke m_tr (nI mx)), (xI m_st cI 38 fs)] U.heap ∧ va_K (dC, dI) vwCl [(cI, .int), (cZ, .boolean), (cL, .object RX3), (cJ, .array .int)] U)) (vp_Si (fun r => True)) 0 0 (fun _ => False) := by
  refine Met.ofW (cc := cX8_share) (maxL := 8) (ret := (some .int)) (by decide) rfl ?_
  intro p e s m args below meth c s₁ B hml hv
  obtain ⟨rfl, hP, hK⟩ := hv
  have hx := B.exec
  have hb := B.bytes
  have hr := B.returns
  have hts := atoms_spec (ws := wsX8_share) B.pre
  have hown : s.vm.findClass RX8 = some m.cls := findClass_of_methodNamed B.named
  have hlocks := B.notSynchronized
  have hP : va_P (dC, dI) vwCl [(xo_8_rrriirrriiiiiiirrirrrrri mo m_la m_sz m_it ms mt m_st m_mv m_tp (nI mz) ml (nI mp) mk mv mb mw m_rd m_ac (nI ma) m_as m_wo m_ik m_ke m_tr (nI mx)), (xI m_st cI 38 fs)] s.heap := hP
  have hl := lv_entry ([.ref mo, .int a0, .int a1]) (n := 8) (Nat.le_of_ble_eq_true rfl)
  rw [lg_entry_eq]
  generalize (lg_sl ([.ref mo, .int a0, .int a1]) ++ List.replicate (8 - (lg_sl ([.ref mo, .int a0, .int a1])).length) Slot.unset).toArray = ls at hl ⊢
  have hl : lv_has ls 8 [(0, .ref mo), (1, .int a0), (2, .int a1)] := hl
  have hk6 := hM.2.2.2.2.1
  have hw6 := hM.2.2.2.1
  refine lv_aload_n hx hb dX8_share_0 rfl (lv_at hl 0 rfl) ?_
  refine lv_iload_n hx hb dX8_share_1 rfl (lv_at hl 1 rfl) ?_
  have hPc_1 := hP
  refine vp_callSi (W.runV (As := [.int a0]) (rest := []) ⟨hx, hb, hml, hown, hts⟩ (r_X8_isSound l dC dI cI cZ cL cJ mo m_la m_sz m_it m_st m_mv m_tp m_rd m_ac m_as m_wo m_ik m_ke m_tr ms mt ml mk mv mb mw mz mp ma mx fs w9 k9 h9 a0 (hM)) (cwV 1 hts gX8_share_X8_isSound rfl rfl rfl (by decide +kernel) ⟨Nat.le_of_ble_eq_true rfl, Nat.le_of_ble_eq_true rfl⟩) (pvP 8 0 hK hP rfl rfl hPc_1) rfl rfl hl.1 rfl (lv_room (Nat.le_of_ble_eq_true rfl)) dX8_share_2 ⟨Nat.le_of_ble_eq_true rfl, Nat.le_of_ble_eq_true rfl⟩) (fun r_1 h_1 => ?_)
  rcases h_1 with ⟨h_1, f_1_0_0⟩ | ⟨h_1, f_1_1_0⟩
  · subst h_1
    refine lv_if_eq (tgt := 20) hx hb dX8_share_5 (by decide) (fun _ => ?_) (fun c_ => absurd (by decide) c_)
    refine lv_ldc (own := RX8) (v := (-1000001)) hx hb hown (hts _ mx_X8_share_2) dX8_share_20 ?_
    exact W.iret (v := (-1000001)) hx hb hr (fun t ht hW => ⟨(-1000001), rfl, trivial, ht⟩) (fun _ h => by cases h) dX8_share_22
  · subst h_1
    obtain ⟨j_1, hj_1, rfl⟩ := vp_in_of f_1_1_0 (by omega)
    have hkn1 : 1 ≤ k9 := by omega
    have hw1 := hM.2.2.2.2.2.1.mp hkn1
    refine lv_if_eq (tgt := 20) hx hb dX8_share_5 (by decide) (fun c_ => absurd c_ (by decide)) (fun _ => ?_)
    refine lv_iload_n hx hb dX8_share_8 rfl (lv_at hl 2 rfl) ?_
    refine lv_i2l hx hb dX8_share_9 rfl ?_
    refine lv_lconst (v := 0) hx hb dX8_share_10 (by decide) ?_
    refine lv_ldc2 (own := RX8) (v := 999) hx hb hown (hts _ mx_X8_share_1) dX8_share_11 ?_
    have hPc_5 := hP.sub (ws' := []) [] rfl
    refine vp_callSi (W.runS (As := [.long (a1).toInt64, .long 0, .long 999]) (rest := []) ⟨hx, hb, hml, hown, hts⟩ (r_X8_in l dC dI cI cZ cL cJ ((a1).toInt64) 0 999 ) (va_cwS 3 hts gX8_share_X8_in rfl rfl rfl (by decide +kernel) ⟨Nat.le_of_ble_eq_true rfl, Nat.le_of_ble_eq_true rfl⟩) (psP hK hPc_5) rfl rfl hl.1 rfl (lv_room (Nat.le_of_ble_eq_true rfl)) dX8_share_14 ⟨Nat.le_of_ble_eq_true rfl, Nat.le_of_ble_eq_true rfl⟩) (fun r_5 h_5 => ?_)
    rcases h_5 with ⟨h_5, f_5_0_0⟩ | ⟨h_5, f_5_1_0⟩
    · subst h_5
      refine lv_if_ne (tgt := 23) hx hb dX8_share_17 (by decide) (fun c_ => absurd (by decide) c_) (fun _ => ?_)
      refine lv_ldc (own := RX8) (v := (-1000001)) hx hb hown (hts _ mx_X8_share_2) dX8_share_20 ?_
      exact W.iret (v := (-1000001)) hx hb hr (fun t ht hW => ⟨(-1000001), rfl, trivial, ht⟩) (fun _ h => by cases h) dX8_share_22
    · subst h_5
      obtain ⟨j_5, hj_5, hl_5, rfl⟩ := in64 (lo := 0) (n := 999) rfl rfl (by decide) f_5_1_0
      refine lv_if_ne (tgt := 23) hx hb dX8_share_17 (by decide) (fun _ => ?_) (fun c_ => absurd c_ (by decide))
      refine lv_aload_n hx hb dX8_share_23 rfl (lv_at hl 0 rfl) ?_
      refine lv_iconst (v := 0) hx hb dX8_share_24 (by decide) ?_
      have hPc_8 := hP
      refine vp_callSi (W.runV (As := [.int 0]) (rest := []) ⟨hx, hb, hml, hown, hts⟩ (r_X8_those l dC dI cI cZ cL cJ mo m_la m_sz m_it m_st m_mv m_tp m_rd m_ac m_as m_wo m_ik m_ke m_tr ms mt ml mk mv mb mw mz mp ma mx fs w9 k9 h9 0 (hM)) (cwV 1 hts gX8_share_X8_those rfl rfl rfl (by decide +kernel) ⟨Nat.le_of_ble_eq_true rfl, Nat.le_of_ble_eq_true rfl⟩) (pvP 8 0 hK hP rfl rfl hPc_8) rfl rfl hl.1 rfl (lv_room (Nat.le_of_ble_eq_true rfl)) dX8_share_25 ⟨Nat.le_of_ble_eq_true rfl, Nat.le_of_ble_eq_true rfl⟩) (fun r_8 h_8 => ?_)
      obtain ⟨j_8, rfl, hz_8_0, hz_8_1⟩ := h_8
      refine lv_istore_n (lv' := [(3, .int (nI j_8)), (0, .ref mo), (1, .int (nI j_1)), (2, .int (nI j_5))]) hx hb dX8_share_28 rfl hl (by decide) rfl (fun ls hl => ?_)
      refine lv_iload_n hx hb dX8_share_29 rfl (lv_at hl 0 rfl) ?_
      refine lv_iload_n hx hb dX8_share_30 rfl (lv_at hl 2 rfl) ?_
      have hPc_9 := hP.sub (ws' := []) [] rfl
      refine vp_callSi (W.runS (As := [.int (nI j_8), .int (nI j_1)]) (rest := []) ⟨hx, hb, hml, hown, hts⟩ (r_X8_has l dC dI cI cZ cL cJ (nI j_8) (nI j_1) ) (va_cwS 2 hts gX8_share_X8_has rfl rfl rfl (by decide +kernel) ⟨Nat.le_of_ble_eq_true rfl, Nat.le_of_ble_eq_true rfl⟩) (psP hK hPc_9) rfl rfl hl.1 rfl (lv_room (Nat.le_of_ble_eq_true rfl)) dX8_share_31 ⟨Nat.le_of_ble_eq_true rfl, Nat.le_of_ble_eq_true rfl⟩) (fun r_9 h_9 => ?_)
      rcases h_9 with ⟨h_9, f_9_0_0⟩ | ⟨h_9, f_9_1_0⟩
      · subst h_9
        refine lv_if_ne (tgt := 39) hx hb dX8_share_34 (by decide) (fun c_ => absurd (by decide) c_) (fun _ => ?_)
        refine lv_iconst (v := 0) hx hb dX8_share_37 (by decide) ?_
        exact W.iret (v := 0) hx hb hr (fun t ht hW => ⟨0, rfl, trivial, ht⟩) (fun _ h => by cases h) dX8_share_38
      · subst h_9
        refine lv_if_ne (tgt := 39) hx hb dX8_share_34 (by decide) (fun _ => ?_) (fun c_ => absurd c_ (by decide))
        refine lv_aload_n hx hb dX8_share_39 rfl (lv_at hl 1 rfl) ?_
        refine lv_iload_n hx hb dX8_share_40 rfl (lv_at hl 0 rfl) ?_
        have hPc_12 := hP
        refine vp_callSi (W.runV (As := [.int (nI j_8)]) (rest := []) ⟨hx, hb, hml, hown, hts⟩ (r_X8_loudOf l dC dI cI cZ cL cJ mo m_la m_sz m_it m_st m_mv m_tp m_rd m_ac m_as m_wo m_ik m_ke m_tr ms mt ml mk mv mb mw mz mp ma mx fs w9 k9 h9 (nI j_8) (hM)) (cwV 1 hts gX8_share_X8_loudOf rfl rfl rfl (by decide +kernel) ⟨Nat.le_of_ble_eq_true rfl, Nat.le_of_ble_eq_true rfl⟩) (pvP 8 0 hK hP rfl rfl hPc_12) rfl rfl hl.1 rfl (lv_room (Nat.le_of_ble_eq_true rfl)) dX8_share_41 ⟨Nat.le_of_ble_eq_true rfl, Nat.le_of_ble_eq_true rfl⟩) (fun r_12 h_12 => ?_)
        obtain ⟨j_12, rfl, hz_12_0, hz_12_1, hz_12_2⟩ := h_12
        have hz1 : 1 ≤ j_12 := hz_12_1 j_1 (by omega) f_9_1_0
        refine lv_istore (lv' := [(4, .int (nI j_12)), (3, .int (nI j_8)), (0, .ref mo), (1, .int (nI j_1)), (2, .int (nI j_5))]) hx hb dX8_share_44 hl (by decide) rfl (fun ls hl => ?_)
        refine lv_iload_n hx hb dX8_share_46 rfl (lv_at hl 4 rfl) ?_
        refine lv_istore (lv' := [(5, .int (nI j_5)), (4, .int (nI j_12)), (3, .int (nI j_8)), (0, .ref mo), (1, .int (nI j_1)), (2, .int (nI j_5))]) hx hb dX8_share_47 hl (by decide) rfl (fun ls hl => ?_)
        refine lv_iconst (v := 0) hx hb dX8_share_49 (by decide) ?_
        refine lv_istore (lv' := [(6, .int 0), (5, .int (nI j_5)), (4, .int (nI j_12)), (3, .int (nI j_8)), (0, .ref mo), (1, .int (nI j_1)), (2, .int (nI j_5))]) hx hb dX8_share_50 hl (by decide) rfl (fun ls hl => ?_)
        refine lv_iconst (v := 0) hx hb dX8_share_52 (by decide) ?_
        refine lv_istore (lv' := [(7, .int 0), (6, .int 0), (5, .int (nI j_5)), (4, .int (nI j_12)), (3, .int (nI j_8)), (0, .ref mo), (1, .int (nI j_1)), (2, .int (nI j_5))]) hx hb dX8_share_53 hl (by decide) rfl (fun ls hl => ?_)
        refine lp_go (σ := (Int32) × (Int32)) (fun ii (st : (Int32) × (Int32)) H locs ls => match st with | (w_38, w_39) => lv_has ls 8 [(7, .int (nI ii)), (6, .int w_38), (5, .int w_39), (4, .int (nI j_12)), (3, .int (nI j_8)), (0, .ref mo), (1, .int (nI j_1)), (2, .int (nI j_5))] ∧ H = s.heap ∧ locs = []) k9 ?_ ?_ 0 (by omega) (0, (nI j_5)) ⟨lv_sub hl [0, 1, 2, 3, 4, 5, 6, 7] rfl, rfl, rfl⟩
        · rintro ii ⟨w_38, w_39⟩ H locs ls hii ⟨hl, rfl, rfl⟩ ih
          refine lv_iload hx hb dX8_share_55 (lv_at hl 0 rfl) ?_
          refine lv_aload_n hx hb dX8_share_57 rfl (lv_at hl 5 rfl) ?_
          refine va_get (D := (dC, dI)) (ci := 8) (v := .ref m_st) (C := RX8) (T := TX8) (N := 24) hx hb hts i_X8_share_X8 hown hK hP 0 rfl rfl 5 (by decide) (hts _ mx_X8_share_3) (fun _ h9 => h9) rfl dX8_share_58 ?_
          refine lv_iconst (v := 4) hx hb dX8_share_61 (by decide) ?_
          refine va_iald hx hb hK hP 1 0 rfl rfl (by unfold vp_in; decide) dX8_share_62 ?_
          refine lv_topi (fun v_67 e_67 => ?_)
          obtain rfl : v_67 = (nI k9) := (e_67).trans hM.2.1
          refine lv_icmp_ge (tgt := 130) hx hb dX8_share_63 (by decide) (fun c_ => absurd c_ (fun q_ => absurd ((nI_leI (a := k9) (b := ii) (by omega) (by omega)).mp q_) (by omega))) (fun _ => ?_)
          refine lv_iload hx hb dX8_share_66 (lv_at hl 2 rfl) ?_
          refine lv_iload_n hx hb dX8_share_68 rfl (lv_at hl 4 rfl) ?_
          refine lv_iload hx hb dX8_share_69 (lv_at hl 0 rfl) ?_
          have hPc_69 := hP.sub (ws' := []) [] rfl
          refine vp_callSi (W.runS (As := [.int (nI j_8), .int (nI ii)]) (rest := [.int w_39]) ⟨hx, hb, hml, hown, hts⟩ (r_X8_has l dC dI cI cZ cL cJ (nI j_8) (nI ii) ) (va_cwS 2 hts gX8_share_X8_has rfl rfl rfl (by decide +kernel) ⟨Nat.le_of_ble_eq_true rfl, Nat.le_of_ble_eq_true rfl⟩) (psP hK hPc_69) rfl rfl hl.1 rfl (lv_room (Nat.le_of_ble_eq_true rfl)) dX8_share_71 ⟨Nat.le_of_ble_eq_true rfl, Nat.le_of_ble_eq_true rfl⟩) (fun r_69 h_69 => ?_)
          rcases h_69 with ⟨h_69, f_69_0_0⟩ | ⟨h_69, f_69_1_0⟩
          · subst h_69
            refine lv_if_eq (tgt := 95) hx hb dX8_share_74 (by decide) (fun _ => ?_) (fun c_ => absurd (by decide) c_)
            refine lv_iconst (v := 0) hx hb dX8_share_95 (by decide) ?_
            refine lv_isub hx hb dX8_share_96 ?_
            refine lv_topi (fun v_71 e_71 => ?_)
            refine lv_istore (lv' := [(5, .int v_71), (7, .int (nI ii)), (6, .int w_38), (4, .int (nI j_12)), (3, .int (nI j_8)), (0, .ref mo), (1, .int (nI j_1)), (2, .int (nI j_5))]) hx hb dX8_share_97 hl (by decide) rfl (fun ls hl => ?_)
            refine lv_iload hx hb dX8_share_99 (lv_at hl 2 rfl) ?_
            refine lv_iload_n hx hb dX8_share_101 rfl (lv_at hl 4 rfl) ?_
            refine lv_iload hx hb dX8_share_102 (lv_at hl 1 rfl) ?_
            have hPc_72 := hP.sub (ws' := []) [] rfl
            refine vp_callSi (W.runS (As := [.int (nI j_8), .int (nI ii)]) (rest := [.int w_38]) ⟨hx, hb, hml, hown, hts⟩ (r_X8_has l dC dI cI cZ cL cJ (nI j_8) (nI ii) ) (va_cwS 2 hts gX8_share_X8_has rfl rfl rfl (by decide +kernel) ⟨Nat.le_of_ble_eq_true rfl, Nat.le_of_ble_eq_true rfl⟩) (psP hK hPc_72) rfl rfl hl.1 rfl (lv_room (Nat.le_of_ble_eq_true rfl)) dX8_share_104 ⟨Nat.le_of_ble_eq_true rfl, Nat.le_of_ble_eq_true rfl⟩) (fun r_72 h_72 => ?_)
            rcases h_72 with ⟨h_72, f_72_0_0⟩ | ⟨h_72, f_72_1_0⟩
            · subst h_72
              refine lv_if_eq (tgt := 120) hx hb dX8_share_107 (by decide) (fun _ => ?_) (fun c_ => absurd (by decide) c_)
              refine lv_iconst (v := 0) hx hb dX8_share_120 (by decide) ?_
              refine lv_iadd hx hb dX8_share_121 ?_
              refine lv_topi (fun v_74 e_74 => ?_)
              refine lv_istore (lv' := [(6, .int v_74), (5, .int v_71), (7, .int (nI ii)), (4, .int (nI j_12)), (3, .int (nI j_8)), (0, .ref mo), (1, .int (nI j_1)), (2, .int (nI j_5))]) hx hb dX8_share_122 hl (by decide) rfl (fun ls hl => ?_)
              refine lv_iinc (v := (nI (ii + 1))) (lv' := [(7, .int (nI (ii + 1))), (6, .int v_74), (5, .int v_71), (4, .int (nI j_12)), (3, .int (nI j_8)), (0, .ref mo), (1, .int (nI j_1)), (2, .int (nI j_5))]) hx hb dX8_share_124 hl (k := 2) rfl (nI_add ii 1) (by decide) rfl (fun ls hl => ?_)
              refine lv_goto (tgt := 55) hx hb dX8_share_127 (by decide) ?_
              exact ih (v_74, v_71) _ _ _ ⟨lv_sub hl [0, 1, 2, 3, 4, 5, 6, 7] rfl, rfl, rfl⟩
            · subst h_72
              refine lv_if_eq (tgt := 120) hx hb dX8_share_107 (by decide) (fun c_ => absurd c_ (by decide)) (fun _ => ?_)
              refine lv_iload hx hb dX8_share_110 (lv_at hl 1 rfl) ?_
              refine lv_iload_n hx hb dX8_share_112 rfl (lv_at hl 6 rfl) ?_
              refine lv_icmp_ge (tgt := 120) hx hb dX8_share_113 (by decide) (fun c_76 => ?_) (fun c_76 => ?_)
              · have c_76 : j_1 ≤ ii := (nI_leI (a := j_1) (b := ii) (by omega) (by omega)).mp c_76
                refine lv_iconst (v := 0) hx hb dX8_share_120 (by decide) ?_
                refine lv_iadd hx hb dX8_share_121 ?_
                refine lv_topi (fun v_77 e_77 => ?_)
                refine lv_istore (lv' := [(6, .int v_77), (5, .int v_71), (7, .int (nI ii)), (4, .int (nI j_12)), (3, .int (nI j_8)), (0, .ref mo), (1, .int (nI j_1)), (2, .int (nI j_5))]) hx hb dX8_share_122 hl (by decide) rfl (fun ls hl => ?_)
                refine lv_iinc (v := (nI (ii + 1))) (lv' := [(7, .int (nI (ii + 1))), (6, .int v_77), (5, .int v_71), (4, .int (nI j_12)), (3, .int (nI j_8)), (0, .ref mo), (1, .int (nI j_1)), (2, .int (nI j_5))]) hx hb dX8_share_124 hl (k := 2) rfl (nI_add ii 1) (by decide) rfl (fun ls hl => ?_)
                refine lv_goto (tgt := 55) hx hb dX8_share_127 (by decide) ?_
                exact ih (v_77, v_71) _ _ _ ⟨lv_sub hl [0, 1, 2, 3, 4, 5, 6, 7] rfl, rfl, rfl⟩
              · have c_76 : ¬ (j_1 ≤ ii) := fun q_ => c_76 ((nI_leI (a := j_1) (b := ii) (by omega) (by omega)).mpr q_)
                refine lv_iconst (v := 1) hx hb dX8_share_116 (by decide) ?_
                refine lv_goto (tgt := 121) hx hb dX8_share_117 (by decide) ?_
                refine lv_iadd hx hb dX8_share_121 ?_
                refine lv_topi (fun v_78 e_78 => ?_)
                refine lv_istore (lv' := [(6, .int v_78), (5, .int v_71), (7, .int (nI ii)), (4, .int (nI j_12)), (3, .int (nI j_8)), (0, .ref mo), (1, .int (nI j_1)), (2, .int (nI j_5))]) hx hb dX8_share_122 hl (by decide) rfl (fun ls hl => ?_)
                refine lv_iinc (v := (nI (ii + 1))) (lv' := [(7, .int (nI (ii + 1))), (6, .int v_78), (5, .int v_71), (4, .int (nI j_12)), (3, .int (nI j_8)), (0, .ref mo), (1, .int (nI j_1)), (2, .int (nI j_5))]) hx hb dX8_share_124 hl (k := 2) rfl (nI_add ii 1) (by decide) rfl (fun ls hl => ?_)
                refine lv_goto (tgt := 55) hx hb dX8_share_127 (by decide) ?_
                exact ih (v_78, v_71) _ _ _ ⟨lv_sub hl [0, 1, 2, 3, 4, 5, 6, 7] rfl, rfl, rfl⟩
          · subst h_69
            refine lv_if_eq (tgt := 95) hx hb dX8_share_74 (by decide) (fun c_ => absurd c_ (by decide)) (fun _ => ?_)
            refine lv_iload_n hx hb dX8_share_77 rfl (lv_at hl 7 rfl) ?_
            refine lv_aload_n hx hb dX8_share_78 rfl (lv_at hl 5 rfl) ?_
            refine va_get (D := (dC, dI)) (ci := 8) (v := .ref m_st) (C := RX8) (T := TX8) (N := 24) hx hb hts i_X8_share_X8 hown hK hP 0 rfl rfl 5 (by decide) (hts _ mx_X8_share_3) (fun _ h9 => h9) rfl dX8_share_79 ?_
            refine lv_bipush (v := 32) hx hb dX8_share_82 (by decide) ?_
            refine lv_iload hx hb dX8_share_84 (lv_at hl 0 rfl) ?_
            refine lv_iadd hx hb dX8_share_86 ?_
            refine lv_topi (fun v_80 e_80 => ?_)
            obtain rfl : v_80 = (nI (32 + ii)) := (e_80).trans (nI_add 32 ii)
            refine va_iald hx hb hK hP 1 0 rfl rfl (vp_in_nI (by omega) (by omega)) dX8_share_87 ?_
            refine lv_topi (fun v_81 e_81 => ?_)
            refine lv_imul hx hb dX8_share_88 ?_
            refine lv_topi (fun v_82 e_82 => ?_)
            refine lv_iload hx hb dX8_share_89 (lv_at hl 3 rfl) ?_
            refine lv_idiv hx hb dX8_share_91 (nI_ne0 (by omega) (by omega)) ?_
            refine lv_topi (fun v_83 e_83 => ?_)
            refine lv_goto (tgt := 96) hx hb dX8_share_92 (by decide) ?_
            refine lv_isub hx hb dX8_share_96 ?_
            refine lv_topi (fun v_84 e_84 => ?_)
            refine lv_istore (lv' := [(5, .int v_84), (7, .int (nI ii)), (6, .int w_38), (4, .int (nI j_12)), (3, .int (nI j_8)), (0, .ref mo), (1, .int (nI j_1)), (2, .int (nI j_5))]) hx hb dX8_share_97 hl (by decide) rfl (fun ls hl => ?_)
            refine lv_iload hx hb dX8_share_99 (lv_at hl 2 rfl) ?_
            refine lv_iload_n hx hb dX8_share_101 rfl (lv_at hl 4 rfl) ?_
            refine lv_iload hx hb dX8_share_102 (lv_at hl 1 rfl) ?_
            have hPc_85 := hP.sub (ws' := []) [] rfl
            refine vp_callSi (W.runS (As := [.int (nI j_8), .int (nI ii)]) (rest := [.int w_38]) ⟨hx, hb, hml, hown, hts⟩ (r_X8_has l dC dI cI cZ cL cJ (nI j_8) (nI ii) ) (va_cwS 2 hts gX8_share_X8_has rfl rfl rfl (by decide +kernel) ⟨Nat.le_of_ble_eq_true rfl, Nat.le_of_ble_eq_true rfl⟩) (psP hK hPc_85) rfl rfl hl.1 rfl (lv_room (Nat.le_of_ble_eq_true rfl)) dX8_share_104 ⟨Nat.le_of_ble_eq_true rfl, Nat.le_of_ble_eq_true rfl⟩) (fun r_85 h_85 => ?_)
            rcases h_85 with ⟨h_85, f_85_0_0⟩ | ⟨h_85, f_85_1_0⟩
            · subst h_85
              refine lv_if_eq (tgt := 120) hx hb dX8_share_107 (by decide) (fun _ => ?_) (fun c_ => absurd (by decide) c_)
              refine lv_iconst (v := 0) hx hb dX8_share_120 (by decide) ?_
              refine lv_iadd hx hb dX8_share_121 ?_
              refine lv_topi (fun v_87 e_87 => ?_)
              refine lv_istore (lv' := [(6, .int v_87), (5, .int v_84), (7, .int (nI ii)), (4, .int (nI j_12)), (3, .int (nI j_8)), (0, .ref mo), (1, .int (nI j_1)), (2, .int (nI j_5))]) hx hb dX8_share_122 hl (by decide) rfl (fun ls hl => ?_)
              refine lv_iinc (v := (nI (ii + 1))) (lv' := [(7, .int (nI (ii + 1))), (6, .int v_87), (5, .int v_84), (4, .int (nI j_12)), (3, .int (nI j_8)), (0, .ref mo), (1, .int (nI j_1)), (2, .int (nI j_5))]) hx hb dX8_share_124 hl (k := 2) rfl (nI_add ii 1) (by decide) rfl (fun ls hl => ?_)
              refine lv_goto (tgt := 55) hx hb dX8_share_127 (by decide) ?_
              exact ih (v_87, v_84) _ _ _ ⟨lv_sub hl [0, 1, 2, 3, 4, 5, 6, 7] rfl, rfl, rfl⟩
            · subst h_85
              refine lv_if_eq (tgt := 120) hx hb dX8_share_107 (by decide) (fun c_ => absurd c_ (by decide)) (fun _ => ?_)
              refine lv_iload hx hb dX8_share_110 (lv_at hl 1 rfl) ?_
              refine lv_iload_n hx hb dX8_share_112 rfl (lv_at hl 6 rfl) ?_
              refine lv_icmp_ge (tgt := 120) hx hb dX8_share_113 (by decide) (fun c_89 => ?_) (fun c_89 => ?_)
              · have c_89 : j_1 ≤ ii := (nI_leI (a := j_1) (b := ii) (by omega) (by omega)).mp c_89
                refine lv_iconst (v := 0) hx hb dX8_share_120 (by decide) ?_
                refine lv_iadd hx hb dX8_share_121 ?_
                refine lv_topi (fun v_90 e_90 => ?_)
                refine lv_istore (lv' := [(6, .int v_90), (5, .int v_84), (7, .int (nI ii)), (4, .int (nI j_12)), (3, .int (nI j_8)), (0, .ref mo), (1, .int (nI j_1)), (2, .int (nI j_5))]) hx hb dX8_share_122 hl (by decide) rfl (fun ls hl => ?_)
                refine lv_iinc (v := (nI (ii + 1))) (lv' := [(7, .int (nI (ii + 1))), (6, .int v_90), (5, .int v_84), (4, .int (nI j_12)), (3, .int (nI j_8)), (0, .ref mo), (1, .int (nI j_1)), (2, .int (nI j_5))]) hx hb dX8_share_124 hl (k := 2) rfl (nI_add ii 1) (by decide) rfl (fun ls hl => ?_)
                refine lv_goto (tgt := 55) hx hb dX8_share_127 (by decide) ?_
                exact ih (v_90, v_84) _ _ _ ⟨lv_sub hl [0, 1, 2, 3, 4, 5, 6, 7] rfl, rfl, rfl⟩
              · have c_89 : ¬ (j_1 ≤ ii) := fun q_ => c_89 ((nI_leI (a := j_1) (b := ii) (by omega) (by omega)).mpr q_)
                refine lv_iconst (v := 1) hx hb dX8_share_116 (by decide) ?_
                refine lv_goto (tgt := 121) hx hb dX8_share_117 (by decide) ?_
                refine lv_iadd hx hb dX8_share_121 ?_
                refine lv_topi (fun v_91 e_91 => ?_)
                refine lv_istore (lv' := [(6, .int v_91), (5, .int v_84), (7, .int (nI ii)), (4, .int (nI j_12)), (3, .int (nI j_8)), (0, .ref mo), (1, .int (nI j_1)), (2, .int (nI j_5))]) hx hb dX8_share_122 hl (by decide) rfl (fun ls hl => ?_)
                refine lv_iinc (v := (nI (ii + 1))) (lv' := [(7, .int (nI (ii + 1))), (6, .int v_91), (5, .int v_84), (4, .int (nI j_12)), (3, .int (nI j_8)), (0, .ref mo), (1, .int (nI j_1)), (2, .int (nI j_5))]) hx hb dX8_share_124 hl (k := 2) rfl (nI_add ii 1) (by decide) rfl (fun ls hl => ?_)
                refine lv_goto (tgt := 55) hx hb dX8_share_127 (by decide) ?_
                exact ih (v_91, v_84) _ _ _ ⟨lv_sub hl [0, 1, 2, 3, 4, 5, 6, 7] rfl, rfl, rfl⟩
        · rintro ⟨w_38, w_39⟩ H locs ls ⟨hl, rfl, rfl⟩
          refine lv_iload hx hb dX8_share_55 (lv_at hl 0 rfl) ?_
          refine lv_aload_n hx hb dX8_share_57 rfl (lv_at hl 5 rfl) ?_
          refine va_get (D := (dC, dI)) (ci := 8) (v := .ref m_st) (C := RX8) (T := TX8) (N := 24) hx hb hts i_X8_share_X8 hown hK hP 0 rfl rfl 5 (by decide) (hts _ mx_X8_share_3) (fun _ h9 => h9) rfl dX8_share_58 ?_
          refine lv_iconst (v := 4) hx hb dX8_share_61 (by decide) ?_
          refine va_iald hx hb hK hP 1 0 rfl rfl (by unfold vp_in; decide) dX8_share_62 ?_
          refine lv_topi (fun v_92 e_92 => ?_)
          obtain rfl : v_92 = (nI k9) := (e_92).trans hM.2.1
          refine lv_icmp_ge (tgt := 130) hx hb dX8_share_63 (by decide) (fun _ => ?_) (fun c_ => absurd ((nI_leI (a := k9) (b := k9) (by omega) (by omega)).mpr (by omega)) c_)
          refine lv_iload_n hx hb dX8_share_130 rfl (lv_at hl 7 rfl) ?_
          refine lv_aload_n hx hb dX8_share_131 rfl (lv_at hl 5 rfl) ?_
          refine va_get (D := (dC, dI)) (ci := 8) (v := .ref m_st) (C := RX8) (T := TX8) (N := 24) hx hb hts i_X8_share_X8 hown hK hP 0 rfl rfl 5 (by decide) (hts _ mx_X8_share_3) (fun _ h9 => h9) rfl dX8_share_132 ?_
          refine lv_bipush (v := 32) hx hb dX8_share_135 (by decide) ?_
          refine lv_iload_n hx hb dX8_share_137 rfl (lv_at hl 6 rfl) ?_
          refine lv_iadd hx hb dX8_share_138 ?_
          refine lv_topi (fun v_94 e_94 => ?_)
          obtain rfl : v_94 = (nI (32 + j_1)) := (e_94).trans (nI_add 32 j_1)
          refine va_iald hx hb hK hP 1 0 rfl rfl (vp_in_nI (by omega) (by omega)) dX8_share_139 ?_
          refine lv_topi (fun v_95 e_95 => ?_)
          refine lv_imul hx hb dX8_share_140 ?_
          refine lv_topi (fun v_96 e_96 => ?_)
          refine lv_iload hx hb dX8_share_141 (lv_at hl 3 rfl) ?_
          refine lv_idiv hx hb dX8_share_143 (nI_ne0 (by omega) (by omega)) ?_
          refine lv_topi (fun v_97 e_97 => ?_)
          refine lv_iload hx hb dX8_share_144 (lv_at hl 2 rfl) ?_
          refine lv_iload hx hb dX8_share_146 (lv_at hl 1 rfl) ?_
          refine lv_icmp_le (tgt := 155) hx hb dX8_share_148 (by decide) (fun c_98 => ?_) (fun c_98 => ?_)
          · skip
            refine lv_iconst (v := 0) hx hb dX8_share_155 (by decide) ?_
            refine lv_iadd hx hb dX8_share_156 ?_
            refine lv_topi (fun v_99 e_99 => ?_)
            exact W.iret (v := v_99) hx hb hr (fun t ht hW => ⟨v_99, rfl, trivial, ht⟩) (fun _ h => by cases h) dX8_share_157
          · skip
            refine lv_iconst (v := 1) hx hb dX8_share_151 (by decide) ?_
            refine lv_goto (tgt := 156) hx hb dX8_share_152 (by decide) ?_
            refine lv_iadd hx hb dX8_share_156 ?_
            refine lv_topi (fun v_100 e_100 => ?_)
            exact W.iret (v := v_100) hx hb hr (fun t ht hW => ⟨v_100, rfl, trivial, ht⟩) (fun _ h => by cases h) dX8_share_157
set_option maxHeartbeats 4000000 in
set_option maxRecDepth 100000 in
theorem r_X8_byTurns (l : Launch) (dC : Nat → ClassId) (dI : Nat → Nat → Nat) (cI cZ cL cJ : ClassId) (sz : Nat) (mo : Nat) (m_la : Nat) (m_sz : Nat) (m_it : Nat) (m_st : Nat) (m_mv : Nat) (m_tp : Nat) (m_rd : Nat) (m_ac : Nat) (m_as : Nat) (m_wo : Nat) (m_ik : Nat) (m_ke : Nat) (m_tr : Nat) (ms : Int32) (mt : Int32) (ml : Int32) (mk : Int32) (mv : Int32) (mb : Int32) (mw : Int32) (mz : Nat) (mp : Nat) (ma : Nat) (mx : Nat) (fs : Nat → Int32) (w9 : Nat) (k9 : Nat) (h9 : Nat) (fa : Nat → Int32) (fw : Nat → Int32) (a0 : Int32) (a1 : Int32) (hM : okM fs w9 k9 h9) (hT : ¬ mt = 0 → 1 ≤ k9) (h999 : h9 ≤ 999) (hT0 : mt = 0 → fs 0 = 0 ∧ ma = 0) : Met l yX8_byTurns wsX8_byTurns ({ frames := 6, cells := 0, slots := 0, locals := 139 }) (va_Pc [.ref mo, .int a0, .int a1] (fun U => U.heap.size = sz ∧ va_P (dC, dI) vwCl [(xo_8_rrriirrriiiiiiirrirrrrri mo m_la m_sz m_it ms mt m_st m_mv m_tp (nI mz) ml (nI mp) mk mv mb mw m_rd m_ac (nI ma) m_as m_wo m_ik m_ke m_tr (nI mx)), (xI m_st cI 38 fs), (xI m_as cI 38 fa), (xI m_wo cI 16 fw)] U.heap ∧ va_K (dC, dI) vwCl [(cI, .int), (cZ, .boolean), (cL, .object RX3), (cJ, .array .int)] U ∧ va_D (fun _ => True) [(xo_8_rrriirrriiiiiiirrirrrrri mo m_la m_sz m_it ms mt m_st m_mv m_tp (nI mz) ml (nI mp) mk mv mb mw m_rd m_ac (nI ma) m_as m_wo m_ik m_ke m_tr (nI mx)), (xI m_st cI 38 fs), (xI m_as cI 38 fa), (xI m_wo cI 16 fw)])) (va_Qi (fun r (_ : Unit) => True) (fun (_ : Unit) t => ∃ (fsn : Nat → Int32) (fan : Nat → Int32) (fwn : Nat → Int32), va_P (dC, dI) vwCl [(xo_8_rrriirrriiiiiiirrirrrrri mo m_la m_sz m_it ms mt m_st m_mv m_tp (nI mz) ml (nI mp) mk mv mb mw m_rd m_ac (nI ma) m_as m_wo m_ik m_ke m_tr (nI mx)), (xI m_st cI 38 fsn), (xI m_as cI 38 fan), (xI m_wo cI 16 fwn)] t.heap ∧ va_D (va_A [(xo_8_rrriirrriiiiiiirrirrrrri mo m_la m_sz m_it ms mt m_st m_mv m_tp (nI mz) ml (nI mp) mk mv mb mw m_rd m_ac (nI ma) m_as m_wo m_ik m_ke m_tr (nI mx)), (xI m_st cI 38 fs), (xI m_as cI 38 fa), (xI m_wo cI 16 fw)] sz) [(xo_8_rrriirrriiiiiiirrirrrrri mo m_la m_sz m_it ms mt m_st m_mv m_tp (nI mz) ml (nI mp) mk mv mb mw m_rd m_ac (nI ma) m_as m_wo m_ik m_ke m_tr (nI mx)), (xI m_st cI 38 fsn), (xI m_as cI 38 fan), (xI m_wo cI 16 fwn)] ∧ okM fsn w9 k9 h9 ∧ m38 fsn = m38 fs) (va_A [(xo_8_rrriirrriiiiiiirrirrrrri mo m_la m_sz m_it ms mt m_st m_mv m_tp (nI mz) ml (nI mp) mk mv mb mw m_rd m_ac (nI ma) m_as m_wo m_ik m_ke m_tr (nI mx)), (xI m_st cI 38 fs), (xI m_as cI 38 fa), (xI m_wo cI 16 fw)] sz)) 0 0 (va_A [(xo_8_rrriirrriiiiiiirrirrrrri mo m_la m_sz m_it ms mt m_st m_mv m_tp (nI mz) ml (nI mp) mk mv mb mw m_rd m_ac (nI ma) m_as m_wo m_ik m_ke m_tr (nI mx)), (xI m_st cI 38 fs), (xI m_as cI 38 fa), (xI m_wo cI 16 fw)] sz) := by
  refine Met.ofW (cc := cX8_byTurns) (maxL := 8) (ret := (some .int)) (by decide) rfl ?_
  intro p e s m args below meth c s₁ B hml hv
  obtain ⟨rfl, hsz, hP, hK, hD0⟩ := hv
  have hx := B.exec
  have hb := B.bytes
  have hr := B.returns
  have hts := atoms_spec (ws := wsX8_byTurns) B.pre
  have hown : s.vm.findClass RX8 = some m.cls := findClass_of_methodNamed B.named
  have hlocks := B.notSynchronized
  subst hsz
  have hD := hD0.self (sz := s.heap.size)
  generalize hAe : va_A [(xo_8_rrriirrriiiiiiirrirrrrri mo m_la m_sz m_it ms mt m_st m_mv m_tp (nI mz) ml (nI mp) mk mv mb mw m_rd m_ac (nI ma) m_as m_wo m_ik m_ke m_tr (nI mx)), (xI m_st cI 38 fs), (xI m_as cI 38 fa), (xI m_wo cI 16 fw)] s.heap.size = A at hD ⊢
  have hA : ∀ q : Nat, s.heap.size ≤ q → A q := fun q h => by rw [← hAe]; exact Or.inr h
  have hS : va_S A s.heap s.heap [] := va_S.rf
  have hP : va_P (dC, dI) vwCl [(xo_8_rrriirrriiiiiiirrirrrrri mo m_la m_sz m_it ms mt m_st m_mv m_tp (nI mz) ml (nI mp) mk mv mb mw m_rd m_ac (nI ma) m_as m_wo m_ik m_ke m_tr (nI mx)), (xI m_st cI 38 fs), (xI m_as cI 38 fa), (xI m_wo cI 16 fw)] s.heap := hP
  have hl := lv_entry ([.ref mo, .int a0, .int a1]) (n := 8) (Nat.le_of_ble_eq_true rfl)
  rw [lg_entry_eq]
  generalize (lg_sl ([.ref mo, .int a0, .int a1]) ++ List.replicate (8 - (lg_sl ([.ref mo, .int a0, .int a1])).length) Slot.unset).toArray = ls at hl ⊢
  have hl : lv_has ls 8 [(0, .ref mo), (1, .int a0), (2, .int a1)] := hl
  have hk6 := hM.2.2.2.2.1
  have hw6 := hM.2.2.2.1
  refine lv_aload_n hx hb dX8_byTurns_0 rfl (lv_at hl 0 rfl) ?_
  refine va_get (D := (dC, dI)) (ci := 8) (v := .int mt) (C := RX8) (T := TX8) (N := 24) hx hb hts i_X8_byTurns_X8 hown hK hP 0 rfl rfl 4 (by decide) (hts _ mx_X8_byTurns_1) (fun _ h9 => h9) rfl dX8_byTurns_1 ?_
  refine lv_if_ne (tgt := 10) hx hb dX8_byTurns_4 (by decide) (fun c_1 => ?_) (fun c_1 => ?_)
  · skip
    have hkn1 := hT c_1
    have hw1 := hM.2.2.2.2.2.1.mp hkn1
    refine lv_iload_n hx hb dX8_byTurns_10 rfl (lv_at hl 1 rfl) ?_
    refine lv_i2l hx hb dX8_byTurns_11 rfl ?_
    refine lv_lconst (v := 0) hx hb dX8_byTurns_12 (by decide) ?_
    refine lv_ldc2 (own := RX8) (v := 4) hx hb hown (hts _ mx_X8_byTurns_3) dX8_byTurns_13 ?_
    have hPc_2 := hP.sub (ws' := []) [] rfl
    refine vp_callSi (W.runS (As := [.long (a0).toInt64, .long 0, .long 4]) (rest := []) ⟨hx, hb, hml, hown, hts⟩ (r_X8_in l dC dI cI cZ cL cJ ((a0).toInt64) 0 4 ) (va_cwS 3 hts gX8_byTurns_X8_in rfl rfl rfl (by decide +kernel) ⟨Nat.le_of_ble_eq_true rfl, Nat.le_of_ble_eq_true rfl⟩) (psP hK hPc_2) rfl rfl hl.1 rfl (lv_room (Nat.le_of_ble_eq_true rfl)) dX8_byTurns_16 ⟨Nat.le_of_ble_eq_true rfl, Nat.le_of_ble_eq_true rfl⟩) (fun r_2 h_2 => ?_)
    rcases h_2 with ⟨h_2, f_2_0_0⟩ | ⟨h_2, f_2_1_0⟩
    · subst h_2
      refine lv_if_eq (tgt := 34) hx hb dX8_byTurns_19 (by decide) (fun _ => ?_) (fun c_ => absurd (by decide) c_)
      refine lv_ldc (own := RX8) (v := (-1000001)) hx hb hown (hts _ mx_X8_byTurns_5) dX8_byTurns_34 ?_
      have hX9 := cut2 (wc := [(xo_8_rrriirrriiiiiiirrirrrrri mo m_la m_sz m_it ms mt m_st m_mv m_tp (nI mz) ml (nI mp) mk mv mb mw m_rd m_ac (nI ma) m_as m_wo m_ik m_ke m_tr (nI mx)), (xI m_st cI 38 fs), (xI m_as cI 38 fa), (xI m_wo cI 16 fw)]) hP hD [0, 1, 2, 3] (by decide +kernel) rfl
      exact W.iret (v := (-1000001)) hx hb hr (fun t ht hW => ⟨⟨(-1000001), (), rfl, trivial, ⟨fs, fa, fw, va_Ht ht hX9.1, hX9.2, hM, rfl⟩⟩, hS.F ht⟩) hS.2.2 dX8_byTurns_36
    · subst h_2
      obtain ⟨j_2, hj_2, hl_2, rfl⟩ := in64 (lo := 0) (n := 4) rfl rfl (by decide) f_2_1_0
      refine lv_if_eq (tgt := 34) hx hb dX8_byTurns_19 (by decide) (fun c_ => absurd c_ (by decide)) (fun _ => ?_)
      refine lv_iload_n hx hb dX8_byTurns_22 rfl (lv_at hl 2 rfl) ?_
      refine lv_i2l hx hb dX8_byTurns_23 rfl ?_
      refine lv_lconst (v := 1) hx hb dX8_byTurns_24 (by decide) ?_
      refine lv_ldc2 (own := RX8) (v := 20) hx hb hown (hts _ mx_X8_byTurns_4) dX8_byTurns_25 ?_
      have hPc_5 := hP.sub (ws' := []) [] rfl
      refine vp_callSi (W.runS (As := [.long (a1).toInt64, .long 1, .long 20]) (rest := []) ⟨hx, hb, hml, hown, hts⟩ (r_X8_in l dC dI cI cZ cL cJ ((a1).toInt64) 1 20 ) (va_cwS 3 hts gX8_byTurns_X8_in rfl rfl rfl (by decide +kernel) ⟨Nat.le_of_ble_eq_true rfl, Nat.le_of_ble_eq_true rfl⟩) (psP hK hPc_5) rfl rfl hl.1 rfl (lv_room (Nat.le_of_ble_eq_true rfl)) dX8_byTurns_28 ⟨Nat.le_of_ble_eq_true rfl, Nat.le_of_ble_eq_true rfl⟩) (fun r_5 h_5 => ?_)
      rcases h_5 with ⟨h_5, f_5_0_0⟩ | ⟨h_5, f_5_1_0⟩
      · subst h_5
        refine lv_if_ne (tgt := 37) hx hb dX8_byTurns_31 (by decide) (fun c_ => absurd (by decide) c_) (fun _ => ?_)
        refine lv_ldc (own := RX8) (v := (-1000001)) hx hb hown (hts _ mx_X8_byTurns_5) dX8_byTurns_34 ?_
        have hX9 := cut2 (wc := [(xo_8_rrriirrriiiiiiirrirrrrri mo m_la m_sz m_it ms mt m_st m_mv m_tp (nI mz) ml (nI mp) mk mv mb mw m_rd m_ac (nI ma) m_as m_wo m_ik m_ke m_tr (nI mx)), (xI m_st cI 38 fs), (xI m_as cI 38 fa), (xI m_wo cI 16 fw)]) hP hD [0, 1, 2, 3] (by decide +kernel) rfl
        exact W.iret (v := (-1000001)) hx hb hr (fun t ht hW => ⟨⟨(-1000001), (), rfl, trivial, ⟨fs, fa, fw, va_Ht ht hX9.1, hX9.2, hM, rfl⟩⟩, hS.F ht⟩) hS.2.2 dX8_byTurns_36
      · subst h_5
        obtain ⟨j_5, hj_5, hl_5, rfl⟩ := in64 (lo := 1) (n := 20) rfl rfl (by decide) f_5_1_0
        refine lv_if_ne (tgt := 37) hx hb dX8_byTurns_31 (by decide) (fun _ => ?_) (fun c_ => absurd c_ (by decide))
        refine lv_aload_n hx hb dX8_byTurns_37 rfl (lv_at hl 0 rfl) ?_
        have hc_8 := cutW (wc := [(xo_8_rrriirrriiiiiiirrirrrrri mo m_la m_sz m_it ms mt m_st m_mv m_tp (nI mz) ml (nI mp) mk mv mb mw m_rd m_ac (nI ma) m_as m_wo m_ik m_ke m_tr (nI mx)), (xI m_st cI 38 fs), (xI m_as cI 38 fa)]) hP hD hS hA [0, 1, 2] (by decide +kernel) rfl
        refine va_callv (va_runV (As := []) (rest := []) ⟨hx, hb, hml, hown, hts⟩ (r_X8_putAside l dC dI cI cZ cL cJ s.heap.size mo m_la m_sz m_it m_st m_mv m_tp m_rd m_ac m_as m_wo m_ik m_ke m_tr ms mt ml mk mv mb mw mz mp ma mx fs fa ) (cwV 0 hts gX8_byTurns_X8_putAside rfl rfl rfl (by decide +kernel) ⟨Nat.le_of_ble_eq_true rfl, Nat.le_of_ble_eq_true rfl⟩) (pvW 8 0 hK hP rfl rfl hc_8) rfl rfl hl.1 rfl (lv_room (Nat.le_of_ble_eq_true rfl)) dX8_byTurns_38 ⟨Nat.le_of_ble_eq_true rfl, Nat.le_of_ble_eq_true rfl⟩) hS (fun q _ h => hc_8.2.2 q h) hc_8.2.2 (fun u_8 t_8 H1 locs ht hvm h_8 hB hz1 hk1 hS => ?_)
        refine xl_1_3 hB (fun fan_8 hP1 hD1 hF_8_0 => ?_)
        clear hB
        rw [ht] at hP1
        obtain ⟨hP, hD⟩ := va_join (wr := [(xI m_wo cI 16 fw)]) (w1 := [(xo_8_rrriirrriiiiiiirrirrrrri mo m_la m_sz m_it ms mt m_st m_mv m_tp (nI mz) ml (nI mp) mk mv mb mw m_rd m_ac (nI ma) m_as m_wo m_ik m_ke m_tr (nI mx)), (xI m_st cI 38 fs), (xI m_as cI 38 fan_8)]) hP hD [0, 1, 2] [3] rfl rfl (by decide +kernel) (by decide +kernel) hk1 hc_8.2.2 hP1 hD1
        generalize H1 = H at hP hS ⊢
        have hP : va_P (dC, dI) vwCl [(xI m_wo cI 16 fw), (xo_8_rrriirrriiiiiiirrirrrrri mo m_la m_sz m_it ms mt m_st m_mv m_tp (nI mz) ml (nI mp) mk mv mb mw m_rd m_ac (nI ma) m_as m_wo m_ik m_ke m_tr (nI mx)), (xI m_st cI 38 fs), (xI m_as cI 38 fan_8)] H := hP
        have hD := dto hP hD
        have hA_8 := okM_eq hM hF_8_0
        obtain ⟨sh, hsh, hsb, hs4, hs5, hs6⟩ := shl8 j_2 (by omega)
        refine lv_bipush (v := 8) hx hb dX8_byTurns_41 (by decide) ?_
        refine lv_aload_n hx hb dX8_byTurns_43 rfl (lv_at hl 0 rfl) ?_
        refine va_get (D := (dC, dI)) (ci := 8) (v := .ref m_st) (C := RX8) (T := TX8) (N := 24) hx hb hts i_X8_byTurns_X8 hown hK hP 1 rfl rfl 5 (by decide) (hts _ mx_X8_byTurns_6) (fun _ h9 => h9) rfl dX8_byTurns_44 ?_
        refine lv_iconst (v := 5) hx hb dX8_byTurns_47 (by decide) ?_
        refine va_iald hx hb hK hP 2 0 rfl rfl (by unfold vp_in; decide) dX8_byTurns_48 ?_
        refine lv_topi (fun v_9 e_9 => ?_)
        obtain rfl : v_9 = (nI h9) := (e_9).trans hM.2.2.1
        refine lv_aload_n hx hb dX8_byTurns_49 rfl (lv_at hl 0 rfl) ?_
        refine va_get (D := (dC, dI)) (ci := 8) (v := .ref m_st) (C := RX8) (T := TX8) (N := 24) hx hb hts i_X8_byTurns_X8 hown hK hP 1 rfl rfl 5 (by decide) (hts _ mx_X8_byTurns_6) (fun _ h9 => h9) rfl dX8_byTurns_50 ?_
        refine lv_iconst (v := 3) hx hb dX8_byTurns_53 (by decide) ?_
        refine va_iald hx hb hK hP 2 0 rfl rfl (by unfold vp_in; decide) dX8_byTurns_54 ?_
        refine lv_topi (fun v_10 e_10 => ?_)
        obtain rfl : v_10 = (nI w9) := (e_10).trans hM.1
        refine lv_irem hx hb dX8_byTurns_55 (nI_ne0 (by omega) (by omega)) ?_
        refine lv_topi (fun v_11 e_11 => ?_)
        obtain ⟨z_11, hz_11, hze_11, rfl⟩ : ∃ z : Nat, z < w9 ∧ z = h9 % w9 ∧ v_11 = nI z := ⟨h9 % w9, Nat.mod_lt _ (by omega), rfl, e_11.trans (pk_rem (a := h9) (d := w9) (by omega) (by omega) (by omega))⟩
        refine lv_iadd hx hb dX8_byTurns_56 ?_
        refine lv_topi (fun v_12 e_12 => ?_)
        obtain rfl : v_12 = (nI (8 + z_11)) := (e_12).trans (nI_add 8 z_11)
        refine lv_istore_n (lv' := [(3, .int (nI (8 + z_11))), (0, .ref mo), (1, .int (nI j_2)), (2, .int (nI j_5))]) hx hb dX8_byTurns_57 rfl hl (by decide) rfl (fun ls hl => ?_)
        refine lv_iconst (v := 0) hx hb dX8_byTurns_58 (by decide) ?_
        refine lv_istore (lv' := [(4, .int 0), (3, .int (nI (8 + z_11))), (0, .ref mo), (1, .int (nI j_2)), (2, .int (nI j_5))]) hx hb dX8_byTurns_59 hl (by decide) rfl (fun ls hl => ?_)
        refine lp_go (σ := (Nat → Int32) × (Nat → Int32)) (fun ii (st : (Nat → Int32) × (Nat → Int32)) H locs ls => match st with | (w_113, w_114) => lv_has ls 8 [(4, .int (nI ii)), (3, .int (nI (8 + z_11))), (0, .ref mo), (1, .int (nI j_2)), (2, .int (nI j_5))] ∧ va_P (dC, dI) vwCl [(xI m_wo cI 16 w_113), (xo_8_rrriirrriiiiiiirrirrrrri mo m_la m_sz m_it ms mt m_st m_mv m_tp (nI mz) ml (nI mp) mk mv mb mw m_rd m_ac (nI ma) m_as m_wo m_ik m_ke m_tr (nI mx)), (xI m_st cI 38 w_114), (xI m_as cI 38 fan_8)] H ∧ va_D A [(xI m_wo cI 16 w_113), (xo_8_rrriirrriiiiiiirrirrrrri mo m_la m_sz m_it ms mt m_st m_mv m_tp (nI mz) ml (nI mp) mk mv mb mw m_rd m_ac (nI ma) m_as m_wo m_ik m_ke m_tr (nI mx)), (xI m_st cI 38 w_114), (xI m_as cI 38 fan_8)] ∧ va_S A s.heap H locs ∧ okM w_114 w9 k9 h9 ∧ (m38 w_114 = m38 fs)) sh ?_ ?_ 0 (by omega) (fw, fs) ⟨lv_sub hl [0, 1, 2, 3, 4] rfl, hP.sub (ws' := [(xI m_wo cI 16 fw), (xo_8_rrriirrriiiiiiirrirrrrri mo m_la m_sz m_it ms mt m_st m_mv m_tp (nI mz) ml (nI mp) mk mv mb mw m_rd m_ac (nI ma) m_as m_wo m_ik m_ke m_tr (nI mx)), (xI m_st cI 38 fs), (xI m_as cI 38 fan_8)]) [0, 1, 2, 3] rfl, hD.sub (ws' := [(xI m_wo cI 16 fw), (xo_8_rrriirrriiiiiiirrirrrrri mo m_la m_sz m_it ms mt m_st m_mv m_tp (nI mz) ml (nI mp) mk mv mb mw m_rd m_ac (nI ma) m_as m_wo m_ik m_ke m_tr (nI mx)), (xI m_st cI 38 fs), (xI m_as cI 38 fan_8)]) [0, 1, 2, 3] (by decide +kernel) rfl, hS, hM, rfl⟩
        · rintro ii ⟨w_113, w_114⟩ H locs ls hii ⟨hl, hP, hD, hS, hMl, haf_0⟩ ih
          refine lv_iload hx hb dX8_byTurns_61 (lv_at hl 0 rfl) ?_
          refine lv_iconst (v := 1) hx hb dX8_byTurns_63 (by decide) ?_
          refine lv_iload_n hx hb dX8_byTurns_64 rfl (lv_at hl 3 rfl) ?_
          refine lv_ishl hx hb dX8_byTurns_65 ?_
          refine lv_topi (fun v_217 e_217 => ?_)
          obtain rfl : v_217 = (nI sh) := (e_217).trans hsh
          refine lv_icmp_ge (tgt := 189) hx hb dX8_byTurns_66 (by decide) (fun c_ => absurd c_ (fun q_ => absurd ((nI_leI (a := sh) (b := ii) (by omega) (by omega)).mp q_) (by omega))) (fun _ => ?_)
          refine lv_iconst (v := 0) hx hb dX8_byTurns_69 (by decide) ?_
          refine lv_istore (lv' := [(5, .int 0), (4, .int (nI ii)), (3, .int (nI (8 + z_11))), (0, .ref mo), (1, .int (nI j_2)), (2, .int (nI j_5))]) hx hb dX8_byTurns_70 hl (by decide) rfl (fun ls hl => ?_)
          refine lp_go (σ := (Nat → Int32)) (fun ii1 (st : (Nat → Int32)) H locs ls => match st with | w_250 => lv_has ls 8 [(5, .int (nI ii1)), (4, .int (nI ii)), (3, .int (nI (8 + z_11))), (0, .ref mo), (1, .int (nI j_2)), (2, .int (nI j_5))] ∧ va_P (dC, dI) vwCl [(xI m_wo cI 16 w_113), (xo_8_rrriirrriiiiiiirrirrrrri mo m_la m_sz m_it ms mt m_st m_mv m_tp (nI mz) ml (nI mp) mk mv mb mw m_rd m_ac (nI ma) m_as m_wo m_ik m_ke m_tr (nI mx)), (xI m_st cI 38 w_250), (xI m_as cI 38 fan_8)] H ∧ va_D A [(xI m_wo cI 16 w_113), (xo_8_rrriirrriiiiiiirrirrrrri mo m_la m_sz m_it ms mt m_st m_mv m_tp (nI mz) ml (nI mp) mk mv mb mw m_rd m_ac (nI ma) m_as m_wo m_ik m_ke m_tr (nI mx)), (xI m_st cI 38 w_250), (xI m_as cI 38 fan_8)] ∧ va_S A s.heap H locs ∧ okM w_250 w9 k9 h9) j_2 ?_ ?_ 0 (by omega) (w_114) ⟨lv_sub hl [0, 1, 2, 3, 4, 5] rfl, hP.sub (ws' := [(xI m_wo cI 16 w_113), (xo_8_rrriirrriiiiiiirrirrrrri mo m_la m_sz m_it ms mt m_st m_mv m_tp (nI mz) ml (nI mp) mk mv mb mw m_rd m_ac (nI ma) m_as m_wo m_ik m_ke m_tr (nI mx)), (xI m_st cI 38 w_114), (xI m_as cI 38 fan_8)]) [0, 1, 2, 3] rfl, hD.sub (ws' := [(xI m_wo cI 16 w_113), (xo_8_rrriirrriiiiiiirrirrrrri mo m_la m_sz m_it ms mt m_st m_mv m_tp (nI mz) ml (nI mp) mk mv mb mw m_rd m_ac (nI ma) m_as m_wo m_ik m_ke m_tr (nI mx)), (xI m_st cI 38 w_114), (xI m_as cI 38 fan_8)]) [0, 1, 2, 3] (by decide +kernel) rfl, hS, hMl⟩
          · rintro ii1 w_250 H locs ls hii1 ⟨hl, hP, hD, hS, hMl⟩ ih
            refine lv_iload hx hb dX8_byTurns_72 (lv_at hl 0 rfl) ?_
            refine lv_iload_n hx hb dX8_byTurns_74 rfl (lv_at hl 4 rfl) ?_
            refine lv_icmp_ge (tgt := 171) hx hb dX8_byTurns_75 (by decide) (fun c_ => absurd c_ (fun q_ => absurd ((nI_leI (a := j_2) (b := ii1) (by omega) (by omega)).mp q_) (by omega))) (fun _ => ?_)
            refine lv_iload hx hb dX8_byTurns_78 (lv_at hl 1 rfl) ?_
            refine lv_iload_n hx hb dX8_byTurns_80 rfl (lv_at hl 4 rfl) ?_
            refine lv_iconst (v := 1) hx hb dX8_byTurns_81 (by decide) ?_
            refine lv_isub hx hb dX8_byTurns_82 ?_
            refine lv_topi (fun v_284 e_284 => ?_)
            refine lv_iload hx hb dX8_byTurns_83 (lv_at hl 0 rfl) ?_
            refine lv_isub hx hb dX8_byTurns_85 ?_
            refine lv_topi (fun v_285 e_285 => ?_)
            have hPc_286 := hP.sub (ws' := []) [] rfl
            refine vp_callSi (W.runS (As := [.int (nI ii), .int v_285]) (rest := []) ⟨hx, hb, hml, hown, hts⟩ (r_X8_has l dC dI cI cZ cL cJ (nI ii) v_285 ) (va_cwS 2 hts gX8_byTurns_X8_has rfl rfl rfl (by decide +kernel) ⟨Nat.le_of_ble_eq_true rfl, Nat.le_of_ble_eq_true rfl⟩) (psP hK hPc_286) rfl rfl hl.1 rfl (lv_room (Nat.le_of_ble_eq_true rfl)) dX8_byTurns_86 ⟨Nat.le_of_ble_eq_true rfl, Nat.le_of_ble_eq_true rfl⟩) (fun r_286 h_286 => ?_)
            rcases h_286 with ⟨h_286, f_286_0_0⟩ | ⟨h_286, f_286_1_0⟩
            · subst h_286
              refine lv_istore (lv' := [(6, .int 0), (5, .int (nI ii1)), (4, .int (nI ii)), (3, .int (nI (8 + z_11))), (0, .ref mo), (1, .int (nI j_2)), (2, .int (nI j_5))]) hx hb dX8_byTurns_89 hl (by decide) rfl (fun ls hl => ?_)
              refine lv_aload_n hx hb dX8_byTurns_91 rfl (lv_at hl 4 rfl) ?_
              refine va_get (D := (dC, dI)) (ci := 8) (v := .ref m_st) (C := RX8) (T := TX8) (N := 24) hx hb hts i_X8_byTurns_X8 hown hK hP 1 rfl rfl 5 (by decide) (hts _ mx_X8_byTurns_6) (fun _ h9 => h9) rfl dX8_byTurns_92 ?_
              refine lv_bipush (v := 6) hx hb dX8_byTurns_95 (by decide) ?_
              refine lv_iload hx hb dX8_byTurns_97 (lv_at hl 0 rfl) ?_
              refine lv_if_eq (tgt := 121) hx hb dX8_byTurns_99 (by decide) (fun _ => ?_) (fun c_ => absurd (by decide) c_)
              refine lv_aload_n hx hb dX8_byTurns_121 rfl (lv_at hl 4 rfl) ?_
              refine va_get (D := (dC, dI)) (ci := 8) (v := .ref m_st) (C := RX8) (T := TX8) (N := 24) hx hb hts i_X8_byTurns_X8 hown hK hP 1 rfl rfl 5 (by decide) (hts _ mx_X8_byTurns_6) (fun _ h9 => h9) rfl dX8_byTurns_122 ?_
              refine lv_bipush (v := 6) hx hb dX8_byTurns_125 (by decide) ?_
              refine va_iald hx hb hK hP 2 0 rfl rfl (by unfold vp_in; decide) dX8_byTurns_127 ?_
              refine lv_topi (fun v_288 e_288 => ?_)
              refine va_iast hx hb hK hP hD hS 2 0 rfl rfl (by unfold vp_in; decide) dX8_byTurns_128 (fun H locs hP hD hS => ?_)
              generalize hg_289 : upd w_250 (6 : Int32).toNatClampNeg v_288 = g_289 at hP hD
              have hM_289 : okM g_289 w9 k9 h9 := okM_off (i := 6) hMl hg_289 (by omega) (by omega) (by omega) (by omega) (by omega)
              have hP : va_P (dC, dI) vwCl [(xI m_wo cI 16 w_113), (xo_8_rrriirrriiiiiiirrirrrrri mo m_la m_sz m_it ms mt m_st m_mv m_tp (nI mz) ml (nI mp) mk mv mb mw m_rd m_ac (nI ma) m_as m_wo m_ik m_ke m_tr (nI mx)), (xI m_st cI 38 g_289), (xI m_as cI 38 fan_8)] H := hP
              have hD := dto hP hD
              refine lv_aload_n hx hb dX8_byTurns_129 rfl (lv_at hl 4 rfl) ?_
              refine va_get (D := (dC, dI)) (ci := 8) (v := .ref m_st) (C := RX8) (T := TX8) (N := 24) hx hb hts i_X8_byTurns_X8 hown hK hP 1 rfl rfl 5 (by decide) (hts _ mx_X8_byTurns_6) (fun _ h9 => h9) rfl dX8_byTurns_130 ?_
              refine lv_iload_n hx hb dX8_byTurns_133 rfl (lv_at hl 3 rfl) ?_
              refine lv_iload hx hb dX8_byTurns_134 (lv_at hl 0 rfl) ?_
              refine lv_if_eq (tgt := 158) hx hb dX8_byTurns_136 (by decide) (fun _ => ?_) (fun c_ => absurd (by decide) c_)
              refine lv_aload_n hx hb dX8_byTurns_158 rfl (lv_at hl 4 rfl) ?_
              refine va_get (D := (dC, dI)) (ci := 8) (v := .ref m_st) (C := RX8) (T := TX8) (N := 24) hx hb hts i_X8_byTurns_X8 hown hK hP 1 rfl rfl 5 (by decide) (hts _ mx_X8_byTurns_6) (fun _ h9 => h9) rfl dX8_byTurns_159 ?_
              refine lv_iload_n hx hb dX8_byTurns_162 rfl (lv_at hl 3 rfl) ?_
              refine va_iald hx hb hK hP 2 0 rfl rfl (vp_in_nI (by omega) (by omega)) dX8_byTurns_163 ?_
              refine lv_topi (fun v_291 e_291 => ?_)
              refine va_iast hx hb hK hP hD hS 2 0 rfl rfl (vp_in_nI (by omega) (by omega)) dX8_byTurns_164 (fun H locs hP hD hS => ?_)
              generalize hg_292 : upd g_289 ((nI (8 + z_11)) : Int32).toNatClampNeg v_291 = g_292 at hP hD
              have hM_292 : okM g_292 w9 k9 h9 := okM_off (i := (8 + z_11)) hM_289 hg_292 (by omega) (by omega) (by omega) (by omega) (by omega)
              have hP : va_P (dC, dI) vwCl [(xI m_wo cI 16 w_113), (xo_8_rrriirrriiiiiiirrirrrrri mo m_la m_sz m_it ms mt m_st m_mv m_tp (nI mz) ml (nI mp) mk mv mb mw m_rd m_ac (nI ma) m_as m_wo m_ik m_ke m_tr (nI mx)), (xI m_st cI 38 g_292), (xI m_as cI 38 fan_8)] H := hP
              have hD := dto hP hD
              refine lv_iinc (v := (nI (ii1 + 1))) (lv' := [(5, .int (nI (ii1 + 1))), (6, .int 0), (4, .int (nI ii)), (3, .int (nI (8 + z_11))), (0, .ref mo), (1, .int (nI j_2)), (2, .int (nI j_5))]) hx hb dX8_byTurns_165 hl (k := 1) rfl (nI_add ii1 1) (by decide) rfl (fun ls hl => ?_)
              refine lv_goto (tgt := 72) hx hb dX8_byTurns_168 (by decide) ?_
              exact ih (g_292) _ _ _ ⟨lv_sub hl [0, 2, 3, 4, 5, 6] rfl, hP.sub (ws' := [(xI m_wo cI 16 w_113), (xo_8_rrriirrriiiiiiirrirrrrri mo m_la m_sz m_it ms mt m_st m_mv m_tp (nI mz) ml (nI mp) mk mv mb mw m_rd m_ac (nI ma) m_as m_wo m_ik m_ke m_tr (nI mx)), (xI m_st cI 38 g_292), (xI m_as cI 38 fan_8)]) [0, 1, 2, 3] rfl, hD.sub (ws' := [(xI m_wo cI 16 w_113), (xo_8_rrriirrriiiiiiirrirrrrri mo m_la m_sz m_it ms mt m_st m_mv m_tp (nI mz) ml (nI mp) mk mv mb mw m_rd m_ac (nI ma) m_as m_wo m_ik m_ke m_tr (nI mx)), (xI m_st cI 38 g_292), (xI m_as cI 38 fan_8)]) [0, 1, 2, 3] (by decide +kernel) rfl, hS, hM_292⟩
            · subst h_286
              refine lv_istore (lv' := [(6, .int 1), (5, .int (nI ii1)), (4, .int (nI ii)), (3, .int (nI (8 + z_11))), (0, .ref mo), (1, .int (nI j_2)), (2, .int (nI j_5))]) hx hb dX8_byTurns_89 hl (by decide) rfl (fun ls hl => ?_)
              refine lv_aload_n hx hb dX8_byTurns_91 rfl (lv_at hl 4 rfl) ?_
              refine va_get (D := (dC, dI)) (ci := 8) (v := .ref m_st) (C := RX8) (T := TX8) (N := 24) hx hb hts i_X8_byTurns_X8 hown hK hP 1 rfl rfl 5 (by decide) (hts _ mx_X8_byTurns_6) (fun _ h9 => h9) rfl dX8_byTurns_92 ?_
              refine lv_bipush (v := 6) hx hb dX8_byTurns_95 (by decide) ?_
              refine lv_iload hx hb dX8_byTurns_97 (lv_at hl 0 rfl) ?_
              refine lv_if_eq (tgt := 121) hx hb dX8_byTurns_99 (by decide) (fun c_ => absurd c_ (by decide)) (fun _ => ?_)
              refine lv_iload hx hb dX8_byTurns_102 (lv_at hl 1 rfl) ?_
              refine lv_iconst (v := 2) hx hb dX8_byTurns_104 (by decide) ?_
              refine lv_irem hx hb dX8_byTurns_105 (by decide) ?_
              refine lv_topi (fun v_294 e_294 => ?_)
              obtain ⟨z_294, hz_294, hze_294, rfl⟩ : ∃ z : Nat, z < 2 ∧ z = ii1 % 2 ∧ v_294 = nI z := ⟨ii1 % 2, Nat.mod_lt _ (by omega), rfl, e_294.trans (pk_rem (a := ii1) (d := 2) (by omega) (by omega) (by omega))⟩
              refine jn (σ := (Int32)) (fun (st : (Int32)) H locs g => match st with | w_299 => ∃ ls : Array Slot, g = F0 m 128 ls [.int w_299, .int 6, .ref m_st] ∧ lv_has ls 8 [(6, .int 1), (5, .int (nI ii1)), (4, .int (nI ii)), (3, .int (nI (8 + z_11))), (0, .ref mo), (1, .int (nI j_2)), (2, .int (nI j_5))] ∧ va_P (dC, dI) vwCl [(xI m_wo cI 16 w_113), (xo_8_rrriirrriiiiiiirrirrrrri mo m_la m_sz m_it ms mt m_st m_mv m_tp (nI mz) ml (nI mp) mk mv mb mw m_rd m_ac (nI ma) m_as m_wo m_ik m_ke m_tr (nI mx)), (xI m_st cI 38 w_250), (xI m_as cI 38 fan_8)] H ∧ va_D A [(xI m_wo cI 16 w_113), (xo_8_rrriirrriiiiiiirrirrrrri mo m_la m_sz m_it ms mt m_st m_mv m_tp (nI mz) ml (nI mp) mk mv mb mw m_rd m_ac (nI ma) m_as m_wo m_ik m_ke m_tr (nI mx)), (xI m_st cI 38 w_250), (xI m_as cI 38 fan_8)] ∧ va_S A s.heap H locs ∧ okM w_250 w9 k9 h9) ?_ ?_
              · rintro w_299 H locs _ ⟨ls, rfl, hl, hP, hD, hS, hMl⟩
                refine va_iast hx hb hK hP hD hS 2 0 rfl rfl (by unfold vp_in; decide) dX8_byTurns_128 (fun H locs hP hD hS => ?_)
                generalize hg_301 : upd w_250 (6 : Int32).toNatClampNeg w_299 = g_301 at hP hD
                have hM_301 : okM g_301 w9 k9 h9 := okM_off (i := 6) hMl hg_301 (by omega) (by omega) (by omega) (by omega) (by omega)
                have hP : va_P (dC, dI) vwCl [(xI m_wo cI 16 w_113), (xo_8_rrriirrriiiiiiirrirrrrri mo m_la m_sz m_it ms mt m_st m_mv m_tp (nI mz) ml (nI mp) mk mv mb mw m_rd m_ac (nI ma) m_as m_wo m_ik m_ke m_tr (nI mx)), (xI m_st cI 38 g_301), (xI m_as cI 38 fan_8)] H := hP
                have hD := dto hP hD
                refine lv_aload_n hx hb dX8_byTurns_129 rfl (lv_at hl 4 rfl) ?_
                refine va_get (D := (dC, dI)) (ci := 8) (v := .ref m_st) (C := RX8) (T := TX8) (N := 24) hx hb hts i_X8_byTurns_X8 hown hK hP 1 rfl rfl 5 (by decide) (hts _ mx_X8_byTurns_6) (fun _ h9 => h9) rfl dX8_byTurns_130 ?_
                refine lv_iload_n hx hb dX8_byTurns_133 rfl (lv_at hl 3 rfl) ?_
                refine lv_iload hx hb dX8_byTurns_134 (lv_at hl 0 rfl) ?_
                refine lv_if_eq (tgt := 158) hx hb dX8_byTurns_136 (by decide) (fun c_ => absurd c_ (by decide)) (fun _ => ?_)
                refine lv_iload hx hb dX8_byTurns_139 (lv_at hl 1 rfl) ?_
                refine lv_iconst (v := 2) hx hb dX8_byTurns_141 (by decide) ?_
                refine lv_irem hx hb dX8_byTurns_142 (by decide) ?_
                refine lv_topi (fun v_303 e_303 => ?_)
                obtain ⟨z_303, hz_303, hze_303, rfl⟩ : ∃ z : Nat, z < 2 ∧ z = ii1 % 2 ∧ v_303 = nI z := ⟨ii1 % 2, Nat.mod_lt _ (by omega), rfl, e_303.trans (pk_rem (a := ii1) (d := 2) (by omega) (by omega) (by omega))⟩
                refine lv_iconst (v := 1) hx hb dX8_byTurns_143 (by decide) ?_
                refine lv_icmp_ne (tgt := 158) hx hb dX8_byTurns_144 (by decide) (fun c_304 => ?_) (fun c_304 => ?_)
                · have c_304 : ¬ (z_303 = 1) := fun q_ => c_304 ((nI_eq (a := z_303) (b := 1) (by omega) (by omega)).mpr q_)
                  refine lv_aload_n hx hb dX8_byTurns_158 rfl (lv_at hl 4 rfl) ?_
                  refine va_get (D := (dC, dI)) (ci := 8) (v := .ref m_st) (C := RX8) (T := TX8) (N := 24) hx hb hts i_X8_byTurns_X8 hown hK hP 1 rfl rfl 5 (by decide) (hts _ mx_X8_byTurns_6) (fun _ h9 => h9) rfl dX8_byTurns_159 ?_
                  refine lv_iload_n hx hb dX8_byTurns_162 rfl (lv_at hl 3 rfl) ?_
                  refine va_iald hx hb hK hP 2 0 rfl rfl (vp_in_nI (by omega) (by omega)) dX8_byTurns_163 ?_
                  refine lv_topi (fun v_305 e_305 => ?_)
                  refine va_iast hx hb hK hP hD hS 2 0 rfl rfl (vp_in_nI (by omega) (by omega)) dX8_byTurns_164 (fun H locs hP hD hS => ?_)
                  generalize hg_306 : upd g_301 ((nI (8 + z_11)) : Int32).toNatClampNeg v_305 = g_306 at hP hD
                  have hM_306 : okM g_306 w9 k9 h9 := okM_off (i := (8 + z_11)) hM_301 hg_306 (by omega) (by omega) (by omega) (by omega) (by omega)
                  have hP : va_P (dC, dI) vwCl [(xI m_wo cI 16 w_113), (xo_8_rrriirrriiiiiiirrirrrrri mo m_la m_sz m_it ms mt m_st m_mv m_tp (nI mz) ml (nI mp) mk mv mb mw m_rd m_ac (nI ma) m_as m_wo m_ik m_ke m_tr (nI mx)), (xI m_st cI 38 g_306), (xI m_as cI 38 fan_8)] H := hP
                  have hD := dto hP hD
                  refine lv_iinc (v := (nI (ii1 + 1))) (lv' := [(5, .int (nI (ii1 + 1))), (6, .int 1), (4, .int (nI ii)), (3, .int (nI (8 + z_11))), (0, .ref mo), (1, .int (nI j_2)), (2, .int (nI j_5))]) hx hb dX8_byTurns_165 hl (k := 1) rfl (nI_add ii1 1) (by decide) rfl (fun ls hl => ?_)
                  refine lv_goto (tgt := 72) hx hb dX8_byTurns_168 (by decide) ?_
                  exact ih (g_306) _ _ _ ⟨lv_sub hl [0, 2, 3, 4, 5, 6] rfl, hP.sub (ws' := [(xI m_wo cI 16 w_113), (xo_8_rrriirrriiiiiiirrirrrrri mo m_la m_sz m_it ms mt m_st m_mv m_tp (nI mz) ml (nI mp) mk mv mb mw m_rd m_ac (nI ma) m_as m_wo m_ik m_ke m_tr (nI mx)), (xI m_st cI 38 g_306), (xI m_as cI 38 fan_8)]) [0, 1, 2, 3] rfl, hD.sub (ws' := [(xI m_wo cI 16 w_113), (xo_8_rrriirrriiiiiiirrirrrrri mo m_la m_sz m_it ms mt m_st m_mv m_tp (nI mz) ml (nI mp) mk mv mb mw m_rd m_ac (nI ma) m_as m_wo m_ik m_ke m_tr (nI mx)), (xI m_st cI 38 g_306), (xI m_as cI 38 fan_8)]) [0, 1, 2, 3] (by decide +kernel) rfl, hS, hM_306⟩
                · have c_304 : z_303 = 1 := (nI_eq (a := z_303) (b := 1) (by omega) (by omega)).mp c_304
                  refine lv_iconst (v := 4) hx hb dX8_byTurns_147 (by decide) ?_
                  refine lv_aload_n hx hb dX8_byTurns_148 rfl (lv_at hl 4 rfl) ?_
                  refine va_get (D := (dC, dI)) (ci := 8) (v := .ref m_st) (C := RX8) (T := TX8) (N := 24) hx hb hts i_X8_byTurns_X8 hown hK hP 1 rfl rfl 5 (by decide) (hts _ mx_X8_byTurns_6) (fun _ h9 => h9) rfl dX8_byTurns_149 ?_
                  refine lv_iload_n hx hb dX8_byTurns_152 rfl (lv_at hl 3 rfl) ?_
                  refine va_iald hx hb hK hP 2 0 rfl rfl (vp_in_nI (by omega) (by omega)) dX8_byTurns_153 ?_
                  refine lv_topi (fun v_307 e_307 => ?_)
                  refine lv_isub hx hb dX8_byTurns_154 ?_
                  refine lv_topi (fun v_308 e_308 => ?_)
                  refine lv_goto (tgt := 164) hx hb dX8_byTurns_155 (by decide) ?_
                  refine va_iast hx hb hK hP hD hS 2 0 rfl rfl (vp_in_nI (by omega) (by omega)) dX8_byTurns_164 (fun H locs hP hD hS => ?_)
                  generalize hg_309 : upd g_301 ((nI (8 + z_11)) : Int32).toNatClampNeg v_308 = g_309 at hP hD
                  have hM_309 : okM g_309 w9 k9 h9 := okM_off (i := (8 + z_11)) hM_301 hg_309 (by omega) (by omega) (by omega) (by omega) (by omega)
                  have hP : va_P (dC, dI) vwCl [(xI m_wo cI 16 w_113), (xo_8_rrriirrriiiiiiirrirrrrri mo m_la m_sz m_it ms mt m_st m_mv m_tp (nI mz) ml (nI mp) mk mv mb mw m_rd m_ac (nI ma) m_as m_wo m_ik m_ke m_tr (nI mx)), (xI m_st cI 38 g_309), (xI m_as cI 38 fan_8)] H := hP
                  have hD := dto hP hD
                  refine lv_iinc (v := (nI (ii1 + 1))) (lv' := [(5, .int (nI (ii1 + 1))), (6, .int 1), (4, .int (nI ii)), (3, .int (nI (8 + z_11))), (0, .ref mo), (1, .int (nI j_2)), (2, .int (nI j_5))]) hx hb dX8_byTurns_165 hl (k := 1) rfl (nI_add ii1 1) (by decide) rfl (fun ls hl => ?_)
                  refine lv_goto (tgt := 72) hx hb dX8_byTurns_168 (by decide) ?_
                  exact ih (g_309) _ _ _ ⟨lv_sub hl [0, 2, 3, 4, 5, 6] rfl, hP.sub (ws' := [(xI m_wo cI 16 w_113), (xo_8_rrriirrriiiiiiirrirrrrri mo m_la m_sz m_it ms mt m_st m_mv m_tp (nI mz) ml (nI mp) mk mv mb mw m_rd m_ac (nI ma) m_as m_wo m_ik m_ke m_tr (nI mx)), (xI m_st cI 38 g_309), (xI m_as cI 38 fan_8)]) [0, 1, 2, 3] rfl, hD.sub (ws' := [(xI m_wo cI 16 w_113), (xo_8_rrriirrriiiiiiirrirrrrri mo m_la m_sz m_it ms mt m_st m_mv m_tp (nI mz) ml (nI mp) mk mv mb mw m_rd m_ac (nI ma) m_as m_wo m_ik m_ke m_tr (nI mx)), (xI m_st cI 38 g_309), (xI m_as cI 38 fan_8)]) [0, 1, 2, 3] (by decide +kernel) rfl, hS, hM_309⟩
              · intro jk_300
                refine lv_if_ne (tgt := 121) hx hb dX8_byTurns_106 (by decide) (fun c_310 => ?_) (fun c_310 => ?_)
                · have c_310 : ¬ (z_294 = 0) := fun q_ => c_310 ((nI_eq (a := z_294) (b := 0) (by omega) (by omega)).mpr q_)
                  refine lv_aload_n hx hb dX8_byTurns_121 rfl (lv_at hl 4 rfl) ?_
                  refine va_get (D := (dC, dI)) (ci := 8) (v := .ref m_st) (C := RX8) (T := TX8) (N := 24) hx hb hts i_X8_byTurns_X8 hown hK hP 1 rfl rfl 5 (by decide) (hts _ mx_X8_byTurns_6) (fun _ h9 => h9) rfl dX8_byTurns_122 ?_
                  refine lv_bipush (v := 6) hx hb dX8_byTurns_125 (by decide) ?_
                  refine va_iald hx hb hK hP 2 0 rfl rfl (by unfold vp_in; decide) dX8_byTurns_127 ?_
                  refine lv_topi (fun v_311 e_311 => ?_)
                  exact jk_300 (v_311) _ _ _ ⟨ls, rfl, lv_sub hl [0, 1, 2, 3, 4, 5, 6] rfl, hP.sub (ws' := [(xI m_wo cI 16 w_113), (xo_8_rrriirrriiiiiiirrirrrrri mo m_la m_sz m_it ms mt m_st m_mv m_tp (nI mz) ml (nI mp) mk mv mb mw m_rd m_ac (nI ma) m_as m_wo m_ik m_ke m_tr (nI mx)), (xI m_st cI 38 w_250), (xI m_as cI 38 fan_8)]) [0, 1, 2, 3] rfl, hD.sub (ws' := [(xI m_wo cI 16 w_113), (xo_8_rrriirrriiiiiiirrirrrrri mo m_la m_sz m_it ms mt m_st m_mv m_tp (nI mz) ml (nI mp) mk mv mb mw m_rd m_ac (nI ma) m_as m_wo m_ik m_ke m_tr (nI mx)), (xI m_st cI 38 w_250), (xI m_as cI 38 fan_8)]) [0, 1, 2, 3] (by decide +kernel) rfl, hS, hMl⟩
                · have c_310 : z_294 = 0 := (nI_eq (a := z_294) (b := 0) (by omega) (by omega)).mp c_310
                  refine lv_iconst (v := 1) hx hb dX8_byTurns_109 (by decide) ?_
                  refine lv_aload_n hx hb dX8_byTurns_110 rfl (lv_at hl 4 rfl) ?_
                  refine va_get (D := (dC, dI)) (ci := 8) (v := .ref m_st) (C := RX8) (T := TX8) (N := 24) hx hb hts i_X8_byTurns_X8 hown hK hP 1 rfl rfl 5 (by decide) (hts _ mx_X8_byTurns_6) (fun _ h9 => h9) rfl dX8_byTurns_111 ?_
                  refine lv_bipush (v := 6) hx hb dX8_byTurns_114 (by decide) ?_
                  refine va_iald hx hb hK hP 2 0 rfl rfl (by unfold vp_in; decide) dX8_byTurns_116 ?_
                  refine lv_topi (fun v_312 e_312 => ?_)
                  refine lv_isub hx hb dX8_byTurns_117 ?_
                  refine lv_topi (fun v_313 e_313 => ?_)
                  refine lv_goto (tgt := 128) hx hb dX8_byTurns_118 (by decide) ?_
                  exact jk_300 (v_313) _ _ _ ⟨ls, rfl, lv_sub hl [0, 1, 2, 3, 4, 5, 6] rfl, hP.sub (ws' := [(xI m_wo cI 16 w_113), (xo_8_rrriirrriiiiiiirrirrrrri mo m_la m_sz m_it ms mt m_st m_mv m_tp (nI mz) ml (nI mp) mk mv mb mw m_rd m_ac (nI ma) m_as m_wo m_ik m_ke m_tr (nI mx)), (xI m_st cI 38 w_250), (xI m_as cI 38 fan_8)]) [0, 1, 2, 3] rfl, hD.sub (ws' := [(xI m_wo cI 16 w_113), (xo_8_rrriirrriiiiiiirrirrrrri mo m_la m_sz m_it ms mt m_st m_mv m_tp (nI mz) ml (nI mp) mk mv mb mw m_rd m_ac (nI ma) m_as m_wo m_ik m_ke m_tr (nI mx)), (xI m_st cI 38 w_250), (xI m_as cI 38 fan_8)]) [0, 1, 2, 3] (by decide +kernel) rfl, hS, hMl⟩
          · rintro w_250 H locs ls ⟨hl, hP, hD, hS, hMl⟩
            refine lv_iload hx hb dX8_byTurns_72 (lv_at hl 0 rfl) ?_
            refine lv_iload_n hx hb dX8_byTurns_74 rfl (lv_at hl 4 rfl) ?_
            refine lv_icmp_ge (tgt := 171) hx hb dX8_byTurns_75 (by decide) (fun _ => ?_) (fun c_ => absurd ((nI_leI (a := j_2) (b := j_2) (by omega) (by omega)).mpr (by omega)) c_)
            refine lv_aload_n hx hb dX8_byTurns_171 rfl (lv_at hl 3 rfl) ?_
            refine va_get (D := (dC, dI)) (ci := 8) (v := .ref m_wo) (C := RX8) (T := TX8) (N := 24) hx hb hts i_X8_byTurns_X8 hown hK hP 1 rfl rfl 19 (by decide) (hts _ mx_X8_byTurns_7) (fun _ h9 => h9) rfl dX8_byTurns_172 ?_
            refine lv_iload hx hb dX8_byTurns_175 (lv_at hl 1 rfl) ?_
            refine lv_aload_n hx hb dX8_byTurns_177 rfl (lv_at hl 3 rfl) ?_
            refine lv_iload_n hx hb dX8_byTurns_178 rfl (lv_at hl 5 rfl) ?_
            have hc_315 := cutW (wc := [(xo_8_rrriirrriiiiiiirrirrrrri mo m_la m_sz m_it ms mt m_st m_mv m_tp (nI mz) ml (nI mp) mk mv mb mw m_rd m_ac (nI ma) m_as m_wo m_ik m_ke m_tr (nI mx)), (xI m_st cI 38 w_250), (xI m_as cI 38 fan_8)]) hP hD hS hA [1, 2, 3] (by decide +kernel) rfl
            refine va_calli (va_runV (As := [.int (nI j_5)]) (rest := [.int (nI ii), .ref m_wo]) ⟨hx, hb, hml, hown, hts⟩ (r_X8_mealBehind l dC dI cI cZ cL cJ H.size mo m_la m_sz m_it m_st m_mv m_tp m_rd m_ac m_as m_wo m_ik m_ke m_tr ms mt ml mk mv mb mw mz mp ma mx w_250 w9 k9 h9 fan_8 j_5 (hMl) (by omega) (by omega) (by omega)) (cwV 1 hts gX8_byTurns_X8_mealBehind rfl rfl rfl (by decide +kernel) ⟨Nat.le_of_ble_eq_true rfl, Nat.le_of_ble_eq_true rfl⟩) (pvW 8 1 hK hP rfl rfl hc_315) rfl rfl hl.1 rfl (lv_room (Nat.le_of_ble_eq_true rfl)) dX8_byTurns_179 ⟨Nat.le_of_ble_eq_true rfl, Nat.le_of_ble_eq_true rfl⟩) hS (fun q _ h => hc_315.2.2 q h) hc_315.2.2 (fun r_315 u_315 t_315 H1 locs ht hvm h_315 hB hz1 hk1 hS => ?_)
            refine xl_1_3 hB (fun fsn_315 hP1 hD1 hF_315_0 => ?_)
            clear hB
            rw [ht] at hP1
            obtain ⟨hP, hD⟩ := va_join (wr := [(xI m_wo cI 16 w_113)]) (w1 := [(xo_8_rrriirrriiiiiiirrirrrrri mo m_la m_sz m_it ms mt m_st m_mv m_tp (nI mz) ml (nI mp) mk mv mb mw m_rd m_ac (nI ma) m_as m_wo m_ik m_ke m_tr (nI mx)), (xI m_st cI 38 fsn_315), (xI m_as cI 38 fan_8)]) hP hD [1, 2, 3] [0] rfl rfl (by decide +kernel) (by decide +kernel) hk1 hc_315.2.2 hP1 hD1
            generalize H1 = H at hP hS ⊢
            have hP : va_P (dC, dI) vwCl [(xI m_wo cI 16 w_113), (xo_8_rrriirrriiiiiiirrirrrrri mo m_la m_sz m_it ms mt m_st m_mv m_tp (nI mz) ml (nI mp) mk mv mb mw m_rd m_ac (nI ma) m_as m_wo m_ik m_ke m_tr (nI mx)), (xI m_st cI 38 fsn_315), (xI m_as cI 38 fan_8)] H := hP
            have hD := dto hP hD
            have hT_315 := okM_eq hA_8 hF_315_0
            refine va_iast hx hb hK hP hD hS 0 0 rfl rfl (vp_in_nI (by omega) (by omega)) dX8_byTurns_182 (fun H locs hP hD hS => ?_)
            generalize hg_316 : upd w_113 ((nI ii) : Int32).toNatClampNeg r_315 = g_316 at hP hD
            have hP : va_P (dC, dI) vwCl [(xI m_wo cI 16 g_316), (xo_8_rrriirrriiiiiiirrirrrrri mo m_la m_sz m_it ms mt m_st m_mv m_tp (nI mz) ml (nI mp) mk mv mb mw m_rd m_ac (nI ma) m_as m_wo m_ik m_ke m_tr (nI mx)), (xI m_st cI 38 fsn_315), (xI m_as cI 38 fan_8)] H := hP
            have hD := dto hP hD
            refine lv_iinc (v := (nI (ii + 1))) (lv' := [(4, .int (nI (ii + 1))), (5, .int (nI j_2)), (3, .int (nI (8 + z_11))), (0, .ref mo), (1, .int (nI j_2)), (2, .int (nI j_5))]) hx hb dX8_byTurns_183 hl (k := 1) rfl (nI_add ii 1) (by decide) rfl (fun ls hl => ?_)
            refine lv_goto (tgt := 61) hx hb dX8_byTurns_186 (by decide) ?_
            exact ih (g_316, fsn_315) _ _ _ ⟨lv_sub hl [0, 2, 3, 4, 5] rfl, hP.sub (ws' := [(xI m_wo cI 16 g_316), (xo_8_rrriirrriiiiiiirrirrrrri mo m_la m_sz m_it ms mt m_st m_mv m_tp (nI mz) ml (nI mp) mk mv mb mw m_rd m_ac (nI ma) m_as m_wo m_ik m_ke m_tr (nI mx)), (xI m_st cI 38 fsn_315), (xI m_as cI 38 fan_8)]) [0, 1, 2, 3] rfl, hD.sub (ws' := [(xI m_wo cI 16 g_316), (xo_8_rrriirrriiiiiiirrirrrrri mo m_la m_sz m_it ms mt m_st m_mv m_tp (nI mz) ml (nI mp) mk mv mb mw m_rd m_ac (nI ma) m_as m_wo m_ik m_ke m_tr (nI mx)), (xI m_st cI 38 fsn_315), (xI m_as cI 38 fan_8)]) [0, 1, 2, 3] (by decide +kernel) rfl, hS, hT_315, ((m38_eq hF_315_0).trans ((m38_eq hF_8_0).trans rfl))⟩
        · rintro ⟨w_113, w_114⟩ H locs ls ⟨hl, hP, hD, hS, hMl, haf_0⟩
          refine lv_iload hx hb dX8_byTurns_61 (lv_at hl 0 rfl) ?_
          refine lv_iconst (v := 1) hx hb dX8_byTurns_63 (by decide) ?_
          refine lv_iload_n hx hb dX8_byTurns_64 rfl (lv_at hl 3 rfl) ?_
          refine lv_ishl hx hb dX8_byTurns_65 ?_
          refine lv_topi (fun v_317 e_317 => ?_)
          obtain rfl : v_317 = (nI sh) := (e_317).trans hsh
          refine lv_icmp_ge (tgt := 189) hx hb dX8_byTurns_66 (by decide) (fun _ => ?_) (fun c_ => absurd ((nI_leI (a := sh) (b := sh) (by omega) (by omega)).mpr (by omega)) c_)
          refine lv_iload_n hx hb dX8_byTurns_189 rfl (lv_at hl 3 rfl) ?_
          refine lv_iconst (v := 1) hx hb dX8_byTurns_190 (by decide) ?_
          refine lv_isub hx hb dX8_byTurns_191 ?_
          refine lv_topi (fun v_319 e_319 => ?_)
          obtain rfl : v_319 = cdn j_2 0 := e_319.trans (cdn_0 j_2)
          refine lv_istore (lv' := [(4, .int (cdn j_2 0)), (3, .int (nI (8 + z_11))), (0, .ref mo), (1, .int (nI j_2)), (2, .int (nI j_5))]) hx hb dX8_byTurns_192 hl (by decide) rfl (fun ls hl => ?_)
          refine lp_go (σ := (Nat → Int32)) (fun ii1 (st : (Nat → Int32)) H locs ls => match st with | w_382 => lv_has ls 8 [(4, .int (cdn j_2 ii1)), (3, .int (nI (8 + z_11))), (0, .ref mo), (1, .int (nI j_2)), (2, .int (nI j_5))] ∧ va_P (dC, dI) vwCl [(xI m_wo cI 16 w_382), (xo_8_rrriirrriiiiiiirrirrrrri mo m_la m_sz m_it ms mt m_st m_mv m_tp (nI mz) ml (nI mp) mk mv mb mw m_rd m_ac (nI ma) m_as m_wo m_ik m_ke m_tr (nI mx)), (xI m_st cI 38 w_114), (xI m_as cI 38 fan_8)] H ∧ va_D A [(xI m_wo cI 16 w_382), (xo_8_rrriirrriiiiiiirrirrrrri mo m_la m_sz m_it ms mt m_st m_mv m_tp (nI mz) ml (nI mp) mk mv mb mw m_rd m_ac (nI ma) m_as m_wo m_ik m_ke m_tr (nI mx)), (xI m_st cI 38 w_114), (xI m_as cI 38 fan_8)] ∧ va_S A s.heap H locs ∧ okM w_114 w9 k9 h9) j_2 ?_ ?_ 0 (by omega) (w_113) ⟨lv_sub hl [0, 1, 2, 3, 4] rfl, hP.sub (ws' := [(xI m_wo cI 16 w_113), (xo_8_rrriirrriiiiiiirrirrrrri mo m_la m_sz m_it ms mt m_st m_mv m_tp (nI mz) ml (nI mp) mk mv mb mw m_rd m_ac (nI ma) m_as m_wo m_ik m_ke m_tr (nI mx)), (xI m_st cI 38 w_114), (xI m_as cI 38 fan_8)]) [0, 1, 2, 3] rfl, hD.sub (ws' := [(xI m_wo cI 16 w_113), (xo_8_rrriirrriiiiiiirrirrrrri mo m_la m_sz m_it ms mt m_st m_mv m_tp (nI mz) ml (nI mp) mk mv mb mw m_rd m_ac (nI ma) m_as m_wo m_ik m_ke m_tr (nI mx)), (xI m_st cI 38 w_114), (xI m_as cI 38 fan_8)]) [0, 1, 2, 3] (by decide +kernel) rfl, hS, hMl⟩
          · rintro ii1 w_382 H locs ls hii1 ⟨hl, hP, hD, hS, hMl⟩ ih
            refine lv_iload hx hb dX8_byTurns_194 (lv_at hl 0 rfl) ?_
            refine lv_if_lt (tgt := 288) hx hb dX8_byTurns_196 (by decide) (fun c_ => absurd c_ (cdn_lt (by omega) hii1)) (fun _ => ?_)
            obtain ⟨sd, hsd, hsd8⟩ := cdn_shl (n := j_2) (i := ii1) (by omega) hii1
            refine lv_iconst (v := 0) hx hb dX8_byTurns_199 (by decide) ?_
            refine lv_istore (lv' := [(5, .int 0), (4, .int (cdn j_2 ii1)), (3, .int (nI (8 + z_11))), (0, .ref mo), (1, .int (nI j_2)), (2, .int (nI j_5))]) hx hb dX8_byTurns_200 hl (by decide) rfl (fun ls hl => ?_)
            refine lp_go (σ := (Nat → Int32)) (fun ii2 (st : (Nat → Int32)) H locs ls => match st with | w_466 => lv_has ls 8 [(5, .int (nI ii2)), (4, .int (cdn j_2 ii1)), (3, .int (nI (8 + z_11))), (0, .ref mo), (1, .int (nI j_2)), (2, .int (nI j_5))] ∧ va_P (dC, dI) vwCl [(xI m_wo cI 16 w_466), (xo_8_rrriirrriiiiiiirrirrrrri mo m_la m_sz m_it ms mt m_st m_mv m_tp (nI mz) ml (nI mp) mk mv mb mw m_rd m_ac (nI ma) m_as m_wo m_ik m_ke m_tr (nI mx)), (xI m_st cI 38 w_114), (xI m_as cI 38 fan_8)] H ∧ va_D A [(xI m_wo cI 16 w_466), (xo_8_rrriirrriiiiiiirrirrrrri mo m_la m_sz m_it ms mt m_st m_mv m_tp (nI mz) ml (nI mp) mk mv mb mw m_rd m_ac (nI ma) m_as m_wo m_ik m_ke m_tr (nI mx)), (xI m_st cI 38 w_114), (xI m_as cI 38 fan_8)] ∧ va_S A s.heap H locs ∧ okM w_114 w9 k9 h9) sd ?_ ?_ 0 (by omega) (w_382) ⟨lv_sub hl [0, 1, 2, 3, 4, 5] rfl, hP.sub (ws' := [(xI m_wo cI 16 w_382), (xo_8_rrriirrriiiiiiirrirrrrri mo m_la m_sz m_it ms mt m_st m_mv m_tp (nI mz) ml (nI mp) mk mv mb mw m_rd m_ac (nI ma) m_as m_wo m_ik m_ke m_tr (nI mx)), (xI m_st cI 38 w_114), (xI m_as cI 38 fan_8)]) [0, 1, 2, 3] rfl, hD.sub (ws' := [(xI m_wo cI 16 w_382), (xo_8_rrriirrriiiiiiirrirrrrri mo m_la m_sz m_it ms mt m_st m_mv m_tp (nI mz) ml (nI mp) mk mv mb mw m_rd m_ac (nI ma) m_as m_wo m_ik m_ke m_tr (nI mx)), (xI m_st cI 38 w_114), (xI m_as cI 38 fan_8)]) [0, 1, 2, 3] (by decide +kernel) rfl, hS, hMl⟩
            · rintro ii2 w_466 H locs ls hii2 ⟨hl, hP, hD, hS, hMl⟩ ih
              refine lv_iload hx hb dX8_byTurns_202 (lv_at hl 0 rfl) ?_
              refine lv_iconst (v := 1) hx hb dX8_byTurns_204 (by decide) ?_
              refine lv_iload hx hb dX8_byTurns_205 (lv_at hl 1 rfl) ?_
              refine lv_ishl hx hb dX8_byTurns_207 ?_
              refine lv_topi (fun v_487 e_487 => ?_)
              obtain rfl : v_487 = (nI sd) := (e_487).trans hsd
              refine lv_icmp_ge (tgt := 282) hx hb dX8_byTurns_208 (by decide) (fun c_ => absurd c_ (fun q_ => absurd ((nI_leI (a := sd) (b := ii2) (by omega) (by omega)).mp q_) (by omega))) (fun _ => ?_)
              refine lv_aload_n hx hb dX8_byTurns_211 rfl (lv_at hl 3 rfl) ?_
              refine va_get (D := (dC, dI)) (ci := 8) (v := .ref m_wo) (C := RX8) (T := TX8) (N := 24) hx hb hts i_X8_byTurns_X8 hown hK hP 1 rfl rfl 19 (by decide) (hts _ mx_X8_byTurns_7) (fun _ h9 => h9) rfl dX8_byTurns_212 ?_
              refine lv_iconst (v := 2) hx hb dX8_byTurns_215 (by decide) ?_
              refine lv_iload hx hb dX8_byTurns_216 (lv_at hl 0 rfl) ?_
              refine lv_imul hx hb dX8_byTurns_218 ?_
              refine lv_topi (fun v_489 e_489 => ?_)
              obtain rfl : v_489 = (nI (2 * ii2)) := (e_489).trans (pk_mul 2 ii2)
              refine va_iald hx hb hK hP 0 0 rfl rfl (vp_in_nI (by omega) (by omega)) dX8_byTurns_219 ?_
              refine lv_topi (fun v_490 e_490 => ?_)
              refine lv_istore (lv' := [(6, .int v_490), (5, .int (nI ii2)), (4, .int (cdn j_2 ii1)), (3, .int (nI (8 + z_11))), (0, .ref mo), (1, .int (nI j_2)), (2, .int (nI j_5))]) hx hb dX8_byTurns_220 hl (by decide) rfl (fun ls hl => ?_)
              refine lv_aload_n hx hb dX8_byTurns_222 rfl (lv_at hl 4 rfl) ?_
              refine va_get (D := (dC, dI)) (ci := 8) (v := .ref m_wo) (C := RX8) (T := TX8) (N := 24) hx hb hts i_X8_byTurns_X8 hown hK hP 1 rfl rfl 19 (by decide) (hts _ mx_X8_byTurns_7) (fun _ h9 => h9) rfl dX8_byTurns_223 ?_
              refine lv_iconst (v := 2) hx hb dX8_byTurns_226 (by decide) ?_
              refine lv_iload hx hb dX8_byTurns_227 (lv_at hl 1 rfl) ?_
              refine lv_imul hx hb dX8_byTurns_229 ?_
              refine lv_topi (fun v_491 e_491 => ?_)
              obtain rfl : v_491 = (nI (2 * ii2)) := (e_491).trans (pk_mul 2 ii2)
              refine lv_iconst (v := 1) hx hb dX8_byTurns_230 (by decide) ?_
              refine lv_iadd hx hb dX8_byTurns_231 ?_
              refine lv_topi (fun v_492 e_492 => ?_)
              obtain rfl : v_492 = (nI ((2 * ii2) + 1)) := (e_492).trans (nI_add (2 * ii2) 1)
              refine va_iald hx hb hK hP 0 0 rfl rfl (vp_in_nI (by omega) (by omega)) dX8_byTurns_232 ?_
              refine lv_topi (fun v_493 e_493 => ?_)
              refine lv_istore (lv' := [(7, .int v_493), (6, .int v_490), (5, .int (nI ii2)), (4, .int (cdn j_2 ii1)), (3, .int (nI (8 + z_11))), (0, .ref mo), (1, .int (nI j_2)), (2, .int (nI j_5))]) hx hb dX8_byTurns_233 hl (by decide) rfl (fun ls hl => ?_)
              refine lv_aload_n hx hb dX8_byTurns_235 rfl (lv_at hl 5 rfl) ?_
              refine va_get (D := (dC, dI)) (ci := 8) (v := .ref m_wo) (C := RX8) (T := TX8) (N := 24) hx hb hts i_X8_byTurns_X8 hown hK hP 1 rfl rfl 19 (by decide) (hts _ mx_X8_byTurns_7) (fun _ h9 => h9) rfl dX8_byTurns_236 ?_
              refine lv_iload hx hb dX8_byTurns_239 (lv_at hl 2 rfl) ?_
              refine lv_iload hx hb dX8_byTurns_241 (lv_at hl 1 rfl) ?_
              refine lv_iload hx hb dX8_byTurns_243 (lv_at hl 0 rfl) ?_
              refine jn (σ := (Int32)) (fun (st : (Int32)) H locs g => match st with | w_495 => ∃ ls : Array Slot, g = F0 m 253 ls [.int w_495, .int (nI ii2), .ref m_wo] ∧ lv_has ls 8 [(7, .int v_493), (6, .int v_490), (5, .int (nI ii2)), (4, .int (cdn j_2 ii1)), (3, .int (nI (8 + z_11))), (0, .ref mo), (1, .int (nI j_2)), (2, .int (nI j_5))] ∧ va_P (dC, dI) vwCl [(xI m_wo cI 16 w_466), (xo_8_rrriirrriiiiiiirrirrrrri mo m_la m_sz m_it ms mt m_st m_mv m_tp (nI mz) ml (nI mp) mk mv mb mw m_rd m_ac (nI ma) m_as m_wo m_ik m_ke m_tr (nI mx)), (xI m_st cI 38 w_114), (xI m_as cI 38 fan_8)] H ∧ va_D A [(xI m_wo cI 16 w_466), (xo_8_rrriirrriiiiiiirrirrrrri mo m_la m_sz m_it ms mt m_st m_mv m_tp (nI mz) ml (nI mp) mk mv mb mw m_rd m_ac (nI ma) m_as m_wo m_ik m_ke m_tr (nI mx)), (xI m_st cI 38 w_114), (xI m_as cI 38 fan_8)] ∧ va_S A s.heap H locs ∧ okM w_114 w9 k9 h9) ?_ ?_
              · rintro w_495 H locs _ ⟨ls, rfl, hl, hP, hD, hS, hMl⟩
                refine lv_iload hx hb dX8_byTurns_253 (lv_at hl 3 rfl) ?_
                refine lv_iconst (v := 2) hx hb dX8_byTurns_255 (by decide) ?_
                refine lv_irem hx hb dX8_byTurns_256 (by decide) ?_
                refine lv_topi (fun v_497 e_497 => ?_)
                refine jn (σ := (Int32)) (fun (st : (Int32)) H locs g => match st with | w_499 => ∃ ls : Array Slot, g = F0 m 265 ls [.int w_499, .int w_495, .int (nI ii2), .ref m_wo] ∧ lv_has ls 8 [(7, .int v_493), (6, .int v_490), (5, .int (nI ii2)), (4, .int (cdn j_2 ii1)), (3, .int (nI (8 + z_11))), (0, .ref mo), (1, .int (nI j_2)), (2, .int (nI j_5))] ∧ va_P (dC, dI) vwCl [(xI m_wo cI 16 w_466), (xo_8_rrriirrriiiiiiirrirrrrri mo m_la m_sz m_it ms mt m_st m_mv m_tp (nI mz) ml (nI mp) mk mv mb mw m_rd m_ac (nI ma) m_as m_wo m_ik m_ke m_tr (nI mx)), (xI m_st cI 38 w_114), (xI m_as cI 38 fan_8)] H ∧ va_D A [(xI m_wo cI 16 w_466), (xo_8_rrriirrriiiiiiirrirrrrri mo m_la m_sz m_it ms mt m_st m_mv m_tp (nI mz) ml (nI mp) mk mv mb mw m_rd m_ac (nI ma) m_as m_wo m_ik m_ke m_tr (nI mx)), (xI m_st cI 38 w_114), (xI m_as cI 38 fan_8)] ∧ va_S A s.heap H locs ∧ okM w_114 w9 k9 h9) ?_ ?_
                · rintro w_499 H locs _ ⟨ls, rfl, hl, hP, hD, hS, hMl⟩
                  refine lv_icmp_ne (tgt := 273) hx hb dX8_byTurns_265 (by decide) (fun c_501 => ?_) (fun c_501 => ?_)
                  · skip
                    refine lv_iload hx hb dX8_byTurns_273 (lv_at hl 0 rfl) ?_
                    refine va_iast hx hb hK hP hD hS 0 0 rfl rfl (vp_in_nI (by omega) (by omega)) dX8_byTurns_275 (fun H locs hP hD hS => ?_)
                    generalize hg_502 : upd w_466 ((nI ii2) : Int32).toNatClampNeg v_493 = g_502 at hP hD
                    have hP : va_P (dC, dI) vwCl [(xI m_wo cI 16 g_502), (xo_8_rrriirrriiiiiiirrirrrrri mo m_la m_sz m_it ms mt m_st m_mv m_tp (nI mz) ml (nI mp) mk mv mb mw m_rd m_ac (nI ma) m_as m_wo m_ik m_ke m_tr (nI mx)), (xI m_st cI 38 w_114), (xI m_as cI 38 fan_8)] H := hP
                    have hD := dto hP hD
                    refine lv_iinc (v := (nI (ii2 + 1))) (lv' := [(5, .int (nI (ii2 + 1))), (7, .int v_493), (6, .int v_490), (4, .int (cdn j_2 ii1)), (3, .int (nI (8 + z_11))), (0, .ref mo), (1, .int (nI j_2)), (2, .int (nI j_5))]) hx hb dX8_byTurns_276 hl (k := 2) rfl (nI_add ii2 1) (by decide) rfl (fun ls hl => ?_)
                    refine lv_goto (tgt := 202) hx hb dX8_byTurns_279 (by decide) ?_
                    exact ih (g_502) _ _ _ ⟨lv_sub hl [0, 3, 4, 5, 6, 7] rfl, hP.sub (ws' := [(xI m_wo cI 16 g_502), (xo_8_rrriirrriiiiiiirrirrrrri mo m_la m_sz m_it ms mt m_st m_mv m_tp (nI mz) ml (nI mp) mk mv mb mw m_rd m_ac (nI ma) m_as m_wo m_ik m_ke m_tr (nI mx)), (xI m_st cI 38 w_114), (xI m_as cI 38 fan_8)]) [0, 1, 2, 3] rfl, hD.sub (ws' := [(xI m_wo cI 16 g_502), (xo_8_rrriirrriiiiiiirrirrrrri mo m_la m_sz m_it ms mt m_st m_mv m_tp (nI mz) ml (nI mp) mk mv mb mw m_rd m_ac (nI ma) m_as m_wo m_ik m_ke m_tr (nI mx)), (xI m_st cI 38 w_114), (xI m_as cI 38 fan_8)]) [0, 1, 2, 3] (by decide +kernel) rfl, hS, hMl⟩
                  · skip
                    refine lv_iload hx hb dX8_byTurns_268 (lv_at hl 1 rfl) ?_
                    refine lv_goto (tgt := 275) hx hb dX8_byTurns_270 (by decide) ?_
                    refine va_iast hx hb hK hP hD hS 0 0 rfl rfl (vp_in_nI (by omega) (by omega)) dX8_byTurns_275 (fun H locs hP hD hS => ?_)
                    generalize hg_503 : upd w_466 ((nI ii2) : Int32).toNatClampNeg v_490 = g_503 at hP hD
                    have hP : va_P (dC, dI) vwCl [(xI m_wo cI 16 g_503), (xo_8_rrriirrriiiiiiirrirrrrri mo m_la m_sz m_it ms mt m_st m_mv m_tp (nI mz) ml (nI mp) mk mv mb mw m_rd m_ac (nI ma) m_as m_wo m_ik m_ke m_tr (nI mx)), (xI m_st cI 38 w_114), (xI m_as cI 38 fan_8)] H := hP
                    have hD := dto hP hD
                    refine lv_iinc (v := (nI (ii2 + 1))) (lv' := [(5, .int (nI (ii2 + 1))), (7, .int v_493), (6, .int v_490), (4, .int (cdn j_2 ii1)), (3, .int (nI (8 + z_11))), (0, .ref mo), (1, .int (nI j_2)), (2, .int (nI j_5))]) hx hb dX8_byTurns_276 hl (k := 2) rfl (nI_add ii2 1) (by decide) rfl (fun ls hl => ?_)
                    refine lv_goto (tgt := 202) hx hb dX8_byTurns_279 (by decide) ?_
                    exact ih (g_503) _ _ _ ⟨lv_sub hl [0, 3, 4, 5, 6, 7] rfl, hP.sub (ws' := [(xI m_wo cI 16 g_503), (xo_8_rrriirrriiiiiiirrirrrrri mo m_la m_sz m_it ms mt m_st m_mv m_tp (nI mz) ml (nI mp) mk mv mb mw m_rd m_ac (nI ma) m_as m_wo m_ik m_ke m_tr (nI mx)), (xI m_st cI 38 w_114), (xI m_as cI 38 fan_8)]) [0, 1, 2, 3] rfl, hD.sub (ws' := [(xI m_wo cI 16 g_503), (xo_8_rrriirrriiiiiiirrirrrrri mo m_la m_sz m_it ms mt m_st m_mv m_tp (nI mz) ml (nI mp) mk mv mb mw m_rd m_ac (nI ma) m_as m_wo m_ik m_ke m_tr (nI mx)), (xI m_st cI 38 w_114), (xI m_as cI 38 fan_8)]) [0, 1, 2, 3] (by decide +kernel) rfl, hS, hMl⟩
                · intro jk_500
                  refine lv_if_ne (tgt := 264) hx hb dX8_byTurns_257 (by decide) (fun c_504 => ?_) (fun c_504 => ?_)
                  · skip
                    refine lv_iconst (v := 0) hx hb dX8_byTurns_264 (by decide) ?_
                    exact jk_500 (0) _ _ _ ⟨ls, rfl, lv_sub hl [0, 1, 2, 3, 4, 5, 6, 7] rfl, hP.sub (ws' := [(xI m_wo cI 16 w_466), (xo_8_rrriirrriiiiiiirrirrrrri mo m_la m_sz m_it ms mt m_st m_mv m_tp (nI mz) ml (nI mp) mk mv mb mw m_rd m_ac (nI ma) m_as m_wo m_ik m_ke m_tr (nI mx)), (xI m_st cI 38 w_114), (xI m_as cI 38 fan_8)]) [0, 1, 2, 3] rfl, hD.sub (ws' := [(xI m_wo cI 16 w_466), (xo_8_rrriirrriiiiiiirrirrrrri mo m_la m_sz m_it ms mt m_st m_mv m_tp (nI mz) ml (nI mp) mk mv mb mw m_rd m_ac (nI ma) m_as m_wo m_ik m_ke m_tr (nI mx)), (xI m_st cI 38 w_114), (xI m_as cI 38 fan_8)]) [0, 1, 2, 3] (by decide +kernel) rfl, hS, hMl⟩
                  · skip
                    refine lv_iconst (v := 1) hx hb dX8_byTurns_260 (by decide) ?_
                    refine lv_goto (tgt := 265) hx hb dX8_byTurns_261 (by decide) ?_
                    exact jk_500 (1) _ _ _ ⟨ls, rfl, lv_sub hl [0, 1, 2, 3, 4, 5, 6, 7] rfl, hP.sub (ws' := [(xI m_wo cI 16 w_466), (xo_8_rrriirrriiiiiiirrirrrrri mo m_la m_sz m_it ms mt m_st m_mv m_tp (nI mz) ml (nI mp) mk mv mb mw m_rd m_ac (nI ma) m_as m_wo m_ik m_ke m_tr (nI mx)), (xI m_st cI 38 w_114), (xI m_as cI 38 fan_8)]) [0, 1, 2, 3] rfl, hD.sub (ws' := [(xI m_wo cI 16 w_466), (xo_8_rrriirrriiiiiiirrirrrrri mo m_la m_sz m_it ms mt m_st m_mv m_tp (nI mz) ml (nI mp) mk mv mb mw m_rd m_ac (nI ma) m_as m_wo m_ik m_ke m_tr (nI mx)), (xI m_st cI 38 w_114), (xI m_as cI 38 fan_8)]) [0, 1, 2, 3] (by decide +kernel) rfl, hS, hMl⟩
              · intro jk_496
                refine lv_icmp_le (tgt := 252) hx hb dX8_byTurns_245 (by decide) (fun c_505 => ?_) (fun c_505 => ?_)
                · skip
                  refine lv_iconst (v := 0) hx hb dX8_byTurns_252 (by decide) ?_
                  exact jk_496 (0) _ _ _ ⟨ls, rfl, lv_sub hl [0, 1, 2, 3, 4, 5, 6, 7] rfl, hP.sub (ws' := [(xI m_wo cI 16 w_466), (xo_8_rrriirrriiiiiiirrirrrrri mo m_la m_sz m_it ms mt m_st m_mv m_tp (nI mz) ml (nI mp) mk mv mb mw m_rd m_ac (nI ma) m_as m_wo m_ik m_ke m_tr (nI mx)), (xI m_st cI 38 w_114), (xI m_as cI 38 fan_8)]) [0, 1, 2, 3] rfl, hD.sub (ws' := [(xI m_wo cI 16 w_466), (xo_8_rrriirrriiiiiiirrirrrrri mo m_la m_sz m_it ms mt m_st m_mv m_tp (nI mz) ml (nI mp) mk mv mb mw m_rd m_ac (nI ma) m_as m_wo m_ik m_ke m_tr (nI mx)), (xI m_st cI 38 w_114), (xI m_as cI 38 fan_8)]) [0, 1, 2, 3] (by decide +kernel) rfl, hS, hMl⟩
                · skip
                  refine lv_iconst (v := 1) hx hb dX8_byTurns_248 (by decide) ?_
                  refine lv_goto (tgt := 253) hx hb dX8_byTurns_249 (by decide) ?_
                  exact jk_496 (1) _ _ _ ⟨ls, rfl, lv_sub hl [0, 1, 2, 3, 4, 5, 6, 7] rfl, hP.sub (ws' := [(xI m_wo cI 16 w_466), (xo_8_rrriirrriiiiiiirrirrrrri mo m_la m_sz m_it ms mt m_st m_mv m_tp (nI mz) ml (nI mp) mk mv mb mw m_rd m_ac (nI ma) m_as m_wo m_ik m_ke m_tr (nI mx)), (xI m_st cI 38 w_114), (xI m_as cI 38 fan_8)]) [0, 1, 2, 3] rfl, hD.sub (ws' := [(xI m_wo cI 16 w_466), (xo_8_rrriirrriiiiiiirrirrrrri mo m_la m_sz m_it ms mt m_st m_mv m_tp (nI mz) ml (nI mp) mk mv mb mw m_rd m_ac (nI ma) m_as m_wo m_ik m_ke m_tr (nI mx)), (xI m_st cI 38 w_114), (xI m_as cI 38 fan_8)]) [0, 1, 2, 3] (by decide +kernel) rfl, hS, hMl⟩
            · rintro w_466 H locs ls ⟨hl, hP, hD, hS, hMl⟩
              refine lv_iload hx hb dX8_byTurns_202 (lv_at hl 0 rfl) ?_
              refine lv_iconst (v := 1) hx hb dX8_byTurns_204 (by decide) ?_
              refine lv_iload hx hb dX8_byTurns_205 (lv_at hl 1 rfl) ?_
              refine lv_ishl hx hb dX8_byTurns_207 ?_
              refine lv_topi (fun v_506 e_506 => ?_)
              obtain rfl : v_506 = (nI sd) := (e_506).trans hsd
              refine lv_icmp_ge (tgt := 282) hx hb dX8_byTurns_208 (by decide) (fun _ => ?_) (fun c_ => absurd ((nI_leI (a := sd) (b := sd) (by omega) (by omega)).mpr (by omega)) c_)
              refine lv_iinc (v := (cdn j_2 (ii1 + 1))) (lv' := [(4, .int (cdn j_2 (ii1 + 1))), (5, .int (nI sd)), (3, .int (nI (8 + z_11))), (0, .ref mo), (1, .int (nI j_2)), (2, .int (nI j_5))]) hx hb dX8_byTurns_282 hl (k := 1) rfl (cdn_s (by omega) hii1) (by decide) rfl (fun ls hl => ?_)
              refine lv_goto (tgt := 194) hx hb dX8_byTurns_285 (by decide) ?_
              exact ih (w_466) _ _ _ ⟨lv_sub hl [0, 2, 3, 4, 5] rfl, hP.sub (ws' := [(xI m_wo cI 16 w_466), (xo_8_rrriirrriiiiiiirrirrrrri mo m_la m_sz m_it ms mt m_st m_mv m_tp (nI mz) ml (nI mp) mk mv mb mw m_rd m_ac (nI ma) m_as m_wo m_ik m_ke m_tr (nI mx)), (xI m_st cI 38 w_114), (xI m_as cI 38 fan_8)]) [0, 1, 2, 3] rfl, hD.sub (ws' := [(xI m_wo cI 16 w_466), (xo_8_rrriirrriiiiiiirrirrrrri mo m_la m_sz m_it ms mt m_st m_mv m_tp (nI mz) ml (nI mp) mk mv mb mw m_rd m_ac (nI ma) m_as m_wo m_ik m_ke m_tr (nI mx)), (xI m_st cI 38 w_114), (xI m_as cI 38 fan_8)]) [0, 1, 2, 3] (by decide +kernel) rfl, hS, hMl⟩
          · rintro w_382 H locs ls ⟨hl, hP, hD, hS, hMl⟩
            refine lv_iload hx hb dX8_byTurns_194 (lv_at hl 0 rfl) ?_
            refine lv_if_lt (tgt := 288) hx hb dX8_byTurns_196 (by decide) (fun _ => ?_) (fun c_ => absurd (cdn_end (by omega)) c_)
            refine lv_aload_n hx hb dX8_byTurns_288 rfl (lv_at hl 2 rfl) ?_
            refine va_get (D := (dC, dI)) (ci := 8) (v := .ref m_wo) (C := RX8) (T := TX8) (N := 24) hx hb hts i_X8_byTurns_X8 hown hK hP 1 rfl rfl 19 (by decide) (hts _ mx_X8_byTurns_7) (fun _ h9 => h9) rfl dX8_byTurns_289 ?_
            refine lv_iconst (v := 0) hx hb dX8_byTurns_292 (by decide) ?_
            refine va_iald hx hb hK hP 0 0 rfl rfl (by unfold vp_in; decide) dX8_byTurns_293 ?_
            refine lv_topi (fun v_509 e_509 => ?_)
            have hX9 := cut2 (wc := [(xo_8_rrriirrriiiiiiirrirrrrri mo m_la m_sz m_it ms mt m_st m_mv m_tp (nI mz) ml (nI mp) mk mv mb mw m_rd m_ac (nI ma) m_as m_wo m_ik m_ke m_tr (nI mx)), (xI m_st cI 38 w_114), (xI m_as cI 38 fan_8), (xI m_wo cI 16 w_382)]) hP hD [1, 2, 3, 0] (by decide +kernel) rfl
            exact W.iret (v := v_509) hx hb hr (fun t ht hW => ⟨⟨v_509, (), rfl, trivial, ⟨w_114, fan_8, w_382, va_Ht ht hX9.1, hX9.2, hMl, haf_0⟩⟩, hS.F ht⟩) hS.2.2 dX8_byTurns_294
  · skip
    refine lv_ldc (own := RX8) (v := (-1000002)) hx hb hown (hts _ mx_X8_byTurns_2) dX8_byTurns_7 ?_
    have hX9 := cut2 (wc := [(xo_8_rrriirrriiiiiiirrirrrrri mo m_la m_sz m_it ms mt m_st m_mv m_tp (nI mz) ml (nI mp) mk mv mb mw m_rd m_ac (nI ma) m_as m_wo m_ik m_ke m_tr (nI mx)), (xI m_st cI 38 fs), (xI m_as cI 38 fa), (xI m_wo cI 16 fw)]) hP hD [0, 1, 2, 3] (by decide +kernel) rfl
    exact W.iret (v := (-1000002)) hx hb hr (fun t ht hW => ⟨⟨(-1000002), (), rfl, trivial, ⟨fs, fa, fw, va_Ht ht hX9.1, hX9.2, hM, rfl⟩⟩, hS.F ht⟩) hS.2.2 dX8_byTurns_9
