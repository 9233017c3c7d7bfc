set_option maxHeartbeats 4000000 in
set_option maxRecDepth 100000 in
theorem r_X1_isAsk (l : Launch) (dC : Nat → ClassId) (dI : Nat → Nat → Nat) (cI cZ cL cJ : ClassId) (x : Int32)  : Met l yX1_isAsk wsX1_isAsk ({ frames := 0, cells := 0, slots := 0, locals := 0 }) (va_Pc [.int x] (fun U => va_P (dC, dI) vwCl [] U.heap ∧ va_K (dC, dI) vwCl [(cI, .int), (cZ, .boolean), (cL, .object RX3), (cJ, .array .int)] U)) (vp_Si (fun r => True)) 0 0 (fun _ => False) := by
  refine Met.ofW (cc := cX1_isAsk) (maxL := 1) (ret := (some .boolean)) (by decide) rfl ?_
  intro p e s m args below meth c s₁ B hml hv
  obtain ⟨rfl, hP, hK⟩ := hv
  have hx := B.exec
  have hb := B.bytes
  have hr := B.returns
  have hts := atoms_spec (ws := wsX1_isAsk) B.pre
  have hown : s.vm.findClass RX1 = some m.cls := findClass_of_methodNamed B.named
  have hlocks := B.notSynchronized
  have hP : va_P (dC, dI) vwCl [] s.heap := hP
  have hl := lv_entry ([.int x]) (n := 1) (Nat.le_of_ble_eq_true rfl)
  rw [lg_entry_eq]
  generalize (lg_sl ([.int x]) ++ List.replicate (1 - (lg_sl ([.int x])).length) Slot.unset).toArray = ls at hl ⊢
  have hl : lv_has ls 1 [(0, .int x)] := hl
  refine lv_iload_n hx hb dX1_isAsk_0 rfl (lv_at hl 0 rfl) ?_
  refine lv_if_eq (tgt := 9) hx hb dX1_isAsk_1 (by decide) (fun c_1 => ?_) (fun c_1 => ?_)
  · skip
    refine lv_iconst (v := 1) hx hb dX1_isAsk_9 (by decide) ?_
    refine lv_goto (tgt := 14) hx hb dX1_isAsk_10 (by decide) ?_
    exact W.zret (v := 1) hx hb hr (by decide) (fun t ht hW => ⟨1, rfl, trivial, ht⟩) (fun _ h => by cases h) dX1_isAsk_14
  · skip
    refine lv_iload_n hx hb dX1_isAsk_4 rfl (lv_at hl 0 rfl) ?_
    refine lv_iconst (v := 1) hx hb dX1_isAsk_5 (by decide) ?_
    refine lv_icmp_ne (tgt := 13) hx hb dX1_isAsk_6 (by decide) (fun c_2 => ?_) (fun c_2 => ?_)
    · skip
      refine lv_iconst (v := 0) hx hb dX1_isAsk_13 (by decide) ?_
      exact W.zret (v := 0) hx hb hr (by decide) (fun t ht hW => ⟨0, rfl, trivial, ht⟩) (fun _ h => by cases h) dX1_isAsk_14
    · skip
      refine lv_iconst (v := 1) hx hb dX1_isAsk_9 (by decide) ?_
      refine lv_goto (tgt := 14) hx hb dX1_isAsk_10 (by decide) ?_
      exact W.zret (v := 1) hx hb hr (by decide) (fun t ht hW => ⟨1, rfl, trivial, ht⟩) (fun _ h => by cases h) dX1_isAsk_14
set_option maxHeartbeats 4000000 in
set_option maxRecDepth 100000 in
theorem r_X1_leave (l : Launch) (dC : Nat → ClassId) (dI : Nat → Nat → Nat) (cI cZ cL cJ : ClassId) (sz : Nat) (k9 : Nat) (tc : Nat) (z : Nat) (nu : Int32) (ki : Int32) (ce : Int32) (lo : Int32) (ft : Nat → Int32) (x : Int32) (hz : z ≤ 16) : Met l yX1_leave wsX1_leave ({ frames := 0, cells := 0, slots := 0, locals := 0 }) (va_Pc [.ref k9, .int x] (fun U => U.heap.size = sz ∧ va_P (dC, dI) vwCl [(k9, .inr (1, [.ref tc, .int (nI z), .int nu, .int ki, .int ce, .int lo])), (tc, .inl (cI, 16, .inl ft))] U.heap ∧ va_K (dC, dI) vwCl [(cI, .int), (cZ, .boolean), (cL, .object RX3), (cJ, .array .int)] U ∧ va_D (fun _ => True) [(k9, .inr (1, [.ref tc, .int (nI z), .int nu, .int ki, .int ce, .int lo])), (tc, .inl (cI, 16, .inl ft))])) (va_Qv (fun (_ : Unit) => True) (fun (_ : Unit) t => ∃ (zn : Nat) (ftn : Nat → Int32), va_P (dC, dI) vwCl [(k9, .inr (1, [.ref tc, .int (nI zn), .int nu, .int ki, .int ce, .int lo])), (tc, .inl (cI, 16, .inl ftn))] t.heap ∧ va_D (va_A [(k9, .inr (1, [.ref tc, .int (nI z), .int nu, .int ki, .int ce, .int lo])), (tc, .inl (cI, 16, .inl ft))] sz) [(k9, .inr (1, [.ref tc, .int (nI zn), .int nu, .int ki, .int ce, .int lo])), (tc, .inl (cI, 16, .inl ftn))] ∧ zn ≤ 16) (va_A [(k9, .inr (1, [.ref tc, .int (nI z), .int nu, .int ki, .int ce, .int lo])), (tc, .inl (cI, 16, .inl ft))] sz)) 0 0 (va_A [(k9, .inr (1, [.ref tc, .int (nI z), .int nu, .int ki, .int ce, .int lo])), (tc, .inl (cI, 16, .inl ft))] sz) := by
  refine Met.ofW (cc := cX1_leave) (maxL := 2) (ret := none) (by decide) rfl ?_
  intro p e s m args below meth c s₁ B hml hv
  obtain ⟨rfl, hsz, hP, hK, hD0⟩ := hv
  have hx := B.exec
  have hb := B.bytes
  have hr := B.returns
  have hts := atoms_spec (ws := wsX1_leave) B.pre
  have hown : s.vm.findClass RX1 = some m.cls := findClass_of_methodNamed B.named
  have hlocks := B.notSynchronized
  subst hsz
  have hD := hD0.self (sz := s.heap.size)
  generalize hAe : va_A [(k9, .inr (1, [.ref tc, .int (nI z), .int nu, .int ki, .int ce, .int lo])), (tc, .inl (cI, 16, .inl ft))] s.heap.size = A at hD ⊢
  have hA : ∀ q : Nat, s.heap.size ≤ q → A q := fun q h => by rw [← hAe]; exact Or.inr h
  have hS : va_S A s.heap s.heap [] := va_S.rf
  have hP : va_P (dC, dI) vwCl [(k9, .inr (1, [.ref tc, .int (nI z), .int nu, .int ki, .int ce, .int lo])), (tc, .inl (cI, 16, .inl ft))] s.heap := hP
  have hl := lv_entry ([.ref k9, .int x]) (n := 2) (Nat.le_of_ble_eq_true rfl)
  rw [lg_entry_eq]
  generalize (lg_sl ([.ref k9, .int x]) ++ List.replicate (2 - (lg_sl ([.ref k9, .int x])).length) Slot.unset).toArray = ls at hl ⊢
  have hl : lv_has ls 2 [(0, .ref k9), (1, .int x)] := hl
  refine lv_aload_n hx hb dX1_leave_0 rfl (lv_at hl 0 rfl) ?_
  refine va_get (D := (dC, dI)) (ci := 1) (v := .int (nI z)) (C := RX1) (T := TX1) (N := 6) hx hb hts i_X1_leave_X1 hown hK hP 0 rfl rfl 1 (by decide) (hts (.fieldLink RX1 15 "MillTalk$Asks" "traced" "I") (by decide +kernel)) (fun _ h9 => h9) rfl dX1_leave_1 ?_
  refine lv_bipush (v := 16) hx hb dX1_leave_4 (by decide) ?_
  refine lv_icmp_ge (tgt := 29) hx hb dX1_leave_6 (by decide) (fun c_1 => ?_) (fun c_1 => ?_)
  · have c_1 : 16 ≤ z := (nI_leI (a := 16) (b := z) (by omega) (by omega)).mp c_1
    have hP9 := hP.sub (ws' := [(k9, .inr (1, [.ref tc, .int (nI z), .int nu, .int ki, .int ce, .int lo])), (tc, .inl (cI, 16, .inl ft))]) [0, 1] rfl
    have hD9 := hD.sub (ws' := [(k9, .inr (1, [.ref tc, .int (nI z), .int nu, .int ki, .int ce, .int lo])), (tc, .inl (cI, 16, .inl ft))]) [0, 1] (by decide) rfl
    exact W.vret hx hb hr (fun t ht hW => ⟨⟨(), rfl, trivial, ⟨z, ft, by rw [ht]; exact hP9, hD9, (by omega)⟩⟩, hS.F ht⟩) hS.2.2 dX1_leave_29
  · have c_1 : ¬ (16 ≤ z) := fun q_ => c_1 ((nI_leI (a := 16) (b := z) (by omega) (by omega)).mpr q_)
    refine lv_aload_n hx hb dX1_leave_9 rfl (lv_at hl 0 rfl) ?_
    refine va_get (D := (dC, dI)) (ci := 1) (v := .ref tc) (C := RX1) (T := TX1) (N := 6) hx hb hts i_X1_leave_X1 hown hK hP 0 rfl rfl 0 (by decide) (hts (.fieldLink RX1 11 "MillTalk$Asks" "trace" "[I") (by decide +kernel)) (fun _ h9 => h9) rfl dX1_leave_10 ?_
    refine lv_aload_n hx hb dX1_leave_13 rfl (lv_at hl 0 rfl) ?_
    refine va_get (D := (dC, dI)) (ci := 1) (v := .int (nI z)) (C := RX1) (T := TX1) (N := 6) hx hb hts i_X1_leave_X1 hown hK hP 0 rfl rfl 1 (by decide) (hts (.fieldLink RX1 15 "MillTalk$Asks" "traced" "I") (by decide +kernel)) (fun _ h9 => h9) rfl dX1_leave_14 ?_
    refine lv_iload_n hx hb dX1_leave_17 rfl (lv_at hl 1 rfl) ?_
    refine va_iast hx hb hK hP hD hS 1 0 rfl rfl (vp_in_nI (by omega) (by omega)) dX1_leave_18 (fun H locs hP hD hS => ?_)
    generalize hg_2 : upd ft ((nI z) : Int32).toNatClampNeg x = g_2 at hP hD
    have hP : va_P (dC, dI) vwCl [(k9, .inr (1, [.ref tc, .int (nI z), .int nu, .int ki, .int ce, .int lo])), (tc, .inl (cI, 16, .inl g_2))] H := hP
    have hD : va_D A [(k9, .inr (1, [.ref tc, .int (nI z), .int nu, .int ki, .int ce, .int lo])), (tc, .inl (cI, 16, .inl g_2))] := hD
    refine lv_aload_n hx hb dX1_leave_19 rfl (lv_at hl 0 rfl) ?_
    refine lv_dup hx hb dX1_leave_20 rfl ?_
    refine va_get (D := (dC, dI)) (ci := 1) (v := .int (nI z)) (C := RX1) (T := TX1) (N := 6) hx hb hts i_X1_leave_X1 hown hK hP 0 rfl rfl 1 (by decide) (hts (.fieldLink RX1 15 "MillTalk$Asks" "traced" "I") (by decide +kernel)) (fun _ h9 => h9) rfl dX1_leave_21 ?_
    refine lv_iconst (v := 1) hx hb dX1_leave_24 (by decide) ?_
    refine lv_iadd hx hb dX1_leave_25 ?_
    refine lv_topi (fun v_3 e_3 => ?_)
    obtain rfl : v_3 = (nI (z + 1)) := (e_3).trans (nI_add z 1)
    refine va_put (D := (dC, dI)) (ci := 1) (v := .int (nI (z + 1))) (ty := .int) (C := RX1) (T := TX1) (N := 6) hx hb hts i_X1_leave_X1 tyX1 tyX1_ok nmX1 hown hK hP hD hS 0 rfl rfl 1 (by decide) (hts (.fieldLink RX1 15 "MillTalk$Asks" "traced" "I") (by decide +kernel)) (fun _ h9 => h9) rfl (by decide +kernel) rfl rfl (Nat.le_of_ble_eq_true rfl) dX1_leave_26 (fun H locs hP hD hS => ?_)
    have hP : va_P (dC, dI) vwCl [(k9, .inr (1, [.ref tc, .int (nI (z + 1)), .int nu, .int ki, .int ce, .int lo])), (tc, .inl (cI, 16, .inl g_2))] H := hP
    have hD : va_D A [(k9, .inr (1, [.ref tc, .int (nI (z + 1)), .int nu, .int ki, .int ce, .int lo])), (tc, .inl (cI, 16, .inl g_2))] := hD
    have hP9 := hP.sub (ws' := [(k9, .inr (1, [.ref tc, .int (nI (z + 1)), .int nu, .int ki, .int ce, .int lo])), (tc, .inl (cI, 16, .inl g_2))]) [0, 1] rfl
    have hD9 := hD.sub (ws' := [(k9, .inr (1, [.ref tc, .int (nI (z + 1)), .int nu, .int ki, .int ce, .int lo])), (tc, .inl (cI, 16, .inl g_2))]) [0, 1] (by decide) rfl
    exact W.vret hx hb hr (fun t ht hW => ⟨⟨(), rfl, trivial, ⟨(z + 1), g_2, by rw [ht]; exact hP9, hD9, (by omega)⟩⟩, hS.F ht⟩) hS.2.2 dX1_leave_29
set_option maxHeartbeats 4000000 in
set_option maxRecDepth 100000 in
theorem r_X1_bodyFor (l : Launch) (dC : Nat → ClassId) (dI : Nat → Nat → Nat) (cI cZ cL cJ : ClassId) (k9 : Nat) (tc : Nat) (z : Nat) (nu : Int32) (ki : Int32) (ce : Int32) (lo : Int32) (x : Int32)  : Met l yX1_bodyFor wsX1_bodyFor ({ frames := 0, cells := 0, slots := 0, locals := 0 }) (va_Pc [.ref k9, .int x] (fun U => va_P (dC, dI) vwCl [(k9, .inr (1, [.ref tc, .int (nI z), .int nu, .int ki, .int ce, .int lo]))] U.heap ∧ va_K (dC, dI) vwCl [(cI, .int), (cZ, .boolean), (cL, .object RX3), (cJ, .array .int)] U ∧ stt (fun _ => False) U U.heap)) (vp_Si (fun r => True)) 0 0 (fun _ => False) := by
  refine Met.ofW (cc := cX1_bodyFor) (maxL := 5) (ret := (some .int)) (by decide) rfl ?_
  intro p e s m args below meth c s₁ B hml hv
  obtain ⟨rfl, hP, hK, hst⟩ := hv
  have hx := B.exec
  have hb := B.bytes
  have hr := B.returns
  have hts := atoms_spec (ws := wsX1_bodyFor) B.pre
  have hown : s.vm.findClass RX1 = some m.cls := findClass_of_methodNamed B.named
  have hlocks := B.notSynchronized
  have hP : va_P (dC, dI) vwCl [(k9, .inr (1, [.ref tc, .int (nI z), .int nu, .int ki, .int ce, .int lo]))] s.heap := hP
  obtain ⟨⟨tb1, hZ1, hT1⟩, ⟨tb2, hZ2, hT2⟩, ⟨tb3, hZ3, hT3⟩, hNk⟩ := id hst
  have hl := lv_entry ([.ref k9, .int x]) (n := 5) (Nat.le_of_ble_eq_true rfl)
  rw [lg_entry_eq]
  generalize (lg_sl ([.ref k9, .int x]) ++ List.replicate (5 - (lg_sl ([.ref k9, .int x])).length) Slot.unset).toArray = ls at hl ⊢
  have hl : lv_has ls 5 [(0, .ref k9), (1, .int x)] := hl
  refine lv_aload_n hx hb dX1_bodyFor_0 rfl (lv_at hl 0 rfl) ?_
  refine va_get (D := (dC, dI)) (ci := 1) (v := .int ki) (C := RX1) (T := TX1) (N := 6) hx hb hts i_X1_bodyFor_X1 hown hK hP 0 rfl rfl 3 (by decide) (hts (.fieldLink RX1 27 "MillTalk$Asks" "kind" "I") (by decide +kernel)) (fun _ h9 => h9) rfl dX1_bodyFor_1 ?_
  refine lv_istore_n (lv' := [(2, .int ki), (0, .ref k9), (1, .int x)]) hx hb dX1_bodyFor_4 rfl hl (by decide) rfl (fun ls hl => ?_)
  refine lv_iconst (v := 0) hx hb dX1_bodyFor_5 (by decide) ?_
  refine lv_istore_n (lv' := [(3, .int 0), (2, .int ki), (0, .ref k9), (1, .int x)]) hx hb dX1_bodyFor_6 rfl hl (by decide) rfl (fun ls hl => ?_)
  refine lp_go (σ := (Int32)) (fun ii (st : (Int32)) H locs ls => match st with | w_17 => lv_has ls 5 [(3, .int (nI ii)), (2, .int w_17), (0, .ref k9), (1, .int x)] ∧ H = s.heap ∧ locs = []) 6 ?_ ?_ 0 (by omega) (ki) ⟨lv_sub hl [0, 1, 2, 3] rfl, rfl, rfl⟩
  · rintro ii w_17 H locs ls hii ⟨hl, rfl, rfl⟩ ih
    refine lv_iload_n hx hb dX1_bodyFor_7 rfl (lv_at hl 0 rfl) ?_
    refine va_getsN hx hb hZ1 va_S.rf hown (va_Nw.use rfl hNk) (fun _ h9 => h9) dX1_bodyFor_8 ?_
    refine va_tlen (v := 6) hx hb hT1 va_S.rf (by decide) dX1_bodyFor_11 ?_
    refine lv_icmp_ge (tgt := 66) hx hb dX1_bodyFor_12 (by decide) (fun c_ => absurd c_ (fun q_ => absurd ((nI_leI (a := 6) (b := ii) (by omega) (by omega)).mp q_) (by omega))) (fun _ => ?_)
    refine lv_iload_n hx hb dX1_bodyFor_15 rfl (lv_at hl 1 rfl) ?_
    refine lv_if_le (tgt := 66) hx hb dX1_bodyFor_16 (by decide) (fun c_36 => ?_) (fun c_36 => ?_)
    · skip
      refine lv_iload_n hx hb dX1_bodyFor_66 rfl (lv_at hl 3 rfl) ?_
      refine lv_if_ne (tgt := 78) hx hb dX1_bodyFor_67 (by decide) (fun c_37 => ?_) (fun c_37 => ?_)
      · skip
        refine va_gets hx hb hZ3 va_S.rf hown (hts (.fieldLink RX1 59 "MillTalk$Asks" "MARK_BODIES" "[I") (by decide +kernel)) (fun _ h9 => h9) dX1_bodyFor_78 ?_
        refine lv_iconst (v := 0) hx hb dX1_bodyFor_81 (by decide) ?_
        refine va_ti hx hb hT3 va_S.rf (by unfold vp_in; decide) rfl dX1_bodyFor_82 ?_
        refine lv_topi (fun v_38 e_38 => ?_)
        obtain rfl : v_38 = 20 := (e_38).trans (by decide)
        exact W.iret (v := 20) hx hb hr (fun t ht hW => ⟨20, rfl, trivial, ht⟩) (fun _ h => by cases h) dX1_bodyFor_83
      · skip
        refine va_gets hx hb hZ2 va_S.rf hown (hts (.fieldLink RX1 56 "MillTalk$Asks" "SIZE_BODIES" "[I") (by decide +kernel)) (fun _ h9 => h9) dX1_bodyFor_70 ?_
        refine lv_iconst (v := 0) hx hb dX1_bodyFor_73 (by decide) ?_
        refine va_ti hx hb hT2 va_S.rf (by unfold vp_in; decide) rfl dX1_bodyFor_74 ?_
        refine lv_topi (fun v_39 e_39 => ?_)
        obtain rfl : v_39 = 10 := (e_39).trans (by decide)
        refine lv_goto (tgt := 83) hx hb dX1_bodyFor_75 (by decide) ?_
        exact W.iret (v := 10) hx hb hr (fun t ht hW => ⟨10, rfl, trivial, ht⟩) (fun _ h => by cases h) dX1_bodyFor_83
    · skip
      refine lv_iload_n hx hb dX1_bodyFor_19 rfl (lv_at hl 1 rfl) ?_
      refine va_getsN hx hb hZ1 va_S.rf hown (va_Nw.use rfl hNk) (fun _ h9 => h9) dX1_bodyFor_20 ?_
      refine va_tlen (v := 6) hx hb hT1 va_S.rf (by decide) dX1_bodyFor_23 ?_
      refine lv_icmp_ge (tgt := 66) hx hb dX1_bodyFor_24 (by decide) (fun c_40 => ?_) (fun c_40 => ?_)
      · skip
        refine lv_iload_n hx hb dX1_bodyFor_66 rfl (lv_at hl 3 rfl) ?_
        refine lv_if_ne (tgt := 78) hx hb dX1_bodyFor_67 (by decide) (fun c_41 => ?_) (fun c_41 => ?_)
        · skip
          refine va_gets hx hb hZ3 va_S.rf hown (hts (.fieldLink RX1 59 "MillTalk$Asks" "MARK_BODIES" "[I") (by decide +kernel)) (fun _ h9 => h9) dX1_bodyFor_78 ?_
          refine lv_iconst (v := 0) hx hb dX1_bodyFor_81 (by decide) ?_
          refine va_ti hx hb hT3 va_S.rf (by unfold vp_in; decide) rfl dX1_bodyFor_82 ?_
          refine lv_topi (fun v_42 e_42 => ?_)
          obtain rfl : v_42 = 20 := (e_42).trans (by decide)
          exact W.iret (v := 20) hx hb hr (fun t ht hW => ⟨20, rfl, trivial, ht⟩) (fun _ h => by cases h) dX1_bodyFor_83
        · skip
          refine va_gets hx hb hZ2 va_S.rf hown (hts (.fieldLink RX1 56 "MillTalk$Asks" "SIZE_BODIES" "[I") (by decide +kernel)) (fun _ h9 => h9) dX1_bodyFor_70 ?_
          refine lv_iconst (v := 0) hx hb dX1_bodyFor_73 (by decide) ?_
          refine va_ti hx hb hT2 va_S.rf (by unfold vp_in; decide) rfl dX1_bodyFor_74 ?_
          refine lv_topi (fun v_43 e_43 => ?_)
          obtain rfl : v_43 = 10 := (e_43).trans (by decide)
          refine lv_goto (tgt := 83) hx hb dX1_bodyFor_75 (by decide) ?_
          exact W.iret (v := 10) hx hb hr (fun t ht hW => ⟨10, rfl, trivial, ht⟩) (fun _ h => by cases h) dX1_bodyFor_83
      · skip
        refine lv_iload_n hx hb dX1_bodyFor_27 rfl (lv_at hl 3 rfl) ?_
        refine lv_if_ne (tgt := 39) hx hb dX1_bodyFor_28 (by decide) (fun c_44 => ?_) (fun c_44 => ?_)
        · skip
          refine va_gets hx hb hZ3 va_S.rf hown (hts (.fieldLink RX1 59 "MillTalk$Asks" "MARK_BODIES" "[I") (by decide +kernel)) (fun _ h9 => h9) dX1_bodyFor_39 ?_
          refine lv_iload_n hx hb dX1_bodyFor_42 rfl (lv_at hl 1 rfl) ?_
          refine va_ti hx hb hT3 va_S.rf (in_6 c_36 c_40) rfl dX1_bodyFor_43 ?_
          refine lv_topi (fun v_45 e_45 => ?_)
          refine lv_istore (lv' := [(4, .int v_45), (3, .int (nI ii)), (2, .int w_17), (0, .ref k9), (1, .int x)]) hx hb dX1_bodyFor_44 hl (by decide) rfl (fun ls hl => ?_)
          refine lv_iload hx hb dX1_bodyFor_46 (lv_at hl 0 rfl) ?_
          refine lv_if_eq (tgt := 54) hx hb dX1_bodyFor_48 (by decide) (fun c_46 => ?_) (fun c_46 => ?_)
          · skip
            refine va_getsN hx hb hZ1 va_S.rf hown (va_Nw.use rfl hNk) (fun _ h9 => h9) dX1_bodyFor_54 ?_
            refine lv_iload_n hx hb dX1_bodyFor_57 rfl (lv_at hl 2 rfl) ?_
            refine va_ti hx hb hT1 va_S.rf (in_6 c_36 c_40) rfl dX1_bodyFor_58 ?_
            refine lv_topi (fun v_47 e_47 => ?_)
            refine lv_istore_n (lv' := [(2, .int v_47), (4, .int v_45), (3, .int (nI ii)), (0, .ref k9), (1, .int x)]) hx hb dX1_bodyFor_59 rfl hl (by decide) rfl (fun ls hl => ?_)
            refine lv_iinc (v := (nI (ii + 1))) (lv' := [(3, .int (nI (ii + 1))), (2, .int v_47), (4, .int v_45), (0, .ref k9), (1, .int x)]) hx hb dX1_bodyFor_60 hl (k := 2) rfl (nI_add ii 1) (by decide) rfl (fun ls hl => ?_)
            refine lv_goto (tgt := 7) hx hb dX1_bodyFor_63 (by decide) ?_
            exact ih (v_47) _ _ _ ⟨lv_sub hl [0, 1, 3, 4] rfl, rfl, rfl⟩
          · skip
            refine lv_iload hx hb dX1_bodyFor_51 (lv_at hl 0 rfl) ?_
            exact W.iret (v := v_45) hx hb hr (fun t ht hW => ⟨v_45, rfl, trivial, ht⟩) (fun _ h => by cases h) dX1_bodyFor_53
        · skip
          refine va_gets hx hb hZ2 va_S.rf hown (hts (.fieldLink RX1 56 "MillTalk$Asks" "SIZE_BODIES" "[I") (by decide +kernel)) (fun _ h9 => h9) dX1_bodyFor_31 ?_
          refine lv_iload_n hx hb dX1_bodyFor_34 rfl (lv_at hl 1 rfl) ?_
          refine va_ti hx hb hT2 va_S.rf (in_6 c_36 c_40) rfl dX1_bodyFor_35 ?_
          refine lv_topi (fun v_48 e_48 => ?_)
          refine lv_goto (tgt := 44) hx hb dX1_bodyFor_36 (by decide) ?_
          refine lv_istore (lv' := [(4, .int v_48), (3, .int (nI ii)), (2, .int w_17), (0, .ref k9), (1, .int x)]) hx hb dX1_bodyFor_44 hl (by decide) rfl (fun ls hl => ?_)
          refine lv_iload hx hb dX1_bodyFor_46 (lv_at hl 0 rfl) ?_
          refine lv_if_eq (tgt := 54) hx hb dX1_bodyFor_48 (by decide) (fun c_49 => ?_) (fun c_49 => ?_)
          · skip
            refine va_getsN hx hb hZ1 va_S.rf hown (va_Nw.use rfl hNk) (fun _ h9 => h9) dX1_bodyFor_54 ?_
            refine lv_iload_n hx hb dX1_bodyFor_57 rfl (lv_at hl 2 rfl) ?_
            refine va_ti hx hb hT1 va_S.rf (in_6 c_36 c_40) rfl dX1_bodyFor_58 ?_
            refine lv_topi (fun v_50 e_50 => ?_)
            refine lv_istore_n (lv' := [(2, .int v_50), (4, .int v_48), (3, .int (nI ii)), (0, .ref k9), (1, .int x)]) hx hb dX1_bodyFor_59 rfl hl (by decide) rfl (fun ls hl => ?_)
            refine lv_iinc (v := (nI (ii + 1))) (lv' := [(3, .int (nI (ii + 1))), (2, .int v_50), (4, .int v_48), (0, .ref k9), (1, .int x)]) hx hb dX1_bodyFor_60 hl (k := 2) rfl (nI_add ii 1) (by decide) rfl (fun ls hl => ?_)
            refine lv_goto (tgt := 7) hx hb dX1_bodyFor_63 (by decide) ?_
            exact ih (v_50) _ _ _ ⟨lv_sub hl [0, 1, 3, 4] rfl, rfl, rfl⟩
          · skip
            refine lv_iload hx hb dX1_bodyFor_51 (lv_at hl 0 rfl) ?_
            exact W.iret (v := v_48) hx hb hr (fun t ht hW => ⟨v_48, rfl, trivial, ht⟩) (fun _ h => by cases h) dX1_bodyFor_53
  · rintro w_17 H locs ls ⟨hl, rfl, rfl⟩
    refine lv_iload_n hx hb dX1_bodyFor_7 rfl (lv_at hl 0 rfl) ?_
    refine va_getsN hx hb hZ1 va_S.rf hown (va_Nw.use rfl hNk) (fun _ h9 => h9) dX1_bodyFor_8 ?_
    refine va_tlen (v := 6) hx hb hT1 va_S.rf (by decide) dX1_bodyFor_11 ?_
    refine lv_icmp_ge (tgt := 66) hx hb dX1_bodyFor_12 (by decide) (fun _ => ?_) (fun c_ => absurd ((nI_leI (a := 6) (b := 6) (by omega) (by omega)).mpr (by omega)) c_)
    refine lv_iload_n hx hb dX1_bodyFor_66 rfl (lv_at hl 3 rfl) ?_
    refine lv_if_ne (tgt := 78) hx hb dX1_bodyFor_67 (by decide) (fun c_52 => ?_) (fun c_52 => ?_)
    · skip
      refine va_gets hx hb hZ3 va_S.rf hown (hts (.fieldLink RX1 59 "MillTalk$Asks" "MARK_BODIES" "[I") (by decide +kernel)) (fun _ h9 => h9) dX1_bodyFor_78 ?_
      refine lv_iconst (v := 0) hx hb dX1_bodyFor_81 (by decide) ?_
      refine va_ti hx hb hT3 va_S.rf (by unfold vp_in; decide) rfl dX1_bodyFor_82 ?_
      refine lv_topi (fun v_53 e_53 => ?_)
      obtain rfl : v_53 = 20 := (e_53).trans (by decide)
      exact W.iret (v := 20) hx hb hr (fun t ht hW => ⟨20, rfl, trivial, ht⟩) (fun _ h => by cases h) dX1_bodyFor_83
    · skip
      refine va_gets hx hb hZ2 va_S.rf hown (hts (.fieldLink RX1 56 "MillTalk$Asks" "SIZE_BODIES" "[I") (by decide +kernel)) (fun _ h9 => h9) dX1_bodyFor_70 ?_
      refine lv_iconst (v := 0) hx hb dX1_bodyFor_73 (by decide) ?_
      refine va_ti hx hb hT2 va_S.rf (by unfold vp_in; decide) rfl dX1_bodyFor_74 ?_
      refine lv_topi (fun v_54 e_54 => ?_)
      obtain rfl : v_54 = 10 := (e_54).trans (by decide)
      refine lv_goto (tgt := 83) hx hb dX1_bodyFor_75 (by decide) ?_
      exact W.iret (v := 10) hx hb hr (fun t ht hW => ⟨10, rfl, trivial, ht⟩) (fun _ h => by cases h) dX1_bodyFor_83
set_option maxHeartbeats 4000000 in
set_option maxRecDepth 100000 in
theorem r_X1_begin_16 (l : Launch) (dC : Nat → ClassId) (dI : Nat → Nat → Nat) (cI cZ cL cJ : ClassId) (sz : Nat) (k9 : Nat) (tc : Nat) (z : Nat) (nu : Int32) (ki : Int32) (ce : Int32) (lo : Int32) (ft : Nat → Int32) (x : Int32) (hz : z ≤ 16) : Met l yX1_begin wsX1_begin ({ frames := 0, cells := 0, slots := 0, locals := 0 }) (va_Pc [.ref k9, .int x, .int 16] (fun U => U.heap.size = sz ∧ va_P (dC, dI) vwCl [(k9, .inr (1, [.ref tc, .int (nI z), .int nu, .int ki, .int ce, .int lo])), (tc, .inl (cI, 16, .inl ft))] U.heap ∧ va_K (dC, dI) vwCl [(cI, .int), (cZ, .boolean), (cL, .object RX3), (cJ, .array .int)] U ∧ va_D (fun _ => True) [(k9, .inr (1, [.ref tc, .int (nI z), .int nu, .int ki, .int ce, .int lo])), (tc, .inl (cI, 16, .inl ft))] ∧ stt (va_A [(k9, .inr (1, [.ref tc, .int (nI z), .int nu, .int ki, .int ce, .int lo])), (tc, .inl (cI, 16, .inl ft))] sz) U U.heap)) (va_Qi (fun r (_ : Unit) => True) (fun (_ : Unit) t => ∃ (zn : Nat) (ftn : Nat → Int32), va_P (dC, dI) vwCl [(k9, .inr (1, [.ref tc, .int (nI zn), .int nu, .int ki, .int ce, .int lo])), (tc, .inl (cI, 16, .inl ftn))] t.heap ∧ va_D (va_A [(k9, .inr (1, [.ref tc, .int (nI z), .int nu, .int ki, .int ce, .int lo])), (tc, .inl (cI, 16, .inl ft))] sz) [(k9, .inr (1, [.ref tc, .int (nI zn), .int nu, .int ki, .int ce, .int lo])), (tc, .inl (cI, 16, .inl ftn))] ∧ zn ≤ 16) (va_A [(k9, .inr (1, [.ref tc, .int (nI z), .int nu, .int ki, .int ce, .int lo])), (tc, .inl (cI, 16, .inl ft))] sz)) 0 0 (va_A [(k9, .inr (1, [.ref tc, .int (nI z), .int nu, .int ki, .int ce, .int lo])), (tc, .inl (cI, 16, .inl ft))] sz) := by
  refine Met.ofW (cc := cX1_begin) (maxL := 4) (ret := (some .int)) (by decide) rfl ?_
  intro p e s m args below meth c s₁ B hml hv
  obtain ⟨rfl, hsz, hP, hK, hD0, hst⟩ := hv
  have hx := B.exec
  have hb := B.bytes
  have hr := B.returns
  have hts := atoms_spec (ws := wsX1_begin) B.pre
  have hown : s.vm.findClass RX1 = some m.cls := findClass_of_methodNamed B.named
  have hlocks := B.notSynchronized
  subst hsz
  have hD := hD0.self (sz := s.heap.size)
  generalize hAe : va_A [(k9, .inr (1, [.ref tc, .int (nI z), .int nu, .int ki, .int ce, .int lo])), (tc, .inl (cI, 16, .inl ft))] s.heap.size = A at hD hst ⊢
  have hA : ∀ q : Nat, s.heap.size ≤ q → A q := fun q h => by rw [← hAe]; exact Or.inr h
  have hS : va_S A s.heap s.heap [] := va_S.rf
  have hP : va_P (dC, dI) vwCl [(k9, .inr (1, [.ref tc, .int (nI z), .int nu, .int ki, .int ce, .int lo])), (tc, .inl (cI, 16, .inl ft))] s.heap := hP
  obtain ⟨⟨tb1, hZ1, hT1⟩, ⟨tb2, hZ2, hT2⟩, ⟨tb3, hZ3, hT3⟩, hNk⟩ := id hst
  have hl := lv_entry ([.ref k9, .int x, .int 16]) (n := 4) (Nat.le_of_ble_eq_true rfl)
  rw [lg_entry_eq]
  generalize (lg_sl ([.ref k9, .int x, .int 16]) ++ List.replicate (4 - (lg_sl ([.ref k9, .int x, .int 16])).length) Slot.unset).toArray = ls at hl ⊢
  have hl : lv_has ls 4 [(0, .ref k9), (1, .int x), (2, .int 16)] := hl
  refine lv_iload_n hx hb dX1_begin_0 rfl (lv_at hl 2 rfl) ?_
  refine lv_bipush (v := 16) hx hb dX1_begin_1 (by decide) ?_
  refine lv_icmp_lt (tgt := 8) hx hb dX1_begin_3 (by decide) (fun c_ => absurd c_ (by decide)) (fun _ => ?_)
  refine lv_iconst (v := 0) hx hb dX1_begin_6 (by decide) ?_
  have hP9 := hP.sub (ws' := [(k9, .inr (1, [.ref tc, .int (nI z), .int nu, .int ki, .int ce, .int lo])), (tc, .inl (cI, 16, .inl ft))]) [0, 1] rfl
  have hD9 := hD.sub (ws' := [(k9, .inr (1, [.ref tc, .int (nI z), .int nu, .int ki, .int ce, .int lo])), (tc, .inl (cI, 16, .inl ft))]) [0, 1] (by decide) rfl
  exact W.iret (v := 0) hx hb hr (fun t ht hW => ⟨⟨0, (), rfl, trivial, ⟨z, ft, by rw [ht]; exact hP9, hD9, (by omega)⟩⟩, hS.F ht⟩) hS.2.2 dX1_begin_7
set_option maxHeartbeats 4000000 in
set_option maxRecDepth 100000 in
theorem r_X1_askAnew_16 (l : Launch) (dC : Nat → ClassId) (dI : Nat → Nat → Nat) (cI cZ cL cJ : ClassId) (sz : Nat) (k9 : Nat) (tc : Nat) (z : Nat) (nu : Int32) (ki : Int32) (ce : Int32) (lo : Int32) (ft : Nat → Int32) (x : Int32) (hz : z ≤ 16) : Met l yX1_askAnew wsX1_askAnew ({ frames := 1, cells := 0, slots := 0, locals := 24 }) (va_Pc [.ref k9, .int x, .int 16] (fun U => U.heap.size = sz ∧ va_P (dC, dI) vwCl [(k9, .inr (1, [.ref tc, .int (nI z), .int nu, .int ki, .int ce, .int lo])), (tc, .inl (cI, 16, .inl ft))] U.heap ∧ va_K (dC, dI) vwCl [(cI, .int), (cZ, .boolean), (cL, .object RX3), (cJ, .array .int)] U ∧ va_D (fun _ => True) [(k9, .inr (1, [.ref tc, .int (nI z), .int nu, .int ki, .int ce, .int lo])), (tc, .inl (cI, 16, .inl ft))] ∧ stt (va_A [(k9, .inr (1, [.ref tc, .int (nI z), .int nu, .int ki, .int ce, .int lo])), (tc, .inl (cI, 16, .inl ft))] sz) U U.heap)) (va_Qi (fun r (_ : Unit) => True) (fun (_ : Unit) t => ∃ (zn : Nat) (ftn : Nat → Int32), va_P (dC, dI) vwCl [(k9, .inr (1, [.ref tc, .int (nI zn), .int nu, .int ki, .int ce, .int lo])), (tc, .inl (cI, 16, .inl ftn))] t.heap ∧ va_D (va_A [(k9, .inr (1, [.ref tc, .int (nI z), .int nu, .int ki, .int ce, .int lo])), (tc, .inl (cI, 16, .inl ft))] sz) [(k9, .inr (1, [.ref tc, .int (nI zn), .int nu, .int ki, .int ce, .int lo])), (tc, .inl (cI, 16, .inl ftn))] ∧ zn ≤ 16) (va_A [(k9, .inr (1, [.ref tc, .int (nI z), .int nu, .int ki, .int ce, .int lo])), (tc, .inl (cI, 16, .inl ft))] sz)) 0 0 (va_A [(k9, .inr (1, [.ref tc, .int (nI z), .int nu, .int ki, .int ce, .int lo])), (tc, .inl (cI, 16, .inl ft))] sz) := by
  refine Met.ofW (cc := cX1_askAnew) (maxL := 3) (ret := (some .int)) (by decide) rfl ?_
  intro p e s m args below meth c s₁ B hml hv
  obtain ⟨rfl, hsz, hP, hK, hD0, hst⟩ := hv
  have hx := B.exec
  have hb := B.bytes
  have hr := B.returns
  have hts := atoms_spec (ws := wsX1_askAnew) B.pre
  have hown : s.vm.findClass RX1 = some m.cls := findClass_of_methodNamed B.named
  have hlocks := B.notSynchronized
  subst hsz
  have hD := hD0.self (sz := s.heap.size)
  generalize hAe : va_A [(k9, .inr (1, [.ref tc, .int (nI z), .int nu, .int ki, .int ce, .int lo])), (tc, .inl (cI, 16, .inl ft))] s.heap.size = A at hD hst ⊢
  have hA : ∀ q : Nat, s.heap.size ≤ q → A q := fun q h => by rw [← hAe]; exact Or.inr h
  have hS : va_S A s.heap s.heap [] := va_S.rf
  have hP : va_P (dC, dI) vwCl [(k9, .inr (1, [.ref tc, .int (nI z), .int nu, .int ki, .int ce, .int lo])), (tc, .inl (cI, 16, .inl ft))] s.heap := hP
  obtain ⟨⟨tb1, hZ1, hT1⟩, ⟨tb2, hZ2, hT2⟩, ⟨tb3, hZ3, hT3⟩, hNk⟩ := id hst
  have hl := lv_entry ([.ref k9, .int x, .int 16]) (n := 3) (Nat.le_of_ble_eq_true rfl)
  rw [lg_entry_eq]
  generalize (lg_sl ([.ref k9, .int x, .int 16]) ++ List.replicate (3 - (lg_sl ([.ref k9, .int x, .int 16])).length) Slot.unset).toArray = ls at hl ⊢
  have hl : lv_has ls 3 [(0, .ref k9), (1, .int x), (2, .int 16)] := hl
  refine lv_aload_n hx hb dX1_askAnew_0 rfl (lv_at hl 0 rfl) ?_
  refine lv_aload_n hx hb dX1_askAnew_1 rfl (lv_at hl 0 rfl) ?_
  refine lv_iload_n hx hb dX1_askAnew_2 rfl (lv_at hl 1 rfl) ?_
  have hPc_1 := hP.sub (ws' := [(k9, .inr (1, [.ref tc, .int (nI z), .int nu, .int ki, .int ce, .int lo]))]) [0] rfl
  refine vp_callSi (W.runV (As := [.int x]) (rest := [.ref k9]) ⟨hx, hb, hml, hown, hts⟩ (r_X1_bodyFor l dC dI cI cZ cL cJ k9 tc z nu ki ce lo x ) (cwV 1 hts gX1_askAnew_X1_bodyFor rfl rfl rfl (by decide +kernel) ⟨Nat.le_of_ble_eq_true rfl, Nat.le_of_ble_eq_true rfl⟩) ⟨fun a U g mk q => by obtain ⟨q0, qP, qK, qS⟩ := q; exact ⟨q0, qP, va_K.moved (u := U) (U := U.calling g mk a) (Vm.Alike.refl U.vm) qK, stt_same rfl qS⟩, va_recv hK hP (ci := 1) (q0 := 0) rfl rfl, fun U hU hW => ⟨rfl, by rw [hU]; exact hPc_1, va_K.moved hW.alike hK, by rw [hU]; exact stt_warm hW (stt_narrow (stt_kept hst hS.2.1) (fun _ h => h.elim))⟩⟩ rfl rfl hl.1 rfl (lv_room (Nat.le_of_ble_eq_true rfl)) dX1_askAnew_3 ⟨Nat.le_of_ble_eq_true rfl, Nat.le_of_ble_eq_true rfl⟩) (fun r_1 h_1 => ?_)
  refine lv_iload_n hx hb dX1_askAnew_6 rfl (lv_at hl 2 rfl) ?_
  have hPc_2 := hP.sub (ws' := [(k9, .inr (1, [.ref tc, .int (nI z), .int nu, .int ki, .int ce, .int lo])), (tc, .inl (cI, 16, .inl ft))]) [0, 1] rfl
  have hDc_2 := hD.sub (ws' := [(k9, .inr (1, [.ref tc, .int (nI z), .int nu, .int ki, .int ce, .int lo])), (tc, .inl (cI, 16, .inl ft))]) [0, 1] (by decide) rfl
  have hFc_2 := va_free (wc := [(k9, .inr (1, [.ref tc, .int (nI z), .int nu, .int ki, .int ce, .int lo])), (tc, .inl (cI, 16, .inl ft))]) hD hS hA [0, 1] rfl
  refine va_calli (va_runV (As := [.int r_1, .int 16]) (rest := []) ⟨hx, hb, hml, hown, hts⟩ (r_X1_begin_16 l dC dI cI cZ cL cJ s.heap.size k9 tc z nu ki ce lo ft r_1 (by omega)) (cwV 2 hts gX1_askAnew_X1_begin rfl rfl rfl (by decide +kernel) ⟨Nat.le_of_ble_eq_true rfl, Nat.le_of_ble_eq_true rfl⟩) ⟨fun a U g mk q => by obtain ⟨q0, q1, qP, qK, qD, qS⟩ := q; exact ⟨q0, q1, qP, va_K.moved (u := U) (U := U.calling g mk a) (Vm.Alike.refl U.vm) qK, qD, stt_same rfl qS⟩, va_recv hK hP (ci := 1) (q0 := 0) rfl rfl, fun U hU hW => ⟨rfl, by rw [hU], by rw [hU]; exact hPc_2, va_K.moved hW.alike hK, hDc_2.weaken (fun _ _ _ _ => trivial), by rw [hU]; exact stt_warm hW (stt_narrow (stt_kept hst hS.2.1) hFc_2)⟩⟩ rfl rfl hl.1 rfl (lv_room (Nat.le_of_ble_eq_true rfl)) dX1_askAnew_7 ⟨Nat.le_of_ble_eq_true rfl, Nat.le_of_ble_eq_true rfl⟩) hS (fun q _ h => hFc_2 q h) hFc_2 (fun r_2 u_2 t_2 H1 locs ht hvm h_2 hB hz1 hk1 hS => ?_)
  obtain ⟨zn_2, ftn_2, hP1, hD1, hF_2_0⟩ := hB
  rw [ht] at hP1
  obtain ⟨hP, hD⟩ := va_join (wr := []) (w1 := [(k9, .inr (1, [.ref tc, .int (nI zn_2), .int nu, .int ki, .int ce, .int lo])), (tc, .inl (cI, 16, .inl ftn_2))]) hP hD [0, 1] [] rfl rfl (by decide) (by decide) hk1 hFc_2 hP1 hD1
  generalize H1 = H at hP hS ⊢
  have hP : va_P (dC, dI) vwCl [(k9, .inr (1, [.ref tc, .int (nI zn_2), .int nu, .int ki, .int ce, .int lo])), (tc, .inl (cI, 16, .inl ftn_2))] H := hP
  have hD : va_D A [(k9, .inr (1, [.ref tc, .int (nI zn_2), .int nu, .int ki, .int ce, .int lo])), (tc, .inl (cI, 16, .inl ftn_2))] := hD
  have hP9 := hP.sub (ws' := [(k9, .inr (1, [.ref tc, .int (nI zn_2), .int nu, .int ki, .int ce, .int lo])), (tc, .inl (cI, 16, .inl ftn_2))]) [0, 1] rfl
  have hD9 := hD.sub (ws' := [(k9, .inr (1, [.ref tc, .int (nI zn_2), .int nu, .int ki, .int ce, .int lo])), (tc, .inl (cI, 16, .inl ftn_2))]) [0, 1] (by decide) rfl
  exact W.iret (v := r_2) hx hb hr (fun t ht hW => ⟨⟨r_2, (), rfl, trivial, ⟨zn_2, ftn_2, by rw [ht]; exact hP9, hD9, (by omega)⟩⟩, hS.F ht⟩) hS.2.2 dX1_askAnew_10
set_option maxHeartbeats 4000000 in
set_option maxRecDepth 100000 in
theorem r_X1_begin_15 (l : Launch) (dC : Nat → ClassId) (dI : Nat → Nat → Nat) (cI cZ cL cJ : ClassId) (sz : Nat) (k9 : Nat) (tc : Nat) (z : Nat) (nu : Int32) (ki : Int32) (ce : Int32) (lo : Int32) (ft : Nat → Int32) (x : Int32) (hz : z ≤ 16) : Met l yX1_begin wsX1_begin ({ frames := 2, cells := 0, slots := 0, locals := 46 }) (va_Pc [.ref k9, .int x, .int 15] (fun U => U.heap.size = sz ∧ va_P (dC, dI) vwCl [(k9, .inr (1, [.ref tc, .int (nI z), .int nu, .int ki, .int ce, .int lo])), (tc, .inl (cI, 16, .inl ft))] U.heap ∧ va_K (dC, dI) vwCl [(cI, .int), (cZ, .boolean), (cL, .object RX3), (cJ, .array .int)] U ∧ va_D (fun _ => True) [(k9, .inr (1, [.ref tc, .int (nI z), .int nu, .int ki, .int ce, .int lo])), (tc, .inl (cI, 16, .inl ft))] ∧ stt (va_A [(k9, .inr (1, [.ref tc, .int (nI z), .int nu, .int ki, .int ce, .int lo])), (tc, .inl (cI, 16, .inl ft))] sz) U U.heap)) (va_Qi (fun r (_ : Unit) => True) (fun (_ : Unit) t => ∃ (zn : Nat) (ftn : Nat → Int32), va_P (dC, dI) vwCl [(k9, .inr (1, [.ref tc, .int (nI zn), .int nu, .int ki, .int ce, .int lo])), (tc, .inl (cI, 16, .inl ftn))] t.heap ∧ va_D (va_A [(k9, .inr (1, [.ref tc, .int (nI z), .int nu, .int ki, .int ce, .int lo])), (tc, .inl (cI, 16, .inl ft))] sz) [(k9, .inr (1, [.ref tc, .int (nI zn), .int nu, .int ki, .int ce, .int lo])), (tc, .inl (cI, 16, .inl ftn))] ∧ zn ≤ 16) (va_A [(k9, .inr (1, [.ref tc, .int (nI z), .int nu, .int ki, .int ce, .int lo])), (tc, .inl (cI, 16, .inl ft))] sz)) 0 0 (va_A [(k9, .inr (1, [.ref tc, .int (nI z), .int nu, .int ki, .int ce, .int lo])), (tc, .inl (cI, 16, .inl ft))] sz) := by
  refine Met.ofW (cc := cX1_begin) (maxL := 4) (ret := (some .int)) (by decide) rfl ?_
  intro p e s m args below meth c s₁ B hml hv
  obtain ⟨rfl, hsz, hP, hK, hD0, hst⟩ := hv
  have hx := B.exec
  have hb := B.bytes
  have hr := B.returns
  have hts := atoms_spec (ws := wsX1_begin) B.pre
  have hown : s.vm.findClass RX1 = some m.cls := findClass_of_methodNamed B.named
  have hlocks := B.notSynchronized
  subst hsz
  have hD := hD0.self (sz := s.heap.size)
  generalize hAe : va_A [(k9, .inr (1, [.ref tc, .int (nI z), .int nu, .int ki, .int ce, .int lo])), (tc, .inl (cI, 16, .inl ft))] s.heap.size = A at hD hst ⊢
  have hA : ∀ q : Nat, s.heap.size ≤ q → A q := fun q h => by rw [← hAe]; exact Or.inr h
  have hS : va_S A s.heap s.heap [] := va_S.rf
  have hP : va_P (dC, dI) vwCl [(k9, .inr (1, [.ref tc, .int (nI z), .int nu, .int ki, .int ce, .int lo])), (tc, .inl (cI, 16, .inl ft))] s.heap := hP
  obtain ⟨⟨tb1, hZ1, hT1⟩, ⟨tb2, hZ2, hT2⟩, ⟨tb3, hZ3, hT3⟩, hNk⟩ := id hst
  have hl := lv_entry ([.ref k9, .int x, .int 15]) (n := 4) (Nat.le_of_ble_eq_true rfl)
  rw [lg_entry_eq]
  generalize (lg_sl ([.ref k9, .int x, .int 15]) ++ List.replicate (4 - (lg_sl ([.ref k9, .int x, .int 15])).length) Slot.unset).toArray = ls at hl ⊢
  have hl : lv_has ls 4 [(0, .ref k9), (1, .int x), (2, .int 15)] := hl
  refine lv_iload_n hx hb dX1_begin_0 rfl (lv_at hl 2 rfl) ?_
  refine lv_bipush (v := 16) hx hb dX1_begin_1 (by decide) ?_
  refine lv_icmp_lt (tgt := 8) hx hb dX1_begin_3 (by decide) (fun _ => ?_) (fun c_ => absurd (by decide) c_)
  refine lv_aload_n hx hb dX1_begin_8 rfl (lv_at hl 0 rfl) ?_
  refine lv_iload_n hx hb dX1_begin_9 rfl (lv_at hl 1 rfl) ?_
  have hPc_2 := hP.sub (ws' := [(k9, .inr (1, [.ref tc, .int (nI z), .int nu, .int ki, .int ce, .int lo])), (tc, .inl (cI, 16, .inl ft))]) [0, 1] rfl
  have hDc_2 := hD.sub (ws' := [(k9, .inr (1, [.ref tc, .int (nI z), .int nu, .int ki, .int ce, .int lo])), (tc, .inl (cI, 16, .inl ft))]) [0, 1] (by decide) rfl
  have hFc_2 := va_free (wc := [(k9, .inr (1, [.ref tc, .int (nI z), .int nu, .int ki, .int ce, .int lo])), (tc, .inl (cI, 16, .inl ft))]) hD hS hA [0, 1] rfl
  refine va_callv (va_runV (As := [.int x]) (rest := []) ⟨hx, hb, hml, hown, hts⟩ (r_X1_leave l dC dI cI cZ cL cJ s.heap.size k9 tc z nu ki ce lo ft x (by omega)) (cwV 1 hts gX1_begin_X1_leave rfl rfl rfl (by decide +kernel) ⟨Nat.le_of_ble_eq_true rfl, Nat.le_of_ble_eq_true rfl⟩) ⟨fun a U g mk q => by obtain ⟨q0, q1, qP, qK, qD⟩ := q; exact ⟨q0, q1, qP, va_K.moved (u := U) (U := U.calling g mk a) (Vm.Alike.refl U.vm) qK, qD⟩, va_recv hK hP (ci := 1) (q0 := 0) rfl rfl, fun U hU hW => ⟨rfl, by rw [hU], by rw [hU]; exact hPc_2, va_K.moved hW.alike hK, hDc_2.weaken (fun _ _ _ _ => trivial)⟩⟩ rfl rfl hl.1 rfl (lv_room (Nat.le_of_ble_eq_true rfl)) dX1_begin_10 ⟨Nat.le_of_ble_eq_true rfl, Nat.le_of_ble_eq_true rfl⟩) hS (fun q _ h => hFc_2 q h) hFc_2 (fun u_2 t_2 H1 locs ht hvm h_2 hB hz1 hk1 hS => ?_)
  obtain ⟨zn_2, ftn_2, hP1, hD1, hF_2_0⟩ := hB
  rw [ht] at hP1
  obtain ⟨hP, hD⟩ := va_join (wr := []) (w1 := [(k9, .inr (1, [.ref tc, .int (nI zn_2), .int nu, .int ki, .int ce, .int lo])), (tc, .inl (cI, 16, .inl ftn_2))]) hP hD [0, 1] [] rfl rfl (by decide) (by decide) hk1 hFc_2 hP1 hD1
  generalize H1 = H at hP hS ⊢
  have hP : va_P (dC, dI) vwCl [(k9, .inr (1, [.ref tc, .int (nI zn_2), .int nu, .int ki, .int ce, .int lo])), (tc, .inl (cI, 16, .inl ftn_2))] H := hP
  have hD : va_D A [(k9, .inr (1, [.ref tc, .int (nI zn_2), .int nu, .int ki, .int ce, .int lo])), (tc, .inl (cI, 16, .inl ftn_2))] := hD
  refine lv_iload_n hx hb dX1_begin_13 rfl (lv_at hl 2 rfl) ?_
  refine lv_iconst (v := 1) hx hb dX1_begin_14 (by decide) ?_
  refine lv_iadd hx hb dX1_begin_15 ?_
  refine lv_topi (fun v_3 e_3 => ?_)
  obtain rfl : v_3 = 16 := (e_3).trans (by decide)
  refine lv_istore_n (lv' := [(3, .int 16), (0, .ref k9), (1, .int x), (2, .int 15)]) hx hb dX1_begin_16 rfl hl (by decide) rfl (fun ls hl => ?_)
  refine lv_iload_n hx hb dX1_begin_17 rfl (lv_at hl 2 rfl) ?_
  by_cases k_4 : x = 10
  · subst k_4
    refine lv_tableIn (off := 74) (tgt := 92) hx hb dX1_begin_18 (by decide) (by decide) (by decide) (by decide) ?_
    refine lv_aload_n hx hb dX1_begin_92 rfl (lv_at hl 1 rfl) ?_
    refine va_get (D := (dC, dI)) (ci := 1) (v := .int lo) (C := RX1) (T := TX1) (N := 6) hx hb hts i_X1_begin_X1 hown hK hP 0 rfl rfl 5 (by decide) (hts (.fieldLink RX1 39 "MillTalk$Asks" "loud" "I") (by decide +kernel)) (fun _ h9 => h9) rfl dX1_begin_93 ?_
    have hP9 := hP.sub (ws' := [(k9, .inr (1, [.ref tc, .int (nI zn_2), .int nu, .int ki, .int ce, .int lo])), (tc, .inl (cI, 16, .inl ftn_2))]) [0, 1] rfl
    have hD9 := hD.sub (ws' := [(k9, .inr (1, [.ref tc, .int (nI zn_2), .int nu, .int ki, .int ce, .int lo])), (tc, .inl (cI, 16, .inl ftn_2))]) [0, 1] (by decide) rfl
    exact W.iret (v := lo) hx hb hr (fun t ht hW => ⟨⟨lo, (), rfl, trivial, ⟨zn_2, ftn_2, by rw [ht]; exact hP9, hD9, (by omega)⟩⟩, hS.F ht⟩) hS.2.2 dX1_begin_96
  by_cases k_5 : x = 11
  · subst k_5
    refine lv_tableIn (off := 79) (tgt := 97) hx hb dX1_begin_18 (by decide) (by decide) (by decide) (by decide) ?_
    refine lv_aload_n hx hb dX1_begin_97 rfl (lv_at hl 1 rfl) ?_
    refine lv_bipush (v := 10) hx hb dX1_begin_98 (by decide) ?_
    refine lv_iload_n hx hb dX1_begin_100 rfl (lv_at hl 0 rfl) ?_
    have hPc_6 := hP.sub (ws' := [(k9, .inr (1, [.ref tc, .int (nI zn_2), .int nu, .int ki, .int ce, .int lo])), (tc, .inl (cI, 16, .inl ftn_2))]) [0, 1] rfl
    have hDc_6 := hD.sub (ws' := [(k9, .inr (1, [.ref tc, .int (nI zn_2), .int nu, .int ki, .int ce, .int lo])), (tc, .inl (cI, 16, .inl ftn_2))]) [0, 1] (by decide) rfl
    have hFc_6 := va_free (wc := [(k9, .inr (1, [.ref tc, .int (nI zn_2), .int nu, .int ki, .int ce, .int lo])), (tc, .inl (cI, 16, .inl ftn_2))]) hD hS hA [0, 1] rfl
    refine va_calli (va_runV (As := [.int 10, .int 16]) (rest := []) ⟨hx, hb, hml, hown, hts⟩ (r_X1_begin_16 l dC dI cI cZ cL cJ H.size k9 tc zn_2 nu ki ce lo ftn_2 10 (by omega)) (cwV 2 hts gX1_begin_X1_begin rfl rfl rfl (by decide +kernel) ⟨Nat.le_of_ble_eq_true rfl, Nat.le_of_ble_eq_true rfl⟩) ⟨fun a U g mk q => by obtain ⟨q0, q1, qP, qK, qD, qS⟩ := q; exact ⟨q0, q1, qP, va_K.moved (u := U) (U := U.calling g mk a) (Vm.Alike.refl U.vm) qK, qD, stt_same rfl qS⟩, va_recv hK hP (ci := 1) (q0 := 0) rfl rfl, fun U hU hW => ⟨rfl, by rw [hU], by rw [hU]; exact hPc_6, va_K.moved hW.alike hK, hDc_6.weaken (fun _ _ _ _ => trivial), by rw [hU]; exact stt_warm hW (stt_narrow (stt_kept hst hS.2.1) hFc_6)⟩⟩ rfl rfl hl.1 rfl (lv_room (Nat.le_of_ble_eq_true rfl)) dX1_begin_101 ⟨Nat.le_of_ble_eq_true rfl, Nat.le_of_ble_eq_true rfl⟩) hS (fun q _ h => hFc_6 q h) hFc_6 (fun r_6 u_6 t_6 H1 locs ht hvm h_6 hB hz1 hk1 hS => ?_)
    obtain ⟨zn_6, ftn_6, hP1, hD1, hF_6_0⟩ := hB
    rw [ht] at hP1
    obtain ⟨hP, hD⟩ := va_join (wr := []) (w1 := [(k9, .inr (1, [.ref tc, .int (nI zn_6), .int nu, .int ki, .int ce, .int lo])), (tc, .inl (cI, 16, .inl ftn_6))]) hP hD [0, 1] [] rfl rfl (by decide) (by decide) hk1 hFc_6 hP1 hD1
    generalize H1 = H at hP hS ⊢
    have hP : va_P (dC, dI) vwCl [(k9, .inr (1, [.ref tc, .int (nI zn_6), .int nu, .int ki, .int ce, .int lo])), (tc, .inl (cI, 16, .inl ftn_6))] H := hP
    have hD : va_D A [(k9, .inr (1, [.ref tc, .int (nI zn_6), .int nu, .int ki, .int ce, .int lo])), (tc, .inl (cI, 16, .inl ftn_6))] := hD
    refine lv_aload_n hx hb dX1_begin_104 rfl (lv_at hl 1 rfl) ?_
    refine lv_iconst (v := 1) hx hb dX1_begin_105 (by decide) ?_
    refine lv_iload_n hx hb dX1_begin_106 rfl (lv_at hl 0 rfl) ?_
    have hPc_7 := hP.sub (ws' := [(k9, .inr (1, [.ref tc, .int (nI zn_6), .int nu, .int ki, .int ce, .int lo])), (tc, .inl (cI, 16, .inl ftn_6))]) [0, 1] rfl
    have hDc_7 := hD.sub (ws' := [(k9, .inr (1, [.ref tc, .int (nI zn_6), .int nu, .int ki, .int ce, .int lo])), (tc, .inl (cI, 16, .inl ftn_6))]) [0, 1] (by decide) rfl
    have hFc_7 := va_free (wc := [(k9, .inr (1, [.ref tc, .int (nI zn_6), .int nu, .int ki, .int ce, .int lo])), (tc, .inl (cI, 16, .inl ftn_6))]) hD hS hA [0, 1] rfl
    refine va_calli (va_runV (As := [.int 1, .int 16]) (rest := [.int r_6]) ⟨hx, hb, hml, hown, hts⟩ (r_X1_askAnew_16 l dC dI cI cZ cL cJ H.size k9 tc zn_6 nu ki ce lo ftn_6 1 (by omega)) (cwV 2 hts gX1_begin_X1_askAnew rfl rfl rfl (by decide +kernel) ⟨Nat.le_of_ble_eq_true rfl, Nat.le_of_ble_eq_true rfl⟩) ⟨fun a U g mk q => by obtain ⟨q0, q1, qP, qK, qD, qS⟩ := q; exact ⟨q0, q1, qP, va_K.moved (u := U) (U := U.calling g mk a) (Vm.Alike.refl U.vm) qK, qD, stt_same rfl qS⟩, va_recv hK hP (ci := 1) (q0 := 0) rfl rfl, fun U hU hW => ⟨rfl, by rw [hU], by rw [hU]; exact hPc_7, va_K.moved hW.alike hK, hDc_7.weaken (fun _ _ _ _ => trivial), by rw [hU]; exact stt_warm hW (stt_narrow (stt_kept hst hS.2.1) hFc_7)⟩⟩ rfl rfl hl.1 rfl (lv_room (Nat.le_of_ble_eq_true rfl)) dX1_begin_107 ⟨Nat.le_of_ble_eq_true rfl, Nat.le_of_ble_eq_true rfl⟩) hS (fun q _ h => hFc_7 q h) hFc_7 (fun r_7 u_7 t_7 H1 locs ht hvm h_7 hB hz1 hk1 hS => ?_)
    obtain ⟨zn_7, ftn_7, hP1, hD1, hF_7_0⟩ := hB
    rw [ht] at hP1
    obtain ⟨hP, hD⟩ := va_join (wr := []) (w1 := [(k9, .inr (1, [.ref tc, .int (nI zn_7), .int nu, .int ki, .int ce, .int lo])), (tc, .inl (cI, 16, .inl ftn_7))]) hP hD [0, 1] [] rfl rfl (by decide) (by decide) hk1 hFc_7 hP1 hD1
    generalize H1 = H at hP hS ⊢
    have hP : va_P (dC, dI) vwCl [(k9, .inr (1, [.ref tc, .int (nI zn_7), .int nu, .int ki, .int ce, .int lo])), (tc, .inl (cI, 16, .inl ftn_7))] H := hP
    have hD : va_D A [(k9, .inr (1, [.ref tc, .int (nI zn_7), .int nu, .int ki, .int ce, .int lo])), (tc, .inl (cI, 16, .inl ftn_7))] := hD
    refine lv_iadd hx hb dX1_begin_110 ?_
    refine lv_topi (fun v_8 e_8 => ?_)
    have hP9 := hP.sub (ws' := [(k9, .inr (1, [.ref tc, .int (nI zn_7), .int nu, .int ki, .int ce, .int lo])), (tc, .inl (cI, 16, .inl ftn_7))]) [0, 1] rfl
    have hD9 := hD.sub (ws' := [(k9, .inr (1, [.ref tc, .int (nI zn_7), .int nu, .int ki, .int ce, .int lo])), (tc, .inl (cI, 16, .inl ftn_7))]) [0, 1] (by decide) rfl
    exact W.iret (v := v_8) hx hb hr (fun t ht hW => ⟨⟨v_8, (), rfl, trivial, ⟨zn_7, ftn_7, by rw [ht]; exact hP9, hD9, (by omega)⟩⟩, hS.F ht⟩) hS.2.2 dX1_begin_111
  by_cases k_9 : x = 12
  · subst k_9
    refine lv_tableIn (off := 94) (tgt := 112) hx hb dX1_begin_18 (by decide) (by decide) (by decide) (by decide) ?_
    refine lv_aload_n hx hb dX1_begin_112 rfl (lv_at hl 1 rfl) ?_
    refine lv_bipush (v := 11) hx hb dX1_begin_113 (by decide) ?_
    refine lv_iload_n hx hb dX1_begin_115 rfl (lv_at hl 0 rfl) ?_
    have hPc_10 := hP.sub (ws' := [(k9, .inr (1, [.ref tc, .int (nI zn_2), .int nu, .int ki, .int ce, .int lo])), (tc, .inl (cI, 16, .inl ftn_2))]) [0, 1] rfl
    have hDc_10 := hD.sub (ws' := [(k9, .inr (1, [.ref tc, .int (nI zn_2), .int nu, .int ki, .int ce, .int lo])), (tc, .inl (cI, 16, .inl ftn_2))]) [0, 1] (by decide) rfl
    have hFc_10 := va_free (wc := [(k9, .inr (1, [.ref tc, .int (nI zn_2), .int nu, .int ki, .int ce, .int lo])), (tc, .inl (cI, 16, .inl ftn_2))]) hD hS hA [0, 1] rfl
    refine va_calli (va_runV (As := [.int 11, .int 16]) (rest := []) ⟨hx, hb, hml, hown, hts⟩ (r_X1_begin_16 l dC dI cI cZ cL cJ H.size k9 tc zn_2 nu ki ce lo ftn_2 11 (by omega)) (cwV 2 hts gX1_begin_X1_begin rfl rfl rfl (by decide +kernel) ⟨Nat.le_of_ble_eq_true rfl, Nat.le_of_ble_eq_true rfl⟩) ⟨fun a U g mk q => by obtain ⟨q0, q1, qP, qK, qD, qS⟩ := q; exact ⟨q0, q1, qP, va_K.moved (u := U) (U := U.calling g mk a) (Vm.Alike.refl U.vm) qK, qD, stt_same rfl qS⟩, va_recv hK hP (ci := 1) (q0 := 0) rfl rfl, fun U hU hW => ⟨rfl, by rw [hU], by rw [hU]; exact hPc_10, va_K.moved hW.alike hK, hDc_10.weaken (fun _ _ _ _ => trivial), by rw [hU]; exact stt_warm hW (stt_narrow (stt_kept hst hS.2.1) hFc_10)⟩⟩ rfl rfl hl.1 rfl (lv_room (Nat.le_of_ble_eq_true rfl)) dX1_begin_116 ⟨Nat.le_of_ble_eq_true rfl, Nat.le_of_ble_eq_true rfl⟩) hS (fun q _ h => hFc_10 q h) hFc_10 (fun r_10 u_10 t_10 H1 locs ht hvm h_10 hB hz1 hk1 hS => ?_)
    obtain ⟨zn_10, ftn_10, hP1, hD1, hF_10_0⟩ := hB
    rw [ht] at hP1
    obtain ⟨hP, hD⟩ := va_join (wr := []) (w1 := [(k9, .inr (1, [.ref tc, .int (nI zn_10), .int nu, .int ki, .int ce, .int lo])), (tc, .inl (cI, 16, .inl ftn_10))]) hP hD [0, 1] [] rfl rfl (by decide) (by decide) hk1 hFc_10 hP1 hD1
    generalize H1 = H at hP hS ⊢
    have hP : va_P (dC, dI) vwCl [(k9, .inr (1, [.ref tc, .int (nI zn_10), .int nu, .int ki, .int ce, .int lo])), (tc, .inl (cI, 16, .inl ftn_10))] H := hP
    have hD : va_D A [(k9, .inr (1, [.ref tc, .int (nI zn_10), .int nu, .int ki, .int ce, .int lo])), (tc, .inl (cI, 16, .inl ftn_10))] := hD
    refine lv_ineg hx hb dX1_begin_119 ?_
    refine lv_topi (fun v_11 e_11 => ?_)
    have hP9 := hP.sub (ws' := [(k9, .inr (1, [.ref tc, .int (nI zn_10), .int nu, .int ki, .int ce, .int lo])), (tc, .inl (cI, 16, .inl ftn_10))]) [0, 1] rfl
    have hD9 := hD.sub (ws' := [(k9, .inr (1, [.ref tc, .int (nI zn_10), .int nu, .int ki, .int ce, .int lo])), (tc, .inl (cI, 16, .inl ftn_10))]) [0, 1] (by decide) rfl
    exact W.iret (v := v_11) hx hb hr (fun t ht hW => ⟨⟨v_11, (), rfl, trivial, ⟨zn_10, ftn_10, by rw [ht]; exact hP9, hD9, (by omega)⟩⟩, hS.F ht⟩) hS.2.2 dX1_begin_120
  by_cases k_12 : x = 13
  · subst k_12
    refine lv_tableIn (off := 103) (tgt := 121) hx hb dX1_begin_18 (by decide) (by decide) (by decide) (by decide) ?_
    refine lv_aload_n hx hb dX1_begin_121 rfl (lv_at hl 1 rfl) ?_
    refine lv_bipush (v := 10) hx hb dX1_begin_122 (by decide) ?_
    refine lv_iload_n hx hb dX1_begin_124 rfl (lv_at hl 0 rfl) ?_
    have hPc_13 := hP.sub (ws' := [(k9, .inr (1, [.ref tc, .int (nI zn_2), .int nu, .int ki, .int ce, .int lo])), (tc, .inl (cI, 16, .inl ftn_2))]) [0, 1] rfl
    have hDc_13 := hD.sub (ws' := [(k9, .inr (1, [.ref tc, .int (nI zn_2), .int nu, .int ki, .int ce, .int lo])), (tc, .inl (cI, 16, .inl ftn_2))]) [0, 1] (by decide) rfl
    have hFc_13 := va_free (wc := [(k9, .inr (1, [.ref tc, .int (nI zn_2), .int nu, .int ki, .int ce, .int lo])), (tc, .inl (cI, 16, .inl ftn_2))]) hD hS hA [0, 1] rfl
    refine va_calli (va_runV (As := [.int 10, .int 16]) (rest := []) ⟨hx, hb, hml, hown, hts⟩ (r_X1_begin_16 l dC dI cI cZ cL cJ H.size k9 tc zn_2 nu ki ce lo ftn_2 10 (by omega)) (cwV 2 hts gX1_begin_X1_begin rfl rfl rfl (by decide +kernel) ⟨Nat.le_of_ble_eq_true rfl, Nat.le_of_ble_eq_true rfl⟩) ⟨fun a U g mk q => by obtain ⟨q0, q1, qP, qK, qD, qS⟩ := q; exact ⟨q0, q1, qP, va_K.moved (u := U) (U := U.calling g mk a) (Vm.Alike.refl U.vm) qK, qD, stt_same rfl qS⟩, va_recv hK hP (ci := 1) (q0 := 0) rfl rfl, fun U hU hW => ⟨rfl, by rw [hU], by rw [hU]; exact hPc_13, va_K.moved hW.alike hK, hDc_13.weaken (fun _ _ _ _ => trivial), by rw [hU]; exact stt_warm hW (stt_narrow (stt_kept hst hS.2.1) hFc_13)⟩⟩ rfl rfl hl.1 rfl (lv_room (Nat.le_of_ble_eq_true rfl)) dX1_begin_125 ⟨Nat.le_of_ble_eq_true rfl, Nat.le_of_ble_eq_true rfl⟩) hS (fun q _ h => hFc_13 q h) hFc_13 (fun r_13 u_13 t_13 H1 locs ht hvm h_13 hB hz1 hk1 hS => ?_)
    obtain ⟨zn_13, ftn_13, hP1, hD1, hF_13_0⟩ := hB
    rw [ht] at hP1
    obtain ⟨hP, hD⟩ := va_join (wr := []) (w1 := [(k9, .inr (1, [.ref tc, .int (nI zn_13), .int nu, .int ki, .int ce, .int lo])), (tc, .inl (cI, 16, .inl ftn_13))]) hP hD [0, 1] [] rfl rfl (by decide) (by decide) hk1 hFc_13 hP1 hD1
    generalize H1 = H at hP hS ⊢
    have hP : va_P (dC, dI) vwCl [(k9, .inr (1, [.ref tc, .int (nI zn_13), .int nu, .int ki, .int ce, .int lo])), (tc, .inl (cI, 16, .inl ftn_13))] H := hP
    have hD : va_D A [(k9, .inr (1, [.ref tc, .int (nI zn_13), .int nu, .int ki, .int ce, .int lo])), (tc, .inl (cI, 16, .inl ftn_13))] := hD
    refine lv_bipush (v := 100) hx hb dX1_begin_128 (by decide) ?_
    refine lv_isub hx hb dX1_begin_130 ?_
    refine lv_topi (fun v_14 e_14 => ?_)
    have hP9 := hP.sub (ws' := [(k9, .inr (1, [.ref tc, .int (nI zn_13), .int nu, .int ki, .int ce, .int lo])), (tc, .inl (cI, 16, .inl ftn_13))]) [0, 1] rfl
    have hD9 := hD.sub (ws' := [(k9, .inr (1, [.ref tc, .int (nI zn_13), .int nu, .int ki, .int ce, .int lo])), (tc, .inl (cI, 16, .inl ftn_13))]) [0, 1] (by decide) rfl
    exact W.iret (v := v_14) hx hb hr (fun t ht hW => ⟨⟨v_14, (), rfl, trivial, ⟨zn_13, ftn_13, by rw [ht]; exact hP9, hD9, (by omega)⟩⟩, hS.F ht⟩) hS.2.2 dX1_begin_131
  by_cases k_15 : x = 14
  · subst k_15
    refine lv_tableIn (off := 114) (tgt := 132) hx hb dX1_begin_18 (by decide) (by decide) (by decide) (by decide) ?_
    refine lv_aload_n hx hb dX1_begin_132 rfl (lv_at hl 1 rfl) ?_
    refine lv_bipush (v := 13) hx hb dX1_begin_133 (by decide) ?_
    refine lv_iload_n hx hb dX1_begin_135 rfl (lv_at hl 0 rfl) ?_
    have hPc_16 := hP.sub (ws' := [(k9, .inr (1, [.ref tc, .int (nI zn_2), .int nu, .int ki, .int ce, .int lo])), (tc, .inl (cI, 16, .inl ftn_2))]) [0, 1] rfl
    have hDc_16 := hD.sub (ws' := [(k9, .inr (1, [.ref tc, .int (nI zn_2), .int nu, .int ki, .int ce, .int lo])), (tc, .inl (cI, 16, .inl ftn_2))]) [0, 1] (by decide) rfl
    have hFc_16 := va_free (wc := [(k9, .inr (1, [.ref tc, .int (nI zn_2), .int nu, .int ki, .int ce, .int lo])), (tc, .inl (cI, 16, .inl ftn_2))]) hD hS hA [0, 1] rfl
    refine va_calli (va_runV (As := [.int 13, .int 16]) (rest := []) ⟨hx, hb, hml, hown, hts⟩ (r_X1_begin_16 l dC dI cI cZ cL cJ H.size k9 tc zn_2 nu ki ce lo ftn_2 13 (by omega)) (cwV 2 hts gX1_begin_X1_begin rfl rfl rfl (by decide +kernel) ⟨Nat.le_of_ble_eq_true rfl, Nat.le_of_ble_eq_true rfl⟩) ⟨fun a U g mk q => by obtain ⟨q0, q1, qP, qK, qD, qS⟩ := q; exact ⟨q0, q1, qP, va_K.moved (u := U) (U := U.calling g mk a) (Vm.Alike.refl U.vm) qK, qD, stt_same rfl qS⟩, va_recv hK hP (ci := 1) (q0 := 0) rfl rfl, fun U hU hW => ⟨rfl, by rw [hU], by rw [hU]; exact hPc_16, va_K.moved hW.alike hK, hDc_16.weaken (fun _ _ _ _ => trivial), by rw [hU]; exact stt_warm hW (stt_narrow (stt_kept hst hS.2.1) hFc_16)⟩⟩ rfl rfl hl.1 rfl (lv_room (Nat.le_of_ble_eq_true rfl)) dX1_begin_136 ⟨Nat.le_of_ble_eq_true rfl, Nat.le_of_ble_eq_true rfl⟩) hS (fun q _ h => hFc_16 q h) hFc_16 (fun r_16 u_16 t_16 H1 locs ht hvm h_16 hB hz1 hk1 hS => ?_)
    obtain ⟨zn_16, ftn_16, hP1, hD1, hF_16_0⟩ := hB
    rw [ht] at hP1
    obtain ⟨hP, hD⟩ := va_join (wr := []) (w1 := [(k9, .inr (1, [.ref tc, .int (nI zn_16), .int nu, .int ki, .int ce, .int lo])), (tc, .inl (cI, 16, .inl ftn_16))]) hP hD [0, 1] [] rfl rfl (by decide) (by decide) hk1 hFc_16 hP1 hD1
    generalize H1 = H at hP hS ⊢
    have hP : va_P (dC, dI) vwCl [(k9, .inr (1, [.ref tc, .int (nI zn_16), .int nu, .int ki, .int ce, .int lo])), (tc, .inl (cI, 16, .inl ftn_16))] H := hP
    have hD : va_D A [(k9, .inr (1, [.ref tc, .int (nI zn_16), .int nu, .int ki, .int ce, .int lo])), (tc, .inl (cI, 16, .inl ftn_16))] := hD
    refine lv_iconst (v := 2) hx hb dX1_begin_139 (by decide) ?_
    refine lv_imul hx hb dX1_begin_140 ?_
    refine lv_topi (fun v_17 e_17 => ?_)
    have hP9 := hP.sub (ws' := [(k9, .inr (1, [.ref tc, .int (nI zn_16), .int nu, .int ki, .int ce, .int lo])), (tc, .inl (cI, 16, .inl ftn_16))]) [0, 1] rfl
    have hD9 := hD.sub (ws' := [(k9, .inr (1, [.ref tc, .int (nI zn_16), .int nu, .int ki, .int ce, .int lo])), (tc, .inl (cI, 16, .inl ftn_16))]) [0, 1] (by decide) rfl
    exact W.iret (v := v_17) hx hb hr (fun t ht hW => ⟨⟨v_17, (), rfl, trivial, ⟨zn_16, ftn_16, by rw [ht]; exact hP9, hD9, (by omega)⟩⟩, hS.F ht⟩) hS.2.2 dX1_begin_141
  by_cases k_18 : x = 15
  · subst k_18
    refine lv_tableIn (off := 179) (tgt := 197) hx hb dX1_begin_18 (by decide) (by decide) (by decide) (by decide) ?_
    refine lv_iconst (v := 0) hx hb dX1_begin_197 (by decide) ?_
    have hP9 := hP.sub (ws' := [(k9, .inr (1, [.ref tc, .int (nI zn_2), .int nu, .int ki, .int ce, .int lo])), (tc, .inl (cI, 16, .inl ftn_2))]) [0, 1] rfl
    have hD9 := hD.sub (ws' := [(k9, .inr (1, [.ref tc, .int (nI zn_2), .int nu, .int ki, .int ce, .int lo])), (tc, .inl (cI, 16, .inl ftn_2))]) [0, 1] (by decide) rfl
    exact W.iret (v := 0) hx hb hr (fun t ht hW => ⟨⟨0, (), rfl, trivial, ⟨zn_2, ftn_2, by rw [ht]; exact hP9, hD9, (by omega)⟩⟩, hS.F ht⟩) hS.2.2 dX1_begin_198
  by_cases k_19 : x = 16
  · subst k_19
    refine lv_tableIn (off := 179) (tgt := 197) hx hb dX1_begin_18 (by decide) (by decide) (by decide) (by decide) ?_
    refine lv_iconst (v := 0) hx hb dX1_begin_197 (by decide) ?_
    have hP9 := hP.sub (ws' := [(k9, .inr (1, [.ref tc, .int (nI zn_2), .int nu, .int ki, .int ce, .int lo])), (tc, .inl (cI, 16, .inl ftn_2))]) [0, 1] rfl
    have hD9 := hD.sub (ws' := [(k9, .inr (1, [.ref tc, .int (nI zn_2), .int nu, .int ki, .int ce, .int lo])), (tc, .inl (cI, 16, .inl ftn_2))]) [0, 1] (by decide) rfl
    exact W.iret (v := 0) hx hb hr (fun t ht hW => ⟨⟨0, (), rfl, trivial, ⟨zn_2, ftn_2, by rw [ht]; exact hP9, hD9, (by omega)⟩⟩, hS.F ht⟩) hS.2.2 dX1_begin_198
  by_cases k_20 : x = 17
  · subst k_20
    refine lv_tableIn (off := 179) (tgt := 197) hx hb dX1_begin_18 (by decide) (by decide) (by decide) (by decide) ?_
    refine lv_iconst (v := 0) hx hb dX1_begin_197 (by decide) ?_
    have hP9 := hP.sub (ws' := [(k9, .inr (1, [.ref tc, .int (nI zn_2), .int nu, .int ki, .int ce, .int lo])), (tc, .inl (cI, 16, .inl ftn_2))]) [0, 1] rfl
    have hD9 := hD.sub (ws' := [(k9, .inr (1, [.ref tc, .int (nI zn_2), .int nu, .int ki, .int ce, .int lo])), (tc, .inl (cI, 16, .inl ftn_2))]) [0, 1] (by decide) rfl
    exact W.iret (v := 0) hx hb hr (fun t ht hW => ⟨⟨0, (), rfl, trivial, ⟨zn_2, ftn_2, by rw [ht]; exact hP9, hD9, (by omega)⟩⟩, hS.F ht⟩) hS.2.2 dX1_begin_198
  by_cases k_21 : x = 18
  · subst k_21
    refine lv_tableIn (off := 179) (tgt := 197) hx hb dX1_begin_18 (by decide) (by decide) (by decide) (by decide) ?_
    refine lv_iconst (v := 0) hx hb dX1_begin_197 (by decide) ?_
    have hP9 := hP.sub (ws' := [(k9, .inr (1, [.ref tc, .int (nI zn_2), .int nu, .int ki, .int ce, .int lo])), (tc, .inl (cI, 16, .inl ftn_2))]) [0, 1] rfl
    have hD9 := hD.sub (ws' := [(k9, .inr (1, [.ref tc, .int (nI zn_2), .int nu, .int ki, .int ce, .int lo])), (tc, .inl (cI, 16, .inl ftn_2))]) [0, 1] (by decide) rfl
    exact W.iret (v := 0) hx hb hr (fun t ht hW => ⟨⟨0, (), rfl, trivial, ⟨zn_2, ftn_2, by rw [ht]; exact hP9, hD9, (by omega)⟩⟩, hS.F ht⟩) hS.2.2 dX1_begin_198
  by_cases k_22 : x = 19
  · subst k_22
    refine lv_tableIn (off := 179) (tgt := 197) hx hb dX1_begin_18 (by decide) (by decide) (by decide) (by decide) ?_
    refine lv_iconst (v := 0) hx hb dX1_begin_197 (by decide) ?_
    have hP9 := hP.sub (ws' := [(k9, .inr (1, [.ref tc, .int (nI zn_2), .int nu, .int ki, .int ce, .int lo])), (tc, .inl (cI, 16, .inl ftn_2))]) [0, 1] rfl
    have hD9 := hD.sub (ws' := [(k9, .inr (1, [.ref tc, .int (nI zn_2), .int nu, .int ki, .int ce, .int lo])), (tc, .inl (cI, 16, .inl ftn_2))]) [0, 1] (by decide) rfl
    exact W.iret (v := 0) hx hb hr (fun t ht hW => ⟨⟨0, (), rfl, trivial, ⟨zn_2, ftn_2, by rw [ht]; exact hP9, hD9, (by omega)⟩⟩, hS.F ht⟩) hS.2.2 dX1_begin_198
  by_cases k_23 : x = 20
  · subst k_23
    refine lv_tableIn (off := 124) (tgt := 142) hx hb dX1_begin_18 (by decide) (by decide) (by decide) (by decide) ?_
    refine lv_aload_n hx hb dX1_begin_142 rfl (lv_at hl 1 rfl) ?_
    refine va_get (D := (dC, dI)) (ci := 1) (v := .int nu) (C := RX1) (T := TX1) (N := 6) hx hb hts i_X1_begin_X1 hown hK hP 0 rfl rfl 2 (by decide) (hts (.fieldLink RX1 19 "MillTalk$Asks" "number" "I") (by decide +kernel)) (fun _ h9 => h9) rfl dX1_begin_143 ?_
    have hP9 := hP.sub (ws' := [(k9, .inr (1, [.ref tc, .int (nI zn_2), .int nu, .int ki, .int ce, .int lo])), (tc, .inl (cI, 16, .inl ftn_2))]) [0, 1] rfl
    have hD9 := hD.sub (ws' := [(k9, .inr (1, [.ref tc, .int (nI zn_2), .int nu, .int ki, .int ce, .int lo])), (tc, .inl (cI, 16, .inl ftn_2))]) [0, 1] (by decide) rfl
    exact W.iret (v := nu) hx hb hr (fun t ht hW => ⟨⟨nu, (), rfl, trivial, ⟨zn_2, ftn_2, by rw [ht]; exact hP9, hD9, (by omega)⟩⟩, hS.F ht⟩) hS.2.2 dX1_begin_146
  by_cases k_24 : x = 21
  · subst k_24
    refine lv_tableIn (off := 129) (tgt := 147) hx hb dX1_begin_18 (by decide) (by decide) (by decide) (by decide) ?_
    refine lv_aload_n hx hb dX1_begin_147 rfl (lv_at hl 1 rfl) ?_
    refine lv_bipush (v := 20) hx hb dX1_begin_148 (by decide) ?_
    refine lv_iload_n hx hb dX1_begin_150 rfl (lv_at hl 0 rfl) ?_
    have hPc_25 := hP.sub (ws' := [(k9, .inr (1, [.ref tc, .int (nI zn_2), .int nu, .int ki, .int ce, .int lo])), (tc, .inl (cI, 16, .inl ftn_2))]) [0, 1] rfl
    have hDc_25 := hD.sub (ws' := [(k9, .inr (1, [.ref tc, .int (nI zn_2), .int nu, .int ki, .int ce, .int lo])), (tc, .inl (cI, 16, .inl ftn_2))]) [0, 1] (by decide) rfl
    have hFc_25 := va_free (wc := [(k9, .inr (1, [.ref tc, .int (nI zn_2), .int nu, .int ki, .int ce, .int lo])), (tc, .inl (cI, 16, .inl ftn_2))]) hD hS hA [0, 1] rfl
    refine va_calli (va_runV (As := [.int 20, .int 16]) (rest := []) ⟨hx, hb, hml, hown, hts⟩ (r_X1_begin_16 l dC dI cI cZ cL cJ H.size k9 tc zn_2 nu ki ce lo ftn_2 20 (by omega)) (cwV 2 hts gX1_begin_X1_begin rfl rfl rfl (by decide +kernel) ⟨Nat.le_of_ble_eq_true rfl, Nat.le_of_ble_eq_true rfl⟩) ⟨fun a U g mk q => by obtain ⟨q0, q1, qP, qK, qD, qS⟩ := q; exact ⟨q0, q1, qP, va_K.moved (u := U) (U := U.calling g mk a) (Vm.Alike.refl U.vm) qK, qD, stt_same rfl qS⟩, va_recv hK hP (ci := 1) (q0 := 0) rfl rfl, fun U hU hW => ⟨rfl, by rw [hU], by rw [hU]; exact hPc_25, va_K.moved hW.alike hK, hDc_25.weaken (fun _ _ _ _ => trivial), by rw [hU]; exact stt_warm hW (stt_narrow (stt_kept hst hS.2.1) hFc_25)⟩⟩ rfl rfl hl.1 rfl (lv_room (Nat.le_of_ble_eq_true rfl)) dX1_begin_151 ⟨Nat.le_of_ble_eq_true rfl, Nat.le_of_ble_eq_true rfl⟩) hS (fun q _ h => hFc_25 q h) hFc_25 (fun r_25 u_25 t_25 H1 locs ht hvm h_25 hB hz1 hk1 hS => ?_)
    obtain ⟨zn_25, ftn_25, hP1, hD1, hF_25_0⟩ := hB
    rw [ht] at hP1
    obtain ⟨hP, hD⟩ := va_join (wr := []) (w1 := [(k9, .inr (1, [.ref tc, .int (nI zn_25), .int nu, .int ki, .int ce, .int lo])), (tc, .inl (cI, 16, .inl ftn_25))]) hP hD [0, 1] [] rfl rfl (by decide) (by decide) hk1 hFc_25 hP1 hD1
    generalize H1 = H at hP hS ⊢
    have hP : va_P (dC, dI) vwCl [(k9, .inr (1, [.ref tc, .int (nI zn_25), .int nu, .int ki, .int ce, .int lo])), (tc, .inl (cI, 16, .inl ftn_25))] H := hP
    have hD : va_D A [(k9, .inr (1, [.ref tc, .int (nI zn_25), .int nu, .int ki, .int ce, .int lo])), (tc, .inl (cI, 16, .inl ftn_25))] := hD
    refine lv_aload_n hx hb dX1_begin_154 rfl (lv_at hl 1 rfl) ?_
    refine va_get (D := (dC, dI)) (ci := 1) (v := .int ce) (C := RX1) (T := TX1) (N := 6) hx hb hts i_X1_begin_X1 hown hK hP 0 rfl rfl 4 (by decide) (hts (.fieldLink RX1 33 "MillTalk$Asks" "cell" "I") (by decide +kernel)) (fun _ h9 => h9) rfl dX1_begin_155 ?_
    refine lv_iadd hx hb dX1_begin_158 ?_
    refine lv_topi (fun v_26 e_26 => ?_)
    have hP9 := hP.sub (ws' := [(k9, .inr (1, [.ref tc, .int (nI zn_25), .int nu, .int ki, .int ce, .int lo])), (tc, .inl (cI, 16, .inl ftn_25))]) [0, 1] rfl
    have hD9 := hD.sub (ws' := [(k9, .inr (1, [.ref tc, .int (nI zn_25), .int nu, .int ki, .int ce, .int lo])), (tc, .inl (cI, 16, .inl ftn_25))]) [0, 1] (by decide) rfl
    exact W.iret (v := v_26) hx hb hr (fun t ht hW => ⟨⟨v_26, (), rfl, trivial, ⟨zn_25, ftn_25, by rw [ht]; exact hP9, hD9, (by omega)⟩⟩, hS.F ht⟩) hS.2.2 dX1_begin_159
  by_cases k_27 : x = 22
  · subst k_27
    refine lv_tableIn (off := 142) (tgt := 160) hx hb dX1_begin_18 (by decide) (by decide) (by decide) (by decide) ?_
    refine lv_aload_n hx hb dX1_begin_160 rfl (lv_at hl 1 rfl) ?_
    refine lv_bipush (v := 21) hx hb dX1_begin_161 (by decide) ?_
    refine lv_iload_n hx hb dX1_begin_163 rfl (lv_at hl 0 rfl) ?_
    have hPc_28 := hP.sub (ws' := [(k9, .inr (1, [.ref tc, .int (nI zn_2), .int nu, .int ki, .int ce, .int lo])), (tc, .inl (cI, 16, .inl ftn_2))]) [0, 1] rfl
    have hDc_28 := hD.sub (ws' := [(k9, .inr (1, [.ref tc, .int (nI zn_2), .int nu, .int ki, .int ce, .int lo])), (tc, .inl (cI, 16, .inl ftn_2))]) [0, 1] (by decide) rfl
    have hFc_28 := va_free (wc := [(k9, .inr (1, [.ref tc, .int (nI zn_2), .int nu, .int ki, .int ce, .int lo])), (tc, .inl (cI, 16, .inl ftn_2))]) hD hS hA [0, 1] rfl
    refine va_calli (va_runV (As := [.int 21, .int 16]) (rest := []) ⟨hx, hb, hml, hown, hts⟩ (r_X1_begin_16 l dC dI cI cZ cL cJ H.size k9 tc zn_2 nu ki ce lo ftn_2 21 (by omega)) (cwV 2 hts gX1_begin_X1_begin rfl rfl rfl (by decide +kernel) ⟨Nat.le_of_ble_eq_true rfl, Nat.le_of_ble_eq_true rfl⟩) ⟨fun a U g mk q => by obtain ⟨q0, q1, qP, qK, qD, qS⟩ := q; exact ⟨q0, q1, qP, va_K.moved (u := U) (U := U.calling g mk a) (Vm.Alike.refl U.vm) qK, qD, stt_same rfl qS⟩, va_recv hK hP (ci := 1) (q0 := 0) rfl rfl, fun U hU hW => ⟨rfl, by rw [hU], by rw [hU]; exact hPc_28, va_K.moved hW.alike hK, hDc_28.weaken (fun _ _ _ _ => trivial), by rw [hU]; exact stt_warm hW (stt_narrow (stt_kept hst hS.2.1) hFc_28)⟩⟩ rfl rfl hl.1 rfl (lv_room (Nat.le_of_ble_eq_true rfl)) dX1_begin_164 ⟨Nat.le_of_ble_eq_true rfl, Nat.le_of_ble_eq_true rfl⟩) hS (fun q _ h => hFc_28 q h) hFc_28 (fun r_28 u_28 t_28 H1 locs ht hvm h_28 hB hz1 hk1 hS => ?_)
    obtain ⟨zn_28, ftn_28, hP1, hD1, hF_28_0⟩ := hB
    rw [ht] at hP1
    obtain ⟨hP, hD⟩ := va_join (wr := []) (w1 := [(k9, .inr (1, [.ref tc, .int (nI zn_28), .int nu, .int ki, .int ce, .int lo])), (tc, .inl (cI, 16, .inl ftn_28))]) hP hD [0, 1] [] rfl rfl (by decide) (by decide) hk1 hFc_28 hP1 hD1
    generalize H1 = H at hP hS ⊢
    have hP : va_P (dC, dI) vwCl [(k9, .inr (1, [.ref tc, .int (nI zn_28), .int nu, .int ki, .int ce, .int lo])), (tc, .inl (cI, 16, .inl ftn_28))] H := hP
    have hD : va_D A [(k9, .inr (1, [.ref tc, .int (nI zn_28), .int nu, .int ki, .int ce, .int lo])), (tc, .inl (cI, 16, .inl ftn_28))] := hD
    refine lv_sipush (v := 1000) hx hb dX1_begin_167 (by decide) ?_
    refine lv_isub hx hb dX1_begin_170 ?_
    refine lv_topi (fun v_29 e_29 => ?_)
    have hP9 := hP.sub (ws' := [(k9, .inr (1, [.ref tc, .int (nI zn_28), .int nu, .int ki, .int ce, .int lo])), (tc, .inl (cI, 16, .inl ftn_28))]) [0, 1] rfl
    have hD9 := hD.sub (ws' := [(k9, .inr (1, [.ref tc, .int (nI zn_28), .int nu, .int ki, .int ce, .int lo])), (tc, .inl (cI, 16, .inl ftn_28))]) [0, 1] (by decide) rfl
    exact W.iret (v := v_29) hx hb hr (fun t ht hW => ⟨⟨v_29, (), rfl, trivial, ⟨zn_28, ftn_28, by rw [ht]; exact hP9, hD9, (by omega)⟩⟩, hS.F ht⟩) hS.2.2 dX1_begin_171
  by_cases k_30 : x = 23
  · subst k_30
    refine lv_tableIn (off := 154) (tgt := 172) hx hb dX1_begin_18 (by decide) (by decide) (by decide) (by decide) ?_
    refine lv_aload_n hx hb dX1_begin_172 rfl (lv_at hl 1 rfl) ?_
    refine lv_bipush (v := 20) hx hb dX1_begin_173 (by decide) ?_
    refine lv_iload_n hx hb dX1_begin_175 rfl (lv_at hl 0 rfl) ?_
    have hPc_31 := hP.sub (ws' := [(k9, .inr (1, [.ref tc, .int (nI zn_2), .int nu, .int ki, .int ce, .int lo])), (tc, .inl (cI, 16, .inl ftn_2))]) [0, 1] rfl
    have hDc_31 := hD.sub (ws' := [(k9, .inr (1, [.ref tc, .int (nI zn_2), .int nu, .int ki, .int ce, .int lo])), (tc, .inl (cI, 16, .inl ftn_2))]) [0, 1] (by decide) rfl
    have hFc_31 := va_free (wc := [(k9, .inr (1, [.ref tc, .int (nI zn_2), .int nu, .int ki, .int ce, .int lo])), (tc, .inl (cI, 16, .inl ftn_2))]) hD hS hA [0, 1] rfl
    refine va_calli (va_runV (As := [.int 20, .int 16]) (rest := []) ⟨hx, hb, hml, hown, hts⟩ (r_X1_begin_16 l dC dI cI cZ cL cJ H.size k9 tc zn_2 nu ki ce lo ftn_2 20 (by omega)) (cwV 2 hts gX1_begin_X1_begin rfl rfl rfl (by decide +kernel) ⟨Nat.le_of_ble_eq_true rfl, Nat.le_of_ble_eq_true rfl⟩) ⟨fun a U g mk q => by obtain ⟨q0, q1, qP, qK, qD, qS⟩ := q; exact ⟨q0, q1, qP, va_K.moved (u := U) (U := U.calling g mk a) (Vm.Alike.refl U.vm) qK, qD, stt_same rfl qS⟩, va_recv hK hP (ci := 1) (q0 := 0) rfl rfl, fun U hU hW => ⟨rfl, by rw [hU], by rw [hU]; exact hPc_31, va_K.moved hW.alike hK, hDc_31.weaken (fun _ _ _ _ => trivial), by rw [hU]; exact stt_warm hW (stt_narrow (stt_kept hst hS.2.1) hFc_31)⟩⟩ rfl rfl hl.1 rfl (lv_room (Nat.le_of_ble_eq_true rfl)) dX1_begin_176 ⟨Nat.le_of_ble_eq_true rfl, Nat.le_of_ble_eq_true rfl⟩) hS (fun q _ h => hFc_31 q h) hFc_31 (fun r_31 u_31 t_31 H1 locs ht hvm h_31 hB hz1 hk1 hS => ?_)
    obtain ⟨zn_31, ftn_31, hP1, hD1, hF_31_0⟩ := hB
    rw [ht] at hP1
    obtain ⟨hP, hD⟩ := va_join (wr := []) (w1 := [(k9, .inr (1, [.ref tc, .int (nI zn_31), .int nu, .int ki, .int ce, .int lo])), (tc, .inl (cI, 16, .inl ftn_31))]) hP hD [0, 1] [] rfl rfl (by decide) (by decide) hk1 hFc_31 hP1 hD1
    generalize H1 = H at hP hS ⊢
    have hP : va_P (dC, dI) vwCl [(k9, .inr (1, [.ref tc, .int (nI zn_31), .int nu, .int ki, .int ce, .int lo])), (tc, .inl (cI, 16, .inl ftn_31))] H := hP
    have hD : va_D A [(k9, .inr (1, [.ref tc, .int (nI zn_31), .int nu, .int ki, .int ce, .int lo])), (tc, .inl (cI, 16, .inl ftn_31))] := hD
    refine lv_aload_n hx hb dX1_begin_179 rfl (lv_at hl 1 rfl) ?_
    refine lv_iconst (v := 0) hx hb dX1_begin_180 (by decide) ?_
    refine lv_iload_n hx hb dX1_begin_181 rfl (lv_at hl 0 rfl) ?_
    have hPc_32 := hP.sub (ws' := [(k9, .inr (1, [.ref tc, .int (nI zn_31), .int nu, .int ki, .int ce, .int lo])), (tc, .inl (cI, 16, .inl ftn_31))]) [0, 1] rfl
    have hDc_32 := hD.sub (ws' := [(k9, .inr (1, [.ref tc, .int (nI zn_31), .int nu, .int ki, .int ce, .int lo])), (tc, .inl (cI, 16, .inl ftn_31))]) [0, 1] (by decide) rfl
    have hFc_32 := va_free (wc := [(k9, .inr (1, [.ref tc, .int (nI zn_31), .int nu, .int ki, .int ce, .int lo])), (tc, .inl (cI, 16, .inl ftn_31))]) hD hS hA [0, 1] rfl
    refine va_calli (va_runV (As := [.int 0, .int 16]) (rest := [.int r_31]) ⟨hx, hb, hml, hown, hts⟩ (r_X1_askAnew_16 l dC dI cI cZ cL cJ H.size k9 tc zn_31 nu ki ce lo ftn_31 0 (by omega)) (cwV 2 hts gX1_begin_X1_askAnew rfl rfl rfl (by decide +kernel) ⟨Nat.le_of_ble_eq_true rfl, Nat.le_of_ble_eq_true rfl⟩) ⟨fun a U g mk q => by obtain ⟨q0, q1, qP, qK, qD, qS⟩ := q; exact ⟨q0, q1, qP, va_K.moved (u := U) (U := U.calling g mk a) (Vm.Alike.refl U.vm) qK, qD, stt_same rfl qS⟩, va_recv hK hP (ci := 1) (q0 := 0) rfl rfl, fun U hU hW => ⟨rfl, by rw [hU], by rw [hU]; exact hPc_32, va_K.moved hW.alike hK, hDc_32.weaken (fun _ _ _ _ => trivial), by rw [hU]; exact stt_warm hW (stt_narrow (stt_kept hst hS.2.1) hFc_32)⟩⟩ rfl rfl hl.1 rfl (lv_room (Nat.le_of_ble_eq_true rfl)) dX1_begin_182 ⟨Nat.le_of_ble_eq_true rfl, Nat.le_of_ble_eq_true rfl⟩) hS (fun q _ h => hFc_32 q h) hFc_32 (fun r_32 u_32 t_32 H1 locs ht hvm h_32 hB hz1 hk1 hS => ?_)
    obtain ⟨zn_32, ftn_32, hP1, hD1, hF_32_0⟩ := hB
    rw [ht] at hP1
    obtain ⟨hP, hD⟩ := va_join (wr := []) (w1 := [(k9, .inr (1, [.ref tc, .int (nI zn_32), .int nu, .int ki, .int ce, .int lo])), (tc, .inl (cI, 16, .inl ftn_32))]) hP hD [0, 1] [] rfl rfl (by decide) (by decide) hk1 hFc_32 hP1 hD1
    generalize H1 = H at hP hS ⊢
    have hP : va_P (dC, dI) vwCl [(k9, .inr (1, [.ref tc, .int (nI zn_32), .int nu, .int ki, .int ce, .int lo])), (tc, .inl (cI, 16, .inl ftn_32))] H := hP
    have hD : va_D A [(k9, .inr (1, [.ref tc, .int (nI zn_32), .int nu, .int ki, .int ce, .int lo])), (tc, .inl (cI, 16, .inl ftn_32))] := hD
    refine lv_isub hx hb dX1_begin_185 ?_
    refine lv_topi (fun v_33 e_33 => ?_)
    have hP9 := hP.sub (ws' := [(k9, .inr (1, [.ref tc, .int (nI zn_32), .int nu, .int ki, .int ce, .int lo])), (tc, .inl (cI, 16, .inl ftn_32))]) [0, 1] rfl
    have hD9 := hD.sub (ws' := [(k9, .inr (1, [.ref tc, .int (nI zn_32), .int nu, .int ki, .int ce, .int lo])), (tc, .inl (cI, 16, .inl ftn_32))]) [0, 1] (by decide) rfl
    exact W.iret (v := v_33) hx hb hr (fun t ht hW => ⟨⟨v_33, (), rfl, trivial, ⟨zn_32, ftn_32, by rw [ht]; exact hP9, hD9, (by omega)⟩⟩, hS.F ht⟩) hS.2.2 dX1_begin_186
  by_cases k_34 : x = 24
  · subst k_34
    refine lv_tableIn (off := 169) (tgt := 187) hx hb dX1_begin_18 (by decide) (by decide) (by decide) (by decide) ?_
    refine lv_aload_n hx hb dX1_begin_187 rfl (lv_at hl 1 rfl) ?_
    refine lv_bipush (v := 21) hx hb dX1_begin_188 (by decide) ?_
    refine lv_iload_n hx hb dX1_begin_190 rfl (lv_at hl 0 rfl) ?_
    have hPc_35 := hP.sub (ws' := [(k9, .inr (1, [.ref tc, .int (nI zn_2), .int nu, .int ki, .int ce, .int lo])), (tc, .inl (cI, 16, .inl ftn_2))]) [0, 1] rfl
    have hDc_35 := hD.sub (ws' := [(k9, .inr (1, [.ref tc, .int (nI zn_2), .int nu, .int ki, .int ce, .int lo])), (tc, .inl (cI, 16, .inl ftn_2))]) [0, 1] (by decide) rfl
    have hFc_35 := va_free (wc := [(k9, .inr (1, [.ref tc, .int (nI zn_2), .int nu, .int ki, .int ce, .int lo])), (tc, .inl (cI, 16, .inl ftn_2))]) hD hS hA [0, 1] rfl
    refine va_calli (va_runV (As := [.int 21, .int 16]) (rest := []) ⟨hx, hb, hml, hown, hts⟩ (r_X1_begin_16 l dC dI cI cZ cL cJ H.size k9 tc zn_2 nu ki ce lo ftn_2 21 (by omega)) (cwV 2 hts gX1_begin_X1_begin rfl rfl rfl (by decide +kernel) ⟨Nat.le_of_ble_eq_true rfl, Nat.le_of_ble_eq_true rfl⟩) ⟨fun a U g mk q => by obtain ⟨q0, q1, qP, qK, qD, qS⟩ := q; exact ⟨q0, q1, qP, va_K.moved (u := U) (U := U.calling g mk a) (Vm.Alike.refl U.vm) qK, qD, stt_same rfl qS⟩, va_recv hK hP (ci := 1) (q0 := 0) rfl rfl, fun U hU hW => ⟨rfl, by rw [hU], by rw [hU]; exact hPc_35, va_K.moved hW.alike hK, hDc_35.weaken (fun _ _ _ _ => trivial), by rw [hU]; exact stt_warm hW (stt_narrow (stt_kept hst hS.2.1) hFc_35)⟩⟩ rfl rfl hl.1 rfl (lv_room (Nat.le_of_ble_eq_true rfl)) dX1_begin_191 ⟨Nat.le_of_ble_eq_true rfl, Nat.le_of_ble_eq_true rfl⟩) hS (fun q _ h => hFc_35 q h) hFc_35 (fun r_35 u_35 t_35 H1 locs ht hvm h_35 hB hz1 hk1 hS => ?_)
    obtain ⟨zn_35, ftn_35, hP1, hD1, hF_35_0⟩ := hB
    rw [ht] at hP1
    obtain ⟨hP, hD⟩ := va_join (wr := []) (w1 := [(k9, .inr (1, [.ref tc, .int (nI zn_35), .int nu, .int ki, .int ce, .int lo])), (tc, .inl (cI, 16, .inl ftn_35))]) hP hD [0, 1] [] rfl rfl (by decide) (by decide) hk1 hFc_35 hP1 hD1
    generalize H1 = H at hP hS ⊢
    have hP : va_P (dC, dI) vwCl [(k9, .inr (1, [.ref tc, .int (nI zn_35), .int nu, .int ki, .int ce, .int lo])), (tc, .inl (cI, 16, .inl ftn_35))] H := hP
    have hD : va_D A [(k9, .inr (1, [.ref tc, .int (nI zn_35), .int nu, .int ki, .int ce, .int lo])), (tc, .inl (cI, 16, .inl ftn_35))] := hD
    refine lv_iconst (v := 2) hx hb dX1_begin_194 (by decide) ?_
    refine lv_imul hx hb dX1_begin_195 ?_
    refine lv_topi (fun v_36 e_36 => ?_)
    have hP9 := hP.sub (ws' := [(k9, .inr (1, [.ref tc, .int (nI zn_35), .int nu, .int ki, .int ce, .int lo])), (tc, .inl (cI, 16, .inl ftn_35))]) [0, 1] rfl
    have hD9 := hD.sub (ws' := [(k9, .inr (1, [.ref tc, .int (nI zn_35), .int nu, .int ki, .int ce, .int lo])), (tc, .inl (cI, 16, .inl ftn_35))]) [0, 1] (by decide) rfl
    exact W.iret (v := v_36) hx hb hr (fun t ht hW => ⟨⟨v_36, (), rfl, trivial, ⟨zn_35, ftn_35, by rw [ht]; exact hP9, hD9, (by omega)⟩⟩, hS.F ht⟩) hS.2.2 dX1_begin_196
  have kT_4 := lv_neT k_4 (show (10 : Int32).toInt = 10 from rfl)
  have kT_5 := lv_neT k_5 (show (11 : Int32).toInt = 11 from rfl)
  have kT_9 := lv_neT k_9 (show (12 : Int32).toInt = 12 from rfl)
  have kT_12 := lv_neT k_12 (show (13 : Int32).toInt = 13 from rfl)
  have kT_15 := lv_neT k_15 (show (14 : Int32).toInt = 14 from rfl)
  have kT_18 := lv_neT k_18 (show (15 : Int32).toInt = 15 from rfl)
  have kT_19 := lv_neT k_19 (show (16 : Int32).toInt = 16 from rfl)
  have kT_20 := lv_neT k_20 (show (17 : Int32).toInt = 17 from rfl)
  have kT_21 := lv_neT k_21 (show (18 : Int32).toInt = 18 from rfl)
  have kT_22 := lv_neT k_22 (show (19 : Int32).toInt = 19 from rfl)
  have kT_23 := lv_neT k_23 (show (20 : Int32).toInt = 20 from rfl)
  have kT_24 := lv_neT k_24 (show (21 : Int32).toInt = 21 from rfl)
  have kT_27 := lv_neT k_27 (show (22 : Int32).toInt = 22 from rfl)
  have kT_30 := lv_neT k_30 (show (23 : Int32).toInt = 23 from rfl)
  have kT_34 := lv_neT k_34 (show (24 : Int32).toInt = 24 from rfl)
  refine lv_tableOut (tgt := 197) hx hb dX1_begin_18 (by omega) (by decide) ?_
  refine lv_iconst (v := 0) hx hb dX1_begin_197 (by decide) ?_
  have hP9 := hP.sub (ws' := [(k9, .inr (1, [.ref tc, .int (nI zn_2), .int nu, .int ki, .int ce, .int lo])), (tc, .inl (cI, 16, .inl ftn_2))]) [0, 1] rfl
  have hD9 := hD.sub (ws' := [(k9, .inr (1, [.ref tc, .int (nI zn_2), .int nu, .int ki, .int ce, .int lo])), (tc, .inl (cI, 16, .inl ftn_2))]) [0, 1] (by decide) rfl
  exact W.iret (v := 0) hx hb hr (fun t ht hW => ⟨⟨0, (), rfl, trivial, ⟨zn_2, ftn_2, by rw [ht]; exact hP9, hD9, (by omega)⟩⟩, hS.F ht⟩) hS.2.2 dX1_begin_198
set_option maxHeartbeats 4000000 in
set_option maxRecDepth 100000 in
theorem r_X1_askAnew_15 (l : Launch) (dC : Nat → ClassId) (dI : Nat → Nat → Nat) (cI cZ cL cJ : ClassId) (sz : Nat) (k9 : Nat) (tc : Nat) (z : Nat) (nu : Int32) (ki : Int32) (ce : Int32) (lo : Int32) (ft : Nat → Int32) (x : Int32) (hz : z ≤ 16) : Met l yX1_askAnew wsX1_askAnew ({ frames := 3, cells := 0, slots := 0, locals := 69 }) (va_Pc [.ref k9, .int x, .int 15] (fun U => U.heap.size = sz ∧ va_P (dC, dI) vwCl [(k9, .inr (1, [.ref tc, .int (nI z), .int nu, .int ki, .int ce, .int lo])), (tc, .inl (cI, 16, .inl ft))] U.heap ∧ va_K (dC, dI) vwCl [(cI, .int), (cZ, .boolean), (cL, .object RX3), (cJ, .array .int)] U ∧ va_D (fun _ => True) [(k9, .inr (1, [.ref tc, .int (nI z), .int nu, .int ki, .int ce, .int lo])), (tc, .inl (cI, 16, .inl ft))] ∧ stt (va_A [(k9, .inr (1, [.ref tc, .int (nI z), .int nu, .int ki, .int ce, .int lo])), (tc, .inl (cI, 16, .inl ft))] sz) U U.heap)) (va_Qi (fun r (_ : Unit) => True) (fun (_ : Unit) t => ∃ (zn : Nat) (ftn : Nat → Int32), va_P (dC, dI) vwCl [(k9, .inr (1, [.ref tc, .int (nI zn), .int nu, .int ki, .int ce, .int lo])), (tc, .inl (cI, 16, .inl ftn))] t.heap ∧ va_D (va_A [(k9, .inr (1, [.ref tc, .int (nI z), .int nu, .int ki, .int ce, .int lo])), (tc, .inl (cI, 16, .inl ft))] sz) [(k9, .inr (1, [.ref tc, .int (nI zn), .int nu, .int ki, .int ce, .int lo])), (tc, .inl (cI, 16, .inl ftn))] ∧ zn ≤ 16) (va_A [(k9, .inr (1, [.ref tc, .int (nI z), .int nu, .int ki, .int ce, .int lo])), (tc, .inl (cI, 16, .inl ft))] sz)) 0 0 (va_A [(k9, .inr (1, [.ref tc, .int (nI z), .int nu, .int ki, .int ce, .int lo])), (tc, .inl (cI, 16, .inl ft))] sz) := by
  refine Met.ofW (cc := cX1_askAnew) (maxL := 3) (ret := (some .int)) (by decide) rfl ?_
  intro p e s m args below meth c s₁ B hml hv
  obtain ⟨rfl, hsz, hP, hK, hD0, hst⟩ := hv
  have hx := B.exec
  have hb := B.bytes
  have hr := B.returns
  have hts := atoms_spec (ws := wsX1_askAnew) B.pre
  have hown : s.vm.findClass RX1 = some m.cls := findClass_of_methodNamed B.named
  have hlocks := B.notSynchronized
  subst hsz
  have hD := hD0.self (sz := s.heap.size)
  generalize hAe : va_A [(k9, .inr (1, [.ref tc, .int (nI z), .int nu, .int ki, .int ce, .int lo])), (tc, .inl (cI, 16, .inl ft))] s.heap.size = A at hD hst ⊢
  have hA : ∀ q : Nat, s.heap.size ≤ q → A q := fun q h => by rw [← hAe]; exact Or.inr h
  have hS : va_S A s.heap s.heap [] := va_S.rf
  have hP : va_P (dC, dI) vwCl [(k9, .inr (1, [.ref tc, .int (nI z), .int nu, .int ki, .int ce, .int lo])), (tc, .inl (cI, 16, .inl ft))] s.heap := hP
  obtain ⟨⟨tb1, hZ1, hT1⟩, ⟨tb2, hZ2, hT2⟩, ⟨tb3, hZ3, hT3⟩, hNk⟩ := id hst
  have hl := lv_entry ([.ref k9, .int x, .int 15]) (n := 3) (Nat.le_of_ble_eq_true rfl)
  rw [lg_entry_eq]
  generalize (lg_sl ([.ref k9, .int x, .int 15]) ++ List.replicate (3 - (lg_sl ([.ref k9, .int x, .int 15])).length) Slot.unset).toArray = ls at hl ⊢
  have hl : lv_has ls 3 [(0, .ref k9), (1, .int x), (2, .int 15)] := hl
  refine lv_aload_n hx hb dX1_askAnew_0 rfl (lv_at hl 0 rfl) ?_
  refine lv_aload_n hx hb dX1_askAnew_1 rfl (lv_at hl 0 rfl) ?_
  refine lv_iload_n hx hb dX1_askAnew_2 rfl (lv_at hl 1 rfl) ?_
  have hPc_1 := hP.sub (ws' := [(k9, .inr (1, [.ref tc, .int (nI z), .int nu, .int ki, .int ce, .int lo]))]) [0] rfl
  refine vp_callSi (W.runV (As := [.int x]) (rest := [.ref k9]) ⟨hx, hb, hml, hown, hts⟩ (r_X1_bodyFor l dC dI cI cZ cL cJ k9 tc z nu ki ce lo x ) (cwV 1 hts gX1_askAnew_X1_bodyFor rfl rfl rfl (by decide +kernel) ⟨Nat.le_of_ble_eq_true rfl, Nat.le_of_ble_eq_true rfl⟩) ⟨fun a U g mk q => by obtain ⟨q0, qP, qK, qS⟩ := q; exact ⟨q0, qP, va_K.moved (u := U) (U := U.calling g mk a) (Vm.Alike.refl U.vm) qK, stt_same rfl qS⟩, va_recv hK hP (ci := 1) (q0 := 0) rfl rfl, fun U hU hW => ⟨rfl, by rw [hU]; exact hPc_1, va_K.moved hW.alike hK, by rw [hU]; exact stt_warm hW (stt_narrow (stt_kept hst hS.2.1) (fun _ h => h.elim))⟩⟩ rfl rfl hl.1 rfl (lv_room (Nat.le_of_ble_eq_true rfl)) dX1_askAnew_3 ⟨Nat.le_of_ble_eq_true rfl, Nat.le_of_ble_eq_true rfl⟩) (fun r_1 h_1 => ?_)
  refine lv_iload_n hx hb dX1_askAnew_6 rfl (lv_at hl 2 rfl) ?_
  have hPc_2 := hP.sub (ws' := [(k9, .inr (1, [.ref tc, .int (nI z), .int nu, .int ki, .int ce, .int lo])), (tc, .inl (cI, 16, .inl ft))]) [0, 1] rfl
  have hDc_2 := hD.sub (ws' := [(k9, .inr (1, [.ref tc, .int (nI z), .int nu, .int ki, .int ce, .int lo])), (tc, .inl (cI, 16, .inl ft))]) [0, 1] (by decide) rfl
  have hFc_2 := va_free (wc := [(k9, .inr (1, [.ref tc, .int (nI z), .int nu, .int ki, .int ce, .int lo])), (tc, .inl (cI, 16, .inl ft))]) hD hS hA [0, 1] rfl
  refine va_calli (va_runV (As := [.int r_1, .int 15]) (rest := []) ⟨hx, hb, hml, hown, hts⟩ (r_X1_begin_15 l dC dI cI cZ cL cJ s.heap.size k9 tc z nu ki ce lo ft r_1 (by omega)) (cwV 2 hts gX1_askAnew_X1_begin rfl rfl rfl (by decide +kernel) ⟨Nat.le_of_ble_eq_true rfl, Nat.le_of_ble_eq_true rfl⟩) ⟨fun a U g mk q => by obtain ⟨q0, q1, qP, qK, qD, qS⟩ := q; exact ⟨q0, q1, qP, va_K.moved (u := U) (U := U.calling g mk a) (Vm.Alike.refl U.vm) qK, qD, stt_same rfl qS⟩, va_recv hK hP (ci := 1) (q0 := 0) rfl rfl, fun U hU hW => ⟨rfl, by rw [hU], by rw [hU]; exact hPc_2, va_K.moved hW.alike hK, hDc_2.weaken (fun _ _ _ _ => trivial), by rw [hU]; exact stt_warm hW (stt_narrow (stt_kept hst hS.2.1) hFc_2)⟩⟩ rfl rfl hl.1 rfl (lv_room (Nat.le_of_ble_eq_true rfl)) dX1_askAnew_7 ⟨Nat.le_of_ble_eq_true rfl, Nat.le_of_ble_eq_true rfl⟩) hS (fun q _ h => hFc_2 q h) hFc_2 (fun r_2 u_2 t_2 H1 locs ht hvm h_2 hB hz1 hk1 hS => ?_)
  obtain ⟨zn_2, ftn_2, hP1, hD1, hF_2_0⟩ := hB
  rw [ht] at hP1
  obtain ⟨hP, hD⟩ := va_join (wr := []) (w1 := [(k9, .inr (1, [.ref tc, .int (nI zn_2), .int nu, .int ki, .int ce, .int lo])), (tc, .inl (cI, 16, .inl ftn_2))]) hP hD [0, 1] [] rfl rfl (by decide) (by decide) hk1 hFc_2 hP1 hD1
  generalize H1 = H at hP hS ⊢
  have hP : va_P (dC, dI) vwCl [(k9, .inr (1, [.ref tc, .int (nI zn_2), .int nu, .int ki, .int ce, .int lo])), (tc, .inl (cI, 16, .inl ftn_2))] H := hP
  have hD : va_D A [(k9, .inr (1, [.ref tc, .int (nI zn_2), .int nu, .int ki, .int ce, .int lo])), (tc, .inl (cI, 16, .inl ftn_2))] := hD
  have hP9 := hP.sub (ws' := [(k9, .inr (1, [.ref tc, .int (nI zn_2), .int nu, .int ki, .int ce, .int lo])), (tc, .inl (cI, 16, .inl ftn_2))]) [0, 1] rfl
  have hD9 := hD.sub (ws' := [(k9, .inr (1, [.ref tc, .int (nI zn_2), .int nu, .int ki, .int ce, .int lo])), (tc, .inl (cI, 16, .inl ftn_2))]) [0, 1] (by decide) rfl
  exact W.iret (v := r_2) hx hb hr (fun t ht hW => ⟨⟨r_2, (), rfl, trivial, ⟨zn_2, ftn_2, by rw [ht]; exact hP9, hD9, (by omega)⟩⟩, hS.F ht⟩) hS.2.2 dX1_askAnew_10
set_option maxHeartbeats 4000000 in
set_option maxRecDepth 100000 in
theorem r_X1_begin_14 (l : Launch) (dC : Nat → ClassId) (dI : Nat → Nat → Nat) (cI cZ cL cJ : ClassId) (sz : Nat) (k9 : Nat) (tc : Nat) (z : Nat) (nu : Int32) (ki : Int32) (ce : Int32) (lo : Int32) (ft : Nat → Int32) (x : Int32) (hz : z ≤ 16) : Met l yX1_begin wsX1_begin ({ frames := 4, cells := 0, slots := 0, locals := 91 }) (va_Pc [.ref k9, .int x, .int 14] (fun U => U.heap.size = sz ∧ va_P (dC, dI) vwCl [(k9, .inr (1, [.ref tc, .int (nI z), .int nu, .int ki, .int ce, .int lo])), (tc, .inl (cI, 16, .inl ft))] U.heap ∧ va_K (dC, dI) vwCl [(cI, .int), (cZ, .boolean), (cL, .object RX3), (cJ, .array .int)] U ∧ va_D (fun _ => True) [(k9, .inr (1, [.ref tc, .int (nI z), .int nu, .int ki, .int ce, .int lo])), (tc, .inl (cI, 16, .inl ft))] ∧ stt (va_A [(k9, .inr (1, [.ref tc, .int (nI z), .int nu, .int ki, .int ce, .int lo])), (tc, .inl (cI, 16, .inl ft))] sz) U U.heap)) (va_Qi (fun r (_ : Unit) => True) (fun (_ : Unit) t => ∃ (zn : Nat) (ftn : Nat → Int32), va_P (dC, dI) vwCl [(k9, .inr (1, [.ref tc, .int (nI zn), .int nu, .int ki, .int ce, .int lo])), (tc, .inl (cI, 16, .inl ftn))] t.heap ∧ va_D (va_A [(k9, .inr (1, [.ref tc, .int (nI z), .int nu, .int ki, .int ce, .int lo])), (tc, .inl (cI, 16, .inl ft))] sz) [(k9, .inr (1, [.ref tc, .int (nI zn), .int nu, .int ki, .int ce, .int lo])), (tc, .inl (cI, 16, .inl ftn))] ∧ zn ≤ 16) (va_A [(k9, .inr (1, [.ref tc, .int (nI z), .int nu, .int ki, .int ce, .int lo])), (tc, .inl (cI, 16, .inl ft))] sz)) 0 0 (va_A [(k9, .inr (1, [.ref tc, .int (nI z), .int nu, .int ki, .int ce, .int lo])), (tc, .inl (cI, 16, .inl ft))] sz) := by
  refine Met.ofW (cc := cX1_begin) (maxL := 4) (ret := (some .int)) (by decide) rfl ?_
  intro p e s m args below meth c s₁ B hml hv
  obtain ⟨rfl, hsz, hP, hK, hD0, hst⟩ := hv
  have hx := B.exec
  have hb := B.bytes
  have hr := B.returns
  have hts := atoms_spec (ws := wsX1_begin) B.pre
  have hown : s.vm.findClass RX1 = some m.cls := findClass_of_methodNamed B.named
  have hlocks := B.notSynchronized
  subst hsz
  have hD := hD0.self (sz := s.heap.size)
  generalize hAe : va_A [(k9, .inr (1, [.ref tc, .int (nI z), .int nu, .int ki, .int ce, .int lo])), (tc, .inl (cI, 16, .inl ft))] s.heap.size = A at hD hst ⊢
  have hA : ∀ q : Nat, s.heap.size ≤ q → A q := fun q h => by rw [← hAe]; exact Or.inr h
  have hS : va_S A s.heap s.heap [] := va_S.rf
  have hP : va_P (dC, dI) vwCl [(k9, .inr (1, [.ref tc, .int (nI z), .int nu, .int ki, .int ce, .int lo])), (tc, .inl (cI, 16, .inl ft))] s.heap := hP
  obtain ⟨⟨tb1, hZ1, hT1⟩, ⟨tb2, hZ2, hT2⟩, ⟨tb3, hZ3, hT3⟩, hNk⟩ := id hst
  have hl := lv_entry ([.ref k9, .int x, .int 14]) (n := 4) (Nat.le_of_ble_eq_true rfl)
  rw [lg_entry_eq]
  generalize (lg_sl ([.ref k9, .int x, .int 14]) ++ List.replicate (4 - (lg_sl ([.ref k9, .int x, .int 14])).length) Slot.unset).toArray = ls at hl ⊢
  have hl : lv_has ls 4 [(0, .ref k9), (1, .int x), (2, .int 14)] := hl
  refine lv_iload_n hx hb dX1_begin_0 rfl (lv_at hl 2 rfl) ?_
  refine lv_bipush (v := 16) hx hb dX1_begin_1 (by decide) ?_
  refine lv_icmp_lt (tgt := 8) hx hb dX1_begin_3 (by decide) (fun _ => ?_) (fun c_ => absurd (by decide) c_)
  refine lv_aload_n hx hb dX1_begin_8 rfl (lv_at hl 0 rfl) ?_
  refine lv_iload_n hx hb dX1_begin_9 rfl (lv_at hl 1 rfl) ?_
  have hPc_2 := hP.sub (ws' := [(k9, .inr (1, [.ref tc, .int (nI z), .int nu, .int ki, .int ce, .int lo])), (tc, .inl (cI, 16, .inl ft))]) [0, 1] rfl
  have hDc_2 := hD.sub (ws' := [(k9, .inr (1, [.ref tc, .int (nI z), .int nu, .int ki, .int ce, .int lo])), (tc, .inl (cI, 16, .inl ft))]) [0, 1] (by decide) rfl
  have hFc_2 := va_free (wc := [(k9, .inr (1, [.ref tc, .int (nI z), .int nu, .int ki, .int ce, .int lo])), (tc, .inl (cI, 16, .inl ft))]) hD hS hA [0, 1] rfl
  refine va_callv (va_runV (As := [.int x]) (rest := []) ⟨hx, hb, hml, hown, hts⟩ (r_X1_leave l dC dI cI cZ cL cJ s.heap.size k9 tc z nu ki ce lo ft x (by omega)) (cwV 1 hts gX1_begin_X1_leave rfl rfl rfl (by decide +kernel) ⟨Nat.le_of_ble_eq_true rfl, Nat.le_of_ble_eq_true rfl⟩) ⟨fun a U g mk q => by obtain ⟨q0, q1, qP, qK, qD⟩ := q; exact ⟨q0, q1, qP, va_K.moved (u := U) (U := U.calling g mk a) (Vm.Alike.refl U.vm) qK, qD⟩, va_recv hK hP (ci := 1) (q0 := 0) rfl rfl, fun U hU hW => ⟨rfl, by rw [hU], by rw [hU]; exact hPc_2, va_K.moved hW.alike hK, hDc_2.weaken (fun _ _ _ _ => trivial)⟩⟩ rfl rfl hl.1 rfl (lv_room (Nat.le_of_ble_eq_true rfl)) dX1_begin_10 ⟨Nat.le_of_ble_eq_true rfl, Nat.le_of_ble_eq_true rfl⟩) hS (fun q _ h => hFc_2 q h) hFc_2 (fun u_2 t_2 H1 locs ht hvm h_2 hB hz1 hk1 hS => ?_)
  obtain ⟨zn_2, ftn_2, hP1, hD1, hF_2_0⟩ := hB
  rw [ht] at hP1
  obtain ⟨hP, hD⟩ := va_join (wr := []) (w1 := [(k9, .inr (1, [.ref tc, .int (nI zn_2), .int nu, .int ki, .int ce, .int lo])), (tc, .inl (cI, 16, .inl ftn_2))]) hP hD [0, 1] [] rfl rfl (by decide) (by decide) hk1 hFc_2 hP1 hD1
  generalize H1 = H at hP hS ⊢
  have hP : va_P (dC, dI) vwCl [(k9, .inr (1, [.ref tc, .int (nI zn_2), .int nu, .int ki, .int ce, .int lo])), (tc, .inl (cI, 16, .inl ftn_2))] H := hP
  have hD : va_D A [(k9, .inr (1, [.ref tc, .int (nI zn_2), .int nu, .int ki, .int ce, .int lo])), (tc, .inl (cI, 16, .inl ftn_2))] := hD
  refine lv_iload_n hx hb dX1_begin_13 rfl (lv_at hl 2 rfl) ?_
  refine lv_iconst (v := 1) hx hb dX1_begin_14 (by decide) ?_
  refine lv_iadd hx hb dX1_begin_15 ?_
  refine lv_topi (fun v_3 e_3 => ?_)
  obtain rfl : v_3 = 15 := (e_3).trans (by decide)
  refine lv_istore_n (lv' := [(3, .int 15), (0, .ref k9), (1, .int x), (2, .int 14)]) hx hb dX1_begin_16 rfl hl (by decide) rfl (fun ls hl => ?_)
  refine lv_iload_n hx hb dX1_begin_17 rfl (lv_at hl 2 rfl) ?_
  by_cases k_4 : x = 10
  · subst k_4
    refine lv_tableIn (off := 74) (tgt := 92) hx hb dX1_begin_18 (by decide) (by decide) (by decide) (by decide) ?_
    refine lv_aload_n hx hb dX1_begin_92 rfl (lv_at hl 1 rfl) ?_
    refine va_get (D := (dC, dI)) (ci := 1) (v := .int lo) (C := RX1) (T := TX1) (N := 6) hx hb hts i_X1_begin_X1 hown hK hP 0 rfl rfl 5 (by decide) (hts (.fieldLink RX1 39 "MillTalk$Asks" "loud" "I") (by decide +kernel)) (fun _ h9 => h9) rfl dX1_begin_93 ?_
    have hP9 := hP.sub (ws' := [(k9, .inr (1, [.ref tc, .int (nI zn_2), .int nu, .int ki, .int ce, .int lo])), (tc, .inl (cI, 16, .inl ftn_2))]) [0, 1] rfl
    have hD9 := hD.sub (ws' := [(k9, .inr (1, [.ref tc, .int (nI zn_2), .int nu, .int ki, .int ce, .int lo])), (tc, .inl (cI, 16, .inl ftn_2))]) [0, 1] (by decide) rfl
    exact W.iret (v := lo) hx hb hr (fun t ht hW => ⟨⟨lo, (), rfl, trivial, ⟨zn_2, ftn_2, by rw [ht]; exact hP9, hD9, (by omega)⟩⟩, hS.F ht⟩) hS.2.2 dX1_begin_96
  by_cases k_5 : x = 11
  · subst k_5
    refine lv_tableIn (off := 79) (tgt := 97) hx hb dX1_begin_18 (by decide) (by decide) (by decide) (by decide) ?_
    refine lv_aload_n hx hb dX1_begin_97 rfl (lv_at hl 1 rfl) ?_
    refine lv_bipush (v := 10) hx hb dX1_begin_98 (by decide) ?_
    refine lv_iload_n hx hb dX1_begin_100 rfl (lv_at hl 0 rfl) ?_
    have hPc_6 := hP.sub (ws' := [(k9, .inr (1, [.ref tc, .int (nI zn_2), .int nu, .int ki, .int ce, .int lo])), (tc, .inl (cI, 16, .inl ftn_2))]) [0, 1] rfl
    have hDc_6 := hD.sub (ws' := [(k9, .inr (1, [.ref tc, .int (nI zn_2), .int nu, .int ki, .int ce, .int lo])), (tc, .inl (cI, 16, .inl ftn_2))]) [0, 1] (by decide) rfl
    have hFc_6 := va_free (wc := [(k9, .inr (1, [.ref tc, .int (nI zn_2), .int nu, .int ki, .int ce, .int lo])), (tc, .inl (cI, 16, .inl ftn_2))]) hD hS hA [0, 1] rfl
    refine va_calli (va_runV (As := [.int 10, .int 15]) (rest := []) ⟨hx, hb, hml, hown, hts⟩ (r_X1_begin_15 l dC dI cI cZ cL cJ H.size k9 tc zn_2 nu ki ce lo ftn_2 10 (by omega)) (cwV 2 hts gX1_begin_X1_begin rfl rfl rfl (by decide +kernel) ⟨Nat.le_of_ble_eq_true rfl, Nat.le_of_ble_eq_true rfl⟩) ⟨fun a U g mk q => by obtain ⟨q0, q1, qP, qK, qD, qS⟩ := q; exact ⟨q0, q1, qP, va_K.moved (u := U) (U := U.calling g mk a) (Vm.Alike.refl U.vm) qK, qD, stt_same rfl qS⟩, va_recv hK hP (ci := 1) (q0 := 0) rfl rfl, fun U hU hW => ⟨rfl, by rw [hU], by rw [hU]; exact hPc_6, va_K.moved hW.alike hK, hDc_6.weaken (fun _ _ _ _ => trivial), by rw [hU]; exact stt_warm hW (stt_narrow (stt_kept hst hS.2.1) hFc_6)⟩⟩ rfl rfl hl.1 rfl (lv_room (Nat.le_of_ble_eq_true rfl)) dX1_begin_101 ⟨Nat.le_of_ble_eq_true rfl, Nat.le_of_ble_eq_true rfl⟩) hS (fun q _ h => hFc_6 q h) hFc_6 (fun r_6 u_6 t_6 H1 locs ht hvm h_6 hB hz1 hk1 hS => ?_)
    obtain ⟨zn_6, ftn_6, hP1, hD1, hF_6_0⟩ := hB
    rw [ht] at hP1
    obtain ⟨hP, hD⟩ := va_join (wr := []) (w1 := [(k9, .inr (1, [.ref tc, .int (nI zn_6), .int nu, .int ki, .int ce, .int lo])), (tc, .inl (cI, 16, .inl ftn_6))]) hP hD [0, 1] [] rfl rfl (by decide) (by decide) hk1 hFc_6 hP1 hD1
    generalize H1 = H at hP hS ⊢
    have hP : va_P (dC, dI) vwCl [(k9, .inr (1, [.ref tc, .int (nI zn_6), .int nu, .int ki, .int ce, .int lo])), (tc, .inl (cI, 16, .inl ftn_6))] H := hP
    have hD : va_D A [(k9, .inr (1, [.ref tc, .int (nI zn_6), .int nu, .int ki, .int ce, .int lo])), (tc, .inl (cI, 16, .inl ftn_6))] := hD
    refine lv_aload_n hx hb dX1_begin_104 rfl (lv_at hl 1 rfl) ?_
    refine lv_iconst (v := 1) hx hb dX1_begin_105 (by decide) ?_
    refine lv_iload_n hx hb dX1_begin_106 rfl (lv_at hl 0 rfl) ?_
    have hPc_7 := hP.sub (ws' := [(k9, .inr (1, [.ref tc, .int (nI zn_6), .int nu, .int ki, .int ce, .int lo])), (tc, .inl (cI, 16, .inl ftn_6))]) [0, 1] rfl
    have hDc_7 := hD.sub (ws' := [(k9, .inr (1, [.ref tc, .int (nI zn_6), .int nu, .int ki, .int ce, .int lo])), (tc, .inl (cI, 16, .inl ftn_6))]) [0, 1] (by decide) rfl
    have hFc_7 := va_free (wc := [(k9, .inr (1, [.ref tc, .int (nI zn_6), .int nu, .int ki, .int ce, .int lo])), (tc, .inl (cI, 16, .inl ftn_6))]) hD hS hA [0, 1] rfl
    refine va_calli (va_runV (As := [.int 1, .int 15]) (rest := [.int r_6]) ⟨hx, hb, hml, hown, hts⟩ (r_X1_askAnew_15 l dC dI cI cZ cL cJ H.size k9 tc zn_6 nu ki ce lo ftn_6 1 (by omega)) (cwV 2 hts gX1_begin_X1_askAnew rfl rfl rfl (by decide +kernel) ⟨Nat.le_of_ble_eq_true rfl, Nat.le_of_ble_eq_true rfl⟩) ⟨fun a U g mk q => by obtain ⟨q0, q1, qP, qK, qD, qS⟩ := q; exact ⟨q0, q1, qP, va_K.moved (u := U) (U := U.calling g mk a) (Vm.Alike.refl U.vm) qK, qD, stt_same rfl qS⟩, va_recv hK hP (ci := 1) (q0 := 0) rfl rfl, fun U hU hW => ⟨rfl, by rw [hU], by rw [hU]; exact hPc_7, va_K.moved hW.alike hK, hDc_7.weaken (fun _ _ _ _ => trivial), by rw [hU]; exact stt_warm hW (stt_narrow (stt_kept hst hS.2.1) hFc_7)⟩⟩ rfl rfl hl.1 rfl (lv_room (Nat.le_of_ble_eq_true rfl)) dX1_begin_107 ⟨Nat.le_of_ble_eq_true rfl, Nat.le_of_ble_eq_true rfl⟩) hS (fun q _ h => hFc_7 q h) hFc_7 (fun r_7 u_7 t_7 H1 locs ht hvm h_7 hB hz1 hk1 hS => ?_)
    obtain ⟨zn_7, ftn_7, hP1, hD1, hF_7_0⟩ := hB
    rw [ht] at hP1
    obtain ⟨hP, hD⟩ := va_join (wr := []) (w1 := [(k9, .inr (1, [.ref tc, .int (nI zn_7), .int nu, .int ki, .int ce, .int lo])), (tc, .inl (cI, 16, .inl ftn_7))]) hP hD [0, 1] [] rfl rfl (by decide) (by decide) hk1 hFc_7 hP1 hD1
    generalize H1 = H at hP hS ⊢
    have hP : va_P (dC, dI) vwCl [(k9, .inr (1, [.ref tc, .int (nI zn_7), .int nu, .int ki, .int ce, .int lo])), (tc, .inl (cI, 16, .inl ftn_7))] H := hP
    have hD : va_D A [(k9, .inr (1, [.ref tc, .int (nI zn_7), .int nu, .int ki, .int ce, .int lo])), (tc, .inl (cI, 16, .inl ftn_7))] := hD
    refine lv_iadd hx hb dX1_begin_110 ?_
    refine lv_topi (fun v_8 e_8 => ?_)
    have hP9 := hP.sub (ws' := [(k9, .inr (1, [.ref tc, .int (nI zn_7), .int nu, .int ki, .int ce, .int lo])), (tc, .inl (cI, 16, .inl ftn_7))]) [0, 1] rfl
    have hD9 := hD.sub (ws' := [(k9, .inr (1, [.ref tc, .int (nI zn_7), .int nu, .int ki, .int ce, .int lo])), (tc, .inl (cI, 16, .inl ftn_7))]) [0, 1] (by decide) rfl
    exact W.iret (v := v_8) hx hb hr (fun t ht hW => ⟨⟨v_8, (), rfl, trivial, ⟨zn_7, ftn_7, by rw [ht]; exact hP9, hD9, (by omega)⟩⟩, hS.F ht⟩) hS.2.2 dX1_begin_111
  by_cases k_9 : x = 12
  · subst k_9
    refine lv_tableIn (off := 94) (tgt := 112) hx hb dX1_begin_18 (by decide) (by decide) (by decide) (by decide) ?_
    refine lv_aload_n hx hb dX1_begin_112 rfl (lv_at hl 1 rfl) ?_
    refine lv_bipush (v := 11) hx hb dX1_begin_113 (by decide) ?_
    refine lv_iload_n hx hb dX1_begin_115 rfl (lv_at hl 0 rfl) ?_
    have hPc_10 := hP.sub (ws' := [(k9, .inr (1, [.ref tc, .int (nI zn_2), .int nu, .int ki, .int ce, .int lo])), (tc, .inl (cI, 16, .inl ftn_2))]) [0, 1] rfl
    have hDc_10 := hD.sub (ws' := [(k9, .inr (1, [.ref tc, .int (nI zn_2), .int nu, .int ki, .int ce, .int lo])), (tc, .inl (cI, 16, .inl ftn_2))]) [0, 1] (by decide) rfl
    have hFc_10 := va_free (wc := [(k9, .inr (1, [.ref tc, .int (nI zn_2), .int nu, .int ki, .int ce, .int lo])), (tc, .inl (cI, 16, .inl ftn_2))]) hD hS hA [0, 1] rfl
    refine va_calli (va_runV (As := [.int 11, .int 15]) (rest := []) ⟨hx, hb, hml, hown, hts⟩ (r_X1_begin_15 l dC dI cI cZ cL cJ H.size k9 tc zn_2 nu ki ce lo ftn_2 11 (by omega)) (cwV 2 hts gX1_begin_X1_begin rfl rfl rfl (by decide +kernel) ⟨Nat.le_of_ble_eq_true rfl, Nat.le_of_ble_eq_true rfl⟩) ⟨fun a U g mk q => by obtain ⟨q0, q1, qP, qK, qD, qS⟩ := q; exact ⟨q0, q1, qP, va_K.moved (u := U) (U := U.calling g mk a) (Vm.Alike.refl U.vm) qK, qD, stt_same rfl qS⟩, va_recv hK hP (ci := 1) (q0 := 0) rfl rfl, fun U hU hW => ⟨rfl, by rw [hU], by rw [hU]; exact hPc_10, va_K.moved hW.alike hK, hDc_10.weaken (fun _ _ _ _ => trivial), by rw [hU]; exact stt_warm hW (stt_narrow (stt_kept hst hS.2.1) hFc_10)⟩⟩ rfl rfl hl.1 rfl (lv_room (Nat.le_of_ble_eq_true rfl)) dX1_begin_116 ⟨Nat.le_of_ble_eq_true rfl, Nat.le_of_ble_eq_true rfl⟩) hS (fun q _ h => hFc_10 q h) hFc_10 (fun r_10 u_10 t_10 H1 locs ht hvm h_10 hB hz1 hk1 hS => ?_)
    obtain ⟨zn_10, ftn_10, hP1, hD1, hF_10_0⟩ := hB
    rw [ht] at hP1
    obtain ⟨hP, hD⟩ := va_join (wr := []) (w1 := [(k9, .inr (1, [.ref tc, .int (nI zn_10), .int nu, .int ki, .int ce, .int lo])), (tc, .inl (cI, 16, .inl ftn_10))]) hP hD [0, 1] [] rfl rfl (by decide) (by decide) hk1 hFc_10 hP1 hD1
    generalize H1 = H at hP hS ⊢
    have hP : va_P (dC, dI) vwCl [(k9, .inr (1, [.ref tc, .int (nI zn_10), .int nu, .int ki, .int ce, .int lo])), (tc, .inl (cI, 16, .inl ftn_10))] H := hP
    have hD : va_D A [(k9, .inr (1, [.ref tc, .int (nI zn_10), .int nu, .int ki, .int ce, .int lo])), (tc, .inl (cI, 16, .inl ftn_10))] := hD
    refine lv_ineg hx hb dX1_begin_119 ?_
    refine lv_topi (fun v_11 e_11 => ?_)
    have hP9 := hP.sub (ws' := [(k9, .inr (1, [.ref tc, .int (nI zn_10), .int nu, .int ki, .int ce, .int lo])), (tc, .inl (cI, 16, .inl ftn_10))]) [0, 1] rfl
    have hD9 := hD.sub (ws' := [(k9, .inr (1, [.ref tc, .int (nI zn_10), .int nu, .int ki, .int ce, .int lo])), (tc, .inl (cI, 16, .inl ftn_10))]) [0, 1] (by decide) rfl
    exact W.iret (v := v_11) hx hb hr (fun t ht hW => ⟨⟨v_11, (), rfl, trivial, ⟨zn_10, ftn_10, by rw [ht]; exact hP9, hD9, (by omega)⟩⟩, hS.F ht⟩) hS.2.2 dX1_begin_120
  by_cases k_12 : x = 13
  · subst k_12
    refine lv_tableIn (off := 103) (tgt := 121) hx hb dX1_begin_18 (by decide) (by decide) (by decide) (by decide) ?_
    refine lv_aload_n hx hb dX1_begin_121 rfl (lv_at hl 1 rfl) ?_
    refine lv_bipush (v := 10) hx hb dX1_begin_122 (by decide) ?_
    refine lv_iload_n hx hb dX1_begin_124 rfl (lv_at hl 0 rfl) ?_
    have hPc_13 := hP.sub (ws' := [(k9, .inr (1, [.ref tc, .int (nI zn_2), .int nu, .int ki, .int ce, .int lo])), (tc, .inl (cI, 16, .inl ftn_2))]) [0, 1] rfl
    have hDc_13 := hD.sub (ws' := [(k9, .inr (1, [.ref tc, .int (nI zn_2), .int nu, .int ki, .int ce, .int lo])), (tc, .inl (cI, 16, .inl ftn_2))]) [0, 1] (by decide) rfl
    have hFc_13 := va_free (wc := [(k9, .inr (1, [.ref tc, .int (nI zn_2), .int nu, .int ki, .int ce, .int lo])), (tc, .inl (cI, 16, .inl ftn_2))]) hD hS hA [0, 1] rfl
    refine va_calli (va_runV (As := [.int 10, .int 15]) (rest := []) ⟨hx, hb, hml, hown, hts⟩ (r_X1_begin_15 l dC dI cI cZ cL cJ H.size k9 tc zn_2 nu ki ce lo ftn_2 10 (by omega)) (cwV 2 hts gX1_begin_X1_begin rfl rfl rfl (by decide +kernel) ⟨Nat.le_of_ble_eq_true rfl, Nat.le_of_ble_eq_true rfl⟩) ⟨fun a U g mk q => by obtain ⟨q0, q1, qP, qK, qD, qS⟩ := q; exact ⟨q0, q1, qP, va_K.moved (u := U) (U := U.calling g mk a) (Vm.Alike.refl U.vm) qK, qD, stt_same rfl qS⟩, va_recv hK hP (ci := 1) (q0 := 0) rfl rfl, fun U hU hW => ⟨rfl, by rw [hU], by rw [hU]; exact hPc_13, va_K.moved hW.alike hK, hDc_13.weaken (fun _ _ _ _ => trivial), by rw [hU]; exact stt_warm hW (stt_narrow (stt_kept hst hS.2.1) hFc_13)⟩⟩ rfl rfl hl.1 rfl (lv_room (Nat.le_of_ble_eq_true rfl)) dX1_begin_125 ⟨Nat.le_of_ble_eq_true rfl, Nat.le_of_ble_eq_true rfl⟩) hS (fun q _ h => hFc_13 q h) hFc_13 (fun r_13 u_13 t_13 H1 locs ht hvm h_13 hB hz1 hk1 hS => ?_)
    obtain ⟨zn_13, ftn_13, hP1, hD1, hF_13_0⟩ := hB
    rw [ht] at hP1
    obtain ⟨hP, hD⟩ := va_join (wr := []) (w1 := [(k9, .inr (1, [.ref tc, .int (nI zn_13), .int nu, .int ki, .int ce, .int lo])), (tc, .inl (cI, 16, .inl ftn_13))]) hP hD [0, 1] [] rfl rfl (by decide) (by decide) hk1 hFc_13 hP1 hD1
    generalize H1 = H at hP hS ⊢
    have hP : va_P (dC, dI) vwCl [(k9, .inr (1, [.ref tc, .int (nI zn_13), .int nu, .int ki, .int ce, .int lo])), (tc, .inl (cI, 16, .inl ftn_13))] H := hP
    have hD : va_D A [(k9, .inr (1, [.ref tc, .int (nI zn_13), .int nu, .int ki, .int ce, .int lo])), (tc, .inl (cI, 16, .inl ftn_13))] := hD
    refine lv_bipush (v := 100) hx hb dX1_begin_128 (by decide) ?_
    refine lv_isub hx hb dX1_begin_130 ?_
    refine lv_topi (fun v_14 e_14 => ?_)
    have hP9 := hP.sub (ws' := [(k9, .inr (1, [.ref tc, .int (nI zn_13), .int nu, .int ki, .int ce, .int lo])), (tc, .inl (cI, 16, .inl ftn_13))]) [0, 1] rfl
    have hD9 := hD.sub (ws' := [(k9, .inr (1, [.ref tc, .int (nI zn_13), .int nu, .int ki, .int ce, .int lo])), (tc, .inl (cI, 16, .inl ftn_13))]) [0, 1] (by decide) rfl
    exact W.iret (v := v_14) hx hb hr (fun t ht hW => ⟨⟨v_14, (), rfl, trivial, ⟨zn_13, ftn_13, by rw [ht]; exact hP9, hD9, (by omega)⟩⟩, hS.F ht⟩) hS.2.2 dX1_begin_131
  by_cases k_15 : x = 14
  · subst k_15
    refine lv_tableIn (off := 114) (tgt := 132) hx hb dX1_begin_18 (by decide) (by decide) (by decide) (by decide) ?_
    refine lv_aload_n hx hb dX1_begin_132 rfl (lv_at hl 1 rfl) ?_
    refine lv_bipush (v := 13) hx hb dX1_begin_133 (by decide) ?_
    refine lv_iload_n hx hb dX1_begin_135 rfl (lv_at hl 0 rfl) ?_
    have hPc_16 := hP.sub (ws' := [(k9, .inr (1, [.ref tc, .int (nI zn_2), .int nu, .int ki, .int ce, .int lo])), (tc, .inl (cI, 16, .inl ftn_2))]) [0, 1] rfl
    have hDc_16 := hD.sub (ws' := [(k9, .inr (1, [.ref tc, .int (nI zn_2), .int nu, .int ki, .int ce, .int lo])), (tc, .inl (cI, 16, .inl ftn_2))]) [0, 1] (by decide) rfl
    have hFc_16 := va_free (wc := [(k9, .inr (1, [.ref tc, .int (nI zn_2), .int nu, .int ki, .int ce, .int lo])), (tc, .inl (cI, 16, .inl ftn_2))]) hD hS hA [0, 1] rfl
    refine va_calli (va_runV (As := [.int 13, .int 15]) (rest := []) ⟨hx, hb, hml, hown, hts⟩ (r_X1_begin_15 l dC dI cI cZ cL cJ H.size k9 tc zn_2 nu ki ce lo ftn_2 13 (by omega)) (cwV 2 hts gX1_begin_X1_begin rfl rfl rfl (by decide +kernel) ⟨Nat.le_of_ble_eq_true rfl, Nat.le_of_ble_eq_true rfl⟩) ⟨fun a U g mk q => by obtain ⟨q0, q1, qP, qK, qD, qS⟩ := q; exact ⟨q0, q1, qP, va_K.moved (u := U) (U := U.calling g mk a) (Vm.Alike.refl U.vm) qK, qD, stt_same rfl qS⟩, va_recv hK hP (ci := 1) (q0 := 0) rfl rfl, fun U hU hW => ⟨rfl, by rw [hU], by rw [hU]; exact hPc_16, va_K.moved hW.alike hK, hDc_16.weaken (fun _ _ _ _ => trivial), by rw [hU]; exact stt_warm hW (stt_narrow (stt_kept hst hS.2.1) hFc_16)⟩⟩ rfl rfl hl.1 rfl (lv_room (Nat.le_of_ble_eq_true rfl)) dX1_begin_136 ⟨Nat.le_of_ble_eq_true rfl, Nat.le_of_ble_eq_true rfl⟩) hS (fun q _ h => hFc_16 q h) hFc_16 (fun r_16 u_16 t_16 H1 locs ht hvm h_16 hB hz1 hk1 hS => ?_)
    obtain ⟨zn_16, ftn_16, hP1, hD1, hF_16_0⟩ := hB
    rw [ht] at hP1
    obtain ⟨hP, hD⟩ := va_join (wr := []) (w1 := [(k9, .inr (1, [.ref tc, .int (nI zn_16), .int nu, .int ki, .int ce, .int lo])), (tc, .inl (cI, 16, .inl ftn_16))]) hP hD [0, 1] [] rfl rfl (by decide) (by decide) hk1 hFc_16 hP1 hD1
    generalize H1 = H at hP hS ⊢
    have hP : va_P (dC, dI) vwCl [(k9, .inr (1, [.ref tc, .int (nI zn_16), .int nu, .int ki, .int ce, .int lo])), (tc, .inl (cI, 16, .inl ftn_16))] H := hP
    have hD : va_D A [(k9, .inr (1, [.ref tc, .int (nI zn_16), .int nu, .int ki, .int ce, .int lo])), (tc, .inl (cI, 16, .inl ftn_16))] := hD
    refine lv_iconst (v := 2) hx hb dX1_begin_139 (by decide) ?_
    refine lv_imul hx hb dX1_begin_140 ?_
    refine lv_topi (fun v_17 e_17 => ?_)
    have hP9 := hP.sub (ws' := [(k9, .inr (1, [.ref tc, .int (nI zn_16), .int nu, .int ki, .int ce, .int lo])), (tc, .inl (cI, 16, .inl ftn_16))]) [0, 1] rfl
    have hD9 := hD.sub (ws' := [(k9, .inr (1, [.ref tc, .int (nI zn_16), .int nu, .int ki, .int ce, .int lo])), (tc, .inl (cI, 16, .inl ftn_16))]) [0, 1] (by decide) rfl
    exact W.iret (v := v_17) hx hb hr (fun t ht hW => ⟨⟨v_17, (), rfl, trivial, ⟨zn_16, ftn_16, by rw [ht]; exact hP9, hD9, (by omega)⟩⟩, hS.F ht⟩) hS.2.2 dX1_begin_141
  by_cases k_18 : x = 15
  · subst k_18
    refine lv_tableIn (off := 179) (tgt := 197) hx hb dX1_begin_18 (by decide) (by decide) (by decide) (by decide) ?_
    refine lv_iconst (v := 0) hx hb dX1_begin_197 (by decide) ?_
    have hP9 := hP.sub (ws' := [(k9, .inr (1, [.ref tc, .int (nI zn_2), .int nu, .int ki, .int ce, .int lo])), (tc, .inl (cI, 16, .inl ftn_2))]) [0, 1] rfl
    have hD9 := hD.sub (ws' := [(k9, .inr (1, [.ref tc, .int (nI zn_2), .int nu, .int ki, .int ce, .int lo])), (tc, .inl (cI, 16, .inl ftn_2))]) [0, 1] (by decide) rfl
    exact W.iret (v := 0) hx hb hr (fun t ht hW => ⟨⟨0, (), rfl, trivial, ⟨zn_2, ftn_2, by rw [ht]; exact hP9, hD9, (by omega)⟩⟩, hS.F ht⟩) hS.2.2 dX1_begin_198
  by_cases k_19 : x = 16
  · subst k_19
    refine lv_tableIn (off := 179) (tgt := 197) hx hb dX1_begin_18 (by decide) (by decide) (by decide) (by decide) ?_
    refine lv_iconst (v := 0) hx hb dX1_begin_197 (by decide) ?_
    have hP9 := hP.sub (ws' := [(k9, .inr (1, [.ref tc, .int (nI zn_2), .int nu, .int ki, .int ce, .int lo])), (tc, .inl (cI, 16, .inl ftn_2))]) [0, 1] rfl
    have hD9 := hD.sub (ws' := [(k9, .inr (1, [.ref tc, .int (nI zn_2), .int nu, .int ki, .int ce, .int lo])), (tc, .inl (cI, 16, .inl ftn_2))]) [0, 1] (by decide) rfl
    exact W.iret (v := 0) hx hb hr (fun t ht hW => ⟨⟨0, (), rfl, trivial, ⟨zn_2, ftn_2, by rw [ht]; exact hP9, hD9, (by omega)⟩⟩, hS.F ht⟩) hS.2.2 dX1_begin_198
  by_cases k_20 : x = 17
  · subst k_20
    refine lv_tableIn (off := 179) (tgt := 197) hx hb dX1_begin_18 (by decide) (by decide) (by decide) (by decide) ?_
    refine lv_iconst (v := 0) hx hb dX1_begin_197 (by decide) ?_
    have hP9 := hP.sub (ws' := [(k9, .inr (1, [.ref tc, .int (nI zn_2), .int nu, .int ki, .int ce, .int lo])), (tc, .inl (cI, 16, .inl ftn_2))]) [0, 1] rfl
    have hD9 := hD.sub (ws' := [(k9, .inr (1, [.ref tc, .int (nI zn_2), .int nu, .int ki, .int ce, .int lo])), (tc, .inl (cI, 16, .inl ftn_2))]) [0, 1] (by decide) rfl
    exact W.iret (v := 0) hx hb hr (fun t ht hW => ⟨⟨0, (), rfl, trivial, ⟨zn_2, ftn_2, by rw [ht]; exact hP9, hD9, (by omega)⟩⟩, hS.F ht⟩) hS.2.2 dX1_begin_198
  by_cases k_21 : x = 18
  · subst k_21
    refine lv_tableIn (off := 179) (tgt := 197) hx hb dX1_begin_18 (by decide) (by decide) (by decide) (by decide) ?_
    refine lv_iconst (v := 0) hx hb dX1_begin_197 (by decide) ?_
    have hP9 := hP.sub (ws' := [(k9, .inr (1, [.ref tc, .int (nI zn_2), .int nu, .int ki, .int ce, .int lo])), (tc, .inl (cI, 16, .inl ftn_2))]) [0, 1] rfl
    have hD9 := hD.sub (ws' := [(k9, .inr (1, [.ref tc, .int (nI zn_2), .int nu, .int ki, .int ce, .int lo])), (tc, .inl (cI, 16, .inl ftn_2))]) [0, 1] (by decide) rfl
    exact W.iret (v := 0) hx hb hr (fun t ht hW => ⟨⟨0, (), rfl, trivial, ⟨zn_2, ftn_2, by rw [ht]; exact hP9, hD9, (by omega)⟩⟩, hS.F ht⟩) hS.2.2 dX1_begin_198
  by_cases k_22 : x = 19
  · subst k_22
    refine lv_tableIn (off := 179) (tgt := 197) hx hb dX1_begin_18 (by decide) (by decide) (by decide) (by decide) ?_
    refine lv_iconst (v := 0) hx hb dX1_begin_197 (by decide) ?_
    have hP9 := hP.sub (ws' := [(k9, .inr (1, [.ref tc, .int (nI zn_2), .int nu, .int ki, .int ce, .int lo])), (tc, .inl (cI, 16, .inl ftn_2))]) [0, 1] rfl
    have hD9 := hD.sub (ws' := [(k9, .inr (1, [.ref tc, .int (nI zn_2), .int nu, .int ki, .int ce, .int lo])), (tc, .inl (cI, 16, .inl ftn_2))]) [0, 1] (by decide) rfl
    exact W.iret (v := 0) hx hb hr (fun t ht hW => ⟨⟨0, (), rfl, trivial, ⟨zn_2, ftn_2, by rw [ht]; exact hP9, hD9, (by omega)⟩⟩, hS.F ht⟩) hS.2.2 dX1_begin_198
  by_cases k_23 : x = 20
  · subst k_23
    refine lv_tableIn (off := 124) (tgt := 142) hx hb dX1_begin_18 (by decide) (by decide) (by decide) (by decide) ?_
    refine lv_aload_n hx hb dX1_begin_142 rfl (lv_at hl 1 rfl) ?_
    refine va_get (D := (dC, dI)) (ci := 1) (v := .int nu) (C := RX1) (T := TX1) (N := 6) hx hb hts i_X1_begin_X1 hown hK hP 0 rfl rfl 2 (by decide) (hts (.fieldLink RX1 19 "MillTalk$Asks" "number" "I") (by decide +kernel)) (fun _ h9 => h9) rfl dX1_begin_143 ?_
    have hP9 := hP.sub (ws' := [(k9, .inr (1, [.ref tc, .int (nI zn_2), .int nu, .int ki, .int ce, .int lo])), (tc, .inl (cI, 16, .inl ftn_2))]) [0, 1] rfl
    have hD9 := hD.sub (ws' := [(k9, .inr (1, [.ref tc, .int (nI zn_2), .int nu, .int ki, .int ce, .int lo])), (tc, .inl (cI, 16, .inl ftn_2))]) [0, 1] (by decide) rfl
    exact W.iret (v := nu) hx hb hr (fun t ht hW => ⟨⟨nu, (), rfl, trivial, ⟨zn_2, ftn_2, by rw [ht]; exact hP9, hD9, (by omega)⟩⟩, hS.F ht⟩) hS.2.2 dX1_begin_146
  by_cases k_24 : x = 21
  · subst k_24
    refine lv_tableIn (off := 129) (tgt := 147) hx hb dX1_begin_18 (by decide) (by decide) (by decide) (by decide) ?_
    refine lv_aload_n hx hb dX1_begin_147 rfl (lv_at hl 1 rfl) ?_
    refine lv_bipush (v := 20) hx hb dX1_begin_148 (by decide) ?_
    refine lv_iload_n hx hb dX1_begin_150 rfl (lv_at hl 0 rfl) ?_
    have hPc_25 := hP.sub (ws' := [(k9, .inr (1, [.ref tc, .int (nI zn_2), .int nu, .int ki, .int ce, .int lo])), (tc, .inl (cI, 16, .inl ftn_2))]) [0, 1] rfl
    have hDc_25 := hD.sub (ws' := [(k9, .inr (1, [.ref tc, .int (nI zn_2), .int nu, .int ki, .int ce, .int lo])), (tc, .inl (cI, 16, .inl ftn_2))]) [0, 1] (by decide) rfl
    have hFc_25 := va_free (wc := [(k9, .inr (1, [.ref tc, .int (nI zn_2), .int nu, .int ki, .int ce, .int lo])), (tc, .inl (cI, 16, .inl ftn_2))]) hD hS hA [0, 1] rfl
    refine va_calli (va_runV (As := [.int 20, .int 15]) (rest := []) ⟨hx, hb, hml, hown, hts⟩ (r_X1_begin_15 l dC dI cI cZ cL cJ H.size k9 tc zn_2 nu ki ce lo ftn_2 20 (by omega)) (cwV 2 hts gX1_begin_X1_begin rfl rfl rfl (by decide +kernel) ⟨Nat.le_of_ble_eq_true rfl, Nat.le_of_ble_eq_true rfl⟩) ⟨fun a U g mk q => by obtain ⟨q0, q1, qP, qK, qD, qS⟩ := q; exact ⟨q0, q1, qP, va_K.moved (u := U) (U := U.calling g mk a) (Vm.Alike.refl U.vm) qK, qD, stt_same rfl qS⟩, va_recv hK hP (ci := 1) (q0 := 0) rfl rfl, fun U hU hW => ⟨rfl, by rw [hU], by rw [hU]; exact hPc_25, va_K.moved hW.alike hK, hDc_25.weaken (fun _ _ _ _ => trivial), by rw [hU]; exact stt_warm hW (stt_narrow (stt_kept hst hS.2.1) hFc_25)⟩⟩ rfl rfl hl.1 rfl (lv_room (Nat.le_of_ble_eq_true rfl)) dX1_begin_151 ⟨Nat.le_of_ble_eq_true rfl, Nat.le_of_ble_eq_true rfl⟩) hS (fun q _ h => hFc_25 q h) hFc_25 (fun r_25 u_25 t_25 H1 locs ht hvm h_25 hB hz1 hk1 hS => ?_)
    obtain ⟨zn_25, ftn_25, hP1, hD1, hF_25_0⟩ := hB
    rw [ht] at hP1
    obtain ⟨hP, hD⟩ := va_join (wr := []) (w1 := [(k9, .inr (1, [.ref tc, .int (nI zn_25), .int nu, .int ki, .int ce, .int lo])), (tc, .inl (cI, 16, .inl ftn_25))]) hP hD [0, 1] [] rfl rfl (by decide) (by decide) hk1 hFc_25 hP1 hD1
    generalize H1 = H at hP hS ⊢
    have hP : va_P (dC, dI) vwCl [(k9, .inr (1, [.ref tc, .int (nI zn_25), .int nu, .int ki, .int ce, .int lo])), (tc, .inl (cI, 16, .inl ftn_25))] H := hP
    have hD : va_D A [(k9, .inr (1, [.ref tc, .int (nI zn_25), .int nu, .int ki, .int ce, .int lo])), (tc, .inl (cI, 16, .inl ftn_25))] := hD
    refine lv_aload_n hx hb dX1_begin_154 rfl (lv_at hl 1 rfl) ?_
    refine va_get (D := (dC, dI)) (ci := 1) (v := .int ce) (C := RX1) (T := TX1) (N := 6) hx hb hts i_X1_begin_X1 hown hK hP 0 rfl rfl 4 (by decide) (hts (.fieldLink RX1 33 "MillTalk$Asks" "cell" "I") (by decide +kernel)) (fun _ h9 => h9) rfl dX1_begin_155 ?_
    refine lv_iadd hx hb dX1_begin_158 ?_
    refine lv_topi (fun v_26 e_26 => ?_)
    have hP9 := hP.sub (ws' := [(k9, .inr (1, [.ref tc, .int (nI zn_25), .int nu, .int ki, .int ce, .int lo])), (tc, .inl (cI, 16, .inl ftn_25))]) [0, 1] rfl
    have hD9 := hD.sub (ws' := [(k9, .inr (1, [.ref tc, .int (nI zn_25), .int nu, .int ki, .int ce, .int lo])), (tc, .inl (cI, 16, .inl ftn_25))]) [0, 1] (by decide) rfl
    exact W.iret (v := v_26) hx hb hr (fun t ht hW => ⟨⟨v_26, (), rfl, trivial, ⟨zn_25, ftn_25, by rw [ht]; exact hP9, hD9, (by omega)⟩⟩, hS.F ht⟩) hS.2.2 dX1_begin_159
  by_cases k_27 : x = 22
  · subst k_27
    refine lv_tableIn (off := 142) (tgt := 160) hx hb dX1_begin_18 (by decide) (by decide) (by decide) (by decide) ?_
    refine lv_aload_n hx hb dX1_begin_160 rfl (lv_at hl 1 rfl) ?_
    refine lv_bipush (v := 21) hx hb dX1_begin_161 (by decide) ?_
    refine lv_iload_n hx hb dX1_begin_163 rfl (lv_at hl 0 rfl) ?_
    have hPc_28 := hP.sub (ws' := [(k9, .inr (1, [.ref tc, .int (nI zn_2), .int nu, .int ki, .int ce, .int lo])), (tc, .inl (cI, 16, .inl ftn_2))]) [0, 1] rfl
    have hDc_28 := hD.sub (ws' := [(k9, .inr (1, [.ref tc, .int (nI zn_2), .int nu, .int ki, .int ce, .int lo])), (tc, .inl (cI, 16, .inl ftn_2))]) [0, 1] (by decide) rfl
    have hFc_28 := va_free (wc := [(k9, .inr (1, [.ref tc, .int (nI zn_2), .int nu, .int ki, .int ce, .int lo])), (tc, .inl (cI, 16, .inl ftn_2))]) hD hS hA [0, 1] rfl
    refine va_calli (va_runV (As := [.int 21, .int 15]) (rest := []) ⟨hx, hb, hml, hown, hts⟩ (r_X1_begin_15 l dC dI cI cZ cL cJ H.size k9 tc zn_2 nu ki ce lo ftn_2 21 (by omega)) (cwV 2 hts gX1_begin_X1_begin rfl rfl rfl (by decide +kernel) ⟨Nat.le_of_ble_eq_true rfl, Nat.le_of_ble_eq_true rfl⟩) ⟨fun a U g mk q => by obtain ⟨q0, q1, qP, qK, qD, qS⟩ := q; exact ⟨q0, q1, qP, va_K.moved (u := U) (U := U.calling g mk a) (Vm.Alike.refl U.vm) qK, qD, stt_same rfl qS⟩, va_recv hK hP (ci := 1) (q0 := 0) rfl rfl, fun U hU hW => ⟨rfl, by rw [hU], by rw [hU]; exact hPc_28, va_K.moved hW.alike hK, hDc_28.weaken (fun _ _ _ _ => trivial), by rw [hU]; exact stt_warm hW (stt_narrow (stt_kept hst hS.2.1) hFc_28)⟩⟩ rfl rfl hl.1 rfl (lv_room (Nat.le_of_ble_eq_true rfl)) dX1_begin_164 ⟨Nat.le_of_ble_eq_true rfl, Nat.le_of_ble_eq_true rfl⟩) hS (fun q _ h => hFc_28 q h) hFc_28 (fun r_28 u_28 t_28 H1 locs ht hvm h_28 hB hz1 hk1 hS => ?_)
    obtain ⟨zn_28, ftn_28, hP1, hD1, hF_28_0⟩ := hB
    rw [ht] at hP1
    obtain ⟨hP, hD⟩ := va_join (wr := []) (w1 := [(k9, .inr (1, [.ref tc, .int (nI zn_28), .int nu, .int ki, .int ce, .int lo])), (tc, .inl (cI, 16, .inl ftn_28))]) hP hD [0, 1] [] rfl rfl (by decide) (by decide) hk1 hFc_28 hP1 hD1
    generalize H1 = H at hP hS ⊢
    have hP : va_P (dC, dI) vwCl [(k9, .inr (1, [.ref tc, .int (nI zn_28), .int nu, .int ki, .int ce, .int lo])), (tc, .inl (cI, 16, .inl ftn_28))] H := hP
    have hD : va_D A [(k9, .inr (1, [.ref tc, .int (nI zn_28), .int nu, .int ki, .int ce, .int lo])), (tc, .inl (cI, 16, .inl ftn_28))] := hD
    refine lv_sipush (v := 1000) hx hb dX1_begin_167 (by decide) ?_
    refine lv_isub hx hb dX1_begin_170 ?_
    refine lv_topi (fun v_29 e_29 => ?_)
    have hP9 := hP.sub (ws' := [(k9, .inr (1, [.ref tc, .int (nI zn_28), .int nu, .int ki, .int ce, .int lo])), (tc, .inl (cI, 16, .inl ftn_28))]) [0, 1] rfl
    have hD9 := hD.sub (ws' := [(k9, .inr (1, [.ref tc, .int (nI zn_28), .int nu, .int ki, .int ce, .int lo])), (tc, .inl (cI, 16, .inl ftn_28))]) [0, 1] (by decide) rfl
    exact W.iret (v := v_29) hx hb hr (fun t ht hW => ⟨⟨v_29, (), rfl, trivial, ⟨zn_28, ftn_28, by rw [ht]; exact hP9, hD9, (by omega)⟩⟩, hS.F ht⟩) hS.2.2 dX1_begin_171
  by_cases k_30 : x = 23
  · subst k_30
    refine lv_tableIn (off := 154) (tgt := 172) hx hb dX1_begin_18 (by decide) (by decide) (by decide) (by decide) ?_
    refine lv_aload_n hx hb dX1_begin_172 rfl (lv_at hl 1 rfl) ?_
    refine lv_bipush (v := 20) hx hb dX1_begin_173 (by decide) ?_
    refine lv_iload_n hx hb dX1_begin_175 rfl (lv_at hl 0 rfl) ?_
    have hPc_31 := hP.sub (ws' := [(k9, .inr (1, [.ref tc, .int (nI zn_2), .int nu, .int ki, .int ce, .int lo])), (tc, .inl (cI, 16, .inl ftn_2))]) [0, 1] rfl
    have hDc_31 := hD.sub (ws' := [(k9, .inr (1, [.ref tc, .int (nI zn_2), .int nu, .int ki, .int ce, .int lo])), (tc, .inl (cI, 16, .inl ftn_2))]) [0, 1] (by decide) rfl
    have hFc_31 := va_free (wc := [(k9, .inr (1, [.ref tc, .int (nI zn_2), .int nu, .int ki, .int ce, .int lo])), (tc, .inl (cI, 16, .inl ftn_2))]) hD hS hA [0, 1] rfl
    refine va_calli (va_runV (As := [.int 20, .int 15]) (rest := []) ⟨hx, hb, hml, hown, hts⟩ (r_X1_begin_15 l dC dI cI cZ cL cJ H.size k9 tc zn_2 nu ki ce lo ftn_2 20 (by omega)) (cwV 2 hts gX1_begin_X1_begin rfl rfl rfl (by decide +kernel) ⟨Nat.le_of_ble_eq_true rfl, Nat.le_of_ble_eq_true rfl⟩) ⟨fun a U g mk q => by obtain ⟨q0, q1, qP, qK, qD, qS⟩ := q; exact ⟨q0, q1, qP, va_K.moved (u := U) (U := U.calling g mk a) (Vm.Alike.refl U.vm) qK, qD, stt_same rfl qS⟩, va_recv hK hP (ci := 1) (q0 := 0) rfl rfl, fun U hU hW => ⟨rfl, by rw [hU], by rw [hU]; exact hPc_31, va_K.moved hW.alike hK, hDc_31.weaken (fun _ _ _ _ => trivial), by rw [hU]; exact stt_warm hW (stt_narrow (stt_kept hst hS.2.1) hFc_31)⟩⟩ rfl rfl hl.1 rfl (lv_room (Nat.le_of_ble_eq_true rfl)) dX1_begin_176 ⟨Nat.le_of_ble_eq_true rfl, Nat.le_of_ble_eq_true rfl⟩) hS (fun q _ h => hFc_31 q h) hFc_31 (fun r_31 u_31 t_31 H1 locs ht hvm h_31 hB hz1 hk1 hS => ?_)
    obtain ⟨zn_31, ftn_31, hP1, hD1, hF_31_0⟩ := hB
    rw [ht] at hP1
    obtain ⟨hP, hD⟩ := va_join (wr := []) (w1 := [(k9, .inr (1, [.ref tc, .int (nI zn_31), .int nu, .int ki, .int ce, .int lo])), (tc, .inl (cI, 16, .inl ftn_31))]) hP hD [0, 1] [] rfl rfl (by decide) (by decide) hk1 hFc_31 hP1 hD1
    generalize H1 = H at hP hS ⊢
    have hP : va_P (dC, dI) vwCl [(k9, .inr (1, [.ref tc, .int (nI zn_31), .int nu, .int ki, .int ce, .int lo])), (tc, .inl (cI, 16, .inl ftn_31))] H := hP
    have hD : va_D A [(k9, .inr (1, [.ref tc, .int (nI zn_31), .int nu, .int ki, .int ce, .int lo])), (tc, .inl (cI, 16, .inl ftn_31))] := hD
    refine lv_aload_n hx hb dX1_begin_179 rfl (lv_at hl 1 rfl) ?_
    refine lv_iconst (v := 0) hx hb dX1_begin_180 (by decide) ?_
    refine lv_iload_n hx hb dX1_begin_181 rfl (lv_at hl 0 rfl) ?_
    have hPc_32 := hP.sub (ws' := [(k9, .inr (1, [.ref tc, .int (nI zn_31), .int nu, .int ki, .int ce, .int lo])), (tc, .inl (cI, 16, .inl ftn_31))]) [0, 1] rfl
    have hDc_32 := hD.sub (ws' := [(k9, .inr (1, [.ref tc, .int (nI zn_31), .int nu, .int ki, .int ce, .int lo])), (tc, .inl (cI, 16, .inl ftn_31))]) [0, 1] (by decide) rfl
    have hFc_32 := va_free (wc := [(k9, .inr (1, [.ref tc, .int (nI zn_31), .int nu, .int ki, .int ce, .int lo])), (tc, .inl (cI, 16, .inl ftn_31))]) hD hS hA [0, 1] rfl
    refine va_calli (va_runV (As := [.int 0, .int 15]) (rest := [.int r_31]) ⟨hx, hb, hml, hown, hts⟩ (r_X1_askAnew_15 l dC dI cI cZ cL cJ H.size k9 tc zn_31 nu ki ce lo ftn_31 0 (by omega)) (cwV 2 hts gX1_begin_X1_askAnew rfl rfl rfl (by decide +kernel) ⟨Nat.le_of_ble_eq_true rfl, Nat.le_of_ble_eq_true rfl⟩) ⟨fun a U g mk q => by obtain ⟨q0, q1, qP, qK, qD, qS⟩ := q; exact ⟨q0, q1, qP, va_K.moved (u := U) (U := U.calling g mk a) (Vm.Alike.refl U.vm) qK, qD, stt_same rfl qS⟩, va_recv hK hP (ci := 1) (q0 := 0) rfl rfl, fun U hU hW => ⟨rfl, by rw [hU], by rw [hU]; exact hPc_32, va_K.moved hW.alike hK, hDc_32.weaken (fun _ _ _ _ => trivial), by rw [hU]; exact stt_warm hW (stt_narrow (stt_kept hst hS.2.1) hFc_32)⟩⟩ rfl rfl hl.1 rfl (lv_room (Nat.le_of_ble_eq_true rfl)) dX1_begin_182 ⟨Nat.le_of_ble_eq_true rfl, Nat.le_of_ble_eq_true rfl⟩) hS (fun q _ h => hFc_32 q h) hFc_32 (fun r_32 u_32 t_32 H1 locs ht hvm h_32 hB hz1 hk1 hS => ?_)
    obtain ⟨zn_32, ftn_32, hP1, hD1, hF_32_0⟩ := hB
    rw [ht] at hP1
    obtain ⟨hP, hD⟩ := va_join (wr := []) (w1 := [(k9, .inr (1, [.ref tc, .int (nI zn_32), .int nu, .int ki, .int ce, .int lo])), (tc, .inl (cI, 16, .inl ftn_32))]) hP hD [0, 1] [] rfl rfl (by decide) (by decide) hk1 hFc_32 hP1 hD1
    generalize H1 = H at hP hS ⊢
    have hP : va_P (dC, dI) vwCl [(k9, .inr (1, [.ref tc, .int (nI zn_32), .int nu, .int ki, .int ce, .int lo])), (tc, .inl (cI, 16, .inl ftn_32))] H := hP
    have hD : va_D A [(k9, .inr (1, [.ref tc, .int (nI zn_32), .int nu, .int ki, .int ce, .int lo])), (tc, .inl (cI, 16, .inl ftn_32))] := hD
    refine lv_isub hx hb dX1_begin_185 ?_
    refine lv_topi (fun v_33 e_33 => ?_)
    have hP9 := hP.sub (ws' := [(k9, .inr (1, [.ref tc, .int (nI zn_32), .int nu, .int ki, .int ce, .int lo])), (tc, .inl (cI, 16, .inl ftn_32))]) [0, 1] rfl
    have hD9 := hD.sub (ws' := [(k9, .inr (1, [.ref tc, .int (nI zn_32), .int nu, .int ki, .int ce, .int lo])), (tc, .inl (cI, 16, .inl ftn_32))]) [0, 1] (by decide) rfl
    exact W.iret (v := v_33) hx hb hr (fun t ht hW => ⟨⟨v_33, (), rfl, trivial, ⟨zn_32, ftn_32, by rw [ht]; exact hP9, hD9, (by omega)⟩⟩, hS.F ht⟩) hS.2.2 dX1_begin_186
  by_cases k_34 : x = 24
  · subst k_34
    refine lv_tableIn (off := 169) (tgt := 187) hx hb dX1_begin_18 (by decide) (by decide) (by decide) (by decide) ?_
    refine lv_aload_n hx hb dX1_begin_187 rfl (lv_at hl 1 rfl) ?_
    refine lv_bipush (v := 21) hx hb dX1_begin_188 (by decide) ?_
    refine lv_iload_n hx hb dX1_begin_190 rfl (lv_at hl 0 rfl) ?_
    have hPc_35 := hP.sub (ws' := [(k9, .inr (1, [.ref tc, .int (nI zn_2), .int nu, .int ki, .int ce, .int lo])), (tc, .inl (cI, 16, .inl ftn_2))]) [0, 1] rfl
    have hDc_35 := hD.sub (ws' := [(k9, .inr (1, [.ref tc, .int (nI zn_2), .int nu, .int ki, .int ce, .int lo])), (tc, .inl (cI, 16, .inl ftn_2))]) [0, 1] (by decide) rfl
    have hFc_35 := va_free (wc := [(k9, .inr (1, [.ref tc, .int (nI zn_2), .int nu, .int ki, .int ce, .int lo])), (tc, .inl (cI, 16, .inl ftn_2))]) hD hS hA [0, 1] rfl
    refine va_calli (va_runV (As := [.int 21, .int 15]) (rest := []) ⟨hx, hb, hml, hown, hts⟩ (r_X1_begin_15 l dC dI cI cZ cL cJ H.size k9 tc zn_2 nu ki ce lo ftn_2 21 (by omega)) (cwV 2 hts gX1_begin_X1_begin rfl rfl rfl (by decide +kernel) ⟨Nat.le_of_ble_eq_true rfl, Nat.le_of_ble_eq_true rfl⟩) ⟨fun a U g mk q => by obtain ⟨q0, q1, qP, qK, qD, qS⟩ := q; exact ⟨q0, q1, qP, va_K.moved (u := U) (U := U.calling g mk a) (Vm.Alike.refl U.vm) qK, qD, stt_same rfl qS⟩, va_recv hK hP (ci := 1) (q0 := 0) rfl rfl, fun U hU hW => ⟨rfl, by rw [hU], by rw [hU]; exact hPc_35, va_K.moved hW.alike hK, hDc_35.weaken (fun _ _ _ _ => trivial), by rw [hU]; exact stt_warm hW (stt_narrow (stt_kept hst hS.2.1) hFc_35)⟩⟩ rfl rfl hl.1 rfl (lv_room (Nat.le_of_ble_eq_true rfl)) dX1_begin_191 ⟨Nat.le_of_ble_eq_true rfl, Nat.le_of_ble_eq_true rfl⟩) hS (fun q _ h => hFc_35 q h) hFc_35 (fun r_35 u_35 t_35 H1 locs ht hvm h_35 hB hz1 hk1 hS => ?_)
    obtain ⟨zn_35, ftn_35, hP1, hD1, hF_35_0⟩ := hB
    rw [ht] at hP1
    obtain ⟨hP, hD⟩ := va_join (wr := []) (w1 := [(k9, .inr (1, [.ref tc, .int (nI zn_35), .int nu, .int ki, .int ce, .int lo])), (tc, .inl (cI, 16, .inl ftn_35))]) hP hD [0, 1] [] rfl rfl (by decide) (by decide) hk1 hFc_35 hP1 hD1
    generalize H1 = H at hP hS ⊢
    have hP : va_P (dC, dI) vwCl [(k9, .inr (1, [.ref tc, .int (nI zn_35), .int nu, .int ki, .int ce, .int lo])), (tc, .inl (cI, 16, .inl ftn_35))] H := hP
    have hD : va_D A [(k9, .inr (1, [.ref tc, .int (nI zn_35), .int nu, .int ki, .int ce, .int lo])), (tc, .inl (cI, 16, .inl ftn_35))] := hD
    refine lv_iconst (v := 2) hx hb dX1_begin_194 (by decide) ?_
    refine lv_imul hx hb dX1_begin_195 ?_
    refine lv_topi (fun v_36 e_36 => ?_)
    have hP9 := hP.sub (ws' := [(k9, .inr (1, [.ref tc, .int (nI zn_35), .int nu, .int ki, .int ce, .int lo])), (tc, .inl (cI, 16, .inl ftn_35))]) [0, 1] rfl
    have hD9 := hD.sub (ws' := [(k9, .inr (1, [.ref tc, .int (nI zn_35), .int nu, .int ki, .int ce, .int lo])), (tc, .inl (cI, 16, .inl ftn_35))]) [0, 1] (by decide) rfl
    exact W.iret (v := v_36) hx hb hr (fun t ht hW => ⟨⟨v_36, (), rfl, trivial, ⟨zn_35, ftn_35, by rw [ht]; exact hP9, hD9, (by omega)⟩⟩, hS.F ht⟩) hS.2.2 dX1_begin_196
  have kT_4 := lv_neT k_4 (show (10 : Int32).toInt = 10 from rfl)
  have kT_5 := lv_neT k_5 (show (11 : Int32).toInt = 11 from rfl)
  have kT_9 := lv_neT k_9 (show (12 : Int32).toInt = 12 from rfl)
  have kT_12 := lv_neT k_12 (show (13 : Int32).toInt = 13 from rfl)
  have kT_15 := lv_neT k_15 (show (14 : Int32).toInt = 14 from rfl)
  have kT_18 := lv_neT k_18 (show (15 : Int32).toInt = 15 from rfl)
  have kT_19 := lv_neT k_19 (show (16 : Int32).toInt = 16 from rfl)
  have kT_20 := lv_neT k_20 (show (17 : Int32).toInt = 17 from rfl)
  have kT_21 := lv_neT k_21 (show (18 : Int32).toInt = 18 from rfl)
  have kT_22 := lv_neT k_22 (show (19 : Int32).toInt = 19 from rfl)
  have kT_23 := lv_neT k_23 (show (20 : Int32).toInt = 20 from rfl)
  have kT_24 := lv_neT k_24 (show (21 : Int32).toInt = 21 from rfl)
  have kT_27 := lv_neT k_27 (show (22 : Int32).toInt = 22 from rfl)
  have kT_30 := lv_neT k_30 (show (23 : Int32).toInt = 23 from rfl)
  have kT_34 := lv_neT k_34 (show (24 : Int32).toInt = 24 from rfl)
  refine lv_tableOut (tgt := 197) hx hb dX1_begin_18 (by omega) (by decide) ?_
  refine lv_iconst (v := 0) hx hb dX1_begin_197 (by decide) ?_
  have hP9 := hP.sub (ws' := [(k9, .inr (1, [.ref tc, .int (nI zn_2), .int nu, .int ki, .int ce, .int lo])), (tc, .inl (cI, 16, .inl ftn_2))]) [0, 1] rfl
  have hD9 := hD.sub (ws' := [(k9, .inr (1, [.ref tc, .int (nI zn_2), .int nu, .int ki, .int ce, .int lo])), (tc, .inl (cI, 16, .inl ftn_2))]) [0, 1] (by decide) rfl
  exact W.iret (v := 0) hx hb hr (fun t ht hW => ⟨⟨0, (), rfl, trivial, ⟨zn_2, ftn_2, by rw [ht]; exact hP9, hD9, (by omega)⟩⟩, hS.F ht⟩) hS.2.2 dX1_begin_198
set_option maxHeartbeats 4000000 in
set_option maxRecDepth 100000 in
theorem r_X1_askAnew_14 (l : Launch) (dC : Nat → ClassId) (dI : Nat → Nat → Nat) (cI cZ cL cJ : ClassId) (sz : Nat) (k9 : Nat) (tc : Nat) (z : Nat) (nu : Int32) (ki : Int32) (ce : Int32) (lo : Int32) (ft : Nat → Int32) (x : Int32) (hz : z ≤ 16) : Met l yX1_askAnew wsX1_askAnew ({ frames := 5, cells := 0, slots := 0, locals := 114 }) (va_Pc [.ref k9, .int x, .int 14] (fun U => U.heap.size = sz ∧ va_P (dC, dI) vwCl [(k9, .inr (1, [.ref tc, .int (nI z), .int nu, .int ki, .int ce, .int lo])), (tc, .inl (cI, 16, .inl ft))] U.heap ∧ va_K (dC, dI) vwCl [(cI, .int), (cZ, .boolean), (cL, .object RX3), (cJ, .array .int)] U ∧ va_D (fun _ => True) [(k9, .inr (1, [.ref tc, .int (nI z), .int nu, .int ki, .int ce, .int lo])), (tc, .inl (cI, 16, .inl ft))] ∧ stt (va_A [(k9, .inr (1, [.ref tc, .int (nI z), .int nu, .int ki, .int ce, .int lo])), (tc, .inl (cI, 16, .inl ft))] sz) U U.heap)) (va_Qi (fun r (_ : Unit) => True) (fun (_ : Unit) t => ∃ (zn : Nat) (ftn : Nat → Int32), va_P (dC, dI) vwCl [(k9, .inr (1, [.ref tc, .int (nI zn), .int nu, .int ki, .int ce, .int lo])), (tc, .inl (cI, 16, .inl ftn))] t.heap ∧ va_D (va_A [(k9, .inr (1, [.ref tc, .int (nI z), .int nu, .int ki, .int ce, .int lo])), (tc, .inl (cI, 16, .inl ft))] sz) [(k9, .inr (1, [.ref tc, .int (nI zn), .int nu, .int ki, .int ce, .int lo])), (tc, .inl (cI, 16, .inl ftn))] ∧ zn ≤ 16) (va_A [(k9, .inr (1, [.ref tc, .int (nI z), .int nu, .int ki, .int ce, .int lo])), (tc, .inl (cI, 16, .inl ft))] sz)) 0 0 (va_A [(k9, .inr (1, [.ref tc, .int (nI z), .int nu, .int ki, .int ce, .int lo])), (tc, .inl (cI, 16, .inl ft))] sz) := by
  refine Met.ofW (cc := cX1_askAnew) (maxL := 3) (ret := (some .int)) (by decide) rfl ?_
  intro p e s m args below meth c s₁ B hml hv
  obtain ⟨rfl, hsz, hP, hK, hD0, hst⟩ := hv
  have hx := B.exec
  have hb := B.bytes
  have hr := B.returns
  have hts := atoms_spec (ws := wsX1_askAnew) B.pre
  have hown : s.vm.findClass RX1 = some m.cls := findClass_of_methodNamed B.named
  have hlocks := B.notSynchronized
  subst hsz
  have hD := hD0.self (sz := s.heap.size)
  generalize hAe : va_A [(k9, .inr (1, [.ref tc, .int (nI z), .int nu, .int ki, .int ce, .int lo])), (tc, .inl (cI, 16, .inl ft))] s.heap.size = A at hD hst ⊢
  have hA : ∀ q : Nat, s.heap.size ≤ q → A q := fun q h => by rw [← hAe]; exact Or.inr h
  have hS : va_S A s.heap s.heap [] := va_S.rf
  have hP : va_P (dC, dI) vwCl [(k9, .inr (1, [.ref tc, .int (nI z), .int nu, .int ki, .int ce, .int lo])), (tc, .inl (cI, 16, .inl ft))] s.heap := hP
  obtain ⟨⟨tb1, hZ1, hT1⟩, ⟨tb2, hZ2, hT2⟩, ⟨tb3, hZ3, hT3⟩, hNk⟩ := id hst
  have hl := lv_entry ([.ref k9, .int x, .int 14]) (n := 3) (Nat.le_of_ble_eq_true rfl)
  rw [lg_entry_eq]
  generalize (lg_sl ([.ref k9, .int x, .int 14]) ++ List.replicate (3 - (lg_sl ([.ref k9, .int x, .int 14])).length) Slot.unset).toArray = ls at hl ⊢
  have hl : lv_has ls 3 [(0, .ref k9), (1, .int x), (2, .int 14)] := hl
  refine lv_aload_n hx hb dX1_askAnew_0 rfl (lv_at hl 0 rfl) ?_
  refine lv_aload_n hx hb dX1_askAnew_1 rfl (lv_at hl 0 rfl) ?_
  refine lv_iload_n hx hb dX1_askAnew_2 rfl (lv_at hl 1 rfl) ?_
  have hPc_1 := hP.sub (ws' := [(k9, .inr (1, [.ref tc, .int (nI z), .int nu, .int ki, .int ce, .int lo]))]) [0] rfl
  refine vp_callSi (W.runV (As := [.int x]) (rest := [.ref k9]) ⟨hx, hb, hml, hown, hts⟩ (r_X1_bodyFor l dC dI cI cZ cL cJ k9 tc z nu ki ce lo x ) (cwV 1 hts gX1_askAnew_X1_bodyFor rfl rfl rfl (by decide +kernel) ⟨Nat.le_of_ble_eq_true rfl, Nat.le_of_ble_eq_true rfl⟩) ⟨fun a U g mk q => by obtain ⟨q0, qP, qK, qS⟩ := q; exact ⟨q0, qP, va_K.moved (u := U) (U := U.calling g mk a) (Vm.Alike.refl U.vm) qK, stt_same rfl qS⟩, va_recv hK hP (ci := 1) (q0 := 0) rfl rfl, fun U hU hW => ⟨rfl, by rw [hU]; exact hPc_1, va_K.moved hW.alike hK, by rw [hU]; exact stt_warm hW (stt_narrow (stt_kept hst hS.2.1) (fun _ h => h.elim))⟩⟩ rfl rfl hl.1 rfl (lv_room (Nat.le_of_ble_eq_true rfl)) dX1_askAnew_3 ⟨Nat.le_of_ble_eq_true rfl, Nat.le_of_ble_eq_true rfl⟩) (fun r_1 h_1 => ?_)
  refine lv_iload_n hx hb dX1_askAnew_6 rfl (lv_at hl 2 rfl) ?_
  have hPc_2 := hP.sub (ws' := [(k9, .inr (1, [.ref tc, .int (nI z), .int nu, .int ki, .int ce, .int lo])), (tc, .inl (cI, 16, .inl ft))]) [0, 1] rfl
  have hDc_2 := hD.sub (ws' := [(k9, .inr (1, [.ref tc, .int (nI z), .int nu, .int ki, .int ce, .int lo])), (tc, .inl (cI, 16, .inl ft))]) [0, 1] (by decide) rfl
  have hFc_2 := va_free (wc := [(k9, .inr (1, [.ref tc, .int (nI z), .int nu, .int ki, .int ce, .int lo])), (tc, .inl (cI, 16, .inl ft))]) hD hS hA [0, 1] rfl
  refine va_calli (va_runV (As := [.int r_1, .int 14]) (rest := []) ⟨hx, hb, hml, hown, hts⟩ (r_X1_begin_14 l dC dI cI cZ cL cJ s.heap.size k9 tc z nu ki ce lo ft r_1 (by omega)) (cwV 2 hts gX1_askAnew_X1_begin rfl rfl rfl (by decide +kernel) ⟨Nat.le_of_ble_eq_true rfl, Nat.le_of_ble_eq_true rfl⟩) ⟨fun a U g mk q => by obtain ⟨q0, q1, qP, qK, qD, qS⟩ := q; exact ⟨q0, q1, qP, va_K.moved (u := U) (U := U.calling g mk a) (Vm.Alike.refl U.vm) qK, qD, stt_same rfl qS⟩, va_recv hK hP (ci := 1) (q0 := 0) rfl rfl, fun U hU hW => ⟨rfl, by rw [hU], by rw [hU]; exact hPc_2, va_K.moved hW.alike hK, hDc_2.weaken (fun _ _ _ _ => trivial), by rw [hU]; exact stt_warm hW (stt_narrow (stt_kept hst hS.2.1) hFc_2)⟩⟩ rfl rfl hl.1 rfl (lv_room (Nat.le_of_ble_eq_true rfl)) dX1_askAnew_7 ⟨Nat.le_of_ble_eq_true rfl, Nat.le_of_ble_eq_true rfl⟩) hS (fun q _ h => hFc_2 q h) hFc_2 (fun r_2 u_2 t_2 H1 locs ht hvm h_2 hB hz1 hk1 hS => ?_)
  obtain ⟨zn_2, ftn_2, hP1, hD1, hF_2_0⟩ := hB
  rw [ht] at hP1
  obtain ⟨hP, hD⟩ := va_join (wr := []) (w1 := [(k9, .inr (1, [.ref tc, .int (nI zn_2), .int nu, .int ki, .int ce, .int lo])), (tc, .inl (cI, 16, .inl ftn_2))]) hP hD [0, 1] [] rfl rfl (by decide) (by decide) hk1 hFc_2 hP1 hD1
  generalize H1 = H at hP hS ⊢
  have hP : va_P (dC, dI) vwCl [(k9, .inr (1, [.ref tc, .int (nI zn_2), .int nu, .int ki, .int ce, .int lo])), (tc, .inl (cI, 16, .inl ftn_2))] H := hP
  have hD : va_D A [(k9, .inr (1, [.ref tc, .int (nI zn_2), .int nu, .int ki, .int ce, .int lo])), (tc, .inl (cI, 16, .inl ftn_2))] := hD
  have hP9 := hP.sub (ws' := [(k9, .inr (1, [.ref tc, .int (nI zn_2), .int nu, .int ki, .int ce, .int lo])), (tc, .inl (cI, 16, .inl ftn_2))]) [0, 1] rfl
  have hD9 := hD.sub (ws' := [(k9, .inr (1, [.ref tc, .int (nI zn_2), .int nu, .int ki, .int ce, .int lo])), (tc, .inl (cI, 16, .inl ftn_2))]) [0, 1] (by decide) rfl
  exact W.iret (v := r_2) hx hb hr (fun t ht hW => ⟨⟨r_2, (), rfl, trivial, ⟨zn_2, ftn_2, by rw [ht]; exact hP9, hD9, (by omega)⟩⟩, hS.F ht⟩) hS.2.2 dX1_askAnew_10
set_option maxHeartbeats 4000000 in
set_option maxRecDepth 100000 in
theorem r_X1_begin_13 (l : Launch) (dC : Nat → ClassId) (dI : Nat → Nat → Nat) (cI cZ cL cJ : ClassId) (sz : Nat) (k9 : Nat) (tc : Nat) (z : Nat) (nu : Int32) (ki : Int32) (ce : Int32) (lo : Int32) (ft : Nat → Int32) (x : Int32) (hz : z ≤ 16) : Met l yX1_begin wsX1_begin ({ frames := 6, cells := 0, slots := 0, locals := 136 }) (va_Pc [.ref k9, .int x, .int 13] (fun U => U.heap.size = sz ∧ va_P (dC, dI) vwCl [(k9, .inr (1, [.ref tc, .int (nI z), .int nu, .int ki, .int ce, .int lo])), (tc, .inl (cI, 16, .inl ft))] U.heap ∧ va_K (dC, dI) vwCl [(cI, .int), (cZ, .boolean), (cL, .object RX3), (cJ, .array .int)] U ∧ va_D (fun _ => True) [(k9, .inr (1, [.ref tc, .int (nI z), .int nu, .int ki, .int ce, .int lo])), (tc, .inl (cI, 16, .inl ft))] ∧ stt (va_A [(k9, .inr (1, [.ref tc, .int (nI z), .int nu, .int ki, .int ce, .int lo])), (tc, .inl (cI, 16, .inl ft))] sz) U U.heap)) (va_Qi (fun r (_ : Unit) => True) (fun (_ : Unit) t => ∃ (zn : Nat) (ftn : Nat → Int32), va_P (dC, dI) vwCl [(k9, .inr (1, [.ref tc, .int (nI zn), .int nu, .int ki, .int ce, .int lo])), (tc, .inl (cI, 16, .inl ftn))] t.heap ∧ va_D (va_A [(k9, .inr (1, [.ref tc, .int (nI z), .int nu, .int ki, .int ce, .int lo])), (tc, .inl (cI, 16, .inl ft))] sz) [(k9, .inr (1, [.ref tc, .int (nI zn), .int nu, .int ki, .int ce, .int lo])), (tc, .inl (cI, 16, .inl ftn))] ∧ zn ≤ 16) (va_A [(k9, .inr (1, [.ref tc, .int (nI z), .int nu, .int ki, .int ce, .int lo])), (tc, .inl (cI, 16, .inl ft))] sz)) 0 0 (va_A [(k9, .inr (1, [.ref tc, .int (nI z), .int nu, .int ki, .int ce, .int lo])), (tc, .inl (cI, 16, .inl ft))] sz) := by
  refine Met.ofW (cc := cX1_begin) (maxL := 4) (ret := (some .int)) (by decide) rfl ?_
  intro p e s m args below meth c s₁ B hml hv
  obtain ⟨rfl, hsz, hP, hK, hD0, hst⟩ := hv
  have hx := B.exec
  have hb := B.bytes
  have hr := B.returns
  have hts := atoms_spec (ws := wsX1_begin) B.pre
  have hown : s.vm.findClass RX1 = some m.cls := findClass_of_methodNamed B.named
  have hlocks := B.notSynchronized
  subst hsz
  have hD := hD0.self (sz := s.heap.size)
  generalize hAe : va_A [(k9, .inr (1, [.ref tc, .int (nI z), .int nu, .int ki, .int ce, .int lo])), (tc, .inl (cI, 16, .inl ft))] s.heap.size = A at hD hst ⊢
  have hA : ∀ q : Nat, s.heap.size ≤ q → A q := fun q h => by rw [← hAe]; exact Or.inr h
  have hS : va_S A s.heap s.heap [] := va_S.rf
  have hP : va_P (dC, dI) vwCl [(k9, .inr (1, [.ref tc, .int (nI z), .int nu, .int ki, .int ce, .int lo])), (tc, .inl (cI, 16, .inl ft))] s.heap := hP
  obtain ⟨⟨tb1, hZ1, hT1⟩, ⟨tb2, hZ2, hT2⟩, ⟨tb3, hZ3, hT3⟩, hNk⟩ := id hst
  have hl := lv_entry ([.ref k9, .int x, .int 13]) (n := 4) (Nat.le_of_ble_eq_true rfl)
  rw [lg_entry_eq]
  generalize (lg_sl ([.ref k9, .int x, .int 13]) ++ List.replicate (4 - (lg_sl ([.ref k9, .int x, .int 13])).length) Slot.unset).toArray = ls at hl ⊢
  have hl : lv_has ls 4 [(0, .ref k9), (1, .int x), (2, .int 13)] := hl
  refine lv_iload_n hx hb dX1_begin_0 rfl (lv_at hl 2 rfl) ?_
  refine lv_bipush (v := 16) hx hb dX1_begin_1 (by decide) ?_
  refine lv_icmp_lt (tgt := 8) hx hb dX1_begin_3 (by decide) (fun _ => ?_) (fun c_ => absurd (by decide) c_)
  refine lv_aload_n hx hb dX1_begin_8 rfl (lv_at hl 0 rfl) ?_
  refine lv_iload_n hx hb dX1_begin_9 rfl (lv_at hl 1 rfl) ?_
  have hPc_2 := hP.sub (ws' := [(k9, .inr (1, [.ref tc, .int (nI z), .int nu, .int ki, .int ce, .int lo])), (tc, .inl (cI, 16, .inl ft))]) [0, 1] rfl
  have hDc_2 := hD.sub (ws' := [(k9, .inr (1, [.ref tc, .int (nI z), .int nu, .int ki, .int ce, .int lo])), (tc, .inl (cI, 16, .inl ft))]) [0, 1] (by decide) rfl
  have hFc_2 := va_free (wc := [(k9, .inr (1, [.ref tc, .int (nI z), .int nu, .int ki, .int ce, .int lo])), (tc, .inl (cI, 16, .inl ft))]) hD hS hA [0, 1] rfl
  refine va_callv (va_runV (As := [.int x]) (rest := []) ⟨hx, hb, hml, hown, hts⟩ (r_X1_leave l dC dI cI cZ cL cJ s.heap.size k9 tc z nu ki ce lo ft x (by omega)) (cwV 1 hts gX1_begin_X1_leave rfl rfl rfl (by decide +kernel) ⟨Nat.le_of_ble_eq_true rfl, Nat.le_of_ble_eq_true rfl⟩) ⟨fun a U g mk q => by obtain ⟨q0, q1, qP, qK, qD⟩ := q; exact ⟨q0, q1, qP, va_K.moved (u := U) (U := U.calling g mk a) (Vm.Alike.refl U.vm) qK, qD⟩, va_recv hK hP (ci := 1) (q0 := 0) rfl rfl, fun U hU hW => ⟨rfl, by rw [hU], by rw [hU]; exact hPc_2, va_K.moved hW.alike hK, hDc_2.weaken (fun _ _ _ _ => trivial)⟩⟩ rfl rfl hl.1 rfl (lv_room (Nat.le_of_ble_eq_true rfl)) dX1_begin_10 ⟨Nat.le_of_ble_eq_true rfl, Nat.le_of_ble_eq_true rfl⟩) hS (fun q _ h => hFc_2 q h) hFc_2 (fun u_2 t_2 H1 locs ht hvm h_2 hB hz1 hk1 hS => ?_)
  obtain ⟨zn_2, ftn_2, hP1, hD1, hF_2_0⟩ := hB
  rw [ht] at hP1
  obtain ⟨hP, hD⟩ := va_join (wr := []) (w1 := [(k9, .inr (1, [.ref tc, .int (nI zn_2), .int nu, .int ki, .int ce, .int lo])), (tc, .inl (cI, 16, .inl ftn_2))]) hP hD [0, 1] [] rfl rfl (by decide) (by decide) hk1 hFc_2 hP1 hD1
  generalize H1 = H at hP hS ⊢
  have hP : va_P (dC, dI) vwCl [(k9, .inr (1, [.ref tc, .int (nI zn_2), .int nu, .int ki, .int ce, .int lo])), (tc, .inl (cI, 16, .inl ftn_2))] H := hP
  have hD : va_D A [(k9, .inr (1, [.ref tc, .int (nI zn_2), .int nu, .int ki, .int ce, .int lo])), (tc, .inl (cI, 16, .inl ftn_2))] := hD
  refine lv_iload_n hx hb dX1_begin_13 rfl (lv_at hl 2 rfl) ?_
  refine lv_iconst (v := 1) hx hb dX1_begin_14 (by decide) ?_
  refine lv_iadd hx hb dX1_begin_15 ?_
  refine lv_topi (fun v_3 e_3 => ?_)
  obtain rfl : v_3 = 14 := (e_3).trans (by decide)
  refine lv_istore_n (lv' := [(3, .int 14), (0, .ref k9), (1, .int x), (2, .int 13)]) hx hb dX1_begin_16 rfl hl (by decide) rfl (fun ls hl => ?_)
  refine lv_iload_n hx hb dX1_begin_17 rfl (lv_at hl 2 rfl) ?_
  by_cases k_4 : x = 10
  · subst k_4
    refine lv_tableIn (off := 74) (tgt := 92) hx hb dX1_begin_18 (by decide) (by decide) (by decide) (by decide) ?_
    refine lv_aload_n hx hb dX1_begin_92 rfl (lv_at hl 1 rfl) ?_
    refine va_get (D := (dC, dI)) (ci := 1) (v := .int lo) (C := RX1) (T := TX1) (N := 6) hx hb hts i_X1_begin_X1 hown hK hP 0 rfl rfl 5 (by decide) (hts (.fieldLink RX1 39 "MillTalk$Asks" "loud" "I") (by decide +kernel)) (fun _ h9 => h9) rfl dX1_begin_93 ?_
    have hP9 := hP.sub (ws' := [(k9, .inr (1, [.ref tc, .int (nI zn_2), .int nu, .int ki, .int ce, .int lo])), (tc, .inl (cI, 16, .inl ftn_2))]) [0, 1] rfl
    have hD9 := hD.sub (ws' := [(k9, .inr (1, [.ref tc, .int (nI zn_2), .int nu, .int ki, .int ce, .int lo])), (tc, .inl (cI, 16, .inl ftn_2))]) [0, 1] (by decide) rfl
    exact W.iret (v := lo) hx hb hr (fun t ht hW => ⟨⟨lo, (), rfl, trivial, ⟨zn_2, ftn_2, by rw [ht]; exact hP9, hD9, (by omega)⟩⟩, hS.F ht⟩) hS.2.2 dX1_begin_96
  by_cases k_5 : x = 11
  · subst k_5
    refine lv_tableIn (off := 79) (tgt := 97) hx hb dX1_begin_18 (by decide) (by decide) (by decide) (by decide) ?_
    refine lv_aload_n hx hb dX1_begin_97 rfl (lv_at hl 1 rfl) ?_
    refine lv_bipush (v := 10) hx hb dX1_begin_98 (by decide) ?_
    refine lv_iload_n hx hb dX1_begin_100 rfl (lv_at hl 0 rfl) ?_
    have hPc_6 := hP.sub (ws' := [(k9, .inr (1, [.ref tc, .int (nI zn_2), .int nu, .int ki, .int ce, .int lo])), (tc, .inl (cI, 16, .inl ftn_2))]) [0, 1] rfl
    have hDc_6 := hD.sub (ws' := [(k9, .inr (1, [.ref tc, .int (nI zn_2), .int nu, .int ki, .int ce, .int lo])), (tc, .inl (cI, 16, .inl ftn_2))]) [0, 1] (by decide) rfl
    have hFc_6 := va_free (wc := [(k9, .inr (1, [.ref tc, .int (nI zn_2), .int nu, .int ki, .int ce, .int lo])), (tc, .inl (cI, 16, .inl ftn_2))]) hD hS hA [0, 1] rfl
    refine va_calli (va_runV (As := [.int 10, .int 14]) (rest := []) ⟨hx, hb, hml, hown, hts⟩ (r_X1_begin_14 l dC dI cI cZ cL cJ H.size k9 tc zn_2 nu ki ce lo ftn_2 10 (by omega)) (cwV 2 hts gX1_begin_X1_begin rfl rfl rfl (by decide +kernel) ⟨Nat.le_of_ble_eq_true rfl, Nat.le_of_ble_eq_true rfl⟩) ⟨fun a U g mk q => by obtain ⟨q0, q1, qP, qK, qD, qS⟩ := q; exact ⟨q0, q1, qP, va_K.moved (u := U) (U := U.calling g mk a) (Vm.Alike.refl U.vm) qK, qD, stt_same rfl qS⟩, va_recv hK hP (ci := 1) (q0 := 0) rfl rfl, fun U hU hW => ⟨rfl, by rw [hU], by rw [hU]; exact hPc_6, va_K.moved hW.alike hK, hDc_6.weaken (fun _ _ _ _ => trivial), by rw [hU]; exact stt_warm hW (stt_narrow (stt_kept hst hS.2.1) hFc_6)⟩⟩ rfl rfl hl.1 rfl (lv_room (Nat.le_of_ble_eq_true rfl)) dX1_begin_101 ⟨Nat.le_of_ble_eq_true rfl, Nat.le_of_ble_eq_true rfl⟩) hS (fun q _ h => hFc_6 q h) hFc_6 (fun r_6 u_6 t_6 H1 locs ht hvm h_6 hB hz1 hk1 hS => ?_)
    obtain ⟨zn_6, ftn_6, hP1, hD1, hF_6_0⟩ := hB
    rw [ht] at hP1
    obtain ⟨hP, hD⟩ := va_join (wr := []) (w1 := [(k9, .inr (1, [.ref tc, .int (nI zn_6), .int nu, .int ki, .int ce, .int lo])), (tc, .inl (cI, 16, .inl ftn_6))]) hP hD [0, 1] [] rfl rfl (by decide) (by decide) hk1 hFc_6 hP1 hD1
    generalize H1 = H at hP hS ⊢
    have hP : va_P (dC, dI) vwCl [(k9, .inr (1, [.ref tc, .int (nI zn_6), .int nu, .int ki, .int ce, .int lo])), (tc, .inl (cI, 16, .inl ftn_6))] H := hP
    have hD : va_D A [(k9, .inr (1, [.ref tc, .int (nI zn_6), .int nu, .int ki, .int ce, .int lo])), (tc, .inl (cI, 16, .inl ftn_6))] := hD
    refine lv_aload_n hx hb dX1_begin_104 rfl (lv_at hl 1 rfl) ?_
    refine lv_iconst (v := 1) hx hb dX1_begin_105 (by decide) ?_
    refine lv_iload_n hx hb dX1_begin_106 rfl (lv_at hl 0 rfl) ?_
    have hPc_7 := hP.sub (ws' := [(k9, .inr (1, [.ref tc, .int (nI zn_6), .int nu, .int ki, .int ce, .int lo])), (tc, .inl (cI, 16, .inl ftn_6))]) [0, 1] rfl
    have hDc_7 := hD.sub (ws' := [(k9, .inr (1, [.ref tc, .int (nI zn_6), .int nu, .int ki, .int ce, .int lo])), (tc, .inl (cI, 16, .inl ftn_6))]) [0, 1] (by decide) rfl
    have hFc_7 := va_free (wc := [(k9, .inr (1, [.ref tc, .int (nI zn_6), .int nu, .int ki, .int ce, .int lo])), (tc, .inl (cI, 16, .inl ftn_6))]) hD hS hA [0, 1] rfl
    refine va_calli (va_runV (As := [.int 1, .int 14]) (rest := [.int r_6]) ⟨hx, hb, hml, hown, hts⟩ (r_X1_askAnew_14 l dC dI cI cZ cL cJ H.size k9 tc zn_6 nu ki ce lo ftn_6 1 (by omega)) (cwV 2 hts gX1_begin_X1_askAnew rfl rfl rfl (by decide +kernel) ⟨Nat.le_of_ble_eq_true rfl, Nat.le_of_ble_eq_true rfl⟩) ⟨fun a U g mk q => by obtain ⟨q0, q1, qP, qK, qD, qS⟩ := q; exact ⟨q0, q1, qP, va_K.moved (u := U) (U := U.calling g mk a) (Vm.Alike.refl U.vm) qK, qD, stt_same rfl qS⟩, va_recv hK hP (ci := 1) (q0 := 0) rfl rfl, fun U hU hW => ⟨rfl, by rw [hU], by rw [hU]; exact hPc_7, va_K.moved hW.alike hK, hDc_7.weaken (fun _ _ _ _ => trivial), by rw [hU]; exact stt_warm hW (stt_narrow (stt_kept hst hS.2.1) hFc_7)⟩⟩ rfl rfl hl.1 rfl (lv_room (Nat.le_of_ble_eq_true rfl)) dX1_begin_107 ⟨Nat.le_of_ble_eq_true rfl, Nat.le_of_ble_eq_true rfl⟩) hS (fun q _ h => hFc_7 q h) hFc_7 (fun r_7 u_7 t_7 H1 locs ht hvm h_7 hB hz1 hk1 hS => ?_)
    obtain ⟨zn_7, ftn_7, hP1, hD1, hF_7_0⟩ := hB
    rw [ht] at hP1
    obtain ⟨hP, hD⟩ := va_join (wr := []) (w1 := [(k9, .inr (1, [.ref tc, .int (nI zn_7), .int nu, .int ki, .int ce, .int lo])), (tc, .inl (cI, 16, .inl ftn_7))]) hP hD [0, 1] [] rfl rfl (by decide) (by decide) hk1 hFc_7 hP1 hD1
    generalize H1 = H at hP hS ⊢
    have hP : va_P (dC, dI) vwCl [(k9, .inr (1, [.ref tc, .int (nI zn_7), .int nu, .int ki, .int ce, .int lo])), (tc, .inl (cI, 16, .inl ftn_7))] H := hP
    have hD : va_D A [(k9, .inr (1, [.ref tc, .int (nI zn_7), .int nu, .int ki, .int ce, .int lo])), (tc, .inl (cI, 16, .inl ftn_7))] := hD
    refine lv_iadd hx hb dX1_begin_110 ?_
    refine lv_topi (fun v_8 e_8 => ?_)
    have hP9 := hP.sub (ws' := [(k9, .inr (1, [.ref tc, .int (nI zn_7), .int nu, .int ki, .int ce, .int lo])), (tc, .inl (cI, 16, .inl ftn_7))]) [0, 1] rfl
    have hD9 := hD.sub (ws' := [(k9, .inr (1, [.ref tc, .int (nI zn_7), .int nu, .int ki, .int ce, .int lo])), (tc, .inl (cI, 16, .inl ftn_7))]) [0, 1] (by decide) rfl
    exact W.iret (v := v_8) hx hb hr (fun t ht hW => ⟨⟨v_8, (), rfl, trivial, ⟨zn_7, ftn_7, by rw [ht]; exact hP9, hD9, (by omega)⟩⟩, hS.F ht⟩) hS.2.2 dX1_begin_111
  by_cases k_9 : x = 12
  · subst k_9
    refine lv_tableIn (off := 94) (tgt := 112) hx hb dX1_begin_18 (by decide) (by decide) (by decide) (by decide) ?_
    refine lv_aload_n hx hb dX1_begin_112 rfl (lv_at hl 1 rfl) ?_
    refine lv_bipush (v := 11) hx hb dX1_begin_113 (by decide) ?_
    refine lv_iload_n hx hb dX1_begin_115 rfl (lv_at hl 0 rfl) ?_
    have hPc_10 := hP.sub (ws' := [(k9, .inr (1, [.ref tc, .int (nI zn_2), .int nu, .int ki, .int ce, .int lo])), (tc, .inl (cI, 16, .inl ftn_2))]) [0, 1] rfl
    have hDc_10 := hD.sub (ws' := [(k9, .inr (1, [.ref tc, .int (nI zn_2), .int nu, .int ki, .int ce, .int lo])), (tc, .inl (cI, 16, .inl ftn_2))]) [0, 1] (by decide) rfl
    have hFc_10 := va_free (wc := [(k9, .inr (1, [.ref tc, .int (nI zn_2), .int nu, .int ki, .int ce, .int lo])), (tc, .inl (cI, 16, .inl ftn_2))]) hD hS hA [0, 1] rfl
    refine va_calli (va_runV (As := [.int 11, .int 14]) (rest := []) ⟨hx, hb, hml, hown, hts⟩ (r_X1_begin_14 l dC dI cI cZ cL cJ H.size k9 tc zn_2 nu ki ce lo ftn_2 11 (by omega)) (cwV 2 hts gX1_begin_X1_begin rfl rfl rfl (by decide +kernel) ⟨Nat.le_of_ble_eq_true rfl, Nat.le_of_ble_eq_true rfl⟩) ⟨fun a U g mk q => by obtain ⟨q0, q1, qP, qK, qD, qS⟩ := q; exact ⟨q0, q1, qP, va_K.moved (u := U) (U := U.calling g mk a) (Vm.Alike.refl U.vm) qK, qD, stt_same rfl qS⟩, va_recv hK hP (ci := 1) (q0 := 0) rfl rfl, fun U hU hW => ⟨rfl, by rw [hU], by rw [hU]; exact hPc_10, va_K.moved hW.alike hK, hDc_10.weaken (fun _ _ _ _ => trivial), by rw [hU]; exact stt_warm hW (stt_narrow (stt_kept hst hS.2.1) hFc_10)⟩⟩ rfl rfl hl.1 rfl (lv_room (Nat.le_of_ble_eq_true rfl)) dX1_begin_116 ⟨Nat.le_of_ble_eq_true rfl, Nat.le_of_ble_eq_true rfl⟩) hS (fun q _ h => hFc_10 q h) hFc_10 (fun r_10 u_10 t_10 H1 locs ht hvm h_10 hB hz1 hk1 hS => ?_)
    obtain ⟨zn_10, ftn_10, hP1, hD1, hF_10_0⟩ := hB
    rw [ht] at hP1
    obtain ⟨hP, hD⟩ := va_join (wr := []) (w1 := [(k9, .inr (1, [.ref tc, .int (nI zn_10), .int nu, .int ki, .int ce, .int lo])), (tc, .inl (cI, 16, .inl ftn_10))]) hP hD [0, 1] [] rfl rfl (by decide) (by decide) hk1 hFc_10 hP1 hD1
    generalize H1 = H at hP hS ⊢
    have hP : va_P (dC, dI) vwCl [(k9, .inr (1, [.ref tc, .int (nI zn_10), .int nu, .int ki, .int ce, .int lo])), (tc, .inl (cI, 16, .inl ftn_10))] H := hP
    have hD : va_D A [(k9, .inr (1, [.ref tc, .int (nI zn_10), .int nu, .int ki, .int ce, .int lo])), (tc, .inl (cI, 16, .inl ftn_10))] := hD
    refine lv_ineg hx hb dX1_begin_119 ?_
    refine lv_topi (fun v_11 e_11 => ?_)
    have hP9 := hP.sub (ws' := [(k9, .inr (1, [.ref tc, .int (nI zn_10), .int nu, .int ki, .int ce, .int lo])), (tc, .inl (cI, 16, .inl ftn_10))]) [0, 1] rfl
    have hD9 := hD.sub (ws' := [(k9, .inr (1, [.ref tc, .int (nI zn_10), .int nu, .int ki, .int ce, .int lo])), (tc, .inl (cI, 16, .inl ftn_10))]) [0, 1] (by decide) rfl
    exact W.iret (v := v_11) hx hb hr (fun t ht hW => ⟨⟨v_11, (), rfl, trivial, ⟨zn_10, ftn_10, by rw [ht]; exact hP9, hD9, (by omega)⟩⟩, hS.F ht⟩) hS.2.2 dX1_begin_120
  by_cases k_12 : x = 13
  · subst k_12
    refine lv_tableIn (off := 103) (tgt := 121) hx hb dX1_begin_18 (by decide) (by decide) (by decide) (by decide) ?_
    refine lv_aload_n hx hb dX1_begin_121 rfl (lv_at hl 1 rfl) ?_
    refine lv_bipush (v := 10) hx hb dX1_begin_122 (by decide) ?_
    refine lv_iload_n hx hb dX1_begin_124 rfl (lv_at hl 0 rfl) ?_
    have hPc_13 := hP.sub (ws' := [(k9, .inr (1, [.ref tc, .int (nI zn_2), .int nu, .int ki, .int ce, .int lo])), (tc, .inl (cI, 16, .inl ftn_2))]) [0, 1] rfl
    have hDc_13 := hD.sub (ws' := [(k9, .inr (1, [.ref tc, .int (nI zn_2), .int nu, .int ki, .int ce, .int lo])), (tc, .inl (cI, 16, .inl ftn_2))]) [0, 1] (by decide) rfl
    have hFc_13 := va_free (wc := [(k9, .inr (1, [.ref tc, .int (nI zn_2), .int nu, .int ki, .int ce, .int lo])), (tc, .inl (cI, 16, .inl ftn_2))]) hD hS hA [0, 1] rfl
    refine va_calli (va_runV (As := [.int 10, .int 14]) (rest := []) ⟨hx, hb, hml, hown, hts⟩ (r_X1_begin_14 l dC dI cI cZ cL cJ H.size k9 tc zn_2 nu ki ce lo ftn_2 10 (by omega)) (cwV 2 hts gX1_begin_X1_begin rfl rfl rfl (by decide +kernel) ⟨Nat.le_of_ble_eq_true rfl, Nat.le_of_ble_eq_true rfl⟩) ⟨fun a U g mk q => by obtain ⟨q0, q1, qP, qK, qD, qS⟩ := q; exact ⟨q0, q1, qP, va_K.moved (u := U) (U := U.calling g mk a) (Vm.Alike.refl U.vm) qK, qD, stt_same rfl qS⟩, va_recv hK hP (ci := 1) (q0 := 0) rfl rfl, fun U hU hW => ⟨rfl, by rw [hU], by rw [hU]; exact hPc_13, va_K.moved hW.alike hK, hDc_13.weaken (fun _ _ _ _ => trivial), by rw [hU]; exact stt_warm hW (stt_narrow (stt_kept hst hS.2.1) hFc_13)⟩⟩ rfl rfl hl.1 rfl (lv_room (Nat.le_of_ble_eq_true rfl)) dX1_begin_125 ⟨Nat.le_of_ble_eq_true rfl, Nat.le_of_ble_eq_true rfl⟩) hS (fun q _ h => hFc_13 q h) hFc_13 (fun r_13 u_13 t_13 H1 locs ht hvm h_13 hB hz1 hk1 hS => ?_)
    obtain ⟨zn_13, ftn_13, hP1, hD1, hF_13_0⟩ := hB
    rw [ht] at hP1
    obtain ⟨hP, hD⟩ := va_join (wr := []) (w1 := [(k9, .inr (1, [.ref tc, .int (nI zn_13), .int nu, .int ki, .int ce, .int lo])), (tc, .inl (cI, 16, .inl ftn_13))]) hP hD [0, 1] [] rfl rfl (by decide) (by decide) hk1 hFc_13 hP1 hD1
    generalize H1 = H at hP hS ⊢
    have hP : va_P (dC, dI) vwCl [(k9, .inr (1, [.ref tc, .int (nI zn_13), .int nu, .int ki, .int ce, .int lo])), (tc, .inl (cI, 16, .inl ftn_13))] H := hP
    have hD : va_D A [(k9, .inr (1, [.ref tc, .int (nI zn_13), .int nu, .int ki, .int ce, .int lo])), (tc, .inl (cI, 16, .inl ftn_13))] := hD
    refine lv_bipush (v := 100) hx hb dX1_begin_128 (by decide) ?_
    refine lv_isub hx hb dX1_begin_130 ?_
    refine lv_topi (fun v_14 e_14 => ?_)
    have hP9 := hP.sub (ws' := [(k9, .inr (1, [.ref tc, .int (nI zn_13), .int nu, .int ki, .int ce, .int lo])), (tc, .inl (cI, 16, .inl ftn_13))]) [0, 1] rfl
    have hD9 := hD.sub (ws' := [(k9, .inr (1, [.ref tc, .int (nI zn_13), .int nu, .int ki, .int ce, .int lo])), (tc, .inl (cI, 16, .inl ftn_13))]) [0, 1] (by decide) rfl
    exact W.iret (v := v_14) hx hb hr (fun t ht hW => ⟨⟨v_14, (), rfl, trivial, ⟨zn_13, ftn_13, by rw [ht]; exact hP9, hD9, (by omega)⟩⟩, hS.F ht⟩) hS.2.2 dX1_begin_131
  by_cases k_15 : x = 14
  · subst k_15
    refine lv_tableIn (off := 114) (tgt := 132) hx hb dX1_begin_18 (by decide) (by decide) (by decide) (by decide) ?_
    refine lv_aload_n hx hb dX1_begin_132 rfl (lv_at hl 1 rfl) ?_
    refine lv_bipush (v := 13) hx hb dX1_begin_133 (by decide) ?_
    refine lv_iload_n hx hb dX1_begin_135 rfl (lv_at hl 0 rfl) ?_
    have hPc_16 := hP.sub (ws' := [(k9, .inr (1, [.ref tc, .int (nI zn_2), .int nu, .int ki, .int ce, .int lo])), (tc, .inl (cI, 16, .inl ftn_2))]) [0, 1] rfl
    have hDc_16 := hD.sub (ws' := [(k9, .inr (1, [.ref tc, .int (nI zn_2), .int nu, .int ki, .int ce, .int lo])), (tc, .inl (cI, 16, .inl ftn_2))]) [0, 1] (by decide) rfl
    have hFc_16 := va_free (wc := [(k9, .inr (1, [.ref tc, .int (nI zn_2), .int nu, .int ki, .int ce, .int lo])), (tc, .inl (cI, 16, .inl ftn_2))]) hD hS hA [0, 1] rfl
    refine va_calli (va_runV (As := [.int 13, .int 14]) (rest := []) ⟨hx, hb, hml, hown, hts⟩ (r_X1_begin_14 l dC dI cI cZ cL cJ H.size k9 tc zn_2 nu ki ce lo ftn_2 13 (by omega)) (cwV 2 hts gX1_begin_X1_begin rfl rfl rfl (by decide +kernel) ⟨Nat.le_of_ble_eq_true rfl, Nat.le_of_ble_eq_true rfl⟩) ⟨fun a U g mk q => by obtain ⟨q0, q1, qP, qK, qD, qS⟩ := q; exact ⟨q0, q1, qP, va_K.moved (u := U) (U := U.calling g mk a) (Vm.Alike.refl U.vm) qK, qD, stt_same rfl qS⟩, va_recv hK hP (ci := 1) (q0 := 0) rfl rfl, fun U hU hW => ⟨rfl, by rw [hU], by rw [hU]; exact hPc_16, va_K.moved hW.alike hK, hDc_16.weaken (fun _ _ _ _ => trivial), by rw [hU]; exact stt_warm hW (stt_narrow (stt_kept hst hS.2.1) hFc_16)⟩⟩ rfl rfl hl.1 rfl (lv_room (Nat.le_of_ble_eq_true rfl)) dX1_begin_136 ⟨Nat.le_of_ble_eq_true rfl, Nat.le_of_ble_eq_true rfl⟩) hS (fun q _ h => hFc_16 q h) hFc_16 (fun r_16 u_16 t_16 H1 locs ht hvm h_16 hB hz1 hk1 hS => ?_)
    obtain ⟨zn_16, ftn_16, hP1, hD1, hF_16_0⟩ := hB
    rw [ht] at hP1
    obtain ⟨hP, hD⟩ := va_join (wr := []) (w1 := [(k9, .inr (1, [.ref tc, .int (nI zn_16), .int nu, .int ki, .int ce, .int lo])), (tc, .inl (cI, 16, .inl ftn_16))]) hP hD [0, 1] [] rfl rfl (by decide) (by decide) hk1 hFc_16 hP1 hD1
    generalize H1 = H at hP hS ⊢
    have hP : va_P (dC, dI) vwCl [(k9, .inr (1, [.ref tc, .int (nI zn_16), .int nu, .int ki, .int ce, .int lo])), (tc, .inl (cI, 16, .inl ftn_16))] H := hP
    have hD : va_D A [(k9, .inr (1, [.ref tc, .int (nI zn_16), .int nu, .int ki, .int ce, .int lo])), (tc, .inl (cI, 16, .inl ftn_16))] := hD
    refine lv_iconst (v := 2) hx hb dX1_begin_139 (by decide) ?_
    refine lv_imul hx hb dX1_begin_140 ?_
    refine lv_topi (fun v_17 e_17 => ?_)
    have hP9 := hP.sub (ws' := [(k9, .inr (1, [.ref tc, .int (nI zn_16), .int nu, .int ki, .int ce, .int lo])), (tc, .inl (cI, 16, .inl ftn_16))]) [0, 1] rfl
    have hD9 := hD.sub (ws' := [(k9, .inr (1, [.ref tc, .int (nI zn_16), .int nu, .int ki, .int ce, .int lo])), (tc, .inl (cI, 16, .inl ftn_16))]) [0, 1] (by decide) rfl
    exact W.iret (v := v_17) hx hb hr (fun t ht hW => ⟨⟨v_17, (), rfl, trivial, ⟨zn_16, ftn_16, by rw [ht]; exact hP9, hD9, (by omega)⟩⟩, hS.F ht⟩) hS.2.2 dX1_begin_141
  by_cases k_18 : x = 15
  · subst k_18
    refine lv_tableIn (off := 179) (tgt := 197) hx hb dX1_begin_18 (by decide) (by decide) (by decide) (by decide) ?_
    refine lv_iconst (v := 0) hx hb dX1_begin_197 (by decide) ?_
    have hP9 := hP.sub (ws' := [(k9, .inr (1, [.ref tc, .int (nI zn_2), .int nu, .int ki, .int ce, .int lo])), (tc, .inl (cI, 16, .inl ftn_2))]) [0, 1] rfl
    have hD9 := hD.sub (ws' := [(k9, .inr (1, [.ref tc, .int (nI zn_2), .int nu, .int ki, .int ce, .int lo])), (tc, .inl (cI, 16, .inl ftn_2))]) [0, 1] (by decide) rfl
    exact W.iret (v := 0) hx hb hr (fun t ht hW => ⟨⟨0, (), rfl, trivial, ⟨zn_2, ftn_2, by rw [ht]; exact hP9, hD9, (by omega)⟩⟩, hS.F ht⟩) hS.2.2 dX1_begin_198
  by_cases k_19 : x = 16
  · subst k_19
    refine lv_tableIn (off := 179) (tgt := 197) hx hb dX1_begin_18 (by decide) (by decide) (by decide) (by decide) ?_
    refine lv_iconst (v := 0) hx hb dX1_begin_197 (by decide) ?_
    have hP9 := hP.sub (ws' := [(k9, .inr (1, [.ref tc, .int (nI zn_2), .int nu, .int ki, .int ce, .int lo])), (tc, .inl (cI, 16, .inl ftn_2))]) [0, 1] rfl
    have hD9 := hD.sub (ws' := [(k9, .inr (1, [.ref tc, .int (nI zn_2), .int nu, .int ki, .int ce, .int lo])), (tc, .inl (cI, 16, .inl ftn_2))]) [0, 1] (by decide) rfl
    exact W.iret (v := 0) hx hb hr (fun t ht hW => ⟨⟨0, (), rfl, trivial, ⟨zn_2, ftn_2, by rw [ht]; exact hP9, hD9, (by omega)⟩⟩, hS.F ht⟩) hS.2.2 dX1_begin_198
  by_cases k_20 : x = 17
  · subst k_20
    refine lv_tableIn (off := 179) (tgt := 197) hx hb dX1_begin_18 (by decide) (by decide) (by decide) (by decide) ?_
    refine lv_iconst (v := 0) hx hb dX1_begin_197 (by decide) ?_
    have hP9 := hP.sub (ws' := [(k9, .inr (1, [.ref tc, .int (nI zn_2), .int nu, .int ki, .int ce, .int lo])), (tc, .inl (cI, 16, .inl ftn_2))]) [0, 1] rfl
    have hD9 := hD.sub (ws' := [(k9, .inr (1, [.ref tc, .int (nI zn_2), .int nu, .int ki, .int ce, .int lo])), (tc, .inl (cI, 16, .inl ftn_2))]) [0, 1] (by decide) rfl
    exact W.iret (v := 0) hx hb hr (fun t ht hW => ⟨⟨0, (), rfl, trivial, ⟨zn_2, ftn_2, by rw [ht]; exact hP9, hD9, (by omega)⟩⟩, hS.F ht⟩) hS.2.2 dX1_begin_198
  by_cases k_21 : x = 18
  · subst k_21
    refine lv_tableIn (off := 179) (tgt := 197) hx hb dX1_begin_18 (by decide) (by decide) (by decide) (by decide) ?_
    refine lv_iconst (v := 0) hx hb dX1_begin_197 (by decide) ?_
    have hP9 := hP.sub (ws' := [(k9, .inr (1, [.ref tc, .int (nI zn_2), .int nu, .int ki, .int ce, .int lo])), (tc, .inl (cI, 16, .inl ftn_2))]) [0, 1] rfl
    have hD9 := hD.sub (ws' := [(k9, .inr (1, [.ref tc, .int (nI zn_2), .int nu, .int ki, .int ce, .int lo])), (tc, .inl (cI, 16, .inl ftn_2))]) [0, 1] (by decide) rfl
    exact W.iret (v := 0) hx hb hr (fun t ht hW => ⟨⟨0, (), rfl, trivial, ⟨zn_2, ftn_2, by rw [ht]; exact hP9, hD9, (by omega)⟩⟩, hS.F ht⟩) hS.2.2 dX1_begin_198
  by_cases k_22 : x = 19
  · subst k_22
    refine lv_tableIn (off := 179) (tgt := 197) hx hb dX1_begin_18 (by decide) (by decide) (by decide) (by decide) ?_
    refine lv_iconst (v := 0) hx hb dX1_begin_197 (by decide) ?_
    have hP9 := hP.sub (ws' := [(k9, .inr (1, [.ref tc, .int (nI zn_2), .int nu, .int ki, .int ce, .int lo])), (tc, .inl (cI, 16, .inl ftn_2))]) [0, 1] rfl
    have hD9 := hD.sub (ws' := [(k9, .inr (1, [.ref tc, .int (nI zn_2), .int nu, .int ki, .int ce, .int lo])), (tc, .inl (cI, 16, .inl ftn_2))]) [0, 1] (by decide) rfl
    exact W.iret (v := 0) hx hb hr (fun t ht hW => ⟨⟨0, (), rfl, trivial, ⟨zn_2, ftn_2, by rw [ht]; exact hP9, hD9, (by omega)⟩⟩, hS.F ht⟩) hS.2.2 dX1_begin_198
  by_cases k_23 : x = 20
  · subst k_23
    refine lv_tableIn (off := 124) (tgt := 142) hx hb dX1_begin_18 (by decide) (by decide) (by decide) (by decide) ?_
    refine lv_aload_n hx hb dX1_begin_142 rfl (lv_at hl 1 rfl) ?_
    refine va_get (D := (dC, dI)) (ci := 1) (v := .int nu) (C := RX1) (T := TX1) (N := 6) hx hb hts i_X1_begin_X1 hown hK hP 0 rfl rfl 2 (by decide) (hts (.fieldLink RX1 19 "MillTalk$Asks" "number" "I") (by decide +kernel)) (fun _ h9 => h9) rfl dX1_begin_143 ?_
    have hP9 := hP.sub (ws' := [(k9, .inr (1, [.ref tc, .int (nI zn_2), .int nu, .int ki, .int ce, .int lo])), (tc, .inl (cI, 16, .inl ftn_2))]) [0, 1] rfl
    have hD9 := hD.sub (ws' := [(k9, .inr (1, [.ref tc, .int (nI zn_2), .int nu, .int ki, .int ce, .int lo])), (tc, .inl (cI, 16, .inl ftn_2))]) [0, 1] (by decide) rfl
    exact W.iret (v := nu) hx hb hr (fun t ht hW => ⟨⟨nu, (), rfl, trivial, ⟨zn_2, ftn_2, by rw [ht]; exact hP9, hD9, (by omega)⟩⟩, hS.F ht⟩) hS.2.2 dX1_begin_146
  by_cases k_24 : x = 21
  · subst k_24
    refine lv_tableIn (off := 129) (tgt := 147) hx hb dX1_begin_18 (by decide) (by decide) (by decide) (by decide) ?_
    refine lv_aload_n hx hb dX1_begin_147 rfl (lv_at hl 1 rfl) ?_
    refine lv_bipush (v := 20) hx hb dX1_begin_148 (by decide) ?_
    refine lv_iload_n hx hb dX1_begin_150 rfl (lv_at hl 0 rfl) ?_
    have hPc_25 := hP.sub (ws' := [(k9, .inr (1, [.ref tc, .int (nI zn_2), .int nu, .int ki, .int ce, .int lo])), (tc, .inl (cI, 16, .inl ftn_2))]) [0, 1] rfl
    have hDc_25 := hD.sub (ws' := [(k9, .inr (1, [.ref tc, .int (nI zn_2), .int nu, .int ki, .int ce, .int lo])), (tc, .inl (cI, 16, .inl ftn_2))]) [0, 1] (by decide) rfl
    have hFc_25 := va_free (wc := [(k9, .inr (1, [.ref tc, .int (nI zn_2), .int nu, .int ki, .int ce, .int lo])), (tc, .inl (cI, 16, .inl ftn_2))]) hD hS hA [0, 1] rfl
    refine va_calli (va_runV (As := [.int 20, .int 14]) (rest := []) ⟨hx, hb, hml, hown, hts⟩ (r_X1_begin_14 l dC dI cI cZ cL cJ H.size k9 tc zn_2 nu ki ce lo ftn_2 20 (by omega)) (cwV 2 hts gX1_begin_X1_begin rfl rfl rfl (by decide +kernel) ⟨Nat.le_of_ble_eq_true rfl, Nat.le_of_ble_eq_true rfl⟩) ⟨fun a U g mk q => by obtain ⟨q0, q1, qP, qK, qD, qS⟩ := q; exact ⟨q0, q1, qP, va_K.moved (u := U) (U := U.calling g mk a) (Vm.Alike.refl U.vm) qK, qD, stt_same rfl qS⟩, va_recv hK hP (ci := 1) (q0 := 0) rfl rfl, fun U hU hW => ⟨rfl, by rw [hU], by rw [hU]; exact hPc_25, va_K.moved hW.alike hK, hDc_25.weaken (fun _ _ _ _ => trivial), by rw [hU]; exact stt_warm hW (stt_narrow (stt_kept hst hS.2.1) hFc_25)⟩⟩ rfl rfl hl.1 rfl (lv_room (Nat.le_of_ble_eq_true rfl)) dX1_begin_151 ⟨Nat.le_of_ble_eq_true rfl, Nat.le_of_ble_eq_true rfl⟩) hS (fun q _ h => hFc_25 q h) hFc_25 (fun r_25 u_25 t_25 H1 locs ht hvm h_25 hB hz1 hk1 hS => ?_)
    obtain ⟨zn_25, ftn_25, hP1, hD1, hF_25_0⟩ := hB
    rw [ht] at hP1
    obtain ⟨hP, hD⟩ := va_join (wr := []) (w1 := [(k9, .inr (1, [.ref tc, .int (nI zn_25), .int nu, .int ki, .int ce, .int lo])), (tc, .inl (cI, 16, .inl ftn_25))]) hP hD [0, 1] [] rfl rfl (by decide) (by decide) hk1 hFc_25 hP1 hD1
    generalize H1 = H at hP hS ⊢
    have hP : va_P (dC, dI) vwCl [(k9, .inr (1, [.ref tc, .int (nI zn_25), .int nu, .int ki, .int ce, .int lo])), (tc, .inl (cI, 16, .inl ftn_25))] H := hP
    have hD : va_D A [(k9, .inr (1, [.ref tc, .int (nI zn_25), .int nu, .int ki, .int ce, .int lo])), (tc, .inl (cI, 16, .inl ftn_25))] := hD
    refine lv_aload_n hx hb dX1_begin_154 rfl (lv_at hl 1 rfl) ?_
    refine va_get (D := (dC, dI)) (ci := 1) (v := .int ce) (C := RX1) (T := TX1) (N := 6) hx hb hts i_X1_begin_X1 hown hK hP 0 rfl rfl 4 (by decide) (hts (.fieldLink RX1 33 "MillTalk$Asks" "cell" "I") (by decide +kernel)) (fun _ h9 => h9) rfl dX1_begin_155 ?_
    refine lv_iadd hx hb dX1_begin_158 ?_
    refine lv_topi (fun v_26 e_26 => ?_)
    have hP9 := hP.sub (ws' := [(k9, .inr (1, [.ref tc, .int (nI zn_25), .int nu, .int ki, .int ce, .int lo])), (tc, .inl (cI, 16, .inl ftn_25))]) [0, 1] rfl
    have hD9 := hD.sub (ws' := [(k9, .inr (1, [.ref tc, .int (nI zn_25), .int nu, .int ki, .int ce, .int lo])), (tc, .inl (cI, 16, .inl ftn_25))]) [0, 1] (by decide) rfl
    exact W.iret (v := v_26) hx hb hr (fun t ht hW => ⟨⟨v_26, (), rfl, trivial, ⟨zn_25, ftn_25, by rw [ht]; exact hP9, hD9, (by omega)⟩⟩, hS.F ht⟩) hS.2.2 dX1_begin_159
  by_cases k_27 : x = 22
  · subst k_27
    refine lv_tableIn (off := 142) (tgt := 160) hx hb dX1_begin_18 (by decide) (by decide) (by decide) (by decide) ?_
    refine lv_aload_n hx hb dX1_begin_160 rfl (lv_at hl 1 rfl) ?_
    refine lv_bipush (v := 21) hx hb dX1_begin_161 (by decide) ?_
    refine lv_iload_n hx hb dX1_begin_163 rfl (lv_at hl 0 rfl) ?_
    have hPc_28 := hP.sub (ws' := [(k9, .inr (1, [.ref tc, .int (nI zn_2), .int nu, .int ki, .int ce, .int lo])), (tc, .inl (cI, 16, .inl ftn_2))]) [0, 1] rfl
    have hDc_28 := hD.sub (ws' := [(k9, .inr (1, [.ref tc, .int (nI zn_2), .int nu, .int ki, .int ce, .int lo])), (tc, .inl (cI, 16, .inl ftn_2))]) [0, 1] (by decide) rfl
    have hFc_28 := va_free (wc := [(k9, .inr (1, [.ref tc, .int (nI zn_2), .int nu, .int ki, .int ce, .int lo])), (tc, .inl (cI, 16, .inl ftn_2))]) hD hS hA [0, 1] rfl
    refine va_calli (va_runV (As := [.int 21, .int 14]) (rest := []) ⟨hx, hb, hml, hown, hts⟩ (r_X1_begin_14 l dC dI cI cZ cL cJ H.size k9 tc zn_2 nu ki ce lo ftn_2 21 (by omega)) (cwV 2 hts gX1_begin_X1_begin rfl rfl rfl (by decide +kernel) ⟨Nat.le_of_ble_eq_true rfl, Nat.le_of_ble_eq_true rfl⟩) ⟨fun a U g mk q => by obtain ⟨q0, q1, qP, qK, qD, qS⟩ := q; exact ⟨q0, q1, qP, va_K.moved (u := U) (U := U.calling g mk a) (Vm.Alike.refl U.vm) qK, qD, stt_same rfl qS⟩, va_recv hK hP (ci := 1) (q0 := 0) rfl rfl, fun U hU hW => ⟨rfl, by rw [hU], by rw [hU]; exact hPc_28, va_K.moved hW.alike hK, hDc_28.weaken (fun _ _ _ _ => trivial), by rw [hU]; exact stt_warm hW (stt_narrow (stt_kept hst hS.2.1) hFc_28)⟩⟩ rfl rfl hl.1 rfl (lv_room (Nat.le_of_ble_eq_true rfl)) dX1_begin_164 ⟨Nat.le_of_ble_eq_true rfl, Nat.le_of_ble_eq_true rfl⟩) hS (fun q _ h => hFc_28 q h) hFc_28 (fun r_28 u_28 t_28 H1 locs ht hvm h_28 hB hz1 hk1 hS => ?_)
    obtain ⟨zn_28, ftn_28, hP1, hD1, hF_28_0⟩ := hB
    rw [ht] at hP1
    obtain ⟨hP, hD⟩ := va_join (wr := []) (w1 := [(k9, .inr (1, [.ref tc, .int (nI zn_28), .int nu, .int ki, .int ce, .int lo])), (tc, .inl (cI, 16, .inl ftn_28))]) hP hD [0, 1] [] rfl rfl (by decide) (by decide) hk1 hFc_28 hP1 hD1
    generalize H1 = H at hP hS ⊢
    have hP : va_P (dC, dI) vwCl [(k9, .inr (1, [.ref tc, .int (nI zn_28), .int nu, .int ki, .int ce, .int lo])), (tc, .inl (cI, 16, .inl ftn_28))] H := hP
    have hD : va_D A [(k9, .inr (1, [.ref tc, .int (nI zn_28), .int nu, .int ki, .int ce, .int lo])), (tc, .inl (cI, 16, .inl ftn_28))] := hD
    refine lv_sipush (v := 1000) hx hb dX1_begin_167 (by decide) ?_
    refine lv_isub hx hb dX1_begin_170 ?_
    refine lv_topi (fun v_29 e_29 => ?_)
    have hP9 := hP.sub (ws' := [(k9, .inr (1, [.ref tc, .int (nI zn_28), .int nu, .int ki, .int ce, .int lo])), (tc, .inl (cI, 16, .inl ftn_28))]) [0, 1] rfl
    have hD9 := hD.sub (ws' := [(k9, .inr (1, [.ref tc, .int (nI zn_28), .int nu, .int ki, .int ce, .int lo])), (tc, .inl (cI, 16, .inl ftn_28))]) [0, 1] (by decide) rfl
    exact W.iret (v := v_29) hx hb hr (fun t ht hW => ⟨⟨v_29, (), rfl, trivial, ⟨zn_28, ftn_28, by rw [ht]; exact hP9, hD9, (by omega)⟩⟩, hS.F ht⟩) hS.2.2 dX1_begin_171
  by_cases k_30 : x = 23
  · subst k_30
    refine lv_tableIn (off := 154) (tgt := 172) hx hb dX1_begin_18 (by decide) (by decide) (by decide) (by decide) ?_
    refine lv_aload_n hx hb dX1_begin_172 rfl (lv_at hl 1 rfl) ?_
    refine lv_bipush (v := 20) hx hb dX1_begin_173 (by decide) ?_
    refine lv_iload_n hx hb dX1_begin_175 rfl (lv_at hl 0 rfl) ?_
    have hPc_31 := hP.sub (ws' := [(k9, .inr (1, [.ref tc, .int (nI zn_2), .int nu, .int ki, .int ce, .int lo])), (tc, .inl (cI, 16, .inl ftn_2))]) [0, 1] rfl
    have hDc_31 := hD.sub (ws' := [(k9, .inr (1, [.ref tc, .int (nI zn_2), .int nu, .int ki, .int ce, .int lo])), (tc, .inl (cI, 16, .inl ftn_2))]) [0, 1] (by decide) rfl
    have hFc_31 := va_free (wc := [(k9, .inr (1, [.ref tc, .int (nI zn_2), .int nu, .int ki, .int ce, .int lo])), (tc, .inl (cI, 16, .inl ftn_2))]) hD hS hA [0, 1] rfl
    refine va_calli (va_runV (As := [.int 20, .int 14]) (rest := []) ⟨hx, hb, hml, hown, hts⟩ (r_X1_begin_14 l dC dI cI cZ cL cJ H.size k9 tc zn_2 nu ki ce lo ftn_2 20 (by omega)) (cwV 2 hts gX1_begin_X1_begin rfl rfl rfl (by decide +kernel) ⟨Nat.le_of_ble_eq_true rfl, Nat.le_of_ble_eq_true rfl⟩) ⟨fun a U g mk q => by obtain ⟨q0, q1, qP, qK, qD, qS⟩ := q; exact ⟨q0, q1, qP, va_K.moved (u := U) (U := U.calling g mk a) (Vm.Alike.refl U.vm) qK, qD, stt_same rfl qS⟩, va_recv hK hP (ci := 1) (q0 := 0) rfl rfl, fun U hU hW => ⟨rfl, by rw [hU], by rw [hU]; exact hPc_31, va_K.moved hW.alike hK, hDc_31.weaken (fun _ _ _ _ => trivial), by rw [hU]; exact stt_warm hW (stt_narrow (stt_kept hst hS.2.1) hFc_31)⟩⟩ rfl rfl hl.1 rfl (lv_room (Nat.le_of_ble_eq_true rfl)) dX1_begin_176 ⟨Nat.le_of_ble_eq_true rfl, Nat.le_of_ble_eq_true rfl⟩) hS (fun q _ h => hFc_31 q h) hFc_31 (fun r_31 u_31 t_31 H1 locs ht hvm h_31 hB hz1 hk1 hS => ?_)
    obtain ⟨zn_31, ftn_31, hP1, hD1, hF_31_0⟩ := hB
    rw [ht] at hP1
    obtain ⟨hP, hD⟩ := va_join (wr := []) (w1 := [(k9, .inr (1, [.ref tc, .int (nI zn_31), .int nu, .int ki, .int ce, .int lo])), (tc, .inl (cI, 16, .inl ftn_31))]) hP hD [0, 1] [] rfl rfl (by decide) (by decide) hk1 hFc_31 hP1 hD1
    generalize H1 = H at hP hS ⊢
    have hP : va_P (dC, dI) vwCl [(k9, .inr (1, [.ref tc, .int (nI zn_31), .int nu, .int ki, .int ce, .int lo])), (tc, .inl (cI, 16, .inl ftn_31))] H := hP
    have hD : va_D A [(k9, .inr (1, [.ref tc, .int (nI zn_31), .int nu, .int ki, .int ce, .int lo])), (tc, .inl (cI, 16, .inl ftn_31))] := hD
    refine lv_aload_n hx hb dX1_begin_179 rfl (lv_at hl 1 rfl) ?_
    refine lv_iconst (v := 0) hx hb dX1_begin_180 (by decide) ?_
    refine lv_iload_n hx hb dX1_begin_181 rfl (lv_at hl 0 rfl) ?_
    have hPc_32 := hP.sub (ws' := [(k9, .inr (1, [.ref tc, .int (nI zn_31), .int nu, .int ki, .int ce, .int lo])), (tc, .inl (cI, 16, .inl ftn_31))]) [0, 1] rfl
    have hDc_32 := hD.sub (ws' := [(k9, .inr (1, [.ref tc, .int (nI zn_31), .int nu, .int ki, .int ce, .int lo])), (tc, .inl (cI, 16, .inl ftn_31))]) [0, 1] (by decide) rfl
    have hFc_32 := va_free (wc := [(k9, .inr (1, [.ref tc, .int (nI zn_31), .int nu, .int ki, .int ce, .int lo])), (tc, .inl (cI, 16, .inl ftn_31))]) hD hS hA [0, 1] rfl
    refine va_calli (va_runV (As := [.int 0, .int 14]) (rest := [.int r_31]) ⟨hx, hb, hml, hown, hts⟩ (r_X1_askAnew_14 l dC dI cI cZ cL cJ H.size k9 tc zn_31 nu ki ce lo ftn_31 0 (by omega)) (cwV 2 hts gX1_begin_X1_askAnew rfl rfl rfl (by decide +kernel) ⟨Nat.le_of_ble_eq_true rfl, Nat.le_of_ble_eq_true rfl⟩) ⟨fun a U g mk q => by obtain ⟨q0, q1, qP, qK, qD, qS⟩ := q; exact ⟨q0, q1, qP, va_K.moved (u := U) (U := U.calling g mk a) (Vm.Alike.refl U.vm) qK, qD, stt_same rfl qS⟩, va_recv hK hP (ci := 1) (q0 := 0) rfl rfl, fun U hU hW => ⟨rfl, by rw [hU], by rw [hU]; exact hPc_32, va_K.moved hW.alike hK, hDc_32.weaken (fun _ _ _ _ => trivial), by rw [hU]; exact stt_warm hW (stt_narrow (stt_kept hst hS.2.1) hFc_32)⟩⟩ rfl rfl hl.1 rfl (lv_room (Nat.le_of_ble_eq_true rfl)) dX1_begin_182 ⟨Nat.le_of_ble_eq_true rfl, Nat.le_of_ble_eq_true rfl⟩) hS (fun q _ h => hFc_32 q h) hFc_32 (fun r_32 u_32 t_32 H1 locs ht hvm h_32 hB hz1 hk1 hS => ?_)
    obtain ⟨zn_32, ftn_32, hP1, hD1, hF_32_0⟩ := hB
    rw [ht] at hP1
    obtain ⟨hP, hD⟩ := va_join (wr := []) (w1 := [(k9, .inr (1, [.ref tc, .int (nI zn_32), .int nu, .int ki, .int ce, .int lo])), (tc, .inl (cI, 16, .inl ftn_32))]) hP hD [0, 1] [] rfl rfl (by decide) (by decide) hk1 hFc_32 hP1 hD1
    generalize H1 = H at hP hS ⊢
    have hP : va_P (dC, dI) vwCl [(k9, .inr (1, [.ref tc, .int (nI zn_32), .int nu, .int ki, .int ce, .int lo])), (tc, .inl (cI, 16, .inl ftn_32))] H := hP
    have hD : va_D A [(k9, .inr (1, [.ref tc, .int (nI zn_32), .int nu, .int ki, .int ce, .int lo])), (tc, .inl (cI, 16, .inl ftn_32))] := hD
    refine lv_isub hx hb dX1_begin_185 ?_
    refine lv_topi (fun v_33 e_33 => ?_)
    have hP9 := hP.sub (ws' := [(k9, .inr (1, [.ref tc, .int (nI zn_32), .int nu, .int ki, .int ce, .int lo])), (tc, .inl (cI, 16, .inl ftn_32))]) [0, 1] rfl
    have hD9 := hD.sub (ws' := [(k9, .inr (1, [.ref tc, .int (nI zn_32), .int nu, .int ki, .int ce, .int lo])), (tc, .inl (cI, 16, .inl ftn_32))]) [0, 1] (by decide) rfl
    exact W.iret (v := v_33) hx hb hr (fun t ht hW => ⟨⟨v_33, (), rfl, trivial, ⟨zn_32, ftn_32, by rw [ht]; exact hP9, hD9, (by omega)⟩⟩, hS.F ht⟩) hS.2.2 dX1_begin_186
  by_cases k_34 : x = 24
  · subst k_34
    refine lv_tableIn (off := 169) (tgt := 187) hx hb dX1_begin_18 (by decide) (by decide) (by decide) (by decide) ?_
    refine lv_aload_n hx hb dX1_begin_187 rfl (lv_at hl 1 rfl) ?_
    refine lv_bipush (v := 21) hx hb dX1_begin_188 (by decide) ?_
    refine lv_iload_n hx hb dX1_begin_190 rfl (lv_at hl 0 rfl) ?_
    have hPc_35 := hP.sub (ws' := [(k9, .inr (1, [.ref tc, .int (nI zn_2), .int nu, .int ki, .int ce, .int lo])), (tc, .inl (cI, 16, .inl ftn_2))]) [0, 1] rfl
    have hDc_35 := hD.sub (ws' := [(k9, .inr (1, [.ref tc, .int (nI zn_2), .int nu, .int ki, .int ce, .int lo])), (tc, .inl (cI, 16, .inl ftn_2))]) [0, 1] (by decide) rfl
    have hFc_35 := va_free (wc := [(k9, .inr (1, [.ref tc, .int (nI zn_2), .int nu, .int ki, .int ce, .int lo])), (tc, .inl (cI, 16, .inl ftn_2))]) hD hS hA [0, 1] rfl
    refine va_calli (va_runV (As := [.int 21, .int 14]) (rest := []) ⟨hx, hb, hml, hown, hts⟩ (r_X1_begin_14 l dC dI cI cZ cL cJ H.size k9 tc zn_2 nu ki ce lo ftn_2 21 (by omega)) (cwV 2 hts gX1_begin_X1_begin rfl rfl rfl (by decide +kernel) ⟨Nat.le_of_ble_eq_true rfl, Nat.le_of_ble_eq_true rfl⟩) ⟨fun a U g mk q => by obtain ⟨q0, q1, qP, qK, qD, qS⟩ := q; exact ⟨q0, q1, qP, va_K.moved (u := U) (U := U.calling g mk a) (Vm.Alike.refl U.vm) qK, qD, stt_same rfl qS⟩, va_recv hK hP (ci := 1) (q0 := 0) rfl rfl, fun U hU hW => ⟨rfl, by rw [hU], by rw [hU]; exact hPc_35, va_K.moved hW.alike hK, hDc_35.weaken (fun _ _ _ _ => trivial), by rw [hU]; exact stt_warm hW (stt_narrow (stt_kept hst hS.2.1) hFc_35)⟩⟩ rfl rfl hl.1 rfl (lv_room (Nat.le_of_ble_eq_true rfl)) dX1_begin_191 ⟨Nat.le_of_ble_eq_true rfl, Nat.le_of_ble_eq_true rfl⟩) hS (fun q _ h => hFc_35 q h) hFc_35 (fun r_35 u_35 t_35 H1 locs ht hvm h_35 hB hz1 hk1 hS => ?_)
    obtain ⟨zn_35, ftn_35, hP1, hD1, hF_35_0⟩ := hB
    rw [ht] at hP1
    obtain ⟨hP, hD⟩ := va_join (wr := []) (w1 := [(k9, .inr (1, [.ref tc, .int (nI zn_35), .int nu, .int ki, .int ce, .int lo])), (tc, .inl (cI, 16, .inl ftn_35))]) hP hD [0, 1] [] rfl rfl (by decide) (by decide) hk1 hFc_35 hP1 hD1
    generalize H1 = H at hP hS ⊢
    have hP : va_P (dC, dI) vwCl [(k9, .inr (1, [.ref tc, .int (nI zn_35), .int nu, .int ki, .int ce, .int lo])), (tc, .inl (cI, 16, .inl ftn_35))] H := hP
    have hD : va_D A [(k9, .inr (1, [.ref tc, .int (nI zn_35), .int nu, .int ki, .int ce, .int lo])), (tc, .inl (cI, 16, .inl ftn_35))] := hD
    refine lv_iconst (v := 2) hx hb dX1_begin_194 (by decide) ?_
    refine lv_imul hx hb dX1_begin_195 ?_
    refine lv_topi (fun v_36 e_36 => ?_)
    have hP9 := hP.sub (ws' := [(k9, .inr (1, [.ref tc, .int (nI zn_35), .int nu, .int ki, .int ce, .int lo])), (tc, .inl (cI, 16, .inl ftn_35))]) [0, 1] rfl
    have hD9 := hD.sub (ws' := [(k9, .inr (1, [.ref tc, .int (nI zn_35), .int nu, .int ki, .int ce, .int lo])), (tc, .inl (cI, 16, .inl ftn_35))]) [0, 1] (by decide) rfl
    exact W.iret (v := v_36) hx hb hr (fun t ht hW => ⟨⟨v_36, (), rfl, trivial, ⟨zn_35, ftn_35, by rw [ht]; exact hP9, hD9, (by omega)⟩⟩, hS.F ht⟩) hS.2.2 dX1_begin_196
  have kT_4 := lv_neT k_4 (show (10 : Int32).toInt = 10 from rfl)
  have kT_5 := lv_neT k_5 (show (11 : Int32).toInt = 11 from rfl)
  have kT_9 := lv_neT k_9 (show (12 : Int32).toInt = 12 from rfl)
  have kT_12 := lv_neT k_12 (show (13 : Int32).toInt = 13 from rfl)
  have kT_15 := lv_neT k_15 (show (14 : Int32).toInt = 14 from rfl)
  have kT_18 := lv_neT k_18 (show (15 : Int32).toInt = 15 from rfl)
  have kT_19 := lv_neT k_19 (show (16 : Int32).toInt = 16 from rfl)
  have kT_20 := lv_neT k_20 (show (17 : Int32).toInt = 17 from rfl)
  have kT_21 := lv_neT k_21 (show (18 : Int32).toInt = 18 from rfl)
  have kT_22 := lv_neT k_22 (show (19 : Int32).toInt = 19 from rfl)
  have kT_23 := lv_neT k_23 (show (20 : Int32).toInt = 20 from rfl)
  have kT_24 := lv_neT k_24 (show (21 : Int32).toInt = 21 from rfl)
  have kT_27 := lv_neT k_27 (show (22 : Int32).toInt = 22 from rfl)
  have kT_30 := lv_neT k_30 (show (23 : Int32).toInt = 23 from rfl)
  have kT_34 := lv_neT k_34 (show (24 : Int32).toInt = 24 from rfl)
  refine lv_tableOut (tgt := 197) hx hb dX1_begin_18 (by omega) (by decide) ?_
  refine lv_iconst (v := 0) hx hb dX1_begin_197 (by decide) ?_
  have hP9 := hP.sub (ws' := [(k9, .inr (1, [.ref tc, .int (nI zn_2), .int nu, .int ki, .int ce, .int lo])), (tc, .inl (cI, 16, .inl ftn_2))]) [0, 1] rfl
  have hD9 := hD.sub (ws' := [(k9, .inr (1, [.ref tc, .int (nI zn_2), .int nu, .int ki, .int ce, .int lo])), (tc, .inl (cI, 16, .inl ftn_2))]) [0, 1] (by decide) rfl
  exact W.iret (v := 0) hx hb hr (fun t ht hW => ⟨⟨0, (), rfl, trivial, ⟨zn_2, ftn_2, by rw [ht]; exact hP9, hD9, (by omega)⟩⟩, hS.F ht⟩) hS.2.2 dX1_begin_198
set_option maxHeartbeats 4000000 in
set_option maxRecDepth 100000 in
theorem r_X1_askAnew_13 (l : Launch) (dC : Nat → ClassId) (dI : Nat → Nat → Nat) (cI cZ cL cJ : ClassId) (sz : Nat) (k9 : Nat) (tc : Nat) (z : Nat) (nu : Int32) (ki : Int32) (ce : Int32) (lo : Int32) (ft : Nat → Int32) (x : Int32) (hz : z ≤ 16) : Met l yX1_askAnew wsX1_askAnew ({ frames := 7, cells := 0, slots := 0, locals := 159 }) (va_Pc [.ref k9, .int x, .int 13] (fun U => U.heap.size = sz ∧ va_P (dC, dI) vwCl [(k9, .inr (1, [.ref tc, .int (nI z), .int nu, .int ki, .int ce, .int lo])), (tc, .inl (cI, 16, .inl ft))] U.heap ∧ va_K (dC, dI) vwCl [(cI, .int), (cZ, .boolean), (cL, .object RX3), (cJ, .array .int)] U ∧ va_D (fun _ => True) [(k9, .inr (1, [.ref tc, .int (nI z), .int nu, .int ki, .int ce, .int lo])), (tc, .inl (cI, 16, .inl ft))] ∧ stt (va_A [(k9, .inr (1, [.ref tc, .int (nI z), .int nu, .int ki, .int ce, .int lo])), (tc, .inl (cI, 16, .inl ft))] sz) U U.heap)) (va_Qi (fun r (_ : Unit) => True) (fun (_ : Unit) t => ∃ (zn : Nat) (ftn : Nat → Int32), va_P (dC, dI) vwCl [(k9, .inr (1, [.ref tc, .int (nI zn), .int nu, .int ki, .int ce, .int lo])), (tc, .inl (cI, 16, .inl ftn))] t.heap ∧ va_D (va_A [(k9, .inr (1, [.ref tc, .int (nI z), .int nu, .int ki, .int ce, .int lo])), (tc, .inl (cI, 16, .inl ft))] sz) [(k9, .inr (1, [.ref tc, .int (nI zn), .int nu, .int ki, .int ce, .int lo])), (tc, .inl (cI, 16, .inl ftn))] ∧ zn ≤ 16) (va_A [(k9, .inr (1, [.ref tc, .int (nI z), .int nu, .int ki, .int ce, .int lo])), (tc, .inl (cI, 16, .inl ft))] sz)) 0 0 (va_A [(k9, .inr (1, [.ref tc, .int (nI z), .int nu, .int ki, .int ce, .int lo])), (tc, .inl (cI, 16, .inl ft))] sz) := by
  refine Met.ofW (cc := cX1_askAnew) (maxL := 3) (ret := (some .int)) (by decide) rfl ?_
  intro p e s m args below meth c s₁ B hml hv
  obtain ⟨rfl, hsz, hP, hK, hD0, hst⟩ := hv
  have hx := B.exec
  have hb := B.bytes
  have hr := B.returns
  have hts := atoms_spec (ws := wsX1_askAnew) B.pre
  have hown : s.vm.findClass RX1 = some m.cls := findClass_of_methodNamed B.named
  have hlocks := B.notSynchronized
  subst hsz
  have hD := hD0.self (sz := s.heap.size)
  generalize hAe : va_A [(k9, .inr (1, [.ref tc, .int (nI z), .int nu, .int ki, .int ce, .int lo])), (tc, .inl (cI, 16, .inl ft))] s.heap.size = A at hD hst ⊢
  have hA : ∀ q : Nat, s.heap.size ≤ q → A q := fun q h => by rw [← hAe]; exact Or.inr h
  have hS : va_S A s.heap s.heap [] := va_S.rf
  have hP : va_P (dC, dI) vwCl [(k9, .inr (1, [.ref tc, .int (nI z), .int nu, .int ki, .int ce, .int lo])), (tc, .inl (cI, 16, .inl ft))] s.heap := hP
  obtain ⟨⟨tb1, hZ1, hT1⟩, ⟨tb2, hZ2, hT2⟩, ⟨tb3, hZ3, hT3⟩, hNk⟩ := id hst
  have hl := lv_entry ([.ref k9, .int x, .int 13]) (n := 3) (Nat.le_of_ble_eq_true rfl)
  rw [lg_entry_eq]
  generalize (lg_sl ([.ref k9, .int x, .int 13]) ++ List.replicate (3 - (lg_sl ([.ref k9, .int x, .int 13])).length) Slot.unset).toArray = ls at hl ⊢
  have hl : lv_has ls 3 [(0, .ref k9), (1, .int x), (2, .int 13)] := hl
  refine lv_aload_n hx hb dX1_askAnew_0 rfl (lv_at hl 0 rfl) ?_
  refine lv_aload_n hx hb dX1_askAnew_1 rfl (lv_at hl 0 rfl) ?_
  refine lv_iload_n hx hb dX1_askAnew_2 rfl (lv_at hl 1 rfl) ?_
  have hPc_1 := hP.sub (ws' := [(k9, .inr (1, [.ref tc, .int (nI z), .int nu, .int ki, .int ce, .int lo]))]) [0] rfl
  refine vp_callSi (W.runV (As := [.int x]) (rest := [.ref k9]) ⟨hx, hb, hml, hown, hts⟩ (r_X1_bodyFor l dC dI cI cZ cL cJ k9 tc z nu ki ce lo x ) (cwV 1 hts gX1_askAnew_X1_bodyFor rfl rfl rfl (by decide +kernel) ⟨Nat.le_of_ble_eq_true rfl, Nat.le_of_ble_eq_true rfl⟩) ⟨fun a U g mk q => by obtain ⟨q0, qP, qK, qS⟩ := q; exact ⟨q0, qP, va_K.moved (u := U) (U := U.calling g mk a) (Vm.Alike.refl U.vm) qK, stt_same rfl qS⟩, va_recv hK hP (ci := 1) (q0 := 0) rfl rfl, fun U hU hW => ⟨rfl, by rw [hU]; exact hPc_1, va_K.moved hW.alike hK, by rw [hU]; exact stt_warm hW (stt_narrow (stt_kept hst hS.2.1) (fun _ h => h.elim))⟩⟩ rfl rfl hl.1 rfl (lv_room (Nat.le_of_ble_eq_true rfl)) dX1_askAnew_3 ⟨Nat.le_of_ble_eq_true rfl, Nat.le_of_ble_eq_true rfl⟩) (fun r_1 h_1 => ?_)
  refine lv_iload_n hx hb dX1_askAnew_6 rfl (lv_at hl 2 rfl) ?_
  have hPc_2 := hP.sub (ws' := [(k9, .inr (1, [.ref tc, .int (nI z), .int nu, .int ki, .int ce, .int lo])), (tc, .inl (cI, 16, .inl ft))]) [0, 1] rfl
  have hDc_2 := hD.sub (ws' := [(k9, .inr (1, [.ref tc, .int (nI z), .int nu, .int ki, .int ce, .int lo])), (tc, .inl (cI, 16, .inl ft))]) [0, 1] (by decide) rfl
  have hFc_2 := va_free (wc := [(k9, .inr (1, [.ref tc, .int (nI z), .int nu, .int ki, .int ce, .int lo])), (tc, .inl (cI, 16, .inl ft))]) hD hS hA [0, 1] rfl
  refine va_calli (va_runV (As := [.int r_1, .int 13]) (rest := []) ⟨hx, hb, hml, hown, hts⟩ (r_X1_begin_13 l dC dI cI cZ cL cJ s.heap.size k9 tc z nu ki ce lo ft r_1 (by omega)) (cwV 2 hts gX1_askAnew_X1_begin rfl rfl rfl (by decide +kernel) ⟨Nat.le_of_ble_eq_true rfl, Nat.le_of_ble_eq_true rfl⟩) ⟨fun a U g mk q => by obtain ⟨q0, q1, qP, qK, qD, qS⟩ := q; exact ⟨q0, q1, qP, va_K.moved (u := U) (U := U.calling g mk a) (Vm.Alike.refl U.vm) qK, qD, stt_same rfl qS⟩, va_recv hK hP (ci := 1) (q0 := 0) rfl rfl, fun U hU hW => ⟨rfl, by rw [hU], by rw [hU]; exact hPc_2, va_K.moved hW.alike hK, hDc_2.weaken (fun _ _ _ _ => trivial), by rw [hU]; exact stt_warm hW (stt_narrow (stt_kept hst hS.2.1) hFc_2)⟩⟩ rfl rfl hl.1 rfl (lv_room (Nat.le_of_ble_eq_true rfl)) dX1_askAnew_7 ⟨Nat.le_of_ble_eq_true rfl, Nat.le_of_ble_eq_true rfl⟩) hS (fun q _ h => hFc_2 q h) hFc_2 (fun r_2 u_2 t_2 H1 locs ht hvm h_2 hB hz1 hk1 hS => ?_)
  obtain ⟨zn_2, ftn_2, hP1, hD1, hF_2_0⟩ := hB
  rw [ht] at hP1
  obtain ⟨hP, hD⟩ := va_join (wr := []) (w1 := [(k9, .inr (1, [.ref tc, .int (nI zn_2), .int nu, .int ki, .int ce, .int lo])), (tc, .inl (cI, 16, .inl ftn_2))]) hP hD [0, 1] [] rfl rfl (by decide) (by decide) hk1 hFc_2 hP1 hD1
  generalize H1 = H at hP hS ⊢
  have hP : va_P (dC, dI) vwCl [(k9, .inr (1, [.ref tc, .int (nI zn_2), .int nu, .int ki, .int ce, .int lo])), (tc, .inl (cI, 16, .inl ftn_2))] H := hP
  have hD : va_D A [(k9, .inr (1, [.ref tc, .int (nI zn_2), .int nu, .int ki, .int ce, .int lo])), (tc, .inl (cI, 16, .inl ftn_2))] := hD
  have hP9 := hP.sub (ws' := [(k9, .inr (1, [.ref tc, .int (nI zn_2), .int nu, .int ki, .int ce, .int lo])), (tc, .inl (cI, 16, .inl ftn_2))]) [0, 1] rfl
  have hD9 := hD.sub (ws' := [(k9, .inr (1, [.ref tc, .int (nI zn_2), .int nu, .int ki, .int ce, .int lo])), (tc, .inl (cI, 16, .inl ftn_2))]) [0, 1] (by decide) rfl
  exact W.iret (v := r_2) hx hb hr (fun t ht hW => ⟨⟨r_2, (), rfl, trivial, ⟨zn_2, ftn_2, by rw [ht]; exact hP9, hD9, (by omega)⟩⟩, hS.F ht⟩) hS.2.2 dX1_askAnew_10
set_option maxHeartbeats 4000000 in
set_option maxRecDepth 100000 in
theorem r_X1_begin_12 (l : Launch) (dC : Nat → ClassId) (dI : Nat → Nat → Nat) (cI cZ cL cJ : ClassId) (sz : Nat) (k9 : Nat) (tc : Nat) (z : Nat) (nu : Int32) (ki : Int32) (ce : Int32) (lo : Int32) (ft : Nat → Int32) (x : Int32) (hz : z ≤ 16) : Met l yX1_begin wsX1_begin ({ frames := 8, cells := 0, slots := 0, locals := 181 }) (va_Pc [.ref k9, .int x, .int 12] (fun U => U.heap.size = sz ∧ va_P (dC, dI) vwCl [(k9, .inr (1, [.ref tc, .int (nI z), .int nu, .int ki, .int ce, .int lo])), (tc, .inl (cI, 16, .inl ft))] U.heap ∧ va_K (dC, dI) vwCl [(cI, .int), (cZ, .boolean), (cL, .object RX3), (cJ, .array .int)] U ∧ va_D (fun _ => True) [(k9, .inr (1, [.ref tc, .int (nI z), .int nu, .int ki, .int ce, .int lo])), (tc, .inl (cI, 16, .inl ft))] ∧ stt (va_A [(k9, .inr (1, [.ref tc, .int (nI z), .int nu, .int ki, .int ce, .int lo])), (tc, .inl (cI, 16, .inl ft))] sz) U U.heap)) (va_Qi (fun r (_ : Unit) => True) (fun (_ : Unit) t => ∃ (zn : Nat) (ftn : Nat → Int32), va_P (dC, dI) vwCl [(k9, .inr (1, [.ref tc, .int (nI zn), .int nu, .int ki, .int ce, .int lo])), (tc, .inl (cI, 16, .inl ftn))] t.heap ∧ va_D (va_A [(k9, .inr (1, [.ref tc, .int (nI z), .int nu, .int ki, .int ce, .int lo])), (tc, .inl (cI, 16, .inl ft))] sz) [(k9, .inr (1, [.ref tc, .int (nI zn), .int nu, .int ki, .int ce, .int lo])), (tc, .inl (cI, 16, .inl ftn))] ∧ zn ≤ 16) (va_A [(k9, .inr (1, [.ref tc, .int (nI z), .int nu, .int ki, .int ce, .int lo])), (tc, .inl (cI, 16, .inl ft))] sz)) 0 0 (va_A [(k9, .inr (1, [.ref tc, .int (nI z), .int nu, .int ki, .int ce, .int lo])), (tc, .inl (cI, 16, .inl ft))] sz) := by
  refine Met.ofW (cc := cX1_begin) (maxL := 4) (ret := (some .int)) (by decide) rfl ?_
  intro p e s m args below meth c s₁ B hml hv
  obtain ⟨rfl, hsz, hP, hK, hD0, hst⟩ := hv
  have hx := B.exec
  have hb := B.bytes
  have hr := B.returns
  have hts := atoms_spec (ws := wsX1_begin) B.pre
  have hown : s.vm.findClass RX1 = some m.cls := findClass_of_methodNamed B.named
  have hlocks := B.notSynchronized
  subst hsz
  have hD := hD0.self (sz := s.heap.size)
  generalize hAe : va_A [(k9, .inr (1, [.ref tc, .int (nI z), .int nu, .int ki, .int ce, .int lo])), (tc, .inl (cI, 16, .inl ft))] s.heap.size = A at hD hst ⊢
  have hA : ∀ q : Nat, s.heap.size ≤ q → A q := fun q h => by rw [← hAe]; exact Or.inr h
  have hS : va_S A s.heap s.heap [] := va_S.rf
  have hP : va_P (dC, dI) vwCl [(k9, .inr (1, [.ref tc, .int (nI z), .int nu, .int ki, .int ce, .int lo])), (tc, .inl (cI, 16, .inl ft))] s.heap := hP
  obtain ⟨⟨tb1, hZ1, hT1⟩, ⟨tb2, hZ2, hT2⟩, ⟨tb3, hZ3, hT3⟩, hNk⟩ := id hst
  have hl := lv_entry ([.ref k9, .int x, .int 12]) (n := 4) (Nat.le_of_ble_eq_true rfl)
  rw [lg_entry_eq]
  generalize (lg_sl ([.ref k9, .int x, .int 12]) ++ List.replicate (4 - (lg_sl ([.ref k9, .int x, .int 12])).length) Slot.unset).toArray = ls at hl ⊢
  have hl : lv_has ls 4 [(0, .ref k9), (1, .int x), (2, .int 12)] := hl
  refine lv_iload_n hx hb dX1_begin_0 rfl (lv_at hl 2 rfl) ?_
  refine lv_bipush (v := 16) hx hb dX1_begin_1 (by decide) ?_
  refine lv_icmp_lt (tgt := 8) hx hb dX1_begin_3 (by decide) (fun _ => ?_) (fun c_ => absurd (by decide) c_)
  refine lv_aload_n hx hb dX1_begin_8 rfl (lv_at hl 0 rfl) ?_
  refine lv_iload_n hx hb dX1_begin_9 rfl (lv_at hl 1 rfl) ?_
  have hPc_2 := hP.sub (ws' := [(k9, .inr (1, [.ref tc, .int (nI z), .int nu, .int ki, .int ce, .int lo])), (tc, .inl (cI, 16, .inl ft))]) [0, 1] rfl
  have hDc_2 := hD.sub (ws' := [(k9, .inr (1, [.ref tc, .int (nI z), .int nu, .int ki, .int ce, .int lo])), (tc, .inl (cI, 16, .inl ft))]) [0, 1] (by decide) rfl
  have hFc_2 := va_free (wc := [(k9, .inr (1, [.ref tc, .int (nI z), .int nu, .int ki, .int ce, .int lo])), (tc, .inl (cI, 16, .inl ft))]) hD hS hA [0, 1] rfl
  refine va_callv (va_runV (As := [.int x]) (rest := []) ⟨hx, hb, hml, hown, hts⟩ (r_X1_leave l dC dI cI cZ cL cJ s.heap.size k9 tc z nu ki ce lo ft x (by omega)) (cwV 1 hts gX1_begin_X1_leave rfl rfl rfl (by decide +kernel) ⟨Nat.le_of_ble_eq_true rfl, Nat.le_of_ble_eq_true rfl⟩) ⟨fun a U g mk q => by obtain ⟨q0, q1, qP, qK, qD⟩ := q; exact ⟨q0, q1, qP, va_K.moved (u := U) (U := U.calling g mk a) (Vm.Alike.refl U.vm) qK, qD⟩, va_recv hK hP (ci := 1) (q0 := 0) rfl rfl, fun U hU hW => ⟨rfl, by rw [hU], by rw [hU]; exact hPc_2, va_K.moved hW.alike hK, hDc_2.weaken (fun _ _ _ _ => trivial)⟩⟩ rfl rfl hl.1 rfl (lv_room (Nat.le_of_ble_eq_true rfl)) dX1_begin_10 ⟨Nat.le_of_ble_eq_true rfl, Nat.le_of_ble_eq_true rfl⟩) hS (fun q _ h => hFc_2 q h) hFc_2 (fun u_2 t_2 H1 locs ht hvm h_2 hB hz1 hk1 hS => ?_)
  obtain ⟨zn_2, ftn_2, hP1, hD1, hF_2_0⟩ := hB
  rw [ht] at hP1
  obtain ⟨hP, hD⟩ := va_join (wr := []) (w1 := [(k9, .inr (1, [.ref tc, .int (nI zn_2), .int nu, .int ki, .int ce, .int lo])), (tc, .inl (cI, 16, .inl ftn_2))]) hP hD [0, 1] [] rfl rfl (by decide) (by decide) hk1 hFc_2 hP1 hD1
  generalize H1 = H at hP hS ⊢
  have hP : va_P (dC, dI) vwCl [(k9, .inr (1, [.ref tc, .int (nI zn_2), .int nu, .int ki, .int ce, .int lo])), (tc, .inl (cI, 16, .inl ftn_2))] H := hP
  have hD : va_D A [(k9, .inr (1, [.ref tc, .int (nI zn_2), .int nu, .int ki, .int ce, .int lo])), (tc, .inl (cI, 16, .inl ftn_2))] := hD
  refine lv_iload_n hx hb dX1_begin_13 rfl (lv_at hl 2 rfl) ?_
  refine lv_iconst (v := 1) hx hb dX1_begin_14 (by decide) ?_
  refine lv_iadd hx hb dX1_begin_15 ?_
  refine lv_topi (fun v_3 e_3 => ?_)
  obtain rfl : v_3 = 13 := (e_3).trans (by decide)
  refine lv_istore_n (lv' := [(3, .int 13), (0, .ref k9), (1, .int x), (2, .int 12)]) hx hb dX1_begin_16 rfl hl (by decide) rfl (fun ls hl => ?_)
  refine lv_iload_n hx hb dX1_begin_17 rfl (lv_at hl 2 rfl) ?_
  by_cases k_4 : x = 10
  · subst k_4
    refine lv_tableIn (off := 74) (tgt := 92) hx hb dX1_begin_18 (by decide) (by decide) (by decide) (by decide) ?_
    refine lv_aload_n hx hb dX1_begin_92 rfl (lv_at hl 1 rfl) ?_
    refine va_get (D := (dC, dI)) (ci := 1) (v := .int lo) (C := RX1) (T := TX1) (N := 6) hx hb hts i_X1_begin_X1 hown hK hP 0 rfl rfl 5 (by decide) (hts (.fieldLink RX1 39 "MillTalk$Asks" "loud" "I") (by decide +kernel)) (fun _ h9 => h9) rfl dX1_begin_93 ?_
    have hP9 := hP.sub (ws' := [(k9, .inr (1, [.ref tc, .int (nI zn_2), .int nu, .int ki, .int ce, .int lo])), (tc, .inl (cI, 16, .inl ftn_2))]) [0, 1] rfl
    have hD9 := hD.sub (ws' := [(k9, .inr (1, [.ref tc, .int (nI zn_2), .int nu, .int ki, .int ce, .int lo])), (tc, .inl (cI, 16, .inl ftn_2))]) [0, 1] (by decide) rfl
    exact W.iret (v := lo) hx hb hr (fun t ht hW => ⟨⟨lo, (), rfl, trivial, ⟨zn_2, ftn_2, by rw [ht]; exact hP9, hD9, (by omega)⟩⟩, hS.F ht⟩) hS.2.2 dX1_begin_96
  by_cases k_5 : x = 11
  · subst k_5
    refine lv_tableIn (off := 79) (tgt := 97) hx hb dX1_begin_18 (by decide) (by decide) (by decide) (by decide) ?_
    refine lv_aload_n hx hb dX1_begin_97 rfl (lv_at hl 1 rfl) ?_
    refine lv_bipush (v := 10) hx hb dX1_begin_98 (by decide) ?_
    refine lv_iload_n hx hb dX1_begin_100 rfl (lv_at hl 0 rfl) ?_
    have hPc_6 := hP.sub (ws' := [(k9, .inr (1, [.ref tc, .int (nI zn_2), .int nu, .int ki, .int ce, .int lo])), (tc, .inl (cI, 16, .inl ftn_2))]) [0, 1] rfl
    have hDc_6 := hD.sub (ws' := [(k9, .inr (1, [.ref tc, .int (nI zn_2), .int nu, .int ki, .int ce, .int lo])), (tc, .inl (cI, 16, .inl ftn_2))]) [0, 1] (by decide) rfl
    have hFc_6 := va_free (wc := [(k9, .inr (1, [.ref tc, .int (nI zn_2), .int nu, .int ki, .int ce, .int lo])), (tc, .inl (cI, 16, .inl ftn_2))]) hD hS hA [0, 1] rfl
    refine va_calli (va_runV (As := [.int 10, .int 13]) (rest := []) ⟨hx, hb, hml, hown, hts⟩ (r_X1_begin_13 l dC dI cI cZ cL cJ H.size k9 tc zn_2 nu ki ce lo ftn_2 10 (by omega)) (cwV 2 hts gX1_begin_X1_begin rfl rfl rfl (by decide +kernel) ⟨Nat.le_of_ble_eq_true rfl, Nat.le_of_ble_eq_true rfl⟩) ⟨fun a U g mk q => by obtain ⟨q0, q1, qP, qK, qD, qS⟩ := q; exact ⟨q0, q1, qP, va_K.moved (u := U) (U := U.calling g mk a) (Vm.Alike.refl U.vm) qK, qD, stt_same rfl qS⟩, va_recv hK hP (ci := 1) (q0 := 0) rfl rfl, fun U hU hW => ⟨rfl, by rw [hU], by rw [hU]; exact hPc_6, va_K.moved hW.alike hK, hDc_6.weaken (fun _ _ _ _ => trivial), by rw [hU]; exact stt_warm hW (stt_narrow (stt_kept hst hS.2.1) hFc_6)⟩⟩ rfl rfl hl.1 rfl (lv_room (Nat.le_of_ble_eq_true rfl)) dX1_begin_101 ⟨Nat.le_of_ble_eq_true rfl, Nat.le_of_ble_eq_true rfl⟩) hS (fun q _ h => hFc_6 q h) hFc_6 (fun r_6 u_6 t_6 H1 locs ht hvm h_6 hB hz1 hk1 hS => ?_)
    obtain ⟨zn_6, ftn_6, hP1, hD1, hF_6_0⟩ := hB
    rw [ht] at hP1
    obtain ⟨hP, hD⟩ := va_join (wr := []) (w1 := [(k9, .inr (1, [.ref tc, .int (nI zn_6), .int nu, .int ki, .int ce, .int lo])), (tc, .inl (cI, 16, .inl ftn_6))]) hP hD [0, 1] [] rfl rfl (by decide) (by decide) hk1 hFc_6 hP1 hD1
    generalize H1 = H at hP hS ⊢
    have hP : va_P (dC, dI) vwCl [(k9, .inr (1, [.ref tc, .int (nI zn_6), .int nu, .int ki, .int ce, .int lo])), (tc, .inl (cI, 16, .inl ftn_6))] H := hP
    have hD : va_D A [(k9, .inr (1, [.ref tc, .int (nI zn_6), .int nu, .int ki, .int ce, .int lo])), (tc, .inl (cI, 16, .inl ftn_6))] := hD
    refine lv_aload_n hx hb dX1_begin_104 rfl (lv_at hl 1 rfl) ?_
    refine lv_iconst (v := 1) hx hb dX1_begin_105 (by decide) ?_
    refine lv_iload_n hx hb dX1_begin_106 rfl (lv_at hl 0 rfl) ?_
    have hPc_7 := hP.sub (ws' := [(k9, .inr (1, [.ref tc, .int (nI zn_6), .int nu, .int ki, .int ce, .int lo])), (tc, .inl (cI, 16, .inl ftn_6))]) [0, 1] rfl
    have hDc_7 := hD.sub (ws' := [(k9, .inr (1, [.ref tc, .int (nI zn_6), .int nu, .int ki, .int ce, .int lo])), (tc, .inl (cI, 16, .inl ftn_6))]) [0, 1] (by decide) rfl
    have hFc_7 := va_free (wc := [(k9, .inr (1, [.ref tc, .int (nI zn_6), .int nu, .int ki, .int ce, .int lo])), (tc, .inl (cI, 16, .inl ftn_6))]) hD hS hA [0, 1] rfl
    refine va_calli (va_runV (As := [.int 1, .int 13]) (rest := [.int r_6]) ⟨hx, hb, hml, hown, hts⟩ (r_X1_askAnew_13 l dC dI cI cZ cL cJ H.size k9 tc zn_6 nu ki ce lo ftn_6 1 (by omega)) (cwV 2 hts gX1_begin_X1_askAnew rfl rfl rfl (by decide +kernel) ⟨Nat.le_of_ble_eq_true rfl, Nat.le_of_ble_eq_true rfl⟩) ⟨fun a U g mk q => by obtain ⟨q0, q1, qP, qK, qD, qS⟩ := q; exact ⟨q0, q1, qP, va_K.moved (u := U) (U := U.calling g mk a) (Vm.Alike.refl U.vm) qK, qD, stt_same rfl qS⟩, va_recv hK hP (ci := 1) (q0 := 0) rfl rfl, fun U hU hW => ⟨rfl, by rw [hU], by rw [hU]; exact hPc_7, va_K.moved hW.alike hK, hDc_7.weaken (fun _ _ _ _ => trivial), by rw [hU]; exact stt_warm hW (stt_narrow (stt_kept hst hS.2.1) hFc_7)⟩⟩ rfl rfl hl.1 rfl (lv_room (Nat.le_of_ble_eq_true rfl)) dX1_begin_107 ⟨Nat.le_of_ble_eq_true rfl, Nat.le_of_ble_eq_true rfl⟩) hS (fun q _ h => hFc_7 q h) hFc_7 (fun r_7 u_7 t_7 H1 locs ht hvm h_7 hB hz1 hk1 hS => ?_)
    obtain ⟨zn_7, ftn_7, hP1, hD1, hF_7_0⟩ := hB
    rw [ht] at hP1
    obtain ⟨hP, hD⟩ := va_join (wr := []) (w1 := [(k9, .inr (1, [.ref tc, .int (nI zn_7), .int nu, .int ki, .int ce, .int lo])), (tc, .inl (cI, 16, .inl ftn_7))]) hP hD [0, 1] [] rfl rfl (by decide) (by decide) hk1 hFc_7 hP1 hD1
    generalize H1 = H at hP hS ⊢
    have hP : va_P (dC, dI) vwCl [(k9, .inr (1, [.ref tc, .int (nI zn_7), .int nu, .int ki, .int ce, .int lo])), (tc, .inl (cI, 16, .inl ftn_7))] H := hP
    have hD : va_D A [(k9, .inr (1, [.ref tc, .int (nI zn_7), .int nu, .int ki, .int ce, .int lo])), (tc, .inl (cI, 16, .inl ftn_7))] := hD
    refine lv_iadd hx hb dX1_begin_110 ?_
    refine lv_topi (fun v_8 e_8 => ?_)
    have hP9 := hP.sub (ws' := [(k9, .inr (1, [.ref tc, .int (nI zn_7), .int nu, .int ki, .int ce, .int lo])), (tc, .inl (cI, 16, .inl ftn_7))]) [0, 1] rfl
    have hD9 := hD.sub (ws' := [(k9, .inr (1, [.ref tc, .int (nI zn_7), .int nu, .int ki, .int ce, .int lo])), (tc, .inl (cI, 16, .inl ftn_7))]) [0, 1] (by decide) rfl
    exact W.iret (v := v_8) hx hb hr (fun t ht hW => ⟨⟨v_8, (), rfl, trivial, ⟨zn_7, ftn_7, by rw [ht]; exact hP9, hD9, (by omega)⟩⟩, hS.F ht⟩) hS.2.2 dX1_begin_111
  by_cases k_9 : x = 12
  · subst k_9
    refine lv_tableIn (off := 94) (tgt := 112) hx hb dX1_begin_18 (by decide) (by decide) (by decide) (by decide) ?_
    refine lv_aload_n hx hb dX1_begin_112 rfl (lv_at hl 1 rfl) ?_
    refine lv_bipush (v := 11) hx hb dX1_begin_113 (by decide) ?_
    refine lv_iload_n hx hb dX1_begin_115 rfl (lv_at hl 0 rfl) ?_
    have hPc_10 := hP.sub (ws' := [(k9, .inr (1, [.ref tc, .int (nI zn_2), .int nu, .int ki, .int ce, .int lo])), (tc, .inl (cI, 16, .inl ftn_2))]) [0, 1] rfl
    have hDc_10 := hD.sub (ws' := [(k9, .inr (1, [.ref tc, .int (nI zn_2), .int nu, .int ki, .int ce, .int lo])), (tc, .inl (cI, 16, .inl ftn_2))]) [0, 1] (by decide) rfl
    have hFc_10 := va_free (wc := [(k9, .inr (1, [.ref tc, .int (nI zn_2), .int nu, .int ki, .int ce, .int lo])), (tc, .inl (cI, 16, .inl ftn_2))]) hD hS hA [0, 1] rfl
    refine va_calli (va_runV (As := [.int 11, .int 13]) (rest := []) ⟨hx, hb, hml, hown, hts⟩ (r_X1_begin_13 l dC dI cI cZ cL cJ H.size k9 tc zn_2 nu ki ce lo ftn_2 11 (by omega)) (cwV 2 hts gX1_begin_X1_begin rfl rfl rfl (by decide +kernel) ⟨Nat.le_of_ble_eq_true rfl, Nat.le_of_ble_eq_true rfl⟩) ⟨fun a U g mk q => by obtain ⟨q0, q1, qP, qK, qD, qS⟩ := q; exact ⟨q0, q1, qP, va_K.moved (u := U) (U := U.calling g mk a) (Vm.Alike.refl U.vm) qK, qD, stt_same rfl qS⟩, va_recv hK hP (ci := 1) (q0 := 0) rfl rfl, fun U hU hW => ⟨rfl, by rw [hU], by rw [hU]; exact hPc_10, va_K.moved hW.alike hK, hDc_10.weaken (fun _ _ _ _ => trivial), by rw [hU]; exact stt_warm hW (stt_narrow (stt_kept hst hS.2.1) hFc_10)⟩⟩ rfl rfl hl.1 rfl (lv_room (Nat.le_of_ble_eq_true rfl)) dX1_begin_116 ⟨Nat.le_of_ble_eq_true rfl, Nat.le_of_ble_eq_true rfl⟩) hS (fun q _ h => hFc_10 q h) hFc_10 (fun r_10 u_10 t_10 H1 locs ht hvm h_10 hB hz1 hk1 hS => ?_)
    obtain ⟨zn_10, ftn_10, hP1, hD1, hF_10_0⟩ := hB
    rw [ht] at hP1
    obtain ⟨hP, hD⟩ := va_join (wr := []) (w1 := [(k9, .inr (1, [.ref tc, .int (nI zn_10), .int nu, .int ki, .int ce, .int lo])), (tc, .inl (cI, 16, .inl ftn_10))]) hP hD [0, 1] [] rfl rfl (by decide) (by decide) hk1 hFc_10 hP1 hD1
    generalize H1 = H at hP hS ⊢
    have hP : va_P (dC, dI) vwCl [(k9, .inr (1, [.ref tc, .int (nI zn_10), .int nu, .int ki, .int ce, .int lo])), (tc, .inl (cI, 16, .inl ftn_10))] H := hP
    have hD : va_D A [(k9, .inr (1, [.ref tc, .int (nI zn_10), .int nu, .int ki, .int ce, .int lo])), (tc, .inl (cI, 16, .inl ftn_10))] := hD
    refine lv_ineg hx hb dX1_begin_119 ?_
    refine lv_topi (fun v_11 e_11 => ?_)
    have hP9 := hP.sub (ws' := [(k9, .inr (1, [.ref tc, .int (nI zn_10), .int nu, .int ki, .int ce, .int lo])), (tc, .inl (cI, 16, .inl ftn_10))]) [0, 1] rfl
    have hD9 := hD.sub (ws' := [(k9, .inr (1, [.ref tc, .int (nI zn_10), .int nu, .int ki, .int ce, .int lo])), (tc, .inl (cI, 16, .inl ftn_10))]) [0, 1] (by decide) rfl
    exact W.iret (v := v_11) hx hb hr (fun t ht hW => ⟨⟨v_11, (), rfl, trivial, ⟨zn_10, ftn_10, by rw [ht]; exact hP9, hD9, (by omega)⟩⟩, hS.F ht⟩) hS.2.2 dX1_begin_120
  by_cases k_12 : x = 13
  · subst k_12
    refine lv_tableIn (off := 103) (tgt := 121) hx hb dX1_begin_18 (by decide) (by decide) (by decide) (by decide) ?_
    refine lv_aload_n hx hb dX1_begin_121 rfl (lv_at hl 1 rfl) ?_
    refine lv_bipush (v := 10) hx hb dX1_begin_122 (by decide) ?_
    refine lv_iload_n hx hb dX1_begin_124 rfl (lv_at hl 0 rfl) ?_
    have hPc_13 := hP.sub (ws' := [(k9, .inr (1, [.ref tc, .int (nI zn_2), .int nu, .int ki, .int ce, .int lo])), (tc, .inl (cI, 16, .inl ftn_2))]) [0, 1] rfl
    have hDc_13 := hD.sub (ws' := [(k9, .inr (1, [.ref tc, .int (nI zn_2), .int nu, .int ki, .int ce, .int lo])), (tc, .inl (cI, 16, .inl ftn_2))]) [0, 1] (by decide) rfl
    have hFc_13 := va_free (wc := [(k9, .inr (1, [.ref tc, .int (nI zn_2), .int nu, .int ki, .int ce, .int lo])), (tc, .inl (cI, 16, .inl ftn_2))]) hD hS hA [0, 1] rfl
    refine va_calli (va_runV (As := [.int 10, .int 13]) (rest := []) ⟨hx, hb, hml, hown, hts⟩ (r_X1_begin_13 l dC dI cI cZ cL cJ H.size k9 tc zn_2 nu ki ce lo ftn_2 10 (by omega)) (cwV 2 hts gX1_begin_X1_begin rfl rfl rfl (by decide +kernel) ⟨Nat.le_of_ble_eq_true rfl, Nat.le_of_ble_eq_true rfl⟩) ⟨fun a U g mk q => by obtain ⟨q0, q1, qP, qK, qD, qS⟩ := q; exact ⟨q0, q1, qP, va_K.moved (u := U) (U := U.calling g mk a) (Vm.Alike.refl U.vm) qK, qD, stt_same rfl qS⟩, va_recv hK hP (ci := 1) (q0 := 0) rfl rfl, fun U hU hW => ⟨rfl, by rw [hU], by rw [hU]; exact hPc_13, va_K.moved hW.alike hK, hDc_13.weaken (fun _ _ _ _ => trivial), by rw [hU]; exact stt_warm hW (stt_narrow (stt_kept hst hS.2.1) hFc_13)⟩⟩ rfl rfl hl.1 rfl (lv_room (Nat.le_of_ble_eq_true rfl)) dX1_begin_125 ⟨Nat.le_of_ble_eq_true rfl, Nat.le_of_ble_eq_true rfl⟩) hS (fun q _ h => hFc_13 q h) hFc_13 (fun r_13 u_13 t_13 H1 locs ht hvm h_13 hB hz1 hk1 hS => ?_)
    obtain ⟨zn_13, ftn_13, hP1, hD1, hF_13_0⟩ := hB
    rw [ht] at hP1
    obtain ⟨hP, hD⟩ := va_join (wr := []) (w1 := [(k9, .inr (1, [.ref tc, .int (nI zn_13), .int nu, .int ki, .int ce, .int lo])), (tc, .inl (cI, 16, .inl ftn_13))]) hP hD [0, 1] [] rfl rfl (by decide) (by decide) hk1 hFc_13 hP1 hD1
    generalize H1 = H at hP hS ⊢
    have hP : va_P (dC, dI) vwCl [(k9, .inr (1, [.ref tc, .int (nI zn_13), .int nu, .int ki, .int ce, .int lo])), (tc, .inl (cI, 16, .inl ftn_13))] H := hP
    have hD : va_D A [(k9, .inr (1, [.ref tc, .int (nI zn_13), .int nu, .int ki, .int ce, .int lo])), (tc, .inl (cI, 16, .inl ftn_13))] := hD
    refine lv_bipush (v := 100) hx hb dX1_begin_128 (by decide) ?_
    refine lv_isub hx hb dX1_begin_130 ?_
    refine lv_topi (fun v_14 e_14 => ?_)
    have hP9 := hP.sub (ws' := [(k9, .inr (1, [.ref tc, .int (nI zn_13), .int nu, .int ki, .int ce, .int lo])), (tc, .inl (cI, 16, .inl ftn_13))]) [0, 1] rfl
    have hD9 := hD.sub (ws' := [(k9, .inr (1, [.ref tc, .int (nI zn_13), .int nu, .int ki, .int ce, .int lo])), (tc, .inl (cI, 16, .inl ftn_13))]) [0, 1] (by decide) rfl
    exact W.iret (v := v_14) hx hb hr (fun t ht hW => ⟨⟨v_14, (), rfl, trivial, ⟨zn_13, ftn_13, by rw [ht]; exact hP9, hD9, (by omega)⟩⟩, hS.F ht⟩) hS.2.2 dX1_begin_131
  by_cases k_15 : x = 14
  · subst k_15
    refine lv_tableIn (off := 114) (tgt := 132) hx hb dX1_begin_18 (by decide) (by decide) (by decide) (by decide) ?_
    refine lv_aload_n hx hb dX1_begin_132 rfl (lv_at hl 1 rfl) ?_
    refine lv_bipush (v := 13) hx hb dX1_begin_133 (by decide) ?_
    refine lv_iload_n hx hb dX1_begin_135 rfl (lv_at hl 0 rfl) ?_
    have hPc_16 := hP.sub (ws' := [(k9, .inr (1, [.ref tc, .int (nI zn_2), .int nu, .int ki, .int ce, .int lo])), (tc, .inl (cI, 16, .inl ftn_2))]) [0, 1] rfl
    have hDc_16 := hD.sub (ws' := [(k9, .inr (1, [.ref tc, .int (nI zn_2), .int nu, .int ki, .int ce, .int lo])), (tc, .inl (cI, 16, .inl ftn_2))]) [0, 1] (by decide) rfl
    have hFc_16 := va_free (wc := [(k9, .inr (1, [.ref tc, .int (nI zn_2), .int nu, .int ki, .int ce, .int lo])), (tc, .inl (cI, 16, .inl ftn_2))]) hD hS hA [0, 1] rfl
    refine va_calli (va_runV (As := [.int 13, .int 13]) (rest := []) ⟨hx, hb, hml, hown, hts⟩ (r_X1_begin_13 l dC dI cI cZ cL cJ H.size k9 tc zn_2 nu ki ce lo ftn_2 13 (by omega)) (cwV 2 hts gX1_begin_X1_begin rfl rfl rfl (by decide +kernel) ⟨Nat.le_of_ble_eq_true rfl, Nat.le_of_ble_eq_true rfl⟩) ⟨fun a U g mk q => by obtain ⟨q0, q1, qP, qK, qD, qS⟩ := q; exact ⟨q0, q1, qP, va_K.moved (u := U) (U := U.calling g mk a) (Vm.Alike.refl U.vm) qK, qD, stt_same rfl qS⟩, va_recv hK hP (ci := 1) (q0 := 0) rfl rfl, fun U hU hW => ⟨rfl, by rw [hU], by rw [hU]; exact hPc_16, va_K.moved hW.alike hK, hDc_16.weaken (fun _ _ _ _ => trivial), by rw [hU]; exact stt_warm hW (stt_narrow (stt_kept hst hS.2.1) hFc_16)⟩⟩ rfl rfl hl.1 rfl (lv_room (Nat.le_of_ble_eq_true rfl)) dX1_begin_136 ⟨Nat.le_of_ble_eq_true rfl, Nat.le_of_ble_eq_true rfl⟩) hS (fun q _ h => hFc_16 q h) hFc_16 (fun r_16 u_16 t_16 H1 locs ht hvm h_16 hB hz1 hk1 hS => ?_)
    obtain ⟨zn_16, ftn_16, hP1, hD1, hF_16_0⟩ := hB
    rw [ht] at hP1
    obtain ⟨hP, hD⟩ := va_join (wr := []) (w1 := [(k9, .inr (1, [.ref tc, .int (nI zn_16), .int nu, .int ki, .int ce, .int lo])), (tc, .inl (cI, 16, .inl ftn_16))]) hP hD [0, 1] [] rfl rfl (by decide) (by decide) hk1 hFc_16 hP1 hD1
    generalize H1 = H at hP hS ⊢
    have hP : va_P (dC, dI) vwCl [(k9, .inr (1, [.ref tc, .int (nI zn_16), .int nu, .int ki, .int ce, .int lo])), (tc, .inl (cI, 16, .inl ftn_16))] H := hP
    have hD : va_D A [(k9, .inr (1, [.ref tc, .int (nI zn_16), .int nu, .int ki, .int ce, .int lo])), (tc, .inl (cI, 16, .inl ftn_16))] := hD
    refine lv_iconst (v := 2) hx hb dX1_begin_139 (by decide) ?_
    refine lv_imul hx hb dX1_begin_140 ?_
    refine lv_topi (fun v_17 e_17 => ?_)
    have hP9 := hP.sub (ws' := [(k9, .inr (1, [.ref tc, .int (nI zn_16), .int nu, .int ki, .int ce, .int lo])), (tc, .inl (cI, 16, .inl ftn_16))]) [0, 1] rfl
    have hD9 := hD.sub (ws' := [(k9, .inr (1, [.ref tc, .int (nI zn_16), .int nu, .int ki, .int ce, .int lo])), (tc, .inl (cI, 16, .inl ftn_16))]) [0, 1] (by decide) rfl
    exact W.iret (v := v_17) hx hb hr (fun t ht hW => ⟨⟨v_17, (), rfl, trivial, ⟨zn_16, ftn_16, by rw [ht]; exact hP9, hD9, (by omega)⟩⟩, hS.F ht⟩) hS.2.2 dX1_begin_141
  by_cases k_18 : x = 15
  · subst k_18
    refine lv_tableIn (off := 179) (tgt := 197) hx hb dX1_begin_18 (by decide) (by decide) (by decide) (by decide) ?_
    refine lv_iconst (v := 0) hx hb dX1_begin_197 (by decide) ?_
    have hP9 := hP.sub (ws' := [(k9, .inr (1, [.ref tc, .int (nI zn_2), .int nu, .int ki, .int ce, .int lo])), (tc, .inl (cI, 16, .inl ftn_2))]) [0, 1] rfl
    have hD9 := hD.sub (ws' := [(k9, .inr (1, [.ref tc, .int (nI zn_2), .int nu, .int ki, .int ce, .int lo])), (tc, .inl (cI, 16, .inl ftn_2))]) [0, 1] (by decide) rfl
    exact W.iret (v := 0) hx hb hr (fun t ht hW => ⟨⟨0, (), rfl, trivial, ⟨zn_2, ftn_2, by rw [ht]; exact hP9, hD9, (by omega)⟩⟩, hS.F ht⟩) hS.2.2 dX1_begin_198
  by_cases k_19 : x = 16
  · subst k_19
    refine lv_tableIn (off := 179) (tgt := 197) hx hb dX1_begin_18 (by decide) (by decide) (by decide) (by decide) ?_
    refine lv_iconst (v := 0) hx hb dX1_begin_197 (by decide) ?_
    have hP9 := hP.sub (ws' := [(k9, .inr (1, [.ref tc, .int (nI zn_2), .int nu, .int ki, .int ce, .int lo])), (tc, .inl (cI, 16, .inl ftn_2))]) [0, 1] rfl
    have hD9 := hD.sub (ws' := [(k9, .inr (1, [.ref tc, .int (nI zn_2), .int nu, .int ki, .int ce, .int lo])), (tc, .inl (cI, 16, .inl ftn_2))]) [0, 1] (by decide) rfl
    exact W.iret (v := 0) hx hb hr (fun t ht hW => ⟨⟨0, (), rfl, trivial, ⟨zn_2, ftn_2, by rw [ht]; exact hP9, hD9, (by omega)⟩⟩, hS.F ht⟩) hS.2.2 dX1_begin_198
  by_cases k_20 : x = 17
  · subst k_20
    refine lv_tableIn (off := 179) (tgt := 197) hx hb dX1_begin_18 (by decide) (by decide) (by decide) (by decide) ?_
    refine lv_iconst (v := 0) hx hb dX1_begin_197 (by decide) ?_
    have hP9 := hP.sub (ws' := [(k9, .inr (1, [.ref tc, .int (nI zn_2), .int nu, .int ki, .int ce, .int lo])), (tc, .inl (cI, 16, .inl ftn_2))]) [0, 1] rfl
    have hD9 := hD.sub (ws' := [(k9, .inr (1, [.ref tc, .int (nI zn_2), .int nu, .int ki, .int ce, .int lo])), (tc, .inl (cI, 16, .inl ftn_2))]) [0, 1] (by decide) rfl
    exact W.iret (v := 0) hx hb hr (fun t ht hW => ⟨⟨0, (), rfl, trivial, ⟨zn_2, ftn_2, by rw [ht]; exact hP9, hD9, (by omega)⟩⟩, hS.F ht⟩) hS.2.2 dX1_begin_198
  by_cases k_21 : x = 18
  · subst k_21
    refine lv_tableIn (off := 179) (tgt := 197) hx hb dX1_begin_18 (by decide) (by decide) (by decide) (by decide) ?_
    refine lv_iconst (v := 0) hx hb dX1_begin_197 (by decide) ?_
    have hP9 := hP.sub (ws' := [(k9, .inr (1, [.ref tc, .int (nI zn_2), .int nu, .int ki, .int ce, .int lo])), (tc, .inl (cI, 16, .inl ftn_2))]) [0, 1] rfl
    have hD9 := hD.sub (ws' := [(k9, .inr (1, [.ref tc, .int (nI zn_2), .int nu, .int ki, .int ce, .int lo])), (tc, .inl (cI, 16, .inl ftn_2))]) [0, 1] (by decide) rfl
    exact W.iret (v := 0) hx hb hr (fun t ht hW => ⟨⟨0, (), rfl, trivial, ⟨zn_2, ftn_2, by rw [ht]; exact hP9, hD9, (by omega)⟩⟩, hS.F ht⟩) hS.2.2 dX1_begin_198
  by_cases k_22 : x = 19
  · subst k_22
    refine lv_tableIn (off := 179) (tgt := 197) hx hb dX1_begin_18 (by decide) (by decide) (by decide) (by decide) ?_
    refine lv_iconst (v := 0) hx hb dX1_begin_197 (by decide) ?_
    have hP9 := hP.sub (ws' := [(k9, .inr (1, [.ref tc, .int (nI zn_2), .int nu, .int ki, .int ce, .int lo])), (tc, .inl (cI, 16, .inl ftn_2))]) [0, 1] rfl
    have hD9 := hD.sub (ws' := [(k9, .inr (1, [.ref tc, .int (nI zn_2), .int nu, .int ki, .int ce, .int lo])), (tc, .inl (cI, 16, .inl ftn_2))]) [0, 1] (by decide) rfl
    exact W.iret (v := 0) hx hb hr (fun t ht hW => ⟨⟨0, (), rfl, trivial, ⟨zn_2, ftn_2, by rw [ht]; exact hP9, hD9, (by omega)⟩⟩, hS.F ht⟩) hS.2.2 dX1_begin_198
  by_cases k_23 : x = 20
  · subst k_23
    refine lv_tableIn (off := 124) (tgt := 142) hx hb dX1_begin_18 (by decide) (by decide) (by decide) (by decide) ?_
    refine lv_aload_n hx hb dX1_begin_142 rfl (lv_at hl 1 rfl) ?_
    refine va_get (D := (dC, dI)) (ci := 1) (v := .int nu) (C := RX1) (T := TX1) (N := 6) hx hb hts i_X1_begin_X1 hown hK hP 0 rfl rfl 2 (by decide) (hts (.fieldLink RX1 19 "MillTalk$Asks" "number" "I") (by decide +kernel)) (fun _ h9 => h9) rfl dX1_begin_143 ?_
    have hP9 := hP.sub (ws' := [(k9, .inr (1, [.ref tc, .int (nI zn_2), .int nu, .int ki, .int ce, .int lo])), (tc, .inl (cI, 16, .inl ftn_2))]) [0, 1] rfl
    have hD9 := hD.sub (ws' := [(k9, .inr (1, [.ref tc, .int (nI zn_2), .int nu, .int ki, .int ce, .int lo])), (tc, .inl (cI, 16, .inl ftn_2))]) [0, 1] (by decide) rfl
    exact W.iret (v := nu) hx hb hr (fun t ht hW => ⟨⟨nu, (), rfl, trivial, ⟨zn_2, ftn_2, by rw [ht]; exact hP9, hD9, (by omega)⟩⟩, hS.F ht⟩) hS.2.2 dX1_begin_146
  by_cases k_24 : x = 21
  · subst k_24
    refine lv_tableIn (off := 129) (tgt := 147) hx hb dX1_begin_18 (by decide) (by decide) (by decide) (by decide) ?_
    refine lv_aload_n hx hb dX1_begin_147 rfl (lv_at hl 1 rfl) ?_
    refine lv_bipush (v := 20) hx hb dX1_begin_148 (by decide) ?_
    refine lv_iload_n hx hb dX1_begin_150 rfl (lv_at hl 0 rfl) ?_
    have hPc_25 := hP.sub (ws' := [(k9, .inr (1, [.ref tc, .int (nI zn_2), .int nu, .int ki, .int ce, .int lo])), (tc, .inl (cI, 16, .inl ftn_2))]) [0, 1] rfl
    have hDc_25 := hD.sub (ws' := [(k9, .inr (1, [.ref tc, .int (nI zn_2), .int nu, .int ki, .int ce, .int lo])), (tc, .inl (cI, 16, .inl ftn_2))]) [0, 1] (by decide) rfl
    have hFc_25 := va_free (wc := [(k9, .inr (1, [.ref tc, .int (nI zn_2), .int nu, .int ki, .int ce, .int lo])), (tc, .inl (cI, 16, .inl ftn_2))]) hD hS hA [0, 1] rfl
    refine va_calli (va_runV (As := [.int 20, .int 13]) (rest := []) ⟨hx, hb, hml, hown, hts⟩ (r_X1_begin_13 l dC dI cI cZ cL cJ H.size k9 tc zn_2 nu ki ce lo ftn_2 20 (by omega)) (cwV 2 hts gX1_begin_X1_begin rfl rfl rfl (by decide +kernel) ⟨Nat.le_of_ble_eq_true rfl, Nat.le_of_ble_eq_true rfl⟩) ⟨fun a U g mk q => by obtain ⟨q0, q1, qP, qK, qD, qS⟩ := q; exact ⟨q0, q1, qP, va_K.moved (u := U) (U := U.calling g mk a) (Vm.Alike.refl U.vm) qK, qD, stt_same rfl qS⟩, va_recv hK hP (ci := 1) (q0 := 0) rfl rfl, fun U hU hW => ⟨rfl, by rw [hU], by rw [hU]; exact hPc_25, va_K.moved hW.alike hK, hDc_25.weaken (fun _ _ _ _ => trivial), by rw [hU]; exact stt_warm hW (stt_narrow (stt_kept hst hS.2.1) hFc_25)⟩⟩ rfl rfl hl.1 rfl (lv_room (Nat.le_of_ble_eq_true rfl)) dX1_begin_151 ⟨Nat.le_of_ble_eq_true rfl, Nat.le_of_ble_eq_true rfl⟩) hS (fun q _ h => hFc_25 q h) hFc_25 (fun r_25 u_25 t_25 H1 locs ht hvm h_25 hB hz1 hk1 hS => ?_)
    obtain ⟨zn_25, ftn_25, hP1, hD1, hF_25_0⟩ := hB
    rw [ht] at hP1
    obtain ⟨hP, hD⟩ := va_join (wr := []) (w1 := [(k9, .inr (1, [.ref tc, .int (nI zn_25), .int nu, .int ki, .int ce, .int lo])), (tc, .inl (cI, 16, .inl ftn_25))]) hP hD [0, 1] [] rfl rfl (by decide) (by decide) hk1 hFc_25 hP1 hD1
    generalize H1 = H at hP hS ⊢
    have hP : va_P (dC, dI) vwCl [(k9, .inr (1, [.ref tc, .int (nI zn_25), .int nu, .int ki, .int ce, .int lo])), (tc, .inl (cI, 16, .inl ftn_25))] H := hP
    have hD : va_D A [(k9, .inr (1, [.ref tc, .int (nI zn_25), .int nu, .int ki, .int ce, .int lo])), (tc, .inl (cI, 16, .inl ftn_25))] := hD
    refine lv_aload_n hx hb dX1_begin_154 rfl (lv_at hl 1 rfl) ?_
    refine va_get (D := (dC, dI)) (ci := 1) (v := .int ce) (C := RX1) (T := TX1) (N := 6) hx hb hts i_X1_begin_X1 hown hK hP 0 rfl rfl 4 (by decide) (hts (.fieldLink RX1 33 "MillTalk$Asks" "cell" "I") (by decide +kernel)) (fun _ h9 => h9) rfl dX1_begin_155 ?_
    refine lv_iadd hx hb dX1_begin_158 ?_
    refine lv_topi (fun v_26 e_26 => ?_)
    have hP9 := hP.sub (ws' := [(k9, .inr (1, [.ref tc, .int (nI zn_25), .int nu, .int ki, .int ce, .int lo])), (tc, .inl (cI, 16, .inl ftn_25))]) [0, 1] rfl
    have hD9 := hD.sub (ws' := [(k9, .inr (1, [.ref tc, .int (nI zn_25), .int nu, .int ki, .int ce, .int lo])), (tc, .inl (cI, 16, .inl ftn_25))]) [0, 1] (by decide) rfl
    exact W.iret (v := v_26) hx hb hr (fun t ht hW => ⟨⟨v_26, (), rfl, trivial, ⟨zn_25, ftn_25, by rw [ht]; exact hP9, hD9, (by omega)⟩⟩, hS.F ht⟩) hS.2.2 dX1_begin_159
  by_cases k_27 : x = 22
  · subst k_27
    refine lv_tableIn (off := 142) (tgt := 160) hx hb dX1_begin_18 (by decide) (by decide) (by decide) (by decide) ?_
    refine lv_aload_n hx hb dX1_begin_160 rfl (lv_at hl 1 rfl) ?_
    refine lv_bipush (v := 21) hx hb dX1_begin_161 (by decide) ?_
    refine lv_iload_n hx hb dX1_begin_163 rfl (lv_at hl 0 rfl) ?_
    have hPc_28 := hP.sub (ws' := [(k9, .inr (1, [.ref tc, .int (nI zn_2), .int nu, .int ki, .int ce, .int lo])), (tc, .inl (cI, 16, .inl ftn_2))]) [0, 1] rfl
    have hDc_28 := hD.sub (ws' := [(k9, .inr (1, [.ref tc, .int (nI zn_2), .int nu, .int ki, .int ce, .int lo])), (tc, .inl (cI, 16, .inl ftn_2))]) [0, 1] (by decide) rfl
    have hFc_28 := va_free (wc := [(k9, .inr (1, [.ref tc, .int (nI zn_2), .int nu, .int ki, .int ce, .int lo])), (tc, .inl (cI, 16, .inl ftn_2))]) hD hS hA [0, 1] rfl
    refine va_calli (va_runV (As := [.int 21, .int 13]) (rest := []) ⟨hx, hb, hml, hown, hts⟩ (r_X1_begin_13 l dC dI cI cZ cL cJ H.size k9 tc zn_2 nu ki ce lo ftn_2 21 (by omega)) (cwV 2 hts gX1_begin_X1_begin rfl rfl rfl (by decide +kernel) ⟨Nat.le_of_ble_eq_true rfl, Nat.le_of_ble_eq_true rfl⟩) ⟨fun a U g mk q => by obtain ⟨q0, q1, qP, qK, qD, qS⟩ := q; exact ⟨q0, q1, qP, va_K.moved (u := U) (U := U.calling g mk a) (Vm.Alike.refl U.vm) qK, qD, stt_same rfl qS⟩, va_recv hK hP (ci := 1) (q0 := 0) rfl rfl, fun U hU hW => ⟨rfl, by rw [hU], by rw [hU]; exact hPc_28, va_K.moved hW.alike hK, hDc_28.weaken (fun _ _ _ _ => trivial), by rw [hU]; exact stt_warm hW (stt_narrow (stt_kept hst hS.2.1) hFc_28)⟩⟩ rfl rfl hl.1 rfl (lv_room (Nat.le_of_ble_eq_true rfl)) dX1_begin_164 ⟨Nat.le_of_ble_eq_true rfl, Nat.le_of_ble_eq_true rfl⟩) hS (fun q _ h => hFc_28 q h) hFc_28 (fun r_28 u_28 t_28 H1 locs ht hvm h_28 hB hz1 hk1 hS => ?_)
    obtain ⟨zn_28, ftn_28, hP1, hD1, hF_28_0⟩ := hB
    rw [ht] at hP1
    obtain ⟨hP, hD⟩ := va_join (wr := []) (w1 := [(k9, .inr (1, [.ref tc, .int (nI zn_28), .int nu, .int ki, .int ce, .int lo])), (tc, .inl (cI, 16, .inl ftn_28))]) hP hD [0, 1] [] rfl rfl (by decide) (by decide) hk1 hFc_28 hP1 hD1
    generalize H1 = H at hP hS ⊢
    have hP : va_P (dC, dI) vwCl [(k9, .inr (1, [.ref tc, .int (nI zn_28), .int nu, .int ki, .int ce, .int lo])), (tc, .inl (cI, 16, .inl ftn_28))] H := hP
    have hD : va_D A [(k9, .inr (1, [.ref tc, .int (nI zn_28), .int nu, .int ki, .int ce, .int lo])), (tc, .inl (cI, 16, .inl ftn_28))] := hD
    refine lv_sipush (v := 1000) hx hb dX1_begin_167 (by decide) ?_
    refine lv_isub hx hb dX1_begin_170 ?_
    refine lv_topi (fun v_29 e_29 => ?_)
    have hP9 := hP.sub (ws' := [(k9, .inr (1, [.ref tc, .int (nI zn_28), .int nu, .int ki, .int ce, .int lo])), (tc, .inl (cI, 16, .inl ftn_28))]) [0, 1] rfl
    have hD9 := hD.sub (ws' := [(k9, .inr (1, [.ref tc, .int (nI zn_28), .int nu, .int ki, .int ce, .int lo])), (tc, .inl (cI, 16, .inl ftn_28))]) [0, 1] (by decide) rfl
    exact W.iret (v := v_29) hx hb hr (fun t ht hW => ⟨⟨v_29, (), rfl, trivial, ⟨zn_28, ftn_28, by rw [ht]; exact hP9, hD9, (by omega)⟩⟩, hS.F ht⟩) hS.2.2 dX1_begin_171
  by_cases k_30 : x = 23
  · subst k_30
    refine lv_tableIn (off := 154) (tgt := 172) hx hb dX1_begin_18 (by decide) (by decide) (by decide) (by decide) ?_
    refine lv_aload_n hx hb dX1_begin_172 rfl (lv_at hl 1 rfl) ?_
    refine lv_bipush (v := 20) hx hb dX1_begin_173 (by decide) ?_
    refine lv_iload_n hx hb dX1_begin_175 rfl (lv_at hl 0 rfl) ?_
    have hPc_31 := hP.sub (ws' := [(k9, .inr (1, [.ref tc, .int (nI zn_2), .int nu, .int ki, .int ce, .int lo])), (tc, .inl (cI, 16, .inl ftn_2))]) [0, 1] rfl
    have hDc_31 := hD.sub (ws' := [(k9, .inr (1, [.ref tc, .int (nI zn_2), .int nu, .int ki, .int ce, .int lo])), (tc, .inl (cI, 16, .inl ftn_2))]) [0, 1] (by decide) rfl
    have hFc_31 := va_free (wc := [(k9, .inr (1, [.ref tc, .int (nI zn_2), .int nu, .int ki, .int ce, .int lo])), (tc, .inl (cI, 16, .inl ftn_2))]) hD hS hA [0, 1] rfl
    refine va_calli (va_runV (As := [.int 20, .int 13]) (rest := []) ⟨hx, hb, hml, hown, hts⟩ (r_X1_begin_13 l dC dI cI cZ cL cJ H.size k9 tc zn_2 nu ki ce lo ftn_2 20 (by omega)) (cwV 2 hts gX1_begin_X1_begin rfl rfl rfl (by decide +kernel) ⟨Nat.le_of_ble_eq_true rfl, Nat.le_of_ble_eq_true rfl⟩) ⟨fun a U g mk q => by obtain ⟨q0, q1, qP, qK, qD, qS⟩ := q; exact ⟨q0, q1, qP, va_K.moved (u := U) (U := U.calling g mk a) (Vm.Alike.refl U.vm) qK, qD, stt_same rfl qS⟩, va_recv hK hP (ci := 1) (q0 := 0) rfl rfl, fun U hU hW => ⟨rfl, by rw [hU], by rw [hU]; exact hPc_31, va_K.moved hW.alike hK, hDc_31.weaken (fun _ _ _ _ => trivial), by rw [hU]; exact stt_warm hW (stt_narrow (stt_kept hst hS.2.1) hFc_31)⟩⟩ rfl rfl hl.1 rfl (lv_room (Nat.le_of_ble_eq_true rfl)) dX1_begin_176 ⟨Nat.le_of_ble_eq_true rfl, Nat.le_of_ble_eq_true rfl⟩) hS (fun q _ h => hFc_31 q h) hFc_31 (fun r_31 u_31 t_31 H1 locs ht hvm h_31 hB hz1 hk1 hS => ?_)
    obtain ⟨zn_31, ftn_31, hP1, hD1, hF_31_0⟩ := hB
    rw [ht] at hP1
    obtain ⟨hP, hD⟩ := va_join (wr := []) (w1 := [(k9, .inr (1, [.ref tc, .int (nI zn_31), .int nu, .int ki, .int ce, .int lo])), (tc, .inl (cI, 16, .inl ftn_31))]) hP hD [0, 1] [] rfl rfl (by decide) (by decide) hk1 hFc_31 hP1 hD1
    generalize H1 = H at hP hS ⊢
    have hP : va_P (dC, dI) vwCl [(k9, .inr (1, [.ref tc, .int (nI zn_31), .int nu, .int ki, .int ce, .int lo])), (tc, .inl (cI, 16, .inl ftn_31))] H := hP
    have hD : va_D A [(k9, .inr (1, [.ref tc, .int (nI zn_31), .int nu, .int ki, .int ce, .int lo])), (tc, .inl (cI, 16, .inl ftn_31))] := hD
    refine lv_aload_n hx hb dX1_begin_179 rfl (lv_at hl 1 rfl) ?_
    refine lv_iconst (v := 0) hx hb dX1_begin_180 (by decide) ?_
    refine lv_iload_n hx hb dX1_begin_181 rfl (lv_at hl 0 rfl) ?_
    have hPc_32 := hP.sub (ws' := [(k9, .inr (1, [.ref tc, .int (nI zn_31), .int nu, .int ki, .int ce, .int lo])), (tc, .inl (cI, 16, .inl ftn_31))]) [0, 1] rfl
    have hDc_32 := hD.sub (ws' := [(k9, .inr (1, [.ref tc, .int (nI zn_31), .int nu, .int ki, .int ce, .int lo])), (tc, .inl (cI, 16, .inl ftn_31))]) [0, 1] (by decide) rfl
    have hFc_32 := va_free (wc := [(k9, .inr (1, [.ref tc, .int (nI zn_31), .int nu, .int ki, .int ce, .int lo])), (tc, .inl (cI, 16, .inl ftn_31))]) hD hS hA [0, 1] rfl
    refine va_calli (va_runV (As := [.int 0, .int 13]) (rest := [.int r_31]) ⟨hx, hb, hml, hown, hts⟩ (r_X1_askAnew_13 l dC dI cI cZ cL cJ H.size k9 tc zn_31 nu ki ce lo ftn_31 0 (by omega)) (cwV 2 hts gX1_begin_X1_askAnew rfl rfl rfl (by decide +kernel) ⟨Nat.le_of_ble_eq_true rfl, Nat.le_of_ble_eq_true rfl⟩) ⟨fun a U g mk q => by obtain ⟨q0, q1, qP, qK, qD, qS⟩ := q; exact ⟨q0, q1, qP, va_K.moved (u := U) (U := U.calling g mk a) (Vm.Alike.refl U.vm) qK, qD, stt_same rfl qS⟩, va_recv hK hP (ci := 1) (q0 := 0) rfl rfl, fun U hU hW => ⟨rfl, by rw [hU], by rw [hU]; exact hPc_32, va_K.moved hW.alike hK, hDc_32.weaken (fun _ _ _ _ => trivial), by rw [hU]; exact stt_warm hW (stt_narrow (stt_kept hst hS.2.1) hFc_32)⟩⟩ rfl rfl hl.1 rfl (lv_room (Nat.le_of_ble_eq_true rfl)) dX1_begin_182 ⟨Nat.le_of_ble_eq_true rfl, Nat.le_of_ble_eq_true rfl⟩) hS (fun q _ h => hFc_32 q h) hFc_32 (fun r_32 u_32 t_32 H1 locs ht hvm h_32 hB hz1 hk1 hS => ?_)
    obtain ⟨zn_32, ftn_32, hP1, hD1, hF_32_0⟩ := hB
    rw [ht] at hP1
    obtain ⟨hP, hD⟩ := va_join (wr := []) (w1 := [(k9, .inr (1, [.ref tc, .int (nI zn_32), .int nu, .int ki, .int ce, .int lo])), (tc, .inl (cI, 16, .inl ftn_32))]) hP hD [0, 1] [] rfl rfl (by decide) (by decide) hk1 hFc_32 hP1 hD1
    generalize H1 = H at hP hS ⊢
    have hP : va_P (dC, dI) vwCl [(k9, .inr (1, [.ref tc, .int (nI zn_32), .int nu, .int ki, .int ce, .int lo])), (tc, .inl (cI, 16, .inl ftn_32))] H := hP
    have hD : va_D A [(k9, .inr (1, [.ref tc, .int (nI zn_32), .int nu, .int ki, .int ce, .int lo])), (tc, .inl (cI, 16, .inl ftn_32))] := hD
    refine lv_isub hx hb dX1_begin_185 ?_
    refine lv_topi (fun v_33 e_33 => ?_)
    have hP9 := hP.sub (ws' := [(k9, .inr (1, [.ref tc, .int (nI zn_32), .int nu, .int ki, .int ce, .int lo])), (tc, .inl (cI, 16, .inl ftn_32))]) [0, 1] rfl
    have hD9 := hD.sub (ws' := [(k9, .inr (1, [.ref tc, .int (nI zn_32), .int nu, .int ki, .int ce, .int lo])), (tc, .inl (cI, 16, .inl ftn_32))]) [0, 1] (by decide) rfl
    exact W.iret (v := v_33) hx hb hr (fun t ht hW => ⟨⟨v_33, (), rfl, trivial, ⟨zn_32, ftn_32, by rw [ht]; exact hP9, hD9, (by omega)⟩⟩, hS.F ht⟩) hS.2.2 dX1_begin_186
  by_cases k_34 : x = 24
  · subst k_34
    refine lv_tableIn (off := 169) (tgt := 187) hx hb dX1_begin_18 (by decide) (by decide) (by decide) (by decide) ?_
    refine lv_aload_n hx hb dX1_begin_187 rfl (lv_at hl 1 rfl) ?_
    refine lv_bipush (v := 21) hx hb dX1_begin_188 (by decide) ?_
    refine lv_iload_n hx hb dX1_begin_190 rfl (lv_at hl 0 rfl) ?_
    have hPc_35 := hP.sub (ws' := [(k9, .inr (1, [.ref tc, .int (nI zn_2), .int nu, .int ki, .int ce, .int lo])), (tc, .inl (cI, 16, .inl ftn_2))]) [0, 1] rfl
    have hDc_35 := hD.sub (ws' := [(k9, .inr (1, [.ref tc, .int (nI zn_2), .int nu, .int ki, .int ce, .int lo])), (tc, .inl (cI, 16, .inl ftn_2))]) [0, 1] (by decide) rfl
    have hFc_35 := va_free (wc := [(k9, .inr (1, [.ref tc, .int (nI zn_2), .int nu, .int ki, .int ce, .int lo])), (tc, .inl (cI, 16, .inl ftn_2))]) hD hS hA [0, 1] rfl
    refine va_calli (va_runV (As := [.int 21, .int 13]) (rest := []) ⟨hx, hb, hml, hown, hts⟩ (r_X1_begin_13 l dC dI cI cZ cL cJ H.size k9 tc zn_2 nu ki ce lo ftn_2 21 (by omega)) (cwV 2 hts gX1_begin_X1_begin rfl rfl rfl (by decide +kernel) ⟨Nat.le_of_ble_eq_true rfl, Nat.le_of_ble_eq_true rfl⟩) ⟨fun a U g mk q => by obtain ⟨q0, q1, qP, qK, qD, qS⟩ := q; exact ⟨q0, q1, qP, va_K.moved (u := U) (U := U.calling g mk a) (Vm.Alike.refl U.vm) qK, qD, stt_same rfl qS⟩, va_recv hK hP (ci := 1) (q0 := 0) rfl rfl, fun U hU hW => ⟨rfl, by rw [hU], by rw [hU]; exact hPc_35, va_K.moved hW.alike hK, hDc_35.weaken (fun _ _ _ _ => trivial), by rw [hU]; exact stt_warm hW (stt_narrow (stt_kept hst hS.2.1) hFc_35)⟩⟩ rfl rfl hl.1 rfl (lv_room (Nat.le_of_ble_eq_true rfl)) dX1_begin_191 ⟨Nat.le_of_ble_eq_true rfl, Nat.le_of_ble_eq_true rfl⟩) hS (fun q _ h => hFc_35 q h) hFc_35 (fun r_35 u_35 t_35 H1 locs ht hvm h_35 hB hz1 hk1 hS => ?_)
    obtain ⟨zn_35, ftn_35, hP1, hD1, hF_35_0⟩ := hB
    rw [ht] at hP1
    obtain ⟨hP, hD⟩ := va_join (wr := []) (w1 := [(k9, .inr (1, [.ref tc, .int (nI zn_35), .int nu, .int ki, .int ce, .int lo])), (tc, .inl (cI, 16, .inl ftn_35))]) hP hD [0, 1] [] rfl rfl (by decide) (by decide) hk1 hFc_35 hP1 hD1
    generalize H1 = H at hP hS ⊢
    have hP : va_P (dC, dI) vwCl [(k9, .inr (1, [.ref tc, .int (nI zn_35), .int nu, .int ki, .int ce, .int lo])), (tc, .inl (cI, 16, .inl ftn_35))] H := hP
    have hD : va_D A [(k9, .inr (1, [.ref tc, .int (nI zn_35), .int nu, .int ki, .int ce, .int lo])), (tc, .inl (cI, 16, .inl ftn_35))] := hD
    refine lv_iconst (v := 2) hx hb dX1_begin_194 (by decide) ?_
    refine lv_imul hx hb dX1_begin_195 ?_
    refine lv_topi (fun v_36 e_36 => ?_)
    have hP9 := hP.sub (ws' := [(k9, .inr (1, [.ref tc, .int (nI zn_35), .int nu, .int ki, .int ce, .int lo])), (tc, .inl (cI, 16, .inl ftn_35))]) [0, 1] rfl
    have hD9 := hD.sub (ws' := [(k9, .inr (1, [.ref tc, .int (nI zn_35), .int nu, .int ki, .int ce, .int lo])), (tc, .inl (cI, 16, .inl ftn_35))]) [0, 1] (by decide) rfl
    exact W.iret (v := v_36) hx hb hr (fun t ht hW => ⟨⟨v_36, (), rfl, trivial, ⟨zn_35, ftn_35, by rw [ht]; exact hP9, hD9, (by omega)⟩⟩, hS.F ht⟩) hS.2.2 dX1_begin_196
  have kT_4 := lv_neT k_4 (show (10 : Int32).toInt = 10 from rfl)
  have kT_5 := lv_neT k_5 (show (11 : Int32).toInt = 11 from rfl)
  have kT_9 := lv_neT k_9 (show (12 : Int32).toInt = 12 from rfl)
  have kT_12 := lv_neT k_12 (show (13 : Int32).toInt = 13 from rfl)
  have kT_15 := lv_neT k_15 (show (14 : Int32).toInt = 14 from rfl)
  have kT_18 := lv_neT k_18 (show (15 : Int32).toInt = 15 from rfl)
  have kT_19 := lv_neT k_19 (show (16 : Int32).toInt = 16 from rfl)
  have kT_20 := lv_neT k_20 (show (17 : Int32).toInt = 17 from rfl)
  have kT_21 := lv_neT k_21 (show (18 : Int32).toInt = 18 from rfl)
  have kT_22 := lv_neT k_22 (show (19 : Int32).toInt = 19 from rfl)
  have kT_23 := lv_neT k_23 (show (20 : Int32).toInt = 20 from rfl)
  have kT_24 := lv_neT k_24 (show (21 : Int32).toInt = 21 from rfl)
  have kT_27 := lv_neT k_27 (show (22 : Int32).toInt = 22 from rfl)
  have kT_30 := lv_neT k_30 (show (23 : Int32).toInt = 23 from rfl)
  have kT_34 := lv_neT k_34 (show (24 : Int32).toInt = 24 from rfl)
  refine lv_tableOut (tgt := 197) hx hb dX1_begin_18 (by omega) (by decide) ?_
  refine lv_iconst (v := 0) hx hb dX1_begin_197 (by decide) ?_
  have hP9 := hP.sub (ws' := [(k9, .inr (1, [.ref tc, .int (nI zn_2), .int nu, .int ki, .int ce, .int lo])), (tc, .inl (cI, 16, .inl ftn_2))]) [0, 1] rfl
  have hD9 := hD.sub (ws' := [(k9, .inr (1, [.ref tc, .int (nI zn_2), .int nu, .int ki, .int ce, .int lo])), (tc, .inl (cI, 16, .inl ftn_2))]) [0, 1] (by decide) rfl
  exact W.iret (v := 0) hx hb hr (fun t ht hW => ⟨⟨0, (), rfl, trivial, ⟨zn_2, ftn_2, by rw [ht]; exact hP9, hD9, (by omega)⟩⟩, hS.F ht⟩) hS.2.2 dX1_begin_198
set_option maxHeartbeats 4000000 in
set_option maxRecDepth 100000 in
theorem r_X1_askAnew_12 (l : Launch) (dC : Nat → ClassId) (dI : Nat → Nat → Nat) (cI cZ cL cJ : ClassId) (sz : Nat) (k9 : Nat) (tc : Nat) (z : Nat) (nu : Int32) (ki : Int32) (ce : Int32) (lo : Int32) (ft : Nat → Int32) (x : Int32) (hz : z ≤ 16) : Met l yX1_askAnew wsX1_askAnew ({ frames := 9, cells := 0, slots := 0, locals := 204 }) (va_Pc [.ref k9, .int x, .int 12] (fun U => U.heap.size = sz ∧ va_P (dC, dI) vwCl [(k9, .inr (1, [.ref tc, .int (nI z), .int nu, .int ki, .int ce, .int lo])), (tc, .inl (cI, 16, .inl ft))] U.heap ∧ va_K (dC, dI) vwCl [(cI, .int), (cZ, .boolean), (cL, .object RX3), (cJ, .array .int)] U ∧ va_D (fun _ => True) [(k9, .inr (1, [.ref tc, .int (nI z), .int nu, .int ki, .int ce, .int lo])), (tc, .inl (cI, 16, .inl ft))] ∧ stt (va_A [(k9, .inr (1, [.ref tc, .int (nI z), .int nu, .int ki, .int ce, .int lo])), (tc, .inl (cI, 16, .inl ft))] sz) U U.heap)) (va_Qi (fun r (_ : Unit) => True) (fun (_ : Unit) t => ∃ (zn : Nat) (ftn : Nat → Int32), va_P (dC, dI) vwCl [(k9, .inr (1, [.ref tc, .int (nI zn), .int nu, .int ki, .int ce, .int lo])), (tc, .inl (cI, 16, .inl ftn))] t.heap ∧ va_D (va_A [(k9, .inr (1, [.ref tc, .int (nI z), .int nu, .int ki, .int ce, .int lo])), (tc, .inl (cI, 16, .inl ft))] sz) [(k9, .inr (1, [.ref tc, .int (nI zn), .int nu, .int ki, .int ce, .int lo])), (tc, .inl (cI, 16, .inl ftn))] ∧ zn ≤ 16) (va_A [(k9, .inr (1, [.ref tc, .int (nI z), .int nu, .int ki, .int ce, .int lo])), (tc, .inl (cI, 16, .inl ft))] sz)) 0 0 (va_A [(k9, .inr (1, [.ref tc, .int (nI z), .int nu, .int ki, .int ce, .int lo])), (tc, .inl (cI, 16, .inl ft))] sz) := by
  refine Met.ofW (cc := cX1_askAnew) (maxL := 3) (ret := (some .int)) (by decide) rfl ?_
  intro p e s m args below meth c s₁ B hml hv
  obtain ⟨rfl, hsz, hP, hK, hD0, hst⟩ := hv
  have hx := B.exec
  have hb := B.bytes
  have hr := B.returns
  have hts := atoms_spec (ws := wsX1_askAnew) B.pre
  have hown : s.vm.findClass RX1 = some m.cls := findClass_of_methodNamed B.named
  have hlocks := B.notSynchronized
  subst hsz
  have hD := hD0.self (sz := s.heap.size)
  generalize hAe : va_A [(k9, .inr (1, [.ref tc, .int (nI z), .int nu, .int ki, .int ce, .int lo])), (tc, .inl (cI, 16, .inl ft))] s.heap.size = A at hD hst ⊢
  have hA : ∀ q : Nat, s.heap.size ≤ q → A q := fun q h => by rw [← hAe]; exact Or.inr h
  have hS : va_S A s.heap s.heap [] := va_S.rf
  have hP : va_P (dC, dI) vwCl [(k9, .inr (1, [.ref tc, .int (nI z), .int nu, .int ki, .int ce, .int lo])), (tc, .inl (cI, 16, .inl ft))] s.heap := hP
  obtain ⟨⟨tb1, hZ1, hT1⟩, ⟨tb2, hZ2, hT2⟩, ⟨tb3, hZ3, hT3⟩, hNk⟩ := id hst
  have hl := lv_entry ([.ref k9, .int x, .int 12]) (n := 3) (Nat.le_of_ble_eq_true rfl)
  rw [lg_entry_eq]
  generalize (lg_sl ([.ref k9, .int x, .int 12]) ++ List.replicate (3 - (lg_sl ([.ref k9, .int x, .int 12])).length) Slot.unset).toArray = ls at hl ⊢
  have hl : lv_has ls 3 [(0, .ref k9), (1, .int x), (2, .int 12)] := hl
  refine lv_aload_n hx hb dX1_askAnew_0 rfl (lv_at hl 0 rfl) ?_
  refine lv_aload_n hx hb dX1_askAnew_1 rfl (lv_at hl 0 rfl) ?_
  refine lv_iload_n hx hb dX1_askAnew_2 rfl (lv_at hl 1 rfl) ?_
  have hPc_1 := hP.sub (ws' := [(k9, .inr (1, [.ref tc, .int (nI z), .int nu, .int ki, .int ce, .int lo]))]) [0] rfl
  refine vp_callSi (W.runV (As := [.int x]) (rest := [.ref k9]) ⟨hx, hb, hml, hown, hts⟩ (r_X1_bodyFor l dC dI cI cZ cL cJ k9 tc z nu ki ce lo x ) (cwV 1 hts gX1_askAnew_X1_bodyFor rfl rfl rfl (by decide +kernel) ⟨Nat.le_of_ble_eq_true rfl, Nat.le_of_ble_eq_true rfl⟩) ⟨fun a U g mk q => by obtain ⟨q0, qP, qK, qS⟩ := q; exact ⟨q0, qP, va_K.moved (u := U) (U := U.calling g mk a) (Vm.Alike.refl U.vm) qK, stt_same rfl qS⟩, va_recv hK hP (ci := 1) (q0 := 0) rfl rfl, fun U hU hW => ⟨rfl, by rw [hU]; exact hPc_1, va_K.moved hW.alike hK, by rw [hU]; exact stt_warm hW (stt_narrow (stt_kept hst hS.2.1) (fun _ h => h.elim))⟩⟩ rfl rfl hl.1 rfl (lv_room (Nat.le_of_ble_eq_true rfl)) dX1_askAnew_3 ⟨Nat.le_of_ble_eq_true rfl, Nat.le_of_ble_eq_true rfl⟩) (fun r_1 h_1 => ?_)
  refine lv_iload_n hx hb dX1_askAnew_6 rfl (lv_at hl 2 rfl) ?_
  have hPc_2 := hP.sub (ws' := [(k9, .inr (1, [.ref tc, .int (nI z), .int nu, .int ki, .int ce, .int lo])), (tc, .inl (cI, 16, .inl ft))]) [0, 1] rfl
  have hDc_2 := hD.sub (ws' := [(k9, .inr (1, [.ref tc, .int (nI z), .int nu, .int ki, .int ce, .int lo])), (tc, .inl (cI, 16, .inl ft))]) [0, 1] (by decide) rfl
  have hFc_2 := va_free (wc := [(k9, .inr (1, [.ref tc, .int (nI z), .int nu, .int ki, .int ce, .int lo])), (tc, .inl (cI, 16, .inl ft))]) hD hS hA [0, 1] rfl
  refine va_calli (va_runV (As := [.int r_1, .int 12]) (rest := []) ⟨hx, hb, hml, hown, hts⟩ (r_X1_begin_12 l dC dI cI cZ cL cJ s.heap.size k9 tc z nu ki ce lo ft r_1 (by omega)) (cwV 2 hts gX1_askAnew_X1_begin rfl rfl rfl (by decide +kernel) ⟨Nat.le_of_ble_eq_true rfl, Nat.le_of_ble_eq_true rfl⟩) ⟨fun a U g mk q => by obtain ⟨q0, q1, qP, qK, qD, qS⟩ := q; exact ⟨q0, q1, qP, va_K.moved (u := U) (U := U.calling g mk a) (Vm.Alike.refl U.vm) qK, qD, stt_same rfl qS⟩, va_recv hK hP (ci := 1) (q0 := 0) rfl rfl, fun U hU hW => ⟨rfl, by rw [hU], by rw [hU]; exact hPc_2, va_K.moved hW.alike hK, hDc_2.weaken (fun _ _ _ _ => trivial), by rw [hU]; exact stt_warm hW (stt_narrow (stt_kept hst hS.2.1) hFc_2)⟩⟩ rfl rfl hl.1 rfl (lv_room (Nat.le_of_ble_eq_true rfl)) dX1_askAnew_7 ⟨Nat.le_of_ble_eq_true rfl, Nat.le_of_ble_eq_true rfl⟩) hS (fun q _ h => hFc_2 q h) hFc_2 (fun r_2 u_2 t_2 H1 locs ht hvm h_2 hB hz1 hk1 hS => ?_)
  obtain ⟨zn_2, ftn_2, hP1, hD1, hF_2_0⟩ := hB
  rw [ht] at hP1
  obtain ⟨hP, hD⟩ := va_join (wr := []) (w1 := [(k9, .inr (1, [.ref tc, .int (nI zn_2), .int nu, .int ki, .int ce, .int lo])), (tc, .inl (cI, 16, .inl ftn_2))]) hP hD [0, 1] [] rfl rfl (by decide) (by decide) hk1 hFc_2 hP1 hD1
  generalize H1 = H at hP hS ⊢
  have hP : va_P (dC, dI) vwCl [(k9, .inr (1, [.ref tc, .int (nI zn_2), .int nu, .int ki, .int ce, .int lo])), (tc, .inl (cI, 16, .inl ftn_2))] H := hP
  have hD : va_D A [(k9, .inr (1, [.ref tc, .int (nI zn_2), .int nu, .int ki, .int ce, .int lo])), (tc, .inl (cI, 16, .inl ftn_2))] := hD
  have hP9 := hP.sub (ws' := [(k9, .inr (1, [.ref tc, .int (nI zn_2), .int nu, .int ki, .int ce, .int lo])), (tc, .inl (cI, 16, .inl ftn_2))]) [0, 1] rfl
  have hD9 := hD.sub (ws' := [(k9, .inr (1, [.ref tc, .int (nI zn_2), .int nu, .int ki, .int ce, .int lo])), (tc, .inl (cI, 16, .inl ftn_2))]) [0, 1] (by decide) rfl
  exact W.iret (v := r_2) hx hb hr (fun t ht hW => ⟨⟨r_2, (), rfl, trivial, ⟨zn_2, ftn_2, by rw [ht]; exact hP9, hD9, (by omega)⟩⟩, hS.F ht⟩) hS.2.2 dX1_askAnew_10
set_option maxHeartbeats 4000000 in
set_option maxRecDepth 100000 in
theorem r_X1_begin_11 (l : Launch) (dC : Nat → ClassId) (dI : Nat → Nat → Nat) (cI cZ cL cJ : ClassId) (sz : Nat) (k9 : Nat) (tc : Nat) (z : Nat) (nu : Int32) (ki : Int32) (ce : Int32) (lo : Int32) (ft : Nat → Int32) (x : Int32) (hz : z ≤ 16) : Met l yX1_begin wsX1_begin ({ frames := 10, cells := 0, slots := 0, locals := 226 }) (va_Pc [.ref k9, .int x, .int 11] (fun U => U.heap.size = sz ∧ va_P (dC, dI) vwCl [(k9, .inr (1, [.ref tc, .int (nI z), .int nu, .int ki, .int ce, .int lo])), (tc, .inl (cI, 16, .inl ft))] U.heap ∧ va_K (dC, dI) vwCl [(cI, .int), (cZ, .boolean), (cL, .object RX3), (cJ, .array .int)] U ∧ va_D (fun _ => True) [(k9, .inr (1, [.ref tc, .int (nI z), .int nu, .int ki, .int ce, .int lo])), (tc, .inl (cI, 16, .inl ft))] ∧ stt (va_A [(k9, .inr (1, [.ref tc, .int (nI z), .int nu, .int ki, .int ce, .int lo])), (tc, .inl (cI, 16, .inl ft))] sz) U U.heap)) (va_Qi (fun r (_ : Unit) => True) (fun (_ : Unit) t => ∃ (zn : Nat) (ftn : Nat → Int32), va_P (dC, dI) vwCl [(k9, .inr (1, [.ref tc, .int (nI zn), .int nu, .int ki, .int ce, .int lo])), (tc, .inl (cI, 16, .inl ftn))] t.heap ∧ va_D (va_A [(k9, .inr (1, [.ref tc, .int (nI z), .int nu, .int ki, .int ce, .int lo])), (tc, .inl (cI, 16, .inl ft))] sz) [(k9, .inr (1, [.ref tc, .int (nI zn), .int nu, .int ki, .int ce, .int lo])), (tc, .inl (cI, 16, .inl ftn))] ∧ zn ≤ 16) (va_A [(k9, .inr (1, [.ref tc, .int (nI z), .int nu, .int ki, .int ce, .int lo])), (tc, .inl (cI, 16, .inl ft))] sz)) 0 0 (va_A [(k9, .inr (1, [.ref tc, .int (nI z), .int nu, .int ki, .int ce, .int lo])), (tc, .inl (cI, 16, .inl ft))] sz) := by
  refine Met.ofW (cc := cX1_begin) (maxL := 4) (ret := (some .int)) (by decide) rfl ?_
  intro p e s m args below meth c s₁ B hml hv
  obtain ⟨rfl, hsz, hP, hK, hD0, hst⟩ := hv
  have hx := B.exec
  have hb := B.bytes
  have hr := B.returns
  have hts := atoms_spec (ws := wsX1_begin) B.pre
  have hown : s.vm.findClass RX1 = some m.cls := findClass_of_methodNamed B.named
  have hlocks := B.notSynchronized
  subst hsz
  have hD := hD0.self (sz := s.heap.size)
  generalize hAe : va_A [(k9, .inr (1, [.ref tc, .int (nI z), .int nu, .int ki, .int ce, .int lo])), (tc, .inl (cI, 16, .inl ft))] s.heap.size = A at hD hst ⊢
  have hA : ∀ q : Nat, s.heap.size ≤ q → A q := fun q h => by rw [← hAe]; exact Or.inr h
  have hS : va_S A s.heap s.heap [] := va_S.rf
  have hP : va_P (dC, dI) vwCl [(k9, .inr (1, [.ref tc, .int (nI z), .int nu, .int ki, .int ce, .int lo])), (tc, .inl (cI, 16, .inl ft))] s.heap := hP
  obtain ⟨⟨tb1, hZ1, hT1⟩, ⟨tb2, hZ2, hT2⟩, ⟨tb3, hZ3, hT3⟩, hNk⟩ := id hst
  have hl := lv_entry ([.ref k9, .int x, .int 11]) (n := 4) (Nat.le_of_ble_eq_true rfl)
  rw [lg_entry_eq]
  generalize (lg_sl ([.ref k9, .int x, .int 11]) ++ List.replicate (4 - (lg_sl ([.ref k9, .int x, .int 11])).length) Slot.unset).toArray = ls at hl ⊢
  have hl : lv_has ls 4 [(0, .ref k9), (1, .int x), (2, .int 11)] := hl
  refine lv_iload_n hx hb dX1_begin_0 rfl (lv_at hl 2 rfl) ?_
  refine lv_bipush (v := 16) hx hb dX1_begin_1 (by decide) ?_
  refine lv_icmp_lt (tgt := 8) hx hb dX1_begin_3 (by decide) (fun _ => ?_) (fun c_ => absurd (by decide) c_)
  refine lv_aload_n hx hb dX1_begin_8 rfl (lv_at hl 0 rfl) ?_
  refine lv_iload_n hx hb dX1_begin_9 rfl (lv_at hl 1 rfl) ?_
  have hPc_2 := hP.sub (ws' := [(k9, .inr (1, [.ref tc, .int (nI z), .int nu, .int ki, .int ce, .int lo])), (tc, .inl (cI, 16, .inl ft))]) [0, 1] rfl
  have hDc_2 := hD.sub (ws' := [(k9, .inr (1, [.ref tc, .int (nI z), .int nu, .int ki, .int ce, .int lo])), (tc, .inl (cI, 16, .inl ft))]) [0, 1] (by decide) rfl
  have hFc_2 := va_free (wc := [(k9, .inr (1, [.ref tc, .int (nI z), .int nu, .int ki, .int ce, .int lo])), (tc, .inl (cI, 16, .inl ft))]) hD hS hA [0, 1] rfl
  refine va_callv (va_runV (As := [.int x]) (rest := []) ⟨hx, hb, hml, hown, hts⟩ (r_X1_leave l dC dI cI cZ cL cJ s.heap.size k9 tc z nu ki ce lo ft x (by omega)) (cwV 1 hts gX1_begin_X1_leave rfl rfl rfl (by decide +kernel) ⟨Nat.le_of_ble_eq_true rfl, Nat.le_of_ble_eq_true rfl⟩) ⟨fun a U g mk q => by obtain ⟨q0, q1, qP, qK, qD⟩ := q; exact ⟨q0, q1, qP, va_K.moved (u := U) (U := U.calling g mk a) (Vm.Alike.refl U.vm) qK, qD⟩, va_recv hK hP (ci := 1) (q0 := 0) rfl rfl, fun U hU hW => ⟨rfl, by rw [hU], by rw [hU]; exact hPc_2, va_K.moved hW.alike hK, hDc_2.weaken (fun _ _ _ _ => trivial)⟩⟩ rfl rfl hl.1 rfl (lv_room (Nat.le_of_ble_eq_true rfl)) dX1_begin_10 ⟨Nat.le_of_ble_eq_true rfl, Nat.le_of_ble_eq_true rfl⟩) hS (fun q _ h => hFc_2 q h) hFc_2 (fun u_2 t_2 H1 locs ht hvm h_2 hB hz1 hk1 hS => ?_)
  obtain ⟨zn_2, ftn_2, hP1, hD1, hF_2_0⟩ := hB
  rw [ht] at hP1
  obtain ⟨hP, hD⟩ := va_join (wr := []) (w1 := [(k9, .inr (1, [.ref tc, .int (nI zn_2), .int nu, .int ki, .int ce, .int lo])), (tc, .inl (cI, 16, .inl ftn_2))]) hP hD [0, 1] [] rfl rfl (by decide) (by decide) hk1 hFc_2 hP1 hD1
  generalize H1 = H at hP hS ⊢
  have hP : va_P (dC, dI) vwCl [(k9, .inr (1, [.ref tc, .int (nI zn_2), .int nu, .int ki, .int ce, .int lo])), (tc, .inl (cI, 16, .inl ftn_2))] H := hP
  have hD : va_D A [(k9, .inr (1, [.ref tc, .int (nI zn_2), .int nu, .int ki, .int ce, .int lo])), (tc, .inl (cI, 16, .inl ftn_2))] := hD
  refine lv_iload_n hx hb dX1_begin_13 rfl (lv_at hl 2 rfl) ?_
  refine lv_iconst (v := 1) hx hb dX1_begin_14 (by decide) ?_
  refine lv_iadd hx hb dX1_begin_15 ?_
  refine lv_topi (fun v_3 e_3 => ?_)
  obtain rfl : v_3 = 12 := (e_3).trans (by decide)
  refine lv_istore_n (lv' := [(3, .int 12), (0, .ref k9), (1, .int x), (2, .int 11)]) hx hb dX1_begin_16 rfl hl (by decide) rfl (fun ls hl => ?_)
  refine lv_iload_n hx hb dX1_begin_17 rfl (lv_at hl 2 rfl) ?_
  by_cases k_4 : x = 10
  · subst k_4
    refine lv_tableIn (off := 74) (tgt := 92) hx hb dX1_begin_18 (by decide) (by decide) (by decide) (by decide) ?_
    refine lv_aload_n hx hb dX1_begin_92 rfl (lv_at hl 1 rfl) ?_
    refine va_get (D := (dC, dI)) (ci := 1) (v := .int lo) (C := RX1) (T := TX1) (N := 6) hx hb hts i_X1_begin_X1 hown hK hP 0 rfl rfl 5 (by decide) (hts (.fieldLink RX1 39 "MillTalk$Asks" "loud" "I") (by decide +kernel)) (fun _ h9 => h9) rfl dX1_begin_93 ?_
    have hP9 := hP.sub (ws' := [(k9, .inr (1, [.ref tc, .int (nI zn_2), .int nu, .int ki, .int ce, .int lo])), (tc, .inl (cI, 16, .inl ftn_2))]) [0, 1] rfl
    have hD9 := hD.sub (ws' := [(k9, .inr (1, [.ref tc, .int (nI zn_2), .int nu, .int ki, .int ce, .int lo])), (tc, .inl (cI, 16, .inl ftn_2))]) [0, 1] (by decide) rfl
    exact W.iret (v := lo) hx hb hr (fun t ht hW => ⟨⟨lo, (), rfl, trivial, ⟨zn_2, ftn_2, by rw [ht]; exact hP9, hD9, (by omega)⟩⟩, hS.F ht⟩) hS.2.2 dX1_begin_96
  by_cases k_5 : x = 11
  · subst k_5
    refine lv_tableIn (off := 79) (tgt := 97) hx hb dX1_begin_18 (by decide) (by decide) (by decide) (by decide) ?_
    refine lv_aload_n hx hb dX1_begin_97 rfl (lv_at hl 1 rfl) ?_
    refine lv_bipush (v := 10) hx hb dX1_begin_98 (by decide) ?_
    refine lv_iload_n hx hb dX1_begin_100 rfl (lv_at hl 0 rfl) ?_
    have hPc_6 := hP.sub (ws' := [(k9, .inr (1, [.ref tc, .int (nI zn_2), .int nu, .int ki, .int ce, .int lo])), (tc, .inl (cI, 16, .inl ftn_2))]) [0, 1] rfl
    have hDc_6 := hD.sub (ws' := [(k9, .inr (1, [.ref tc, .int (nI zn_2), .int nu, .int ki, .int ce, .int lo])), (tc, .inl (cI, 16, .inl ftn_2))]) [0, 1] (by decide) rfl
    have hFc_6 := va_free (wc := [(k9, .inr (1, [.ref tc, .int (nI zn_2), .int nu, .int ki, .int ce, .int lo])), (tc, .inl (cI, 16, .inl ftn_2))]) hD hS hA [0, 1] rfl
    refine va_calli (va_runV (As := [.int 10, .int 12]) (rest := []) ⟨hx, hb, hml, hown, hts⟩ (r_X1_begin_12 l dC dI cI cZ cL cJ H.size k9 tc zn_2 nu ki ce lo ftn_2 10 (by omega)) (cwV 2 hts gX1_begin_X1_begin rfl rfl rfl (by decide +kernel) ⟨Nat.le_of_ble_eq_true rfl, Nat.le_of_ble_eq_true rfl⟩) ⟨fun a U g mk q => by obtain ⟨q0, q1, qP, qK, qD, qS⟩ := q; exact ⟨q0, q1, qP, va_K.moved (u := U) (U := U.calling g mk a) (Vm.Alike.refl U.vm) qK, qD, stt_same rfl qS⟩, va_recv hK hP (ci := 1) (q0 := 0) rfl rfl, fun U hU hW => ⟨rfl, by rw [hU], by rw [hU]; exact hPc_6, va_K.moved hW.alike hK, hDc_6.weaken (fun _ _ _ _ => trivial), by rw [hU]; exact stt_warm hW (stt_narrow (stt_kept hst hS.2.1) hFc_6)⟩⟩ rfl rfl hl.1 rfl (lv_room (Nat.le_of_ble_eq_true rfl)) dX1_begin_101 ⟨Nat.le_of_ble_eq_true rfl, Nat.le_of_ble_eq_true rfl⟩) hS (fun q _ h => hFc_6 q h) hFc_6 (fun r_6 u_6 t_6 H1 locs ht hvm h_6 hB hz1 hk1 hS => ?_)
    obtain ⟨zn_6, ftn_6, hP1, hD1, hF_6_0⟩ := hB
    rw [ht] at hP1
    obtain ⟨hP, hD⟩ := va_join (wr := []) (w1 := [(k9, .inr (1, [.ref tc, .int (nI zn_6), .int nu, .int ki, .int ce, .int lo])), (tc, .inl (cI, 16, .inl ftn_6))]) hP hD [0, 1] [] rfl rfl (by decide) (by decide) hk1 hFc_6 hP1 hD1
    generalize H1 = H at hP hS ⊢
    have hP : va_P (dC, dI) vwCl [(k9, .inr (1, [.ref tc, .int (nI zn_6), .int nu, .int ki, .int ce, .int lo])), (tc, .inl (cI, 16, .inl ftn_6))] H := hP
    have hD : va_D A [(k9, .inr (1, [.ref tc, .int (nI zn_6), .int nu, .int ki, .int ce, .int lo])), (tc, .inl (cI, 16, .inl ftn_6))] := hD
    refine lv_aload_n hx hb dX1_begin_104 rfl (lv_at hl 1 rfl) ?_
    refine lv_iconst (v := 1) hx hb dX1_begin_105 (by decide) ?_
    refine lv_iload_n hx hb dX1_begin_106 rfl (lv_at hl 0 rfl) ?_
    have hPc_7 := hP.sub (ws' := [(k9, .inr (1, [.ref tc, .int (nI zn_6), .int nu, .int ki, .int ce, .int lo])), (tc, .inl (cI, 16, .inl ftn_6))]) [0, 1] rfl
    have hDc_7 := hD.sub (ws' := [(k9, .inr (1, [.ref tc, .int (nI zn_6), .int nu, .int ki, .int ce, .int lo])), (tc, .inl (cI, 16, .inl ftn_6))]) [0, 1] (by decide) rfl
    have hFc_7 := va_free (wc := [(k9, .inr (1, [.ref tc, .int (nI zn_6), .int nu, .int ki, .int ce, .int lo])), (tc, .inl (cI, 16, .inl ftn_6))]) hD hS hA [0, 1] rfl
    refine va_calli (va_runV (As := [.int 1, .int 12]) (rest := [.int r_6]) ⟨hx, hb, hml, hown, hts⟩ (r_X1_askAnew_12 l dC dI cI cZ cL cJ H.size k9 tc zn_6 nu ki ce lo ftn_6 1 (by omega)) (cwV 2 hts gX1_begin_X1_askAnew rfl rfl rfl (by decide +kernel) ⟨Nat.le_of_ble_eq_true rfl, Nat.le_of_ble_eq_true rfl⟩) ⟨fun a U g mk q => by obtain ⟨q0, q1, qP, qK, qD, qS⟩ := q; exact ⟨q0, q1, qP, va_K.moved (u := U) (U := U.calling g mk a) (Vm.Alike.refl U.vm) qK, qD, stt_same rfl qS⟩, va_recv hK hP (ci := 1) (q0 := 0) rfl rfl, fun U hU hW => ⟨rfl, by rw [hU], by rw [hU]; exact hPc_7, va_K.moved hW.alike hK, hDc_7.weaken (fun _ _ _ _ => trivial), by rw [hU]; exact stt_warm hW (stt_narrow (stt_kept hst hS.2.1) hFc_7)⟩⟩ rfl rfl hl.1 rfl (lv_room (Nat.le_of_ble_eq_true rfl)) dX1_begin_107 ⟨Nat.le_of_ble_eq_true rfl, Nat.le_of_ble_eq_true rfl⟩) hS (fun q _ h => hFc_7 q h) hFc_7 (fun r_7 u_7 t_7 H1 locs ht hvm h_7 hB hz1 hk1 hS => ?_)
    obtain ⟨zn_7, ftn_7, hP1, hD1, hF_7_0⟩ := hB
    rw [ht] at hP1
    obtain ⟨hP, hD⟩ := va_join (wr := []) (w1 := [(k9, .inr (1, [.ref tc, .int (nI zn_7), .int nu, .int ki, .int ce, .int lo])), (tc, .inl (cI, 16, .inl ftn_7))]) hP hD [0, 1] [] rfl rfl (by decide) (by decide) hk1 hFc_7 hP1 hD1
    generalize H1 = H at hP hS ⊢
    have hP : va_P (dC, dI) vwCl [(k9, .inr (1, [.ref tc, .int (nI zn_7), .int nu, .int ki, .int ce, .int lo])), (tc, .inl (cI, 16, .inl ftn_7))] H := hP
    have hD : va_D A [(k9, .inr (1, [.ref tc, .int (nI zn_7), .int nu, .int ki, .int ce, .int lo])), (tc, .inl (cI, 16, .inl ftn_7))] := hD
    refine lv_iadd hx hb dX1_begin_110 ?_
    refine lv_topi (fun v_8 e_8 => ?_)
    have hP9 := hP.sub (ws' := [(k9, .inr (1, [.ref tc, .int (nI zn_7), .int nu, .int ki, .int ce, .int lo])), (tc, .inl (cI, 16, .inl ftn_7))]) [0, 1] rfl
    have hD9 := hD.sub (ws' := [(k9, .inr (1, [.ref tc, .int (nI zn_7), .int nu, .int ki, .int ce, .int lo])), (tc, .inl (cI, 16, .inl ftn_7))]) [0, 1] (by decide) rfl
    exact W.iret (v := v_8) hx hb hr (fun t ht hW => ⟨⟨v_8, (), rfl, trivial, ⟨zn_7, ftn_7, by rw [ht]; exact hP9, hD9, (by omega)⟩⟩, hS.F ht⟩) hS.2.2 dX1_begin_111
  by_cases k_9 : x = 12
  · subst k_9
    refine lv_tableIn (off := 94) (tgt := 112) hx hb dX1_begin_18 (by decide) (by decide) (by decide) (by decide) ?_
    refine lv_aload_n hx hb dX1_begin_112 rfl (lv_at hl 1 rfl) ?_
    refine lv_bipush (v := 11) hx hb dX1_begin_113 (by decide) ?_
    refine lv_iload_n hx hb dX1_begin_115 rfl (lv_at hl 0 rfl) ?_
    have hPc_10 := hP.sub (ws' := [(k9, .inr (1, [.ref tc, .int (nI zn_2), .int nu, .int ki, .int ce, .int lo])), (tc, .inl (cI, 16, .inl ftn_2))]) [0, 1] rfl
    have hDc_10 := hD.sub (ws' := [(k9, .inr (1, [.ref tc, .int (nI zn_2), .int nu, .int ki, .int ce, .int lo])), (tc, .inl (cI, 16, .inl ftn_2))]) [0, 1] (by decide) rfl
    have hFc_10 := va_free (wc := [(k9, .inr (1, [.ref tc, .int (nI zn_2), .int nu, .int ki, .int ce, .int lo])), (tc, .inl (cI, 16, .inl ftn_2))]) hD hS hA [0, 1] rfl
    refine va_calli (va_runV (As := [.int 11, .int 12]) (rest := []) ⟨hx, hb, hml, hown, hts⟩ (r_X1_begin_12 l dC dI cI cZ cL cJ H.size k9 tc zn_2 nu ki ce lo ftn_2 11 (by omega)) (cwV 2 hts gX1_begin_X1_begin rfl rfl rfl (by decide +kernel) ⟨Nat.le_of_ble_eq_true rfl, Nat.le_of_ble_eq_true rfl⟩) ⟨fun a U g mk q => by obtain ⟨q0, q1, qP, qK, qD, qS⟩ := q; exact ⟨q0, q1, qP, va_K.moved (u := U) (U := U.calling g mk a) (Vm.Alike.refl U.vm) qK, qD, stt_same rfl qS⟩, va_recv hK hP (ci := 1) (q0 := 0) rfl rfl, fun U hU hW => ⟨rfl, by rw [hU], by rw [hU]; exact hPc_10, va_K.moved hW.alike hK, hDc_10.weaken (fun _ _ _ _ => trivial), by rw [hU]; exact stt_warm hW (stt_narrow (stt_kept hst hS.2.1) hFc_10)⟩⟩ rfl rfl hl.1 rfl (lv_room (Nat.le_of_ble_eq_true rfl)) dX1_begin_116 ⟨Nat.le_of_ble_eq_true rfl, Nat.le_of_ble_eq_true rfl⟩) hS (fun q _ h => hFc_10 q h) hFc_10 (fun r_10 u_10 t_10 H1 locs ht hvm h_10 hB hz1 hk1 hS => ?_)
    obtain ⟨zn_10, ftn_10, hP1, hD1, hF_10_0⟩ := hB
    rw [ht] at hP1
    obtain ⟨hP, hD⟩ := va_join (wr := []) (w1 := [(k9, .inr (1, [.ref tc, .int (nI zn_10), .int nu, .int ki, .int ce, .int lo])), (tc, .inl (cI, 16, .inl ftn_10))]) hP hD [0, 1] [] rfl rfl (by decide) (by decide) hk1 hFc_10 hP1 hD1
    generalize H1 = H at hP hS ⊢
    have hP : va_P (dC, dI) vwCl [(k9, .inr (1, [.ref tc, .int (nI zn_10), .int nu, .int ki, .int ce, .int lo])), (tc, .inl (cI, 16, .inl ftn_10))] H := hP
    have hD : va_D A [(k9, .inr (1, [.ref tc, .int (nI zn_10), .int nu, .int ki, .int ce, .int lo])), (tc, .inl (cI, 16, .inl ftn_10))] := hD
    refine lv_ineg hx hb dX1_begin_119 ?_
    refine lv_topi (fun v_11 e_11 => ?_)
    have hP9 := hP.sub (ws' := [(k9, .inr (1, [.ref tc, .int (nI zn_10), .int nu, .int ki, .int ce, .int lo])), (tc, .inl (cI, 16, .inl ftn_10))]) [0, 1] rfl
    have hD9 := hD.sub (ws' := [(k9, .inr (1, [.ref tc, .int (nI zn_10), .int nu, .int ki, .int ce, .int lo])), (tc, .inl (cI, 16, .inl ftn_10))]) [0, 1] (by decide) rfl
    exact W.iret (v := v_11) hx hb hr (fun t ht hW => ⟨⟨v_11, (), rfl, trivial, ⟨zn_10, ftn_10, by rw [ht]; exact hP9, hD9, (by omega)⟩⟩, hS.F ht⟩) hS.2.2 dX1_begin_120
  by_cases k_12 : x = 13
  · subst k_12
    refine lv_tableIn (off := 103) (tgt := 121) hx hb dX1_begin_18 (by decide) (by decide) (by decide) (by decide) ?_
    refine lv_aload_n hx hb dX1_begin_121 rfl (lv_at hl 1 rfl) ?_
    refine lv_bipush (v := 10) hx hb dX1_begin_122 (by decide) ?_
    refine lv_iload_n hx hb dX1_begin_124 rfl (lv_at hl 0 rfl) ?_
    have hPc_13 := hP.sub (ws' := [(k9, .inr (1, [.ref tc, .int (nI zn_2), .int nu, .int ki, .int ce, .int lo])), (tc, .inl (cI, 16, .inl ftn_2))]) [0, 1] rfl
    have hDc_13 := hD.sub (ws' := [(k9, .inr (1, [.ref tc, .int (nI zn_2), .int nu, .int ki, .int ce, .int lo])), (tc, .inl (cI, 16, .inl ftn_2))]) [0, 1] (by decide) rfl
    have hFc_13 := va_free (wc := [(k9, .inr (1, [.ref tc, .int (nI zn_2), .int nu, .int ki, .int ce, .int lo])), (tc, .inl (cI, 16, .inl ftn_2))]) hD hS hA [0, 1] rfl
    refine va_calli (va_runV (As := [.int 10, .int 12]) (rest := []) ⟨hx, hb, hml, hown, hts⟩ (r_X1_begin_12 l dC dI cI cZ cL cJ H.size k9 tc zn_2 nu ki ce lo ftn_2 10 (by omega)) (cwV 2 hts gX1_begin_X1_begin rfl rfl rfl (by decide +kernel) ⟨Nat.le_of_ble_eq_true rfl, Nat.le_of_ble_eq_true rfl⟩) ⟨fun a U g mk q => by obtain ⟨q0, q1, qP, qK, qD, qS⟩ := q; exact ⟨q0, q1, qP, va_K.moved (u := U) (U := U.calling g mk a) (Vm.Alike.refl U.vm) qK, qD, stt_same rfl qS⟩, va_recv hK hP (ci := 1) (q0 := 0) rfl rfl, fun U hU hW => ⟨rfl, by rw [hU], by rw [hU]; exact hPc_13, va_K.moved hW.alike hK, hDc_13.weaken (fun _ _ _ _ => trivial), by rw [hU]; exact stt_warm hW (stt_narrow (stt_kept hst hS.2.1) hFc_13)⟩⟩ rfl rfl hl.1 rfl (lv_room (Nat.le_of_ble_eq_true rfl)) dX1_begin_125 ⟨Nat.le_of_ble_eq_true rfl, Nat.le_of_ble_eq_true rfl⟩) hS (fun q _ h => hFc_13 q h) hFc_13 (fun r_13 u_13 t_13 H1 locs ht hvm h_13 hB hz1 hk1 hS => ?_)
    obtain ⟨zn_13, ftn_13, hP1, hD1, hF_13_0⟩ := hB
    rw [ht] at hP1
    obtain ⟨hP, hD⟩ := va_join (wr := []) (w1 := [(k9, .inr (1, [.ref tc, .int (nI zn_13), .int nu, .int ki, .int ce, .int lo])), (tc, .inl (cI, 16, .inl ftn_13))]) hP hD [0, 1] [] rfl rfl (by decide) (by decide) hk1 hFc_13 hP1 hD1
    generalize H1 = H at hP hS ⊢
    have hP : va_P (dC, dI) vwCl [(k9, .inr (1, [.ref tc, .int (nI zn_13), .int nu, .int ki, .int ce, .int lo])), (tc, .inl (cI, 16, .inl ftn_13))] H := hP
    have hD : va_D A [(k9, .inr (1, [.ref tc, .int (nI zn_13), .int nu, .int ki, .int ce, .int lo])), (tc, .inl (cI, 16, .inl ftn_13))] := hD
    refine lv_bipush (v := 100) hx hb dX1_begin_128 (by decide) ?_
    refine lv_isub hx hb dX1_begin_130 ?_
    refine lv_topi (fun v_14 e_14 => ?_)
    have hP9 := hP.sub (ws' := [(k9, .inr (1, [.ref tc, .int (nI zn_13), .int nu, .int ki, .int ce, .int lo])), (tc, .inl (cI, 16, .inl ftn_13))]) [0, 1] rfl
    have hD9 := hD.sub (ws' := [(k9, .inr (1, [.ref tc, .int (nI zn_13), .int nu, .int ki, .int ce, .int lo])), (tc, .inl (cI, 16, .inl ftn_13))]) [0, 1] (by decide) rfl
    exact W.iret (v := v_14) hx hb hr (fun t ht hW => ⟨⟨v_14, (), rfl, trivial, ⟨zn_13, ftn_13, by rw [ht]; exact hP9, hD9, (by omega)⟩⟩, hS.F ht⟩) hS.2.2 dX1_begin_131
  by_cases k_15 : x = 14
  · subst k_15
    refine lv_tableIn (off := 114) (tgt := 132) hx hb dX1_begin_18 (by decide) (by decide) (by decide) (by decide) ?_
    refine lv_aload_n hx hb dX1_begin_132 rfl (lv_at hl 1 rfl) ?_
    refine lv_bipush (v := 13) hx hb dX1_begin_133 (by decide) ?_
    refine lv_iload_n hx hb dX1_begin_135 rfl (lv_at hl 0 rfl) ?_
    have hPc_16 := hP.sub (ws' := [(k9, .inr (1, [.ref tc, .int (nI zn_2), .int nu, .int ki, .int ce, .int lo])), (tc, .inl (cI, 16, .inl ftn_2))]) [0, 1] rfl
    have hDc_16 := hD.sub (ws' := [(k9, .inr (1, [.ref tc, .int (nI zn_2), .int nu, .int ki, .int ce, .int lo])), (tc, .inl (cI, 16, .inl ftn_2))]) [0, 1] (by decide) rfl
    have hFc_16 := va_free (wc := [(k9, .inr (1, [.ref tc, .int (nI zn_2), .int nu, .int ki, .int ce, .int lo])), (tc, .inl (cI, 16, .inl ftn_2))]) hD hS hA [0, 1] rfl
    refine va_calli (va_runV (As := [.int 13, .int 12]) (rest := []) ⟨hx, hb, hml, hown, hts⟩ (r_X1_begin_12 l dC dI cI cZ cL cJ H.size k9 tc zn_2 nu ki ce lo ftn_2 13 (by omega)) (cwV 2 hts gX1_begin_X1_begin rfl rfl rfl (by decide +kernel) ⟨Nat.le_of_ble_eq_true rfl, Nat.le_of_ble_eq_true rfl⟩) ⟨fun a U g mk q => by obtain ⟨q0, q1, qP, qK, qD, qS⟩ := q; exact ⟨q0, q1, qP, va_K.moved (u := U) (U := U.calling g mk a) (Vm.Alike.refl U.vm) qK, qD, stt_same rfl qS⟩, va_recv hK hP (ci := 1) (q0 := 0) rfl rfl, fun U hU hW => ⟨rfl, by rw [hU], by rw [hU]; exact hPc_16, va_K.moved hW.alike hK, hDc_16.weaken (fun _ _ _ _ => trivial), by rw [hU]; exact stt_warm hW (stt_narrow (stt_kept hst hS.2.1) hFc_16)⟩⟩ rfl rfl hl.1 rfl (lv_room (Nat.le_of_ble_eq_true rfl)) dX1_begin_136 ⟨Nat.le_of_ble_eq_true rfl, Nat.le_of_ble_eq_true rfl⟩) hS (fun q _ h => hFc_16 q h) hFc_16 (fun r_16 u_16 t_16 H1 locs ht hvm h_16 hB hz1 hk1 hS => ?_)
    obtain ⟨zn_16, ftn_16, hP1, hD1, hF_16_0⟩ := hB
    rw [ht] at hP1
    obtain ⟨hP, hD⟩ := va_join (wr := []) (w1 := [(k9, .inr (1, [.ref tc, .int (nI zn_16), .int nu, .int ki, .int ce, .int lo])), (tc, .inl (cI, 16, .inl ftn_16))]) hP hD [0, 1] [] rfl rfl (by decide) (by decide) hk1 hFc_16 hP1 hD1
    generalize H1 = H at hP hS ⊢
    have hP : va_P (dC, dI) vwCl [(k9, .inr (1, [.ref tc, .int (nI zn_16), .int nu, .int ki, .int ce, .int lo])), (tc, .inl (cI, 16, .inl ftn_16))] H := hP
    have hD : va_D A [(k9, .inr (1, [.ref tc, .int (nI zn_16), .int nu, .int ki, .int ce, .int lo])), (tc, .inl (cI, 16, .inl ftn_16))] := hD
    refine lv_iconst (v := 2) hx hb dX1_begin_139 (by decide) ?_
    refine lv_imul hx hb dX1_begin_140 ?_
    refine lv_topi (fun v_17 e_17 => ?_)
    have hP9 := hP.sub (ws' := [(k9, .inr (1, [.ref tc, .int (nI zn_16), .int nu, .int ki, .int ce, .int lo])), (tc, .inl (cI, 16, .inl ftn_16))]) [0, 1] rfl
    have hD9 := hD.sub (ws' := [(k9, .inr (1, [.ref tc, .int (nI zn_16), .int nu, .int ki, .int ce, .int lo])), (tc, .inl (cI, 16, .inl ftn_16))]) [0, 1] (by decide) rfl
    exact W.iret (v := v_17) hx hb hr (fun t ht hW => ⟨⟨v_17, (), rfl, trivial, ⟨zn_16, ftn_16, by rw [ht]; exact hP9, hD9, (by omega)⟩⟩, hS.F ht⟩) hS.2.2 dX1_begin_141
  by_cases k_18 : x = 15
  · subst k_18
    refine lv_tableIn (off := 179) (tgt := 197) hx hb dX1_begin_18 (by decide) (by decide) (by decide) (by decide) ?_
    refine lv_iconst (v := 0) hx hb dX1_begin_197 (by decide) ?_
    have hP9 := hP.sub (ws' := [(k9, .inr (1, [.ref tc, .int (nI zn_2), .int nu, .int ki, .int ce, .int lo])), (tc, .inl (cI, 16, .inl ftn_2))]) [0, 1] rfl
    have hD9 := hD.sub (ws' := [(k9, .inr (1, [.ref tc, .int (nI zn_2), .int nu, .int ki, .int ce, .int lo])), (tc, .inl (cI, 16, .inl ftn_2))]) [0, 1] (by decide) rfl
    exact W.iret (v := 0) hx hb hr (fun t ht hW => ⟨⟨0, (), rfl, trivial, ⟨zn_2, ftn_2, by rw [ht]; exact hP9, hD9, (by omega)⟩⟩, hS.F ht⟩) hS.2.2 dX1_begin_198
  by_cases k_19 : x = 16
  · subst k_19
    refine lv_tableIn (off := 179) (tgt := 197) hx hb dX1_begin_18 (by decide) (by decide) (by decide) (by decide) ?_
    refine lv_iconst (v := 0) hx hb dX1_begin_197 (by decide) ?_
    have hP9 := hP.sub (ws' := [(k9, .inr (1, [.ref tc, .int (nI zn_2), .int nu, .int ki, .int ce, .int lo])), (tc, .inl (cI, 16, .inl ftn_2))]) [0, 1] rfl
    have hD9 := hD.sub (ws' := [(k9, .inr (1, [.ref tc, .int (nI zn_2), .int nu, .int ki, .int ce, .int lo])), (tc, .inl (cI, 16, .inl ftn_2))]) [0, 1] (by decide) rfl
    exact W.iret (v := 0) hx hb hr (fun t ht hW => ⟨⟨0, (), rfl, trivial, ⟨zn_2, ftn_2, by rw [ht]; exact hP9, hD9, (by omega)⟩⟩, hS.F ht⟩) hS.2.2 dX1_begin_198
  by_cases k_20 : x = 17
  · subst k_20
    refine lv_tableIn (off := 179) (tgt := 197) hx hb dX1_begin_18 (by decide) (by decide) (by decide) (by decide) ?_
    refine lv_iconst (v := 0) hx hb dX1_begin_197 (by decide) ?_
    have hP9 := hP.sub (ws' := [(k9, .inr (1, [.ref tc, .int (nI zn_2), .int nu, .int ki, .int ce, .int lo])), (tc, .inl (cI, 16, .inl ftn_2))]) [0, 1] rfl
    have hD9 := hD.sub (ws' := [(k9, .inr (1, [.ref tc, .int (nI zn_2), .int nu, .int ki, .int ce, .int lo])), (tc, .inl (cI, 16, .inl ftn_2))]) [0, 1] (by decide) rfl
    exact W.iret (v := 0) hx hb hr (fun t ht hW => ⟨⟨0, (), rfl, trivial, ⟨zn_2, ftn_2, by rw [ht]; exact hP9, hD9, (by omega)⟩⟩, hS.F ht⟩) hS.2.2 dX1_begin_198
  by_cases k_21 : x = 18
  · subst k_21
    refine lv_tableIn (off := 179) (tgt := 197) hx hb dX1_begin_18 (by decide) (by decide) (by decide) (by decide) ?_
    refine lv_iconst (v := 0) hx hb dX1_begin_197 (by decide) ?_
    have hP9 := hP.sub (ws' := [(k9, .inr (1, [.ref tc, .int (nI zn_2), .int nu, .int ki, .int ce, .int lo])), (tc, .inl (cI, 16, .inl ftn_2))]) [0, 1] rfl
    have hD9 := hD.sub (ws' := [(k9, .inr (1, [.ref tc, .int (nI zn_2), .int nu, .int ki, .int ce, .int lo])), (tc, .inl (cI, 16, .inl ftn_2))]) [0, 1] (by decide) rfl
    exact W.iret (v := 0) hx hb hr (fun t ht hW => ⟨⟨0, (), rfl, trivial, ⟨zn_2, ftn_2, by rw [ht]; exact hP9, hD9, (by omega)⟩⟩, hS.F ht⟩) hS.2.2 dX1_begin_198
  by_cases k_22 : x = 19
  · subst k_22
    refine lv_tableIn (off := 179) (tgt := 197) hx hb dX1_begin_18 (by decide) (by decide) (by decide) (by decide) ?_
    refine lv_iconst (v := 0) hx hb dX1_begin_197 (by decide) ?_
    have hP9 := hP.sub (ws' := [(k9, .inr (1, [.ref tc, .int (nI zn_2), .int nu, .int ki, .int ce, .int lo])), (tc, .inl (cI, 16, .inl ftn_2))]) [0, 1] rfl
    have hD9 := hD.sub (ws' := [(k9, .inr (1, [.ref tc, .int (nI zn_2), .int nu, .int ki, .int ce, .int lo])), (tc, .inl (cI, 16, .inl ftn_2))]) [0, 1] (by decide) rfl
    exact W.iret (v := 0) hx hb hr (fun t ht hW => ⟨⟨0, (), rfl, trivial, ⟨zn_2, ftn_2, by rw [ht]; exact hP9, hD9, (by omega)⟩⟩, hS.F ht⟩) hS.2.2 dX1_begin_198
  by_cases k_23 : x = 20
  · subst k_23
    refine lv_tableIn (off := 124) (tgt := 142) hx hb dX1_begin_18 (by decide) (by decide) (by decide) (by decide) ?_
    refine lv_aload_n hx hb dX1_begin_142 rfl (lv_at hl 1 rfl) ?_
    refine va_get (D := (dC, dI)) (ci := 1) (v := .int nu) (C := RX1) (T := TX1) (N := 6) hx hb hts i_X1_begin_X1 hown hK hP 0 rfl rfl 2 (by decide) (hts (.fieldLink RX1 19 "MillTalk$Asks" "number" "I") (by decide +kernel)) (fun _ h9 => h9) rfl dX1_begin_143 ?_
    have hP9 := hP.sub (ws' := [(k9, .inr (1, [.ref tc, .int (nI zn_2), .int nu, .int ki, .int ce, .int lo])), (tc, .inl (cI, 16, .inl ftn_2))]) [0, 1] rfl
    have hD9 := hD.sub (ws' := [(k9, .inr (1, [.ref tc, .int (nI zn_2), .int nu, .int ki, .int ce, .int lo])), (tc, .inl (cI, 16, .inl ftn_2))]) [0, 1] (by decide) rfl
    exact W.iret (v := nu) hx hb hr (fun t ht hW => ⟨⟨nu, (), rfl, trivial, ⟨zn_2, ftn_2, by rw [ht]; exact hP9, hD9, (by omega)⟩⟩, hS.F ht⟩) hS.2.2 dX1_begin_146
  by_cases k_24 : x = 21
  · subst k_24
    refine lv_tableIn (off := 129) (tgt := 147) hx hb dX1_begin_18 (by decide) (by decide) (by decide) (by decide) ?_
    refine lv_aload_n hx hb dX1_begin_147 rfl (lv_at hl 1 rfl) ?_
    refine lv_bipush (v := 20) hx hb dX1_begin_148 (by decide) ?_
    refine lv_iload_n hx hb dX1_begin_150 rfl (lv_at hl 0 rfl) ?_
    have hPc_25 := hP.sub (ws' := [(k9, .inr (1, [.ref tc, .int (nI zn_2), .int nu, .int ki, .int ce, .int lo])), (tc, .inl (cI, 16, .inl ftn_2))]) [0, 1] rfl
    have hDc_25 := hD.sub (ws' := [(k9, .inr (1, [.ref tc, .int (nI zn_2), .int nu, .int ki, .int ce, .int lo])), (tc, .inl (cI, 16, .inl ftn_2))]) [0, 1] (by decide) rfl
    have hFc_25 := va_free (wc := [(k9, .inr (1, [.ref tc, .int (nI zn_2), .int nu, .int ki, .int ce, .int lo])), (tc, .inl (cI, 16, .inl ftn_2))]) hD hS hA [0, 1] rfl
    refine va_calli (va_runV (As := [.int 20, .int 12]) (rest := []) ⟨hx, hb, hml, hown, hts⟩ (r_X1_begin_12 l dC dI cI cZ cL cJ H.size k9 tc zn_2 nu ki ce lo ftn_2 20 (by omega)) (cwV 2 hts gX1_begin_X1_begin rfl rfl rfl (by decide +kernel) ⟨Nat.le_of_ble_eq_true rfl, Nat.le_of_ble_eq_true rfl⟩) ⟨fun a U g mk q => by obtain ⟨q0, q1, qP, qK, qD, qS⟩ := q; exact ⟨q0, q1, qP, va_K.moved (u := U) (U := U.calling g mk a) (Vm.Alike.refl U.vm) qK, qD, stt_same rfl qS⟩, va_recv hK hP (ci := 1) (q0 := 0) rfl rfl, fun U hU hW => ⟨rfl, by rw [hU], by rw [hU]; exact hPc_25, va_K.moved hW.alike hK, hDc_25.weaken (fun _ _ _ _ => trivial), by rw [hU]; exact stt_warm hW (stt_narrow (stt_kept hst hS.2.1) hFc_25)⟩⟩ rfl rfl hl.1 rfl (lv_room (Nat.le_of_ble_eq_true rfl)) dX1_begin_151 ⟨Nat.le_of_ble_eq_true rfl, Nat.le_of_ble_eq_true rfl⟩) hS (fun q _ h => hFc_25 q h) hFc_25 (fun r_25 u_25 t_25 H1 locs ht hvm h_25 hB hz1 hk1 hS => ?_)
    obtain ⟨zn_25, ftn_25, hP1, hD1, hF_25_0⟩ := hB
    rw [ht] at hP1
    obtain ⟨hP, hD⟩ := va_join (wr := []) (w1 := [(k9, .inr (1, [.ref tc, .int (nI zn_25), .int nu, .int ki, .int ce, .int lo])), (tc, .inl (cI, 16, .inl ftn_25))]) hP hD [0, 1] [] rfl rfl (by decide) (by decide) hk1 hFc_25 hP1 hD1
    generalize H1 = H at hP hS ⊢
    have hP : va_P (dC, dI) vwCl [(k9, .inr (1, [.ref tc, .int (nI zn_25), .int nu, .int ki, .int ce, .int lo])), (tc, .inl (cI, 16, .inl ftn_25))] H := hP
    have hD : va_D A [(k9, .inr (1, [.ref tc, .int (nI zn_25), .int nu, .int ki, .int ce, .int lo])), (tc, .inl (cI, 16, .inl ftn_25))] := hD
    refine lv_aload_n hx hb dX1_begin_154 rfl (lv_at hl 1 rfl) ?_
    refine va_get (D := (dC, dI)) (ci := 1) (v := .int ce) (C := RX1) (T := TX1) (N := 6) hx hb hts i_X1_begin_X1 hown hK hP 0 rfl rfl 4 (by decide) (hts (.fieldLink RX1 33 "MillTalk$Asks" "cell" "I") (by decide +kernel)) (fun _ h9 => h9) rfl dX1_begin_155 ?_
    refine lv_iadd hx hb dX1_begin_158 ?_
    refine lv_topi (fun v_26 e_26 => ?_)
    have hP9 := hP.sub (ws' := [(k9, .inr (1, [.ref tc, .int (nI zn_25), .int nu, .int ki, .int ce, .int lo])), (tc, .inl (cI, 16, .inl ftn_25))]) [0, 1] rfl
    have hD9 := hD.sub (ws' := [(k9, .inr (1, [.ref tc, .int (nI zn_25), .int nu, .int ki, .int ce, .int lo])), (tc, .inl (cI, 16, .inl ftn_25))]) [0, 1] (by decide) rfl
    exact W.iret (v := v_26) hx hb hr (fun t ht hW => ⟨⟨v_26, (), rfl, trivial, ⟨zn_25, ftn_25, by rw [ht]; exact hP9, hD9, (by omega)⟩⟩, hS.F ht⟩) hS.2.2 dX1_begin_159
  by_cases k_27 : x = 22
  · subst k_27
    refine lv_tableIn (off := 142) (tgt := 160) hx hb dX1_begin_18 (by decide) (by decide) (by decide) (by decide) ?_
    refine lv_aload_n hx hb dX1_begin_160 rfl (lv_at hl 1 rfl) ?_
    refine lv_bipush (v := 21) hx hb dX1_begin_161 (by decide) ?_
    refine lv_iload_n hx hb dX1_begin_163 rfl (lv_at hl 0 rfl) ?_
    have hPc_28 := hP.sub (ws' := [(k9, .inr (1, [.ref tc, .int (nI zn_2), .int nu, .int ki, .int ce, .int lo])), (tc, .inl (cI, 16, .inl ftn_2))]) [0, 1] rfl
    have hDc_28 := hD.sub (ws' := [(k9, .inr (1, [.ref tc, .int (nI zn_2), .int nu, .int ki, .int ce, .int lo])), (tc, .inl (cI, 16, .inl ftn_2))]) [0, 1] (by decide) rfl
    have hFc_28 := va_free (wc := [(k9, .inr (1, [.ref tc, .int (nI zn_2), .int nu, .int ki, .int ce, .int lo])), (tc, .inl (cI, 16, .inl ftn_2))]) hD hS hA [0, 1] rfl
    refine va_calli (va_runV (As := [.int 21, .int 12]) (rest := []) ⟨hx, hb, hml, hown, hts⟩ (r_X1_begin_12 l dC dI cI cZ cL cJ H.size k9 tc zn_2 nu ki ce lo ftn_2 21 (by omega)) (cwV 2 hts gX1_begin_X1_begin rfl rfl rfl (by decide +kernel) ⟨Nat.le_of_ble_eq_true rfl, Nat.le_of_ble_eq_true rfl⟩) ⟨fun a U g mk q => by obtain ⟨q0, q1, qP, qK, qD, qS⟩ := q; exact ⟨q0, q1, qP, va_K.moved (u := U) (U := U.calling g mk a) (Vm.Alike.refl U.vm) qK, qD, stt_same rfl qS⟩, va_recv hK hP (ci := 1) (q0 := 0) rfl rfl, fun U hU hW => ⟨rfl, by rw [hU], by rw [hU]; exact hPc_28, va_K.moved hW.alike hK, hDc_28.weaken (fun _ _ _ _ => trivial), by rw [hU]; exact stt_warm hW (stt_narrow (stt_kept hst hS.2.1) hFc_28)⟩⟩ rfl rfl hl.1 rfl (lv_room (Nat.le_of_ble_eq_true rfl)) dX1_begin_164 ⟨Nat.le_of_ble_eq_true rfl, Nat.le_of_ble_eq_true rfl⟩) hS (fun q _ h => hFc_28 q h) hFc_28 (fun r_28 u_28 t_28 H1 locs ht hvm h_28 hB hz1 hk1 hS => ?_)
    obtain ⟨zn_28, ftn_28, hP1, hD1, hF_28_0⟩ := hB
    rw [ht] at hP1
    obtain ⟨hP, hD⟩ := va_join (wr := []) (w1 := [(k9, .inr (1, [.ref tc, .int (nI zn_28), .int nu, .int ki, .int ce, .int lo])), (tc, .inl (cI, 16, .inl ftn_28))]) hP hD [0, 1] [] rfl rfl (by decide) (by decide) hk1 hFc_28 hP1 hD1
    generalize H1 = H at hP hS ⊢
    have hP : va_P (dC, dI) vwCl [(k9, .inr (1, [.ref tc, .int (nI zn_28), .int nu, .int ki, .int ce, .int lo])), (tc, .inl (cI, 16, .inl ftn_28))] H := hP
    have hD : va_D A [(k9, .inr (1, [.ref tc, .int (nI zn_28), .int nu, .int ki, .int ce, .int lo])), (tc, .inl (cI, 16, .inl ftn_28))] := hD
    refine lv_sipush (v := 1000) hx hb dX1_begin_167 (by decide) ?_
    refine lv_isub hx hb dX1_begin_170 ?_
    refine lv_topi (fun v_29 e_29 => ?_)
    have hP9 := hP.sub (ws' := [(k9, .inr (1, [.ref tc, .int (nI zn_28), .int nu, .int ki, .int ce, .int lo])), (tc, .inl (cI, 16, .inl ftn_28))]) [0, 1] rfl
    have hD9 := hD.sub (ws' := [(k9, .inr (1, [.ref tc, .int (nI zn_28), .int nu, .int ki, .int ce, .int lo])), (tc, .inl (cI, 16, .inl ftn_28))]) [0, 1] (by decide) rfl
    exact W.iret (v := v_29) hx hb hr (fun t ht hW => ⟨⟨v_29, (), rfl, trivial, ⟨zn_28, ftn_28, by rw [ht]; exact hP9, hD9, (by omega)⟩⟩, hS.F ht⟩) hS.2.2 dX1_begin_171
  by_cases k_30 : x = 23
  · subst k_30
    refine lv_tableIn (off := 154) (tgt := 172) hx hb dX1_begin_18 (by decide) (by decide) (by decide) (by decide) ?_
    refine lv_aload_n hx hb dX1_begin_172 rfl (lv_at hl 1 rfl) ?_
    refine lv_bipush (v := 20) hx hb dX1_begin_173 (by decide) ?_
    refine lv_iload_n hx hb dX1_begin_175 rfl (lv_at hl 0 rfl) ?_
    have hPc_31 := hP.sub (ws' := [(k9, .inr (1, [.ref tc, .int (nI zn_2), .int nu, .int ki, .int ce, .int lo])), (tc, .inl (cI, 16, .inl ftn_2))]) [0, 1] rfl
    have hDc_31 := hD.sub (ws' := [(k9, .inr (1, [.ref tc, .int (nI zn_2), .int nu, .int ki, .int ce, .int lo])), (tc, .inl (cI, 16, .inl ftn_2))]) [0, 1] (by decide) rfl
    have hFc_31 := va_free (wc := [(k9, .inr (1, [.ref tc, .int (nI zn_2), .int nu, .int ki, .int ce, .int lo])), (tc, .inl (cI, 16, .inl ftn_2))]) hD hS hA [0, 1] rfl
    refine va_calli (va_runV (As := [.int 20, .int 12]) (rest := []) ⟨hx, hb, hml, hown, hts⟩ (r_X1_begin_12 l dC dI cI cZ cL cJ H.size k9 tc zn_2 nu ki ce lo ftn_2 20 (by omega)) (cwV 2 hts gX1_begin_X1_begin rfl rfl rfl (by decide +kernel) ⟨Nat.le_of_ble_eq_true rfl, Nat.le_of_ble_eq_true rfl⟩) ⟨fun a U g mk q => by obtain ⟨q0, q1, qP, qK, qD, qS⟩ := q; exact ⟨q0, q1, qP, va_K.moved (u := U) (U := U.calling g mk a) (Vm.Alike.refl U.vm) qK, qD, stt_same rfl qS⟩, va_recv hK hP (ci := 1) (q0 := 0) rfl rfl, fun U hU hW => ⟨rfl, by rw [hU], by rw [hU]; exact hPc_31, va_K.moved hW.alike hK, hDc_31.weaken (fun _ _ _ _ => trivial), by rw [hU]; exact stt_warm hW (stt_narrow (stt_kept hst hS.2.1) hFc_31)⟩⟩ rfl rfl hl.1 rfl (lv_room (Nat.le_of_ble_eq_true rfl)) dX1_begin_176 ⟨Nat.le_of_ble_eq_true rfl, Nat.le_of_ble_eq_true rfl⟩) hS (fun q _ h => hFc_31 q h) hFc_31 (fun r_31 u_31 t_31 H1 locs ht hvm h_31 hB hz1 hk1 hS => ?_)
    obtain ⟨zn_31, ftn_31, hP1, hD1, hF_31_0⟩ := hB
    rw [ht] at hP1
    obtain ⟨hP, hD⟩ := va_join (wr := []) (w1 := [(k9, .inr (1, [.ref tc, .int (nI zn_31), .int nu, .int ki, .int ce, .int lo])), (tc, .inl (cI, 16, .inl ftn_31))]) hP hD [0, 1] [] rfl rfl (by decide) (by decide) hk1 hFc_31 hP1 hD1
    generalize H1 = H at hP hS ⊢
    have hP : va_P (dC, dI) vwCl [(k9, .inr (1, [.ref tc, .int (nI zn_31), .int nu, .int ki, .int ce, .int lo])), (tc, .inl (cI, 16, .inl ftn_31))] H := hP
    have hD : va_D A [(k9, .inr (1, [.ref tc, .int (nI zn_31), .int nu, .int ki, .int ce, .int lo])), (tc, .inl (cI, 16, .inl ftn_31))] := hD
    refine lv_aload_n hx hb dX1_begin_179 rfl (lv_at hl 1 rfl) ?_
    refine lv_iconst (v := 0) hx hb dX1_begin_180 (by decide) ?_
    refine lv_iload_n hx hb dX1_begin_181 rfl (lv_at hl 0 rfl) ?_
    have hPc_32 := hP.sub (ws' := [(k9, .inr (1, [.ref tc, .int (nI zn_31), .int nu, .int ki, .int ce, .int lo])), (tc, .inl (cI, 16, .inl ftn_31))]) [0, 1] rfl
    have hDc_32 := hD.sub (ws' := [(k9, .inr (1, [.ref tc, .int (nI zn_31), .int nu, .int ki, .int ce, .int lo])), (tc, .inl (cI, 16, .inl ftn_31))]) [0, 1] (by decide) rfl
    have hFc_32 := va_free (wc := [(k9, .inr (1, [.ref tc, .int (nI zn_31), .int nu, .int ki, .int ce, .int lo])), (tc, .inl (cI, 16, .inl ftn_31))]) hD hS hA [0, 1] rfl
    refine va_calli (va_runV (As := [.int 0, .int 12]) (rest := [.int r_31]) ⟨hx, hb, hml, hown, hts⟩ (r_X1_askAnew_12 l dC dI cI cZ cL cJ H.size k9 tc zn_31 nu ki ce lo ftn_31 0 (by omega)) (cwV 2 hts gX1_begin_X1_askAnew rfl rfl rfl (by decide +kernel) ⟨Nat.le_of_ble_eq_true rfl, Nat.le_of_ble_eq_true rfl⟩) ⟨fun a U g mk q => by obtain ⟨q0, q1, qP, qK, qD, qS⟩ := q; exact ⟨q0, q1, qP, va_K.moved (u := U) (U := U.calling g mk a) (Vm.Alike.refl U.vm) qK, qD, stt_same rfl qS⟩, va_recv hK hP (ci := 1) (q0 := 0) rfl rfl, fun U hU hW => ⟨rfl, by rw [hU], by rw [hU]; exact hPc_32, va_K.moved hW.alike hK, hDc_32.weaken (fun _ _ _ _ => trivial), by rw [hU]; exact stt_warm hW (stt_narrow (stt_kept hst hS.2.1) hFc_32)⟩⟩ rfl rfl hl.1 rfl (lv_room (Nat.le_of_ble_eq_true rfl)) dX1_begin_182 ⟨Nat.le_of_ble_eq_true rfl, Nat.le_of_ble_eq_true rfl⟩) hS (fun q _ h => hFc_32 q h) hFc_32 (fun r_32 u_32 t_32 H1 locs ht hvm h_32 hB hz1 hk1 hS => ?_)
    obtain ⟨zn_32, ftn_32, hP1, hD1, hF_32_0⟩ := hB
    rw [ht] at hP1
    obtain ⟨hP, hD⟩ := va_join (wr := []) (w1 := [(k9, .inr (1, [.ref tc, .int (nI zn_32), .int nu, .int ki, .int ce, .int lo])), (tc, .inl (cI, 16, .inl ftn_32))]) hP hD [0, 1] [] rfl rfl (by decide) (by decide) hk1 hFc_32 hP1 hD1
    generalize H1 = H at hP hS ⊢
    have hP : va_P (dC, dI) vwCl [(k9, .inr (1, [.ref tc, .int (nI zn_32), .int nu, .int ki, .int ce, .int lo])), (tc, .inl (cI, 16, .inl ftn_32))] H := hP
    have hD : va_D A [(k9, .inr (1, [.ref tc, .int (nI zn_32), .int nu, .int ki, .int ce, .int lo])), (tc, .inl (cI, 16, .inl ftn_32))] := hD
    refine lv_isub hx hb dX1_begin_185 ?_
    refine lv_topi (fun v_33 e_33 => ?_)
    have hP9 := hP.sub (ws' := [(k9, .inr (1, [.ref tc, .int (nI zn_32), .int nu, .int ki, .int ce, .int lo])), (tc, .inl (cI, 16, .inl ftn_32))]) [0, 1] rfl
    have hD9 := hD.sub (ws' := [(k9, .inr (1, [.ref tc, .int (nI zn_32), .int nu, .int ki, .int ce, .int lo])), (tc, .inl (cI, 16, .inl ftn_32))]) [0, 1] (by decide) rfl
    exact W.iret (v := v_33) hx hb hr (fun t ht hW => ⟨⟨v_33, (), rfl, trivial, ⟨zn_32, ftn_32, by rw [ht]; exact hP9, hD9, (by omega)⟩⟩, hS.F ht⟩) hS.2.2 dX1_begin_186
  by_cases k_34 : x = 24
  · subst k_34
    refine lv_tableIn (off := 169) (tgt := 187) hx hb dX1_begin_18 (by decide) (by decide) (by decide) (by decide) ?_
    refine lv_aload_n hx hb dX1_begin_187 rfl (lv_at hl 1 rfl) ?_
    refine lv_bipush (v := 21) hx hb dX1_begin_188 (by decide) ?_
    refine lv_iload_n hx hb dX1_begin_190 rfl (lv_at hl 0 rfl) ?_
    have hPc_35 := hP.sub (ws' := [(k9, .inr (1, [.ref tc, .int (nI zn_2), .int nu, .int ki, .int ce, .int lo])), (tc, .inl (cI, 16, .inl ftn_2))]) [0, 1] rfl
    have hDc_35 := hD.sub (ws' := [(k9, .inr (1, [.ref tc, .int (nI zn_2), .int nu, .int ki, .int ce, .int lo])), (tc, .inl (cI, 16, .inl ftn_2))]) [0, 1] (by decide) rfl
    have hFc_35 := va_free (wc := [(k9, .inr (1, [.ref tc, .int (nI zn_2), .int nu, .int ki, .int ce, .int lo])), (tc, .inl (cI, 16, .inl ftn_2))]) hD hS hA [0, 1] rfl
    refine va_calli (va_runV (As := [.int 21, .int 12]) (rest := []) ⟨hx, hb, hml, hown, hts⟩ (r_X1_begin_12 l dC dI cI cZ cL cJ H.size k9 tc zn_2 nu ki ce lo ftn_2 21 (by omega)) (cwV 2 hts gX1_begin_X1_begin rfl rfl rfl (by decide +kernel) ⟨Nat.le_of_ble_eq_true rfl, Nat.le_of_ble_eq_true rfl⟩) ⟨fun a U g mk q => by obtain ⟨q0, q1, qP, qK, qD, qS⟩ := q; exact ⟨q0, q1, qP, va_K.moved (u := U) (U := U.calling g mk a) (Vm.Alike.refl U.vm) qK, qD, stt_same rfl qS⟩, va_recv hK hP (ci := 1) (q0 := 0) rfl rfl, fun U hU hW => ⟨rfl, by rw [hU], by rw [hU]; exact hPc_35, va_K.moved hW.alike hK, hDc_35.weaken (fun _ _ _ _ => trivial), by rw [hU]; exact stt_warm hW (stt_narrow (stt_kept hst hS.2.1) hFc_35)⟩⟩ rfl rfl hl.1 rfl (lv_room (Nat.le_of_ble_eq_true rfl)) dX1_begin_191 ⟨Nat.le_of_ble_eq_true rfl, Nat.le_of_ble_eq_true rfl⟩) hS (fun q _ h => hFc_35 q h) hFc_35 (fun r_35 u_35 t_35 H1 locs ht hvm h_35 hB hz1 hk1 hS => ?_)
    obtain ⟨zn_35, ftn_35, hP1, hD1, hF_35_0⟩ := hB
    rw [ht] at hP1
    obtain ⟨hP, hD⟩ := va_join (wr := []) (w1 := [(k9, .inr (1, [.ref tc, .int (nI zn_35), .int nu, .int ki, .int ce, .int lo])), (tc, .inl (cI, 16, .inl ftn_35))]) hP hD [0, 1] [] rfl rfl (by decide) (by decide) hk1 hFc_35 hP1 hD1
    generalize H1 = H at hP hS ⊢
    have hP : va_P (dC, dI) vwCl [(k9, .inr (1, [.ref tc, .int (nI zn_35), .int nu, .int ki, .int ce, .int lo])), (tc, .inl (cI, 16, .inl ftn_35))] H := hP
    have hD : va_D A [(k9, .inr (1, [.ref tc, .int (nI zn_35), .int nu, .int ki, .int ce, .int lo])), (tc, .inl (cI, 16, .inl ftn_35))] := hD
    refine lv_iconst (v := 2) hx hb dX1_begin_194 (by decide) ?_
    refine lv_imul hx hb dX1_begin_195 ?_
    refine lv_topi (fun v_36 e_36 => ?_)
    have hP9 := hP.sub (ws' := [(k9, .inr (1, [.ref tc, .int (nI zn_35), .int nu, .int ki, .int ce, .int lo])), (tc, .inl (cI, 16, .inl ftn_35))]) [0, 1] rfl
    have hD9 := hD.sub (ws' := [(k9, .inr (1, [.ref tc, .int (nI zn_35), .int nu, .int ki, .int ce, .int lo])), (tc, .inl (cI, 16, .inl ftn_35))]) [0, 1] (by decide) rfl
    exact W.iret (v := v_36) hx hb hr (fun t ht hW => ⟨⟨v_36, (), rfl, trivial, ⟨zn_35, ftn_35, by rw [ht]; exact hP9, hD9, (by omega)⟩⟩, hS.F ht⟩) hS.2.2 dX1_begin_196
  have kT_4 := lv_neT k_4 (show (10 : Int32).toInt = 10 from rfl)
  have kT_5 := lv_neT k_5 (show (11 : Int32).toInt = 11 from rfl)
  have kT_9 := lv_neT k_9 (show (12 : Int32).toInt = 12 from rfl)
  have kT_12 := lv_neT k_12 (show (13 : Int32).toInt = 13 from rfl)
  have kT_15 := lv_neT k_15 (show (14 : Int32).toInt = 14 from rfl)
  have kT_18 := lv_neT k_18 (show (15 : Int32).toInt = 15 from rfl)
  have kT_19 := lv_neT k_19 (show (16 : Int32).toInt = 16 from rfl)
  have kT_20 := lv_neT k_20 (show (17 : Int32).toInt = 17 from rfl)
  have kT_21 := lv_neT k_21 (show (18 : Int32).toInt = 18 from rfl)
  have kT_22 := lv_neT k_22 (show (19 : Int32).toInt = 19 from rfl)
  have kT_23 := lv_neT k_23 (show (20 : Int32).toInt = 20 from rfl)
  have kT_24 := lv_neT k_24 (show (21 : Int32).toInt = 21 from rfl)
  have kT_27 := lv_neT k_27 (show (22 : Int32).toInt = 22 from rfl)
  have kT_30 := lv_neT k_30 (show (23 : Int32).toInt = 23 from rfl)
  have kT_34 := lv_neT k_34 (show (24 : Int32).toInt = 24 from rfl)
  refine lv_tableOut (tgt := 197) hx hb dX1_begin_18 (by omega) (by decide) ?_
  refine lv_iconst (v := 0) hx hb dX1_begin_197 (by decide) ?_
  have hP9 := hP.sub (ws' := [(k9, .inr (1, [.ref tc, .int (nI zn_2), .int nu, .int ki, .int ce, .int lo])), (tc, .inl (cI, 16, .inl ftn_2))]) [0, 1] rfl
  have hD9 := hD.sub (ws' := [(k9, .inr (1, [.ref tc, .int (nI zn_2), .int nu, .int ki, .int ce, .int lo])), (tc, .inl (cI, 16, .inl ftn_2))]) [0, 1] (by decide) rfl
  exact W.iret (v := 0) hx hb hr (fun t ht hW => ⟨⟨0, (), rfl, trivial, ⟨zn_2, ftn_2, by rw [ht]; exact hP9, hD9, (by omega)⟩⟩, hS.F ht⟩) hS.2.2 dX1_begin_198
set_option maxHeartbeats 4000000 in
set_option maxRecDepth 100000 in
theorem r_X1_askAnew_11 (l : Launch) (dC : Nat → ClassId) (dI : Nat → Nat → Nat) (cI cZ cL cJ : ClassId) (sz : Nat) (k9 : Nat) (tc : Nat) (z : Nat) (nu : Int32) (ki : Int32) (ce : Int32) (lo : Int32) (ft : Nat → Int32) (x : Int32) (hz : z ≤ 16) : Met l yX1_askAnew wsX1_askAnew ({ frames := 11, cells := 0, slots := 0, locals := 249 }) (va_Pc [.ref k9, .int x, .int 11] (fun U => U.heap.size = sz ∧ va_P (dC, dI) vwCl [(k9, .inr (1, [.ref tc, .int (nI z), .int nu, .int ki, .int ce, .int lo])), (tc, .inl (cI, 16, .inl ft))] U.heap ∧ va_K (dC, dI) vwCl [(cI, .int), (cZ, .boolean), (cL, .object RX3), (cJ, .array .int)] U ∧ va_D (fun _ => True) [(k9, .inr (1, [.ref tc, .int (nI z), .int nu, .int ki, .int ce, .int lo])), (tc, .inl (cI, 16, .inl ft))] ∧ stt (va_A [(k9, .inr (1, [.ref tc, .int (nI z), .int nu, .int ki, .int ce, .int lo])), (tc, .inl (cI, 16, .inl ft))] sz) U U.heap)) (va_Qi (fun r (_ : Unit) => True) (fun (_ : Unit) t => ∃ (zn : Nat) (ftn : Nat → Int32), va_P (dC, dI) vwCl [(k9, .inr (1, [.ref tc, .int (nI zn), .int nu, .int ki, .int ce, .int lo])), (tc, .inl (cI, 16, .inl ftn))] t.heap ∧ va_D (va_A [(k9, .inr (1, [.ref tc, .int (nI z), .int nu, .int ki, .int ce, .int lo])), (tc, .inl (cI, 16, .inl ft))] sz) [(k9, .inr (1, [.ref tc, .int (nI zn), .int nu, .int ki, .int ce, .int lo])), (tc, .inl (cI, 16, .inl ftn))] ∧ zn ≤ 16) (va_A [(k9, .inr (1, [.ref tc, .int (nI z), .int nu, .int ki, .int ce, .int lo])), (tc, .inl (cI, 16, .inl ft))] sz)) 0 0 (va_A [(k9, .inr (1, [.ref tc, .int (nI z), .int nu, .int ki, .int ce, .int lo])), (tc, .inl (cI, 16, .inl ft))] sz) := by
  refine Met.ofW (cc := cX1_askAnew) (maxL := 3) (ret := (some .int)) (by decide) rfl ?_
  intro p e s m args below meth c s₁ B hml hv
  obtain ⟨rfl, hsz, hP, hK, hD0, hst⟩ := hv
  have hx := B.exec
  have hb := B.bytes
  have hr := B.returns
  have hts := atoms_spec (ws := wsX1_askAnew) B.pre
  have hown : s.vm.findClass RX1 = some m.cls := findClass_of_methodNamed B.named
  have hlocks := B.notSynchronized
  subst hsz
  have hD := hD0.self (sz := s.heap.size)
  generalize hAe : va_A [(k9, .inr (1, [.ref tc, .int (nI z), .int nu, .int ki, .int ce, .int lo])), (tc, .inl (cI, 16, .inl ft))] s.heap.size = A at hD hst ⊢
  have hA : ∀ q : Nat, s.heap.size ≤ q → A q := fun q h => by rw [← hAe]; exact Or.inr h
  have hS : va_S A s.heap s.heap [] := va_S.rf
  have hP : va_P (dC, dI) vwCl [(k9, .inr (1, [.ref tc, .int (nI z), .int nu, .int ki, .int ce, .int lo])), (tc, .inl (cI, 16, .inl ft))] s.heap := hP
  obtain ⟨⟨tb1, hZ1, hT1⟩, ⟨tb2, hZ2, hT2⟩, ⟨tb3, hZ3, hT3⟩, hNk⟩ := id hst
  have hl := lv_entry ([.ref k9, .int x, .int 11]) (n := 3) (Nat.le_of_ble_eq_true rfl)
  rw [lg_entry_eq]
  generalize (lg_sl ([.ref k9, .int x, .int 11]) ++ List.replicate (3 - (lg_sl ([.ref k9, .int x, .int 11])).length) Slot.unset).toArray = ls at hl ⊢
  have hl : lv_has ls 3 [(0, .ref k9), (1, .int x), (2, .int 11)] := hl
  refine lv_aload_n hx hb dX1_askAnew_0 rfl (lv_at hl 0 rfl) ?_
  refine lv_aload_n hx hb dX1_askAnew_1 rfl (lv_at hl 0 rfl) ?_
  refine lv_iload_n hx hb dX1_askAnew_2 rfl (lv_at hl 1 rfl) ?_
  have hPc_1 := hP.sub (ws' := [(k9, .inr (1, [.ref tc, .int (nI z), .int nu, .int ki, .int ce, .int lo]))]) [0] rfl
  refine vp_callSi (W.runV (As := [.int x]) (rest := [.ref k9]) ⟨hx, hb, hml, hown, hts⟩ (r_X1_bodyFor l dC dI cI cZ cL cJ k9 tc z nu ki ce lo x ) (cwV 1 hts gX1_askAnew_X1_bodyFor rfl rfl rfl (by decide +kernel) ⟨Nat.le_of_ble_eq_true rfl, Nat.le_of_ble_eq_true rfl⟩) ⟨fun a U g mk q => by obtain ⟨q0, qP, qK, qS⟩ := q; exact ⟨q0, qP, va_K.moved (u := U) (U := U.calling g mk a) (Vm.Alike.refl U.vm) qK, stt_same rfl qS⟩, va_recv hK hP (ci := 1) (q0 := 0) rfl rfl, fun U hU hW => ⟨rfl, by rw [hU]; exact hPc_1, va_K.moved hW.alike hK, by rw [hU]; exact stt_warm hW (stt_narrow (stt_kept hst hS.2.1) (fun _ h => h.elim))⟩⟩ rfl rfl hl.1 rfl (lv_room (Nat.le_of_ble_eq_true rfl)) dX1_askAnew_3 ⟨Nat.le_of_ble_eq_true rfl, Nat.le_of_ble_eq_true rfl⟩) (fun r_1 h_1 => ?_)
  refine lv_iload_n hx hb dX1_askAnew_6 rfl (lv_at hl 2 rfl) ?_
  have hPc_2 := hP.sub (ws' := [(k9, .inr (1, [.ref tc, .int (nI z), .int nu, .int ki, .int ce, .int lo])), (tc, .inl (cI, 16, .inl ft))]) [0, 1] rfl
  have hDc_2 := hD.sub (ws' := [(k9, .inr (1, [.ref tc, .int (nI z), .int nu, .int ki, .int ce, .int lo])), (tc, .inl (cI, 16, .inl ft))]) [0, 1] (by decide) rfl
  have hFc_2 := va_free (wc := [(k9, .inr (1, [.ref tc, .int (nI z), .int nu, .int ki, .int ce, .int lo])), (tc, .inl (cI, 16, .inl ft))]) hD hS hA [0, 1] rfl
  refine va_calli (va_runV (As := [.int r_1, .int 11]) (rest := []) ⟨hx, hb, hml, hown, hts⟩ (r_X1_begin_11 l dC dI cI cZ cL cJ s.heap.size k9 tc z nu ki ce lo ft r_1 (by omega)) (cwV 2 hts gX1_askAnew_X1_begin rfl rfl rfl (by decide +kernel) ⟨Nat.le_of_ble_eq_true rfl, Nat.le_of_ble_eq_true rfl⟩) ⟨fun a U g mk q => by obtain ⟨q0, q1, qP, qK, qD, qS⟩ := q; exact ⟨q0, q1, qP, va_K.moved (u := U) (U := U.calling g mk a) (Vm.Alike.refl U.vm) qK, qD, stt_same rfl qS⟩, va_recv hK hP (ci := 1) (q0 := 0) rfl rfl, fun U hU hW => ⟨rfl, by rw [hU], by rw [hU]; exact hPc_2, va_K.moved hW.alike hK, hDc_2.weaken (fun _ _ _ _ => trivial), by rw [hU]; exact stt_warm hW (stt_narrow (stt_kept hst hS.2.1) hFc_2)⟩⟩ rfl rfl hl.1 rfl (lv_room (Nat.le_of_ble_eq_true rfl)) dX1_askAnew_7 ⟨Nat.le_of_ble_eq_true rfl, Nat.le_of_ble_eq_true rfl⟩) hS (fun q _ h => hFc_2 q h) hFc_2 (fun r_2 u_2 t_2 H1 locs ht hvm h_2 hB hz1 hk1 hS => ?_)
  obtain ⟨zn_2, ftn_2, hP1, hD1, hF_2_0⟩ := hB
  rw [ht] at hP1
  obtain ⟨hP, hD⟩ := va_join (wr := []) (w1 := [(k9, .inr (1, [.ref tc, .int (nI zn_2), .int nu, .int ki, .int ce, .int lo])), (tc, .inl (cI, 16, .inl ftn_2))]) hP hD [0, 1] [] rfl rfl (by decide) (by decide) hk1 hFc_2 hP1 hD1
  generalize H1 = H at hP hS ⊢
  have hP : va_P (dC, dI) vwCl [(k9, .inr (1, [.ref tc, .int (nI zn_2), .int nu, .int ki, .int ce, .int lo])), (tc, .inl (cI, 16, .inl ftn_2))] H := hP
  have hD : va_D A [(k9, .inr (1, [.ref tc, .int (nI zn_2), .int nu, .int ki, .int ce, .int lo])), (tc, .inl (cI, 16, .inl ftn_2))] := hD
  have hP9 := hP.sub (ws' := [(k9, .inr (1, [.ref tc, .int (nI zn_2), .int nu, .int ki, .int ce, .int lo])), (tc, .inl (cI, 16, .inl ftn_2))]) [0, 1] rfl
  have hD9 := hD.sub (ws' := [(k9, .inr (1, [.ref tc, .int (nI zn_2), .int nu, .int ki, .int ce, .int lo])), (tc, .inl (cI, 16, .inl ftn_2))]) [0, 1] (by decide) rfl
  exact W.iret (v := r_2) hx hb hr (fun t ht hW => ⟨⟨r_2, (), rfl, trivial, ⟨zn_2, ftn_2, by rw [ht]; exact hP9, hD9, (by omega)⟩⟩, hS.F ht⟩) hS.2.2 dX1_askAnew_10
set_option maxHeartbeats 4000000 in
set_option maxRecDepth 100000 in
theorem r_X1_begin_10 (l : Launch) (dC : Nat → ClassId) (dI : Nat → Nat → Nat) (cI cZ cL cJ : ClassId) (sz : Nat) (k9 : Nat) (tc : Nat) (z : Nat) (nu : Int32) (ki : Int32) (ce : Int32) (lo : Int32) (ft : Nat → Int32) (x : Int32) (hz : z ≤ 16) : Met l yX1_begin wsX1_begin ({ frames := 12, cells := 0, slots := 0, locals := 271 }) (va_Pc [.ref k9, .int x, .int 10] (fun U => U.heap.size = sz ∧ va_P (dC, dI) vwCl [(k9, .inr (1, [.ref tc, .int (nI z), .int nu, .int ki, .int ce, .int lo])), (tc, .inl (cI, 16, .inl ft))] U.heap ∧ va_K (dC, dI) vwCl [(cI, .int), (cZ, .boolean), (cL, .object RX3), (cJ, .array .int)] U ∧ va_D (fun _ => True) [(k9, .inr (1, [.ref tc, .int (nI z), .int nu, .int ki, .int ce, .int lo])), (tc, .inl (cI, 16, .inl ft))] ∧ stt (va_A [(k9, .inr (1, [.ref tc, .int (nI z), .int nu, .int ki, .int ce, .int lo])), (tc, .inl (cI, 16, .inl ft))] sz) U U.heap)) (va_Qi (fun r (_ : Unit) => True) (fun (_ : Unit) t => ∃ (zn : Nat) (ftn : Nat → Int32), va_P (dC, dI) vwCl [(k9, .inr (1, [.ref tc, .int (nI zn), .int nu, .int ki, .int ce, .int lo])), (tc, .inl (cI, 16, .inl ftn))] t.heap ∧ va_D (va_A [(k9, .inr (1, [.ref tc, .int (nI z), .int nu, .int ki, .int ce, .int lo])), (tc, .inl (cI, 16, .inl ft))] sz) [(k9, .inr (1, [.ref tc, .int (nI zn), .int nu, .int ki, .int ce, .int lo])), (tc, .inl (cI, 16, .inl ftn))] ∧ zn ≤ 16) (va_A [(k9, .inr (1, [.ref tc, .int (nI z), .int nu, .int ki, .int ce, .int lo])), (tc, .inl (cI, 16, .inl ft))] sz)) 0 0 (va_A [(k9, .inr (1, [.ref tc, .int (nI z), .int nu, .int ki, .int ce, .int lo])), (tc, .inl (cI, 16, .inl ft))] sz) := by
  refine Met.ofW (cc := cX1_begin) (maxL := 4) (ret := (some .int)) (by decide) rfl ?_
  intro p e s m args below meth c s₁ B hml hv
  obtain ⟨rfl, hsz, hP, hK, hD0, hst⟩ := hv
  have hx := B.exec
  have hb := B.bytes
  have hr := B.returns
  have hts := atoms_spec (ws := wsX1_begin) B.pre
  have hown : s.vm.findClass RX1 = some m.cls := findClass_of_methodNamed B.named
  have hlocks := B.notSynchronized
  subst hsz
  have hD := hD0.self (sz := s.heap.size)
  generalize hAe : va_A [(k9, .inr (1, [.ref tc, .int (nI z), .int nu, .int ki, .int ce, .int lo])), (tc, .inl (cI, 16, .inl ft))] s.heap.size = A at hD hst ⊢
  have hA : ∀ q : Nat, s.heap.size ≤ q → A q := fun q h => by rw [← hAe]; exact Or.inr h
  have hS : va_S A s.heap s.heap [] := va_S.rf
  have hP : va_P (dC, dI) vwCl [(k9, .inr (1, [.ref tc, .int (nI z), .int nu, .int ki, .int ce, .int lo])), (tc, .inl (cI, 16, .inl ft))] s.heap := hP
  obtain ⟨⟨tb1, hZ1, hT1⟩, ⟨tb2, hZ2, hT2⟩, ⟨tb3, hZ3, hT3⟩, hNk⟩ := id hst
  have hl := lv_entry ([.ref k9, .int x, .int 10]) (n := 4) (Nat.le_of_ble_eq_true rfl)
  rw [lg_entry_eq]
  generalize (lg_sl ([.ref k9, .int x, .int 10]) ++ List.replicate (4 - (lg_sl ([.ref k9, .int x, .int 10])).length) Slot.unset).toArray = ls at hl ⊢
  have hl : lv_has ls 4 [(0, .ref k9), (1, .int x), (2, .int 10)] := hl
  refine lv_iload_n hx hb dX1_begin_0 rfl (lv_at hl 2 rfl) ?_
  refine lv_bipush (v := 16) hx hb dX1_begin_1 (by decide) ?_
  refine lv_icmp_lt (tgt := 8) hx hb dX1_begin_3 (by decide) (fun _ => ?_) (fun c_ => absurd (by decide) c_)
  refine lv_aload_n hx hb dX1_begin_8 rfl (lv_at hl 0 rfl) ?_
  refine lv_iload_n hx hb dX1_begin_9 rfl (lv_at hl 1 rfl) ?_
  have hPc_2 := hP.sub (ws' := [(k9, .inr (1, [.ref tc, .int (nI z), .int nu, .int ki, .int ce, .int lo])), (tc, .inl (cI, 16, .inl ft))]) [0, 1] rfl
  have hDc_2 := hD.sub (ws' := [(k9, .inr (1, [.ref tc, .int (nI z), .int nu, .int ki, .int ce, .int lo])), (tc, .inl (cI, 16, .inl ft))]) [0, 1] (by decide) rfl
  have hFc_2 := va_free (wc := [(k9, .inr (1, [.ref tc, .int (nI z), .int nu, .int ki, .int ce, .int lo])), (tc, .inl (cI, 16, .inl ft))]) hD hS hA [0, 1] rfl
  refine va_callv (va_runV (As := [.int x]) (rest := []) ⟨hx, hb, hml, hown, hts⟩ (r_X1_leave l dC dI cI cZ cL cJ s.heap.size k9 tc z nu ki ce lo ft x (by omega)) (cwV 1 hts gX1_begin_X1_leave rfl rfl rfl (by decide +kernel) ⟨Nat.le_of_ble_eq_true rfl, Nat.le_of_ble_eq_true rfl⟩) ⟨fun a U g mk q => by obtain ⟨q0, q1, qP, qK, qD⟩ := q; exact ⟨q0, q1, qP, va_K.moved (u := U) (U := U.calling g mk a) (Vm.Alike.refl U.vm) qK, qD⟩, va_recv hK hP (ci := 1) (q0 := 0) rfl rfl, fun U hU hW => ⟨rfl, by rw [hU], by rw [hU]; exact hPc_2, va_K.moved hW.alike hK, hDc_2.weaken (fun _ _ _ _ => trivial)⟩⟩ rfl rfl hl.1 rfl (lv_room (Nat.le_of_ble_eq_true rfl)) dX1_begin_10 ⟨Nat.le_of_ble_eq_true rfl, Nat.le_of_ble_eq_true rfl⟩) hS (fun q _ h => hFc_2 q h) hFc_2 (fun u_2 t_2 H1 locs ht hvm h_2 hB hz1 hk1 hS => ?_)
  obtain ⟨zn_2, ftn_2, hP1, hD1, hF_2_0⟩ := hB
  rw [ht] at hP1
  obtain ⟨hP, hD⟩ := va_join (wr := []) (w1 := [(k9, .inr (1, [.ref tc, .int (nI zn_2), .int nu, .int ki, .int ce, .int lo])), (tc, .inl (cI, 16, .inl ftn_2))]) hP hD [0, 1] [] rfl rfl (by decide) (by decide) hk1 hFc_2 hP1 hD1
  generalize H1 = H at hP hS ⊢
  have hP : va_P (dC, dI) vwCl [(k9, .inr (1, [.ref tc, .int (nI zn_2), .int nu, .int ki, .int ce, .int lo])), (tc, .inl (cI, 16, .inl ftn_2))] H := hP
  have hD : va_D A [(k9, .inr (1, [.ref tc, .int (nI zn_2), .int nu, .int ki, .int ce, .int lo])), (tc, .inl (cI, 16, .inl ftn_2))] := hD
  refine lv_iload_n hx hb dX1_begin_13 rfl (lv_at hl 2 rfl) ?_
  refine lv_iconst (v := 1) hx hb dX1_begin_14 (by decide) ?_
  refine lv_iadd hx hb dX1_begin_15 ?_
  refine lv_topi (fun v_3 e_3 => ?_)
  obtain rfl : v_3 = 11 := (e_3).trans (by decide)
  refine lv_istore_n (lv' := [(3, .int 11), (0, .ref k9), (1, .int x), (2, .int 10)]) hx hb dX1_begin_16 rfl hl (by decide) rfl (fun ls hl => ?_)
  refine lv_iload_n hx hb dX1_begin_17 rfl (lv_at hl 2 rfl) ?_
  by_cases k_4 : x = 10
  · subst k_4
    refine lv_tableIn (off := 74) (tgt := 92) hx hb dX1_begin_18 (by decide) (by decide) (by decide) (by decide) ?_
    refine lv_aload_n hx hb dX1_begin_92 rfl (lv_at hl 1 rfl) ?_
    refine va_get (D := (dC, dI)) (ci := 1) (v := .int lo) (C := RX1) (T := TX1) (N := 6) hx hb hts i_X1_begin_X1 hown hK hP 0 rfl rfl 5 (by decide) (hts (.fieldLink RX1 39 "MillTalk$Asks" "loud" "I") (by decide +kernel)) (fun _ h9 => h9) rfl dX1_begin_93 ?_
    have hP9 := hP.sub (ws' := [(k9, .inr (1, [.ref tc, .int (nI zn_2), .int nu, .int ki, .int ce, .int lo])), (tc, .inl (cI, 16, .inl ftn_2))]) [0, 1] rfl
    have hD9 := hD.sub (ws' := [(k9, .inr (1, [.ref tc, .int (nI zn_2), .int nu, .int ki, .int ce, .int lo])), (tc, .inl (cI, 16, .inl ftn_2))]) [0, 1] (by decide) rfl
    exact W.iret (v := lo) hx hb hr (fun t ht hW => ⟨⟨lo, (), rfl, trivial, ⟨zn_2, ftn_2, by rw [ht]; exact hP9, hD9, (by omega)⟩⟩, hS.F ht⟩) hS.2.2 dX1_begin_96
  by_cases k_5 : x = 11
  · subst k_5
    refine lv_tableIn (off := 79) (tgt := 97) hx hb dX1_begin_18 (by decide) (by decide) (by decide) (by decide) ?_
    refine lv_aload_n hx hb dX1_begin_97 rfl (lv_at hl 1 rfl) ?_
    refine lv_bipush (v := 10) hx hb dX1_begin_98 (by decide) ?_
    refine lv_iload_n hx hb dX1_begin_100 rfl (lv_at hl 0 rfl) ?_
    have hPc_6 := hP.sub (ws' := [(k9, .inr (1, [.ref tc, .int (nI zn_2), .int nu, .int ki, .int ce, .int lo])), (tc, .inl (cI, 16, .inl ftn_2))]) [0, 1] rfl
    have hDc_6 := hD.sub (ws' := [(k9, .inr (1, [.ref tc, .int (nI zn_2), .int nu, .int ki, .int ce, .int lo])), (tc, .inl (cI, 16, .inl ftn_2))]) [0, 1] (by decide) rfl
    have hFc_6 := va_free (wc := [(k9, .inr (1, [.ref tc, .int (nI zn_2), .int nu, .int ki, .int ce, .int lo])), (tc, .inl (cI, 16, .inl ftn_2))]) hD hS hA [0, 1] rfl
    refine va_calli (va_runV (As := [.int 10, .int 11]) (rest := []) ⟨hx, hb, hml, hown, hts⟩ (r_X1_begin_11 l dC dI cI cZ cL cJ H.size k9 tc zn_2 nu ki ce lo ftn_2 10 (by omega)) (cwV 2 hts gX1_begin_X1_begin rfl rfl rfl (by decide +kernel) ⟨Nat.le_of_ble_eq_true rfl, Nat.le_of_ble_eq_true rfl⟩) ⟨fun a U g mk q => by obtain ⟨q0, q1, qP, qK, qD, qS⟩ := q; exact ⟨q0, q1, qP, va_K.moved (u := U) (U := U.calling g mk a) (Vm.Alike.refl U.vm) qK, qD, stt_same rfl qS⟩, va_recv hK hP (ci := 1) (q0 := 0) rfl rfl, fun U hU hW => ⟨rfl, by rw [hU], by rw [hU]; exact hPc_6, va_K.moved hW.alike hK, hDc_6.weaken (fun _ _ _ _ => trivial), by rw [hU]; exact stt_warm hW (stt_narrow (stt_kept hst hS.2.1) hFc_6)⟩⟩ rfl rfl hl.1 rfl (lv_room (Nat.le_of_ble_eq_true rfl)) dX1_begin_101 ⟨Nat.le_of_ble_eq_true rfl, Nat.le_of_ble_eq_true rfl⟩) hS (fun q _ h => hFc_6 q h) hFc_6 (fun r_6 u_6 t_6 H1 locs ht hvm h_6 hB hz1 hk1 hS => ?_)
    obtain ⟨zn_6, ftn_6, hP1, hD1, hF_6_0⟩ := hB
    rw [ht] at hP1
    obtain ⟨hP, hD⟩ := va_join (wr := []) (w1 := [(k9, .inr (1, [.ref tc, .int (nI zn_6), .int nu, .int ki, .int ce, .int lo])), (tc, .inl (cI, 16, .inl ftn_6))]) hP hD [0, 1] [] rfl rfl (by decide) (by decide) hk1 hFc_6 hP1 hD1
    generalize H1 = H at hP hS ⊢
    have hP : va_P (dC, dI) vwCl [(k9, .inr (1, [.ref tc, .int (nI zn_6), .int nu, .int ki, .int ce, .int lo])), (tc, .inl (cI, 16, .inl ftn_6))] H := hP
    have hD : va_D A [(k9, .inr (1, [.ref tc, .int (nI zn_6), .int nu, .int ki, .int ce, .int lo])), (tc, .inl (cI, 16, .inl ftn_6))] := hD
    refine lv_aload_n hx hb dX1_begin_104 rfl (lv_at hl 1 rfl) ?_
    refine lv_iconst (v := 1) hx hb dX1_begin_105 (by decide) ?_
    refine lv_iload_n hx hb dX1_begin_106 rfl (lv_at hl 0 rfl) ?_
    have hPc_7 := hP.sub (ws' := [(k9, .inr (1, [.ref tc, .int (nI zn_6), .int nu, .int ki, .int ce, .int lo])), (tc, .inl (cI, 16, .inl ftn_6))]) [0, 1] rfl
    have hDc_7 := hD.sub (ws' := [(k9, .inr (1, [.ref tc, .int (nI zn_6), .int nu, .int ki, .int ce, .int lo])), (tc, .inl (cI, 16, .inl ftn_6))]) [0, 1] (by decide) rfl
    have hFc_7 := va_free (wc := [(k9, .inr (1, [.ref tc, .int (nI zn_6), .int nu, .int ki, .int ce, .int lo])), (tc, .inl (cI, 16, .inl ftn_6))]) hD hS hA [0, 1] rfl
    refine va_calli (va_runV (As := [.int 1, .int 11]) (rest := [.int r_6]) ⟨hx, hb, hml, hown, hts⟩ (r_X1_askAnew_11 l dC dI cI cZ cL cJ H.size k9 tc zn_6 nu ki ce lo ftn_6 1 (by omega)) (cwV 2 hts gX1_begin_X1_askAnew rfl rfl rfl (by decide +kernel) ⟨Nat.le_of_ble_eq_true rfl, Nat.le_of_ble_eq_true rfl⟩) ⟨fun a U g mk q => by obtain ⟨q0, q1, qP, qK, qD, qS⟩ := q; exact ⟨q0, q1, qP, va_K.moved (u := U) (U := U.calling g mk a) (Vm.Alike.refl U.vm) qK, qD, stt_same rfl qS⟩, va_recv hK hP (ci := 1) (q0 := 0) rfl rfl, fun U hU hW => ⟨rfl, by rw [hU], by rw [hU]; exact hPc_7, va_K.moved hW.alike hK, hDc_7.weaken (fun _ _ _ _ => trivial), by rw [hU]; exact stt_warm hW (stt_narrow (stt_kept hst hS.2.1) hFc_7)⟩⟩ rfl rfl hl.1 rfl (lv_room (Nat.le_of_ble_eq_true rfl)) dX1_begin_107 ⟨Nat.le_of_ble_eq_true rfl, Nat.le_of_ble_eq_true rfl⟩) hS (fun q _ h => hFc_7 q h) hFc_7 (fun r_7 u_7 t_7 H1 locs ht hvm h_7 hB hz1 hk1 hS => ?_)
    obtain ⟨zn_7, ftn_7, hP1, hD1, hF_7_0⟩ := hB
    rw [ht] at hP1
    obtain ⟨hP, hD⟩ := va_join (wr := []) (w1 := [(k9, .inr (1, [.ref tc, .int (nI zn_7), .int nu, .int ki, .int ce, .int lo])), (tc, .inl (cI, 16, .inl ftn_7))]) hP hD [0, 1] [] rfl rfl (by decide) (by decide) hk1 hFc_7 hP1 hD1
    generalize H1 = H at hP hS ⊢
    have hP : va_P (dC, dI) vwCl [(k9, .inr (1, [.ref tc, .int (nI zn_7), .int nu, .int ki, .int ce, .int lo])), (tc, .inl (cI, 16, .inl ftn_7))] H := hP
    have hD : va_D A [(k9, .inr (1, [.ref tc, .int (nI zn_7), .int nu, .int ki, .int ce, .int lo])), (tc, .inl (cI, 16, .inl ftn_7))] := hD
    refine lv_iadd hx hb dX1_begin_110 ?_
    refine lv_topi (fun v_8 e_8 => ?_)
    have hP9 := hP.sub (ws' := [(k9, .inr (1, [.ref tc, .int (nI zn_7), .int nu, .int ki, .int ce, .int lo])), (tc, .inl (cI, 16, .inl ftn_7))]) [0, 1] rfl
    have hD9 := hD.sub (ws' := [(k9, .inr (1, [.ref tc, .int (nI zn_7), .int nu, .int ki, .int ce, .int lo])), (tc, .inl (cI, 16, .inl ftn_7))]) [0, 1] (by decide) rfl
    exact W.iret (v := v_8) hx hb hr (fun t ht hW => ⟨⟨v_8, (), rfl, trivial, ⟨zn_7, ftn_7, by rw [ht]; exact hP9, hD9, (by omega)⟩⟩, hS.F ht⟩) hS.2.2 dX1_begin_111
  by_cases k_9 : x = 12
  · subst k_9
    refine lv_tableIn (off := 94) (tgt := 112) hx hb dX1_begin_18 (by decide) (by decide) (by decide) (by decide) ?_
    refine lv_aload_n hx hb dX1_begin_112 rfl (lv_at hl 1 rfl) ?_
    refine lv_bipush (v := 11) hx hb dX1_begin_113 (by decide) ?_
    refine lv_iload_n hx hb dX1_begin_115 rfl (lv_at hl 0 rfl) ?_
    have hPc_10 := hP.sub (ws' := [(k9, .inr (1, [.ref tc, .int (nI zn_2), .int nu, .int ki, .int ce, .int lo])), (tc, .inl (cI, 16, .inl ftn_2))]) [0, 1] rfl
    have hDc_10 := hD.sub (ws' := [(k9, .inr (1, [.ref tc, .int (nI zn_2), .int nu, .int ki, .int ce, .int lo])), (tc, .inl (cI, 16, .inl ftn_2))]) [0, 1] (by decide) rfl
    have hFc_10 := va_free (wc := [(k9, .inr (1, [.ref tc, .int (nI zn_2), .int nu, .int ki, .int ce, .int lo])), (tc, .inl (cI, 16, .inl ftn_2))]) hD hS hA [0, 1] rfl
    refine va_calli (va_runV (As := [.int 11, .int 11]) (rest := []) ⟨hx, hb, hml, hown, hts⟩ (r_X1_begin_11 l dC dI cI cZ cL cJ H.size k9 tc zn_2 nu ki ce lo ftn_2 11 (by omega)) (cwV 2 hts gX1_begin_X1_begin rfl rfl rfl (by decide +kernel) ⟨Nat.le_of_ble_eq_true rfl, Nat.le_of_ble_eq_true rfl⟩) ⟨fun a U g mk q => by obtain ⟨q0, q1, qP, qK, qD, qS⟩ := q; exact ⟨q0, q1, qP, va_K.moved (u := U) (U := U.calling g mk a) (Vm.Alike.refl U.vm) qK, qD, stt_same rfl qS⟩, va_recv hK hP (ci := 1) (q0 := 0) rfl rfl, fun U hU hW => ⟨rfl, by rw [hU], by rw [hU]; exact hPc_10, va_K.moved hW.alike hK, hDc_10.weaken (fun _ _ _ _ => trivial), by rw [hU]; exact stt_warm hW (stt_narrow (stt_kept hst hS.2.1) hFc_10)⟩⟩ rfl rfl hl.1 rfl (lv_room (Nat.le_of_ble_eq_true rfl)) dX1_begin_116 ⟨Nat.le_of_ble_eq_true rfl, Nat.le_of_ble_eq_true rfl⟩) hS (fun q _ h => hFc_10 q h) hFc_10 (fun r_10 u_10 t_10 H1 locs ht hvm h_10 hB hz1 hk1 hS => ?_)
    obtain ⟨zn_10, ftn_10, hP1, hD1, hF_10_0⟩ := hB
    rw [ht] at hP1
    obtain ⟨hP, hD⟩ := va_join (wr := []) (w1 := [(k9, .inr (1, [.ref tc, .int (nI zn_10), .int nu, .int ki, .int ce, .int lo])), (tc, .inl (cI, 16, .inl ftn_10))]) hP hD [0, 1] [] rfl rfl (by decide) (by decide) hk1 hFc_10 hP1 hD1
    generalize H1 = H at hP hS ⊢
    have hP : va_P (dC, dI) vwCl [(k9, .inr (1, [.ref tc, .int (nI zn_10), .int nu, .int ki, .int ce, .int lo])), (tc, .inl (cI, 16, .inl ftn_10))] H := hP
    have hD : va_D A [(k9, .inr (1, [.ref tc, .int (nI zn_10), .int nu, .int ki, .int ce, .int lo])), (tc, .inl (cI, 16, .inl ftn_10))] := hD
    refine lv_ineg hx hb dX1_begin_119 ?_
    refine lv_topi (fun v_11 e_11 => ?_)
    have hP9 := hP.sub (ws' := [(k9, .inr (1, [.ref tc, .int (nI zn_10), .int nu, .int ki, .int ce, .int lo])), (tc, .inl (cI, 16, .inl ftn_10))]) [0, 1] rfl
    have hD9 := hD.sub (ws' := [(k9, .inr (1, [.ref tc, .int (nI zn_10), .int nu, .int ki, .int ce, .int lo])), (tc, .inl (cI, 16, .inl ftn_10))]) [0, 1] (by decide) rfl
    exact W.iret (v := v_11) hx hb hr (fun t ht hW => ⟨⟨v_11, (), rfl, trivial, ⟨zn_10, ftn_10, by rw [ht]; exact hP9, hD9, (by omega)⟩⟩, hS.F ht⟩) hS.2.2 dX1_begin_120
  by_cases k_12 : x = 13
  · subst k_12
    refine lv_tableIn (off := 103) (tgt := 121) hx hb dX1_begin_18 (by decide) (by decide) (by decide) (by decide) ?_
    refine lv_aload_n hx hb dX1_begin_121 rfl (lv_at hl 1 rfl) ?_
    refine lv_bipush (v := 10) hx hb dX1_begin_122 (by decide) ?_
    refine lv_iload_n hx hb dX1_begin_124 rfl (lv_at hl 0 rfl) ?_
    have hPc_13 := hP.sub (ws' := [(k9, .inr (1, [.ref tc, .int (nI zn_2), .int nu, .int ki, .int ce, .int lo])), (tc, .inl (cI, 16, .inl ftn_2))]) [0, 1] rfl
    have hDc_13 := hD.sub (ws' := [(k9, .inr (1, [.ref tc, .int (nI zn_2), .int nu, .int ki, .int ce, .int lo])), (tc, .inl (cI, 16, .inl ftn_2))]) [0, 1] (by decide) rfl
    have hFc_13 := va_free (wc := [(k9, .inr (1, [.ref tc, .int (nI zn_2), .int nu, .int ki, .int ce, .int lo])), (tc, .inl (cI, 16, .inl ftn_2))]) hD hS hA [0, 1] rfl
    refine va_calli (va_runV (As := [.int 10, .int 11]) (rest := []) ⟨hx, hb, hml, hown, hts⟩ (r_X1_begin_11 l dC dI cI cZ cL cJ H.size k9 tc zn_2 nu ki ce lo ftn_2 10 (by omega)) (cwV 2 hts gX1_begin_X1_begin rfl rfl rfl (by decide +kernel) ⟨Nat.le_of_ble_eq_true rfl, Nat.le_of_ble_eq_true rfl⟩) ⟨fun a U g mk q => by obtain ⟨q0, q1, qP, qK, qD, qS⟩ := q; exact ⟨q0, q1, qP, va_K.moved (u := U) (U := U.calling g mk a) (Vm.Alike.refl U.vm) qK, qD, stt_same rfl qS⟩, va_recv hK hP (ci := 1) (q0 := 0) rfl rfl, fun U hU hW => ⟨rfl, by rw [hU], by rw [hU]; exact hPc_13, va_K.moved hW.alike hK, hDc_13.weaken (fun _ _ _ _ => trivial), by rw [hU]; exact stt_warm hW (stt_narrow (stt_kept hst hS.2.1) hFc_13)⟩⟩ rfl rfl hl.1 rfl (lv_room (Nat.le_of_ble_eq_true rfl)) dX1_begin_125 ⟨Nat.le_of_ble_eq_true rfl, Nat.le_of_ble_eq_true rfl⟩) hS (fun q _ h => hFc_13 q h) hFc_13 (fun r_13 u_13 t_13 H1 locs ht hvm h_13 hB hz1 hk1 hS => ?_)
    obtain ⟨zn_13, ftn_13, hP1, hD1, hF_13_0⟩ := hB
    rw [ht] at hP1
    obtain ⟨hP, hD⟩ := va_join (wr := []) (w1 := [(k9, .inr (1, [.ref tc, .int (nI zn_13), .int nu, .int ki, .int ce, .int lo])), (tc, .inl (cI, 16, .inl ftn_13))]) hP hD [0, 1] [] rfl rfl (by decide) (by decide) hk1 hFc_13 hP1 hD1
    generalize H1 = H at hP hS ⊢
    have hP : va_P (dC, dI) vwCl [(k9, .inr (1, [.ref tc, .int (nI zn_13), .int nu, .int ki, .int ce, .int lo])), (tc, .inl (cI, 16, .inl ftn_13))] H := hP
    have hD : va_D A [(k9, .inr (1, [.ref tc, .int (nI zn_13), .int nu, .int ki, .int ce, .int lo])), (tc, .inl (cI, 16, .inl ftn_13))] := hD
    refine lv_bipush (v := 100) hx hb dX1_begin_128 (by decide) ?_
    refine lv_isub hx hb dX1_begin_130 ?_
    refine lv_topi (fun v_14 e_14 => ?_)
    have hP9 := hP.sub (ws' := [(k9, .inr (1, [.ref tc, .int (nI zn_13), .int nu, .int ki, .int ce, .int lo])), (tc, .inl (cI, 16, .inl ftn_13))]) [0, 1] rfl
    have hD9 := hD.sub (ws' := [(k9, .inr (1, [.ref tc, .int (nI zn_13), .int nu, .int ki, .int ce, .int lo])), (tc, .inl (cI, 16, .inl ftn_13))]) [0, 1] (by decide) rfl
    exact W.iret (v := v_14) hx hb hr (fun t ht hW => ⟨⟨v_14, (), rfl, trivial, ⟨zn_13, ftn_13, by rw [ht]; exact hP9, hD9, (by omega)⟩⟩, hS.F ht⟩) hS.2.2 dX1_begin_131
  by_cases k_15 : x = 14
  · subst k_15
    refine lv_tableIn (off := 114) (tgt := 132) hx hb dX1_begin_18 (by decide) (by decide) (by decide) (by decide) ?_
    refine lv_aload_n hx hb dX1_begin_132 rfl (lv_at hl 1 rfl) ?_
    refine lv_bipush (v := 13) hx hb dX1_begin_133 (by decide) ?_
    refine lv_iload_n hx hb dX1_begin_135 rfl (lv_at hl 0 rfl) ?_
    have hPc_16 := hP.sub (ws' := [(k9, .inr (1, [.ref tc, .int (nI zn_2), .int nu, .int ki, .int ce, .int lo])), (tc, .inl (cI, 16, .inl ftn_2))]) [0, 1] rfl
    have hDc_16 := hD.sub (ws' := [(k9, .inr (1, [.ref tc, .int (nI zn_2), .int nu, .int ki, .int ce, .int lo])), (tc, .inl (cI, 16, .inl ftn_2))]) [0, 1] (by decide) rfl
    have hFc_16 := va_free (wc := [(k9, .inr (1, [.ref tc, .int (nI zn_2), .int nu, .int ki, .int ce, .int lo])), (tc, .inl (cI, 16, .inl ftn_2))]) hD hS hA [0, 1] rfl
    refine va_calli (va_runV (As := [.int 13, .int 11]) (rest := []) ⟨hx, hb, hml, hown, hts⟩ (r_X1_begin_11 l dC dI cI cZ cL cJ H.size k9 tc zn_2 nu ki ce lo ftn_2 13 (by omega)) (cwV 2 hts gX1_begin_X1_begin rfl rfl rfl (by decide +kernel) ⟨Nat.le_of_ble_eq_true rfl, Nat.le_of_ble_eq_true rfl⟩) ⟨fun a U g mk q => by obtain ⟨q0, q1, qP, qK, qD, qS⟩ := q; exact ⟨q0, q1, qP, va_K.moved (u := U) (U := U.calling g mk a) (Vm.Alike.refl U.vm) qK, qD, stt_same rfl qS⟩, va_recv hK hP (ci := 1) (q0 := 0) rfl rfl, fun U hU hW => ⟨rfl, by rw [hU], by rw [hU]; exact hPc_16, va_K.moved hW.alike hK, hDc_16.weaken (fun _ _ _ _ => trivial), by rw [hU]; exact stt_warm hW (stt_narrow (stt_kept hst hS.2.1) hFc_16)⟩⟩ rfl rfl hl.1 rfl (lv_room (Nat.le_of_ble_eq_true rfl)) dX1_begin_136 ⟨Nat.le_of_ble_eq_true rfl, Nat.le_of_ble_eq_true rfl⟩) hS (fun q _ h => hFc_16 q h) hFc_16 (fun r_16 u_16 t_16 H1 locs ht hvm h_16 hB hz1 hk1 hS => ?_)
    obtain ⟨zn_16, ftn_16, hP1, hD1, hF_16_0⟩ := hB
    rw [ht] at hP1
    obtain ⟨hP, hD⟩ := va_join (wr := []) (w1 := [(k9, .inr (1, [.ref tc, .int (nI zn_16), .int nu, .int ki, .int ce, .int lo])), (tc, .inl (cI, 16, .inl ftn_16))]) hP hD [0, 1] [] rfl rfl (by decide) (by decide) hk1 hFc_16 hP1 hD1
    generalize H1 = H at hP hS ⊢
    have hP : va_P (dC, dI) vwCl [(k9, .inr (1, [.ref tc, .int (nI zn_16), .int nu, .int ki, .int ce, .int lo])), (tc, .inl (cI, 16, .inl ftn_16))] H := hP
    have hD : va_D A [(k9, .inr (1, [.ref tc, .int (nI zn_16), .int nu, .int ki, .int ce, .int lo])), (tc, .inl (cI, 16, .inl ftn_16))] := hD
    refine lv_iconst (v := 2) hx hb dX1_begin_139 (by decide) ?_
    refine lv_imul hx hb dX1_begin_140 ?_
    refine lv_topi (fun v_17 e_17 => ?_)
    have hP9 := hP.sub (ws' := [(k9, .inr (1, [.ref tc, .int (nI zn_16), .int nu, .int ki, .int ce, .int lo])), (tc, .inl (cI, 16, .inl ftn_16))]) [0, 1] rfl
    have hD9 := hD.sub (ws' := [(k9, .inr (1, [.ref tc, .int (nI zn_16), .int nu, .int ki, .int ce, .int lo])), (tc, .inl (cI, 16, .inl ftn_16))]) [0, 1] (by decide) rfl
    exact W.iret (v := v_17) hx hb hr (fun t ht hW => ⟨⟨v_17, (), rfl, trivial, ⟨zn_16, ftn_16, by rw [ht]; exact hP9, hD9, (by omega)⟩⟩, hS.F ht⟩) hS.2.2 dX1_begin_141
  by_cases k_18 : x = 15
  · subst k_18
    refine lv_tableIn (off := 179) (tgt := 197) hx hb dX1_begin_18 (by decide) (by decide) (by decide) (by decide) ?_
    refine lv_iconst (v := 0) hx hb dX1_begin_197 (by decide) ?_
    have hP9 := hP.sub (ws' := [(k9, .inr (1, [.ref tc, .int (nI zn_2), .int nu, .int ki, .int ce, .int lo])), (tc, .inl (cI, 16, .inl ftn_2))]) [0, 1] rfl
    have hD9 := hD.sub (ws' := [(k9, .inr (1, [.ref tc, .int (nI zn_2), .int nu, .int ki, .int ce, .int lo])), (tc, .inl (cI, 16, .inl ftn_2))]) [0, 1] (by decide) rfl
    exact W.iret (v := 0) hx hb hr (fun t ht hW => ⟨⟨0, (), rfl, trivial, ⟨zn_2, ftn_2, by rw [ht]; exact hP9, hD9, (by omega)⟩⟩, hS.F ht⟩) hS.2.2 dX1_begin_198
  by_cases k_19 : x = 16
  · subst k_19
    refine lv_tableIn (off := 179) (tgt := 197) hx hb dX1_begin_18 (by decide) (by decide) (by decide) (by decide) ?_
    refine lv_iconst (v := 0) hx hb dX1_begin_197 (by decide) ?_
    have hP9 := hP.sub (ws' := [(k9, .inr (1, [.ref tc, .int (nI zn_2), .int nu, .int ki, .int ce, .int lo])), (tc, .inl (cI, 16, .inl ftn_2))]) [0, 1] rfl
    have hD9 := hD.sub (ws' := [(k9, .inr (1, [.ref tc, .int (nI zn_2), .int nu, .int ki, .int ce, .int lo])), (tc, .inl (cI, 16, .inl ftn_2))]) [0, 1] (by decide) rfl
    exact W.iret (v := 0) hx hb hr (fun t ht hW => ⟨⟨0, (), rfl, trivial, ⟨zn_2, ftn_2, by rw [ht]; exact hP9, hD9, (by omega)⟩⟩, hS.F ht⟩) hS.2.2 dX1_begin_198
  by_cases k_20 : x = 17
  · subst k_20
    refine lv_tableIn (off := 179) (tgt := 197) hx hb dX1_begin_18 (by decide) (by decide) (by decide) (by decide) ?_
    refine lv_iconst (v := 0) hx hb dX1_begin_197 (by decide) ?_
    have hP9 := hP.sub (ws' := [(k9, .inr (1, [.ref tc, .int (nI zn_2), .int nu, .int ki, .int ce, .int lo])), (tc, .inl (cI, 16, .inl ftn_2))]) [0, 1] rfl
    have hD9 := hD.sub (ws' := [(k9, .inr (1, [.ref tc, .int (nI zn_2), .int nu, .int ki, .int ce, .int lo])), (tc, .inl (cI, 16, .inl ftn_2))]) [0, 1] (by decide) rfl
    exact W.iret (v := 0) hx hb hr (fun t ht hW => ⟨⟨0, (), rfl, trivial, ⟨zn_2, ftn_2, by rw [ht]; exact hP9, hD9, (by omega)⟩⟩, hS.F ht⟩) hS.2.2 dX1_begin_198
  by_cases k_21 : x = 18
  · subst k_21
    refine lv_tableIn (off := 179) (tgt := 197) hx hb dX1_begin_18 (by decide) (by decide) (by decide) (by decide) ?_
    refine lv_iconst (v := 0) hx hb dX1_begin_197 (by decide) ?_
    have hP9 := hP.sub (ws' := [(k9, .inr (1, [.ref tc, .int (nI zn_2), .int nu, .int ki, .int ce, .int lo])), (tc, .inl (cI, 16, .inl ftn_2))]) [0, 1] rfl
    have hD9 := hD.sub (ws' := [(k9, .inr (1, [.ref tc, .int (nI zn_2), .int nu, .int ki, .int ce, .int lo])), (tc, .inl (cI, 16, .inl ftn_2))]) [0, 1] (by decide) rfl
    exact W.iret (v := 0) hx hb hr (fun t ht hW => ⟨⟨0, (), rfl, trivial, ⟨zn_2, ftn_2, by rw [ht]; exact hP9, hD9, (by omega)⟩⟩, hS.F ht⟩) hS.2.2 dX1_begin_198
  by_cases k_22 : x = 19
  · subst k_22
    refine lv_tableIn (off := 179) (tgt := 197) hx hb dX1_begin_18 (by decide) (by decide) (by decide) (by decide) ?_
    refine lv_iconst (v := 0) hx hb dX1_begin_197 (by decide) ?_
    have hP9 := hP.sub (ws' := [(k9, .inr (1, [.ref tc, .int (nI zn_2), .int nu, .int ki, .int ce, .int lo])), (tc, .inl (cI, 16, .inl ftn_2))]) [0, 1] rfl
    have hD9 := hD.sub (ws' := [(k9, .inr (1, [.ref tc, .int (nI zn_2), .int nu, .int ki, .int ce, .int lo])), (tc, .inl (cI, 16, .inl ftn_2))]) [0, 1] (by decide) rfl
    exact W.iret (v := 0) hx hb hr (fun t ht hW => ⟨⟨0, (), rfl, trivial, ⟨zn_2, ftn_2, by rw [ht]; exact hP9, hD9, (by omega)⟩⟩, hS.F ht⟩) hS.2.2 dX1_begin_198
  by_cases k_23 : x = 20
  · subst k_23
    refine lv_tableIn (off := 124) (tgt := 142) hx hb dX1_begin_18 (by decide) (by decide) (by decide) (by decide) ?_
    refine lv_aload_n hx hb dX1_begin_142 rfl (lv_at hl 1 rfl) ?_
    refine va_get (D := (dC, dI)) (ci := 1) (v := .int nu) (C := RX1) (T := TX1) (N := 6) hx hb hts i_X1_begin_X1 hown hK hP 0 rfl rfl 2 (by decide) (hts (.fieldLink RX1 19 "MillTalk$Asks" "number" "I") (by decide +kernel)) (fun _ h9 => h9) rfl dX1_begin_143 ?_
    have hP9 := hP.sub (ws' := [(k9, .inr (1, [.ref tc, .int (nI zn_2), .int nu, .int ki, .int ce, .int lo])), (tc, .inl (cI, 16, .inl ftn_2))]) [0, 1] rfl
    have hD9 := hD.sub (ws' := [(k9, .inr (1, [.ref tc, .int (nI zn_2), .int nu, .int ki, .int ce, .int lo])), (tc, .inl (cI, 16, .inl ftn_2))]) [0, 1] (by decide) rfl
    exact W.iret (v := nu) hx hb hr (fun t ht hW => ⟨⟨nu, (), rfl, trivial, ⟨zn_2, ftn_2, by rw [ht]; exact hP9, hD9, (by omega)⟩⟩, hS.F ht⟩) hS.2.2 dX1_begin_146
  by_cases k_24 : x = 21
  · subst k_24
    refine lv_tableIn (off := 129) (tgt := 147) hx hb dX1_begin_18 (by decide) (by decide) (by decide) (by decide) ?_
    refine lv_aload_n hx hb dX1_begin_147 rfl (lv_at hl 1 rfl) ?_
    refine lv_bipush (v := 20) hx hb dX1_begin_148 (by decide) ?_
    refine lv_iload_n hx hb dX1_begin_150 rfl (lv_at hl 0 rfl) ?_
    have hPc_25 := hP.sub (ws' := [(k9, .inr (1, [.ref tc, .int (nI zn_2), .int nu, .int ki, .int ce, .int lo])), (tc, .inl (cI, 16, .inl ftn_2))]) [0, 1] rfl
    have hDc_25 := hD.sub (ws' := [(k9, .inr (1, [.ref tc, .int (nI zn_2), .int nu, .int ki, .int ce, .int lo])), (tc, .inl (cI, 16, .inl ftn_2))]) [0, 1] (by decide) rfl
    have hFc_25 := va_free (wc := [(k9, .inr (1, [.ref tc, .int (nI zn_2), .int nu, .int ki, .int ce, .int lo])), (tc, .inl (cI, 16, .inl ftn_2))]) hD hS hA [0, 1] rfl
    refine va_calli (va_runV (As := [.int 20, .int 11]) (rest := []) ⟨hx, hb, hml, hown, hts⟩ (r_X1_begin_11 l dC dI cI cZ cL cJ H.size k9 tc zn_2 nu ki ce lo ftn_2 20 (by omega)) (cwV 2 hts gX1_begin_X1_begin rfl rfl rfl (by decide +kernel) ⟨Nat.le_of_ble_eq_true rfl, Nat.le_of_ble_eq_true rfl⟩) ⟨fun a U g mk q => by obtain ⟨q0, q1, qP, qK, qD, qS⟩ := q; exact ⟨q0, q1, qP, va_K.moved (u := U) (U := U.calling g mk a) (Vm.Alike.refl U.vm) qK, qD, stt_same rfl qS⟩, va_recv hK hP (ci := 1) (q0 := 0) rfl rfl, fun U hU hW => ⟨rfl, by rw [hU], by rw [hU]; exact hPc_25, va_K.moved hW.alike hK, hDc_25.weaken (fun _ _ _ _ => trivial), by rw [hU]; exact stt_warm hW (stt_narrow (stt_kept hst hS.2.1) hFc_25)⟩⟩ rfl rfl hl.1 rfl (lv_room (Nat.le_of_ble_eq_true rfl)) dX1_begin_151 ⟨Nat.le_of_ble_eq_true rfl, Nat.le_of_ble_eq_true rfl⟩) hS (fun q _ h => hFc_25 q h) hFc_25 (fun r_25 u_25 t_25 H1 locs ht hvm h_25 hB hz1 hk1 hS => ?_)
    obtain ⟨zn_25, ftn_25, hP1, hD1, hF_25_0⟩ := hB
    rw [ht] at hP1
    obtain ⟨hP, hD⟩ := va_join (wr := []) (w1 := [(k9, .inr (1, [.ref tc, .int (nI zn_25), .int nu, .int ki, .int ce, .int lo])), (tc, .inl (cI, 16, .inl ftn_25))]) hP hD [0, 1] [] rfl rfl (by decide) (by decide) hk1 hFc_25 hP1 hD1
    generalize H1 = H at hP hS ⊢
    have hP : va_P (dC, dI) vwCl [(k9, .inr (1, [.ref tc, .int (nI zn_25), .int nu, .int ki, .int ce, .int lo])), (tc, .inl (cI, 16, .inl ftn_25))] H := hP
    have hD : va_D A [(k9, .inr (1, [.ref tc, .int (nI zn_25), .int nu, .int ki, .int ce, .int lo])), (tc, .inl (cI, 16, .inl ftn_25))] := hD
    refine lv_aload_n hx hb dX1_begin_154 rfl (lv_at hl 1 rfl) ?_
    refine va_get (D := (dC, dI)) (ci := 1) (v := .int ce) (C := RX1) (T := TX1) (N := 6) hx hb hts i_X1_begin_X1 hown hK hP 0 rfl rfl 4 (by decide) (hts (.fieldLink RX1 33 "MillTalk$Asks" "cell" "I") (by decide +kernel)) (fun _ h9 => h9) rfl dX1_begin_155 ?_
    refine lv_iadd hx hb dX1_begin_158 ?_
    refine lv_topi (fun v_26 e_26 => ?_)
    have hP9 := hP.sub (ws' := [(k9, .inr (1, [.ref tc, .int (nI zn_25), .int nu, .int ki, .int ce, .int lo])), (tc, .inl (cI, 16, .inl ftn_25))]) [0, 1] rfl
    have hD9 := hD.sub (ws' := [(k9, .inr (1, [.ref tc, .int (nI zn_25), .int nu, .int ki, .int ce, .int lo])), (tc, .inl (cI, 16, .inl ftn_25))]) [0, 1] (by decide) rfl
    exact W.iret (v := v_26) hx hb hr (fun t ht hW => ⟨⟨v_26, (), rfl, trivial, ⟨zn_25, ftn_25, by rw [ht]; exact hP9, hD9, (by omega)⟩⟩, hS.F ht⟩) hS.2.2 dX1_begin_159
  by_cases k_27 : x = 22
  · subst k_27
    refine lv_tableIn (off := 142) (tgt := 160) hx hb dX1_begin_18 (by decide) (by decide) (by decide) (by decide) ?_
    refine lv_aload_n hx hb dX1_begin_160 rfl (lv_at hl 1 rfl) ?_
    refine lv_bipush (v := 21) hx hb dX1_begin_161 (by decide) ?_
    refine lv_iload_n hx hb dX1_begin_163 rfl (lv_at hl 0 rfl) ?_
    have hPc_28 := hP.sub (ws' := [(k9, .inr (1, [.ref tc, .int (nI zn_2), .int nu, .int ki, .int ce, .int lo])), (tc, .inl (cI, 16, .inl ftn_2))]) [0, 1] rfl
    have hDc_28 := hD.sub (ws' := [(k9, .inr (1, [.ref tc, .int (nI zn_2), .int nu, .int ki, .int ce, .int lo])), (tc, .inl (cI, 16, .inl ftn_2))]) [0, 1] (by decide) rfl
    have hFc_28 := va_free (wc := [(k9, .inr (1, [.ref tc, .int (nI zn_2), .int nu, .int ki, .int ce, .int lo])), (tc, .inl (cI, 16, .inl ftn_2))]) hD hS hA [0, 1] rfl
    refine va_calli (va_runV (As := [.int 21, .int 11]) (rest := []) ⟨hx, hb, hml, hown, hts⟩ (r_X1_begin_11 l dC dI cI cZ cL cJ H.size k9 tc zn_2 nu ki ce lo ftn_2 21 (by omega)) (cwV 2 hts gX1_begin_X1_begin rfl rfl rfl (by decide +kernel) ⟨Nat.le_of_ble_eq_true rfl, Nat.le_of_ble_eq_true rfl⟩) ⟨fun a U g mk q => by obtain ⟨q0, q1, qP, qK, qD, qS⟩ := q; exact ⟨q0, q1, qP, va_K.moved (u := U) (U := U.calling g mk a) (Vm.Alike.refl U.vm) qK, qD, stt_same rfl qS⟩, va_recv hK hP (ci := 1) (q0 := 0) rfl rfl, fun U hU hW => ⟨rfl, by rw [hU], by rw [hU]; exact hPc_28, va_K.moved hW.alike hK, hDc_28.weaken (fun _ _ _ _ => trivial), by rw [hU]; exact stt_warm hW (stt_narrow (stt_kept hst hS.2.1) hFc_28)⟩⟩ rfl rfl hl.1 rfl (lv_room (Nat.le_of_ble_eq_true rfl)) dX1_begin_164 ⟨Nat.le_of_ble_eq_true rfl, Nat.le_of_ble_eq_true rfl⟩) hS (fun q _ h => hFc_28 q h) hFc_28 (fun r_28 u_28 t_28 H1 locs ht hvm h_28 hB hz1 hk1 hS => ?_)
    obtain ⟨zn_28, ftn_28, hP1, hD1, hF_28_0⟩ := hB
    rw [ht] at hP1
    obtain ⟨hP, hD⟩ := va_join (wr := []) (w1 := [(k9, .inr (1, [.ref tc, .int (nI zn_28), .int nu, .int ki, .int ce, .int lo])), (tc, .inl (cI, 16, .inl ftn_28))]) hP hD [0, 1] [] rfl rfl (by decide) (by decide) hk1 hFc_28 hP1 hD1
    generalize H1 = H at hP hS ⊢
    have hP : va_P (dC, dI) vwCl [(k9, .inr (1, [.ref tc, .int (nI zn_28), .int nu, .int ki, .int ce, .int lo])), (tc, .inl (cI, 16, .inl ftn_28))] H := hP
    have hD : va_D A [(k9, .inr (1, [.ref tc, .int (nI zn_28), .int nu, .int ki, .int ce, .int lo])), (tc, .inl (cI, 16, .inl ftn_28))] := hD
    refine lv_sipush (v := 1000) hx hb dX1_begin_167 (by decide) ?_
    refine lv_isub hx hb dX1_begin_170 ?_
    refine lv_topi (fun v_29 e_29 => ?_)
    have hP9 := hP.sub (ws' := [(k9, .inr (1, [.ref tc, .int (nI zn_28), .int nu, .int ki, .int ce, .int lo])), (tc, .inl (cI, 16, .inl ftn_28))]) [0, 1] rfl
    have hD9 := hD.sub (ws' := [(k9, .inr (1, [.ref tc, .int (nI zn_28), .int nu, .int ki, .int ce, .int lo])), (tc, .inl (cI, 16, .inl ftn_28))]) [0, 1] (by decide) rfl
    exact W.iret (v := v_29) hx hb hr (fun t ht hW => ⟨⟨v_29, (), rfl, trivial, ⟨zn_28, ftn_28, by rw [ht]; exact hP9, hD9, (by omega)⟩⟩, hS.F ht⟩) hS.2.2 dX1_begin_171
  by_cases k_30 : x = 23
  · subst k_30
    refine lv_tableIn (off := 154) (tgt := 172) hx hb dX1_begin_18 (by decide) (by decide) (by decide) (by decide) ?_
    refine lv_aload_n hx hb dX1_begin_172 rfl (lv_at hl 1 rfl) ?_
    refine lv_bipush (v := 20) hx hb dX1_begin_173 (by decide) ?_
    refine lv_iload_n hx hb dX1_begin_175 rfl (lv_at hl 0 rfl) ?_
    have hPc_31 := hP.sub (ws' := [(k9, .inr (1, [.ref tc, .int (nI zn_2), .int nu, .int ki, .int ce, .int lo])), (tc, .inl (cI, 16, .inl ftn_2))]) [0, 1] rfl
    have hDc_31 := hD.sub (ws' := [(k9, .inr (1, [.ref tc, .int (nI zn_2), .int nu, .int ki, .int ce, .int lo])), (tc, .inl (cI, 16, .inl ftn_2))]) [0, 1] (by decide) rfl
    have hFc_31 := va_free (wc := [(k9, .inr (1, [.ref tc, .int (nI zn_2), .int nu, .int ki, .int ce, .int lo])), (tc, .inl (cI, 16, .inl ftn_2))]) hD hS hA [0, 1] rfl
    refine va_calli (va_runV (As := [.int 20, .int 11]) (rest := []) ⟨hx, hb, hml, hown, hts⟩ (r_X1_begin_11 l dC dI cI cZ cL cJ H.size k9 tc zn_2 nu ki ce lo ftn_2 20 (by omega)) (cwV 2 hts gX1_begin_X1_begin rfl rfl rfl (by decide +kernel) ⟨Nat.le_of_ble_eq_true rfl, Nat.le_of_ble_eq_true rfl⟩) ⟨fun a U g mk q => by obtain ⟨q0, q1, qP, qK, qD, qS⟩ := q; exact ⟨q0, q1, qP, va_K.moved (u := U) (U := U.calling g mk a) (Vm.Alike.refl U.vm) qK, qD, stt_same rfl qS⟩, va_recv hK hP (ci := 1) (q0 := 0) rfl rfl, fun U hU hW => ⟨rfl, by rw [hU], by rw [hU]; exact hPc_31, va_K.moved hW.alike hK, hDc_31.weaken (fun _ _ _ _ => trivial), by rw [hU]; exact stt_warm hW (stt_narrow (stt_kept hst hS.2.1) hFc_31)⟩⟩ rfl rfl hl.1 rfl (lv_room (Nat.le_of_ble_eq_true rfl)) dX1_begin_176 ⟨Nat.le_of_ble_eq_true rfl, Nat.le_of_ble_eq_true rfl⟩) hS (fun q _ h => hFc_31 q h) hFc_31 (fun r_31 u_31 t_31 H1 locs ht hvm h_31 hB hz1 hk1 hS => ?_)
    obtain ⟨zn_31, ftn_31, hP1, hD1, hF_31_0⟩ := hB
    rw [ht] at hP1
    obtain ⟨hP, hD⟩ := va_join (wr := []) (w1 := [(k9, .inr (1, [.ref tc, .int (nI zn_31), .int nu, .int ki, .int ce, .int lo])), (tc, .inl (cI, 16, .inl ftn_31))]) hP hD [0, 1] [] rfl rfl (by decide) (by decide) hk1 hFc_31 hP1 hD1
    generalize H1 = H at hP hS ⊢
    have hP : va_P (dC, dI) vwCl [(k9, .inr (1, [.ref tc, .int (nI zn_31), .int nu, .int ki, .int ce, .int lo])), (tc, .inl (cI, 16, .inl ftn_31))] H := hP
    have hD : va_D A [(k9, .inr (1, [.ref tc, .int (nI zn_31), .int nu, .int ki, .int ce, .int lo])), (tc, .inl (cI, 16, .inl ftn_31))] := hD
    refine lv_aload_n hx hb dX1_begin_179 rfl (lv_at hl 1 rfl) ?_
    refine lv_iconst (v := 0) hx hb dX1_begin_180 (by decide) ?_
    refine lv_iload_n hx hb dX1_begin_181 rfl (lv_at hl 0 rfl) ?_
    have hPc_32 := hP.sub (ws' := [(k9, .inr (1, [.ref tc, .int (nI zn_31), .int nu, .int ki, .int ce, .int lo])), (tc, .inl (cI, 16, .inl ftn_31))]) [0, 1] rfl
    have hDc_32 := hD.sub (ws' := [(k9, .inr (1, [.ref tc, .int (nI zn_31), .int nu, .int ki, .int ce, .int lo])), (tc, .inl (cI, 16, .inl ftn_31))]) [0, 1] (by decide) rfl
    have hFc_32 := va_free (wc := [(k9, .inr (1, [.ref tc, .int (nI zn_31), .int nu, .int ki, .int ce, .int lo])), (tc, .inl (cI, 16, .inl ftn_31))]) hD hS hA [0, 1] rfl
    refine va_calli (va_runV (As := [.int 0, .int 11]) (rest := [.int r_31]) ⟨hx, hb, hml, hown, hts⟩ (r_X1_askAnew_11 l dC dI cI cZ cL cJ H.size k9 tc zn_31 nu ki ce lo ftn_31 0 (by omega)) (cwV 2 hts gX1_begin_X1_askAnew rfl rfl rfl (by decide +kernel) ⟨Nat.le_of_ble_eq_true rfl, Nat.le_of_ble_eq_true rfl⟩) ⟨fun a U g mk q => by obtain ⟨q0, q1, qP, qK, qD, qS⟩ := q; exact ⟨q0, q1, qP, va_K.moved (u := U) (U := U.calling g mk a) (Vm.Alike.refl U.vm) qK, qD, stt_same rfl qS⟩, va_recv hK hP (ci := 1) (q0 := 0) rfl rfl, fun U hU hW => ⟨rfl, by rw [hU], by rw [hU]; exact hPc_32, va_K.moved hW.alike hK, hDc_32.weaken (fun _ _ _ _ => trivial), by rw [hU]; exact stt_warm hW (stt_narrow (stt_kept hst hS.2.1) hFc_32)⟩⟩ rfl rfl hl.1 rfl (lv_room (Nat.le_of_ble_eq_true rfl)) dX1_begin_182 ⟨Nat.le_of_ble_eq_true rfl, Nat.le_of_ble_eq_true rfl⟩) hS (fun q _ h => hFc_32 q h) hFc_32 (fun r_32 u_32 t_32 H1 locs ht hvm h_32 hB hz1 hk1 hS => ?_)
    obtain ⟨zn_32, ftn_32, hP1, hD1, hF_32_0⟩ := hB
    rw [ht] at hP1
    obtain ⟨hP, hD⟩ := va_join (wr := []) (w1 := [(k9, .inr (1, [.ref tc, .int (nI zn_32), .int nu, .int ki, .int ce, .int lo])), (tc, .inl (cI, 16, .inl ftn_32))]) hP hD [0, 1] [] rfl rfl (by decide) (by decide) hk1 hFc_32 hP1 hD1
    generalize H1 = H at hP hS ⊢
    have hP : va_P (dC, dI) vwCl [(k9, .inr (1, [.ref tc, .int (nI zn_32), .int nu, .int ki, .int ce, .int lo])), (tc, .inl (cI, 16, .inl ftn_32))] H := hP
    have hD : va_D A [(k9, .inr (1, [.ref tc, .int (nI zn_32), .int nu, .int ki, .int ce, .int lo])), (tc, .inl (cI, 16, .inl ftn_32))] := hD
    refine lv_isub hx hb dX1_begin_185 ?_
    refine lv_topi (fun v_33 e_33 => ?_)
    have hP9 := hP.sub (ws' := [(k9, .inr (1, [.ref tc, .int (nI zn_32), .int nu, .int ki, .int ce, .int lo])), (tc, .inl (cI, 16, .inl ftn_32))]) [0, 1] rfl
    have hD9 := hD.sub (ws' := [(k9, .inr (1, [.ref tc, .int (nI zn_32), .int nu, .int ki, .int ce, .int lo])), (tc, .inl (cI, 16, .inl ftn_32))]) [0, 1] (by decide) rfl
    exact W.iret (v := v_33) hx hb hr (fun t ht hW => ⟨⟨v_33, (), rfl, trivial, ⟨zn_32, ftn_32, by rw [ht]; exact hP9, hD9, (by omega)⟩⟩, hS.F ht⟩) hS.2.2 dX1_begin_186
  by_cases k_34 : x = 24
  · subst k_34
    refine lv_tableIn (off := 169) (tgt := 187) hx hb dX1_begin_18 (by decide) (by decide) (by decide) (by decide) ?_
    refine lv_aload_n hx hb dX1_begin_187 rfl (lv_at hl 1 rfl) ?_
    refine lv_bipush (v := 21) hx hb dX1_begin_188 (by decide) ?_
    refine lv_iload_n hx hb dX1_begin_190 rfl (lv_at hl 0 rfl) ?_
    have hPc_35 := hP.sub (ws' := [(k9, .inr (1, [.ref tc, .int (nI zn_2), .int nu, .int ki, .int ce, .int lo])), (tc, .inl (cI, 16, .inl ftn_2))]) [0, 1] rfl
    have hDc_35 := hD.sub (ws' := [(k9, .inr (1, [.ref tc, .int (nI zn_2), .int nu, .int ki, .int ce, .int lo])), (tc, .inl (cI, 16, .inl ftn_2))]) [0, 1] (by decide) rfl
    have hFc_35 := va_free (wc := [(k9, .inr (1, [.ref tc, .int (nI zn_2), .int nu, .int ki, .int ce, .int lo])), (tc, .inl (cI, 16, .inl ftn_2))]) hD hS hA [0, 1] rfl
    refine va_calli (va_runV (As := [.int 21, .int 11]) (rest := []) ⟨hx, hb, hml, hown, hts⟩ (r_X1_begin_11 l dC dI cI cZ cL cJ H.size k9 tc zn_2 nu ki ce lo ftn_2 21 (by omega)) (cwV 2 hts gX1_begin_X1_begin rfl rfl rfl (by decide +kernel) ⟨Nat.le_of_ble_eq_true rfl, Nat.le_of_ble_eq_true rfl⟩) ⟨fun a U g mk q => by obtain ⟨q0, q1, qP, qK, qD, qS⟩ := q; exact ⟨q0, q1, qP, va_K.moved (u := U) (U := U.calling g mk a) (Vm.Alike.refl U.vm) qK, qD, stt_same rfl qS⟩, va_recv hK hP (ci := 1) (q0 := 0) rfl rfl, fun U hU hW => ⟨rfl, by rw [hU], by rw [hU]; exact hPc_35, va_K.moved hW.alike hK, hDc_35.weaken (fun _ _ _ _ => trivial), by rw [hU]; exact stt_warm hW (stt_narrow (stt_kept hst hS.2.1) hFc_35)⟩⟩ rfl rfl hl.1 rfl (lv_room (Nat.le_of_ble_eq_true rfl)) dX1_begin_191 ⟨Nat.le_of_ble_eq_true rfl, Nat.le_of_ble_eq_true rfl⟩) hS (fun q _ h => hFc_35 q h) hFc_35 (fun r_35 u_35 t_35 H1 locs ht hvm h_35 hB hz1 hk1 hS => ?_)
    obtain ⟨zn_35, ftn_35, hP1, hD1, hF_35_0⟩ := hB
    rw [ht] at hP1
    obtain ⟨hP, hD⟩ := va_join (wr := []) (w1 := [(k9, .inr (1, [.ref tc, .int (nI zn_35), .int nu, .int ki, .int ce, .int lo])), (tc, .inl (cI, 16, .inl ftn_35))]) hP hD [0, 1] [] rfl rfl (by decide) (by decide) hk1 hFc_35 hP1 hD1
    generalize H1 = H at hP hS ⊢
    have hP : va_P (dC, dI) vwCl [(k9, .inr (1, [.ref tc, .int (nI zn_35), .int nu, .int ki, .int ce, .int lo])), (tc, .inl (cI, 16, .inl ftn_35))] H := hP
    have hD : va_D A [(k9, .inr (1, [.ref tc, .int (nI zn_35), .int nu, .int ki, .int ce, .int lo])), (tc, .inl (cI, 16, .inl ftn_35))] := hD
    refine lv_iconst (v := 2) hx hb dX1_begin_194 (by decide) ?_
    refine lv_imul hx hb dX1_begin_195 ?_
    refine lv_topi (fun v_36 e_36 => ?_)
    have hP9 := hP.sub (ws' := [(k9, .inr (1, [.ref tc, .int (nI zn_35), .int nu, .int ki, .int ce, .int lo])), (tc, .inl (cI, 16, .inl ftn_35))]) [0, 1] rfl
    have hD9 := hD.sub (ws' := [(k9, .inr (1, [.ref tc, .int (nI zn_35), .int nu, .int ki, .int ce, .int lo])), (tc, .inl (cI, 16, .inl ftn_35))]) [0, 1] (by decide) rfl
    exact W.iret (v := v_36) hx hb hr (fun t ht hW => ⟨⟨v_36, (), rfl, trivial, ⟨zn_35, ftn_35, by rw [ht]; exact hP9, hD9, (by omega)⟩⟩, hS.F ht⟩) hS.2.2 dX1_begin_196
  have kT_4 := lv_neT k_4 (show (10 : Int32).toInt = 10 from rfl)
  have kT_5 := lv_neT k_5 (show (11 : Int32).toInt = 11 from rfl)
  have kT_9 := lv_neT k_9 (show (12 : Int32).toInt = 12 from rfl)
  have kT_12 := lv_neT k_12 (show (13 : Int32).toInt = 13 from rfl)
  have kT_15 := lv_neT k_15 (show (14 : Int32).toInt = 14 from rfl)
  have kT_18 := lv_neT k_18 (show (15 : Int32).toInt = 15 from rfl)
  have kT_19 := lv_neT k_19 (show (16 : Int32).toInt = 16 from rfl)
  have kT_20 := lv_neT k_20 (show (17 : Int32).toInt = 17 from rfl)
  have kT_21 := lv_neT k_21 (show (18 : Int32).toInt = 18 from rfl)
  have kT_22 := lv_neT k_22 (show (19 : Int32).toInt = 19 from rfl)
  have kT_23 := lv_neT k_23 (show (20 : Int32).toInt = 20 from rfl)
  have kT_24 := lv_neT k_24 (show (21 : Int32).toInt = 21 from rfl)
  have kT_27 := lv_neT k_27 (show (22 : Int32).toInt = 22 from rfl)
  have kT_30 := lv_neT k_30 (show (23 : Int32).toInt = 23 from rfl)
  have kT_34 := lv_neT k_34 (show (24 : Int32).toInt = 24 from rfl)
  refine lv_tableOut (tgt := 197) hx hb dX1_begin_18 (by omega) (by decide) ?_
  refine lv_iconst (v := 0) hx hb dX1_begin_197 (by decide) ?_
  have hP9 := hP.sub (ws' := [(k9, .inr (1, [.ref tc, .int (nI zn_2), .int nu, .int ki, .int ce, .int lo])), (tc, .inl (cI, 16, .inl ftn_2))]) [0, 1] rfl
  have hD9 := hD.sub (ws' := [(k9, .inr (1, [.ref tc, .int (nI zn_2), .int nu, .int ki, .int ce, .int lo])), (tc, .inl (cI, 16, .inl ftn_2))]) [0, 1] (by decide) rfl
  exact W.iret (v := 0) hx hb hr (fun t ht hW => ⟨⟨0, (), rfl, trivial, ⟨zn_2, ftn_2, by rw [ht]; exact hP9, hD9, (by omega)⟩⟩, hS.F ht⟩) hS.2.2 dX1_begin_198
set_option maxHeartbeats 4000000 in
set_option maxRecDepth 100000 in
theorem r_X1_askAnew_10 (l : Launch) (dC : Nat → ClassId) (dI : Nat → Nat → Nat) (cI cZ cL cJ : ClassId) (sz : Nat) (k9 : Nat) (tc : Nat) (z : Nat) (nu : Int32) (ki : Int32) (ce : Int32) (lo : Int32) (ft : Nat → Int32) (x : Int32) (hz : z ≤ 16) : Met l yX1_askAnew wsX1_askAnew ({ frames := 13, cells := 0, slots := 0, locals := 294 }) (va_Pc [.ref k9, .int x, .int 10] (fun U => U.heap.size = sz ∧ va_P (dC, dI) vwCl [(k9, .inr (1, [.ref tc, .int (nI z), .int nu, .int ki, .int ce, .int lo])), (tc, .inl (cI, 16, .inl ft))] U.heap ∧ va_K (dC, dI) vwCl [(cI, .int), (cZ, .boolean), (cL, .object RX3), (cJ, .array .int)] U ∧ va_D (fun _ => True) [(k9, .inr (1, [.ref tc, .int (nI z), .int nu, .int ki, .int ce, .int lo])), (tc, .inl (cI, 16, .inl ft))] ∧ stt (va_A [(k9, .inr (1, [.ref tc, .int (nI z), .int nu, .int ki, .int ce, .int lo])), (tc, .inl (cI, 16, .inl ft))] sz) U U.heap)) (va_Qi (fun r (_ : Unit) => True) (fun (_ : Unit) t => ∃ (zn : Nat) (ftn : Nat → Int32), va_P (dC, dI) vwCl [(k9, .inr (1, [.ref tc, .int (nI zn), .int nu, .int ki, .int ce, .int lo])), (tc, .inl (cI, 16, .inl ftn))] t.heap ∧ va_D (va_A [(k9, .inr (1, [.ref tc, .int (nI z), .int nu, .int ki, .int ce, .int lo])), (tc, .inl (cI, 16, .inl ft))] sz) [(k9, .inr (1, [.ref tc, .int (nI zn), .int nu, .int ki, .int ce, .int lo])), (tc, .inl (cI, 16, .inl ftn))] ∧ zn ≤ 16) (va_A [(k9, .inr (1, [.ref tc, .int (nI z), .int nu, .int ki, .int ce, .int lo])), (tc, .inl (cI, 16, .inl ft))] sz)) 0 0 (va_A [(k9, .inr (1, [.ref tc, .int (nI z), .int nu, .int ki, .int ce, .int lo])), (tc, .inl (cI, 16, .inl ft))] sz) := by
  refine Met.ofW (cc := cX1_askAnew) (maxL := 3) (ret := (some .int)) (by decide) rfl ?_
  intro p e s m args below meth c s₁ B hml hv
  obtain ⟨rfl, hsz, hP, hK, hD0, hst⟩ := hv
  have hx := B.exec
  have hb := B.bytes
  have hr := B.returns
  have hts := atoms_spec (ws := wsX1_askAnew) B.pre
  have hown : s.vm.findClass RX1 = some m.cls := findClass_of_methodNamed B.named
  have hlocks := B.notSynchronized
  subst hsz
  have hD := hD0.self (sz := s.heap.size)
  generalize hAe : va_A [(k9, .inr (1, [.ref tc, .int (nI z), .int nu, .int ki, .int ce, .int lo])), (tc, .inl (cI, 16, .inl ft))] s.heap.size = A at hD hst ⊢
  have hA : ∀ q : Nat, s.heap.size ≤ q → A q := fun q h => by rw [← hAe]; exact Or.inr h
  have hS : va_S A s.heap s.heap [] := va_S.rf
  have hP : va_P (dC, dI) vwCl [(k9, .inr (1, [.ref tc, .int (nI z), .int nu, .int ki, .int ce, .int lo])), (tc, .inl (cI, 16, .inl ft))] s.heap := hP
  obtain ⟨⟨tb1, hZ1, hT1⟩, ⟨tb2, hZ2, hT2⟩, ⟨tb3, hZ3, hT3⟩, hNk⟩ := id hst
  have hl := lv_entry ([.ref k9, .int x, .int 10]) (n := 3) (Nat.le_of_ble_eq_true rfl)
  rw [lg_entry_eq]
  generalize (lg_sl ([.ref k9, .int x, .int 10]) ++ List.replicate (3 - (lg_sl ([.ref k9, .int x, .int 10])).length) Slot.unset).toArray = ls at hl ⊢
  have hl : lv_has ls 3 [(0, .ref k9), (1, .int x), (2, .int 10)] := hl
  refine lv_aload_n hx hb dX1_askAnew_0 rfl (lv_at hl 0 rfl) ?_
  refine lv_aload_n hx hb dX1_askAnew_1 rfl (lv_at hl 0 rfl) ?_
  refine lv_iload_n hx hb dX1_askAnew_2 rfl (lv_at hl 1 rfl) ?_
  have hPc_1 := hP.sub (ws' := [(k9, .inr (1, [.ref tc, .int (nI z), .int nu, .int ki, .int ce, .int lo]))]) [0] rfl
  refine vp_callSi (W.runV (As := [.int x]) (rest := [.ref k9]) ⟨hx, hb, hml, hown, hts⟩ (r_X1_bodyFor l dC dI cI cZ cL cJ k9 tc z nu ki ce lo x ) (cwV 1 hts gX1_askAnew_X1_bodyFor rfl rfl rfl (by decide +kernel) ⟨Nat.le_of_ble_eq_true rfl, Nat.le_of_ble_eq_true rfl⟩) ⟨fun a U g mk q => by obtain ⟨q0, qP, qK, qS⟩ := q; exact ⟨q0, qP, va_K.moved (u := U) (U := U.calling g mk a) (Vm.Alike.refl U.vm) qK, stt_same rfl qS⟩, va_recv hK hP (ci := 1) (q0 := 0) rfl rfl, fun U hU hW => ⟨rfl, by rw [hU]; exact hPc_1, va_K.moved hW.alike hK, by rw [hU]; exact stt_warm hW (stt_narrow (stt_kept hst hS.2.1) (fun _ h => h.elim))⟩⟩ rfl rfl hl.1 rfl (lv_room (Nat.le_of_ble_eq_true rfl)) dX1_askAnew_3 ⟨Nat.le_of_ble_eq_true rfl, Nat.le_of_ble_eq_true rfl⟩) (fun r_1 h_1 => ?_)
  refine lv_iload_n hx hb dX1_askAnew_6 rfl (lv_at hl 2 rfl) ?_
  have hPc_2 := hP.sub (ws' := [(k9, .inr (1, [.ref tc, .int (nI z), .int nu, .int ki, .int ce, .int lo])), (tc, .inl (cI, 16, .inl ft))]) [0, 1] rfl
  have hDc_2 := hD.sub (ws' := [(k9, .inr (1, [.ref tc, .int (nI z), .int nu, .int ki, .int ce, .int lo])), (tc, .inl (cI, 16, .inl ft))]) [0, 1] (by decide) rfl
  have hFc_2 := va_free (wc := [(k9, .inr (1, [.ref tc, .int (nI z), .int nu, .int ki, .int ce, .int lo])), (tc, .inl (cI, 16, .inl ft))]) hD hS hA [0, 1] rfl
  refine va_calli (va_runV (As := [.int r_1, .int 10]) (rest := []) ⟨hx, hb, hml, hown, hts⟩ (r_X1_begin_10 l dC dI cI cZ cL cJ s.heap.size k9 tc z nu ki ce lo ft r_1 (by omega)) (cwV 2 hts gX1_askAnew_X1_begin rfl rfl rfl (by decide +kernel) ⟨Nat.le_of_ble_eq_true rfl, Nat.le_of_ble_eq_true rfl⟩) ⟨fun a U g mk q => by obtain ⟨q0, q1, qP, qK, qD, qS⟩ := q; exact ⟨q0, q1, qP, va_K.moved (u := U) (U := U.calling g mk a) (Vm.Alike.refl U.vm) qK, qD, stt_same rfl qS⟩, va_recv hK hP (ci := 1) (q0 := 0) rfl rfl, fun U hU hW => ⟨rfl, by rw [hU], by rw [hU]; exact hPc_2, va_K.moved hW.alike hK, hDc_2.weaken (fun _ _ _ _ => trivial), by rw [hU]; exact stt_warm hW (stt_narrow (stt_kept hst hS.2.1) hFc_2)⟩⟩ rfl rfl hl.1 rfl (lv_room (Nat.le_of_ble_eq_true rfl)) dX1_askAnew_7 ⟨Nat.le_of_ble_eq_true rfl, Nat.le_of_ble_eq_true rfl⟩) hS (fun q _ h => hFc_2 q h) hFc_2 (fun r_2 u_2 t_2 H1 locs ht hvm h_2 hB hz1 hk1 hS => ?_)
  obtain ⟨zn_2, ftn_2, hP1, hD1, hF_2_0⟩ := hB
  rw [ht] at hP1
  obtain ⟨hP, hD⟩ := va_join (wr := []) (w1 := [(k9, .inr (1, [.ref tc, .int (nI zn_2), .int nu, .int ki, .int ce, .int lo])), (tc, .inl (cI, 16, .inl ftn_2))]) hP hD [0, 1] [] rfl rfl (by decide) (by decide) hk1 hFc_2 hP1 hD1
  generalize H1 = H at hP hS ⊢
  have hP : va_P (dC, dI) vwCl [(k9, .inr (1, [.ref tc, .int (nI zn_2), .int nu, .int ki, .int ce, .int lo])), (tc, .inl (cI, 16, .inl ftn_2))] H := hP
  have hD : va_D A [(k9, .inr (1, [.ref tc, .int (nI zn_2), .int nu, .int ki, .int ce, .int lo])), (tc, .inl (cI, 16, .inl ftn_2))] := hD
  have hP9 := hP.sub (ws' := [(k9, .inr (1, [.ref tc, .int (nI zn_2), .int nu, .int ki, .int ce, .int lo])), (tc, .inl (cI, 16, .inl ftn_2))]) [0, 1] rfl
  have hD9 := hD.sub (ws' := [(k9, .inr (1, [.ref tc, .int (nI zn_2), .int nu, .int ki, .int ce, .int lo])), (tc, .inl (cI, 16, .inl ftn_2))]) [0, 1] (by decide) rfl
  exact W.iret (v := r_2) hx hb hr (fun t ht hW => ⟨⟨r_2, (), rfl, trivial, ⟨zn_2, ftn_2, by rw [ht]; exact hP9, hD9, (by omega)⟩⟩, hS.F ht⟩) hS.2.2 dX1_askAnew_10
set_option maxHeartbeats 4000000 in
set_option maxRecDepth 100000 in
theorem r_X1_begin_9 (l : Launch) (dC : Nat → ClassId) (dI : Nat → Nat → Nat) (cI cZ cL cJ : ClassId) (sz : Nat) (k9 : Nat) (tc : Nat) (z : Nat) (nu : Int32) (ki : Int32) (ce : Int32) (lo : Int32) (ft : Nat → Int32) (x : Int32) (hz : z ≤ 16) : Met l yX1_begin wsX1_begin ({ frames := 14, cells := 0, slots := 0, locals := 316 }) (va_Pc [.ref k9, .int x, .int 9] (fun U => U.heap.size = sz ∧ va_P (dC, dI) vwCl [(k9, .inr (1, [.ref tc, .int (nI z), .int nu, .int ki, .int ce, .int lo])), (tc, .inl (cI, 16, .inl ft))] U.heap ∧ va_K (dC, dI) vwCl [(cI, .int), (cZ, .boolean), (cL, .object RX3), (cJ, .array .int)] U ∧ va_D (fun _ => True) [(k9, .inr (1, [.ref tc, .int (nI z), .int nu, .int ki, .int ce, .int lo])), (tc, .inl (cI, 16, .inl ft))] ∧ stt (va_A [(k9, .inr (1, [.ref tc, .int (nI z), .int nu, .int ki, .int ce, .int lo])), (tc, .inl (cI, 16, .inl ft))] sz) U U.heap)) (va_Qi (fun r (_ : Unit) => True) (fun (_ : Unit) t => ∃ (zn : Nat) (ftn : Nat → Int32), va_P (dC, dI) vwCl [(k9, .inr (1, [.ref tc, .int (nI zn), .int nu, .int ki, .int ce, .int lo])), (tc, .inl (cI, 16, .inl ftn))] t.heap ∧ va_D (va_A [(k9, .inr (1, [.ref tc, .int (nI z), .int nu, .int ki, .int ce, .int lo])), (tc, .inl (cI, 16, .inl ft))] sz) [(k9, .inr (1, [.ref tc, .int (nI zn), .int nu, .int ki, .int ce, .int lo])), (tc, .inl (cI, 16, .inl ftn))] ∧ zn ≤ 16) (va_A [(k9, .inr (1, [.ref tc, .int (nI z), .int nu, .int ki, .int ce, .int lo])), (tc, .inl (cI, 16, .inl ft))] sz)) 0 0 (va_A [(k9, .inr (1, [.ref tc, .int (nI z), .int nu, .int ki, .int ce, .int lo])), (tc, .inl (cI, 16, .inl ft))] sz) := by
  refine Met.ofW (cc := cX1_begin) (maxL := 4) (ret := (some .int)) (by decide) rfl ?_
  intro p e s m args below meth c s₁ B hml hv
  obtain ⟨rfl, hsz, hP, hK, hD0, hst⟩ := hv
  have hx := B.exec
  have hb := B.bytes
  have hr := B.returns
  have hts := atoms_spec (ws := wsX1_begin) B.pre
  have hown : s.vm.findClass RX1 = some m.cls := findClass_of_methodNamed B.named
  have hlocks := B.notSynchronized
  subst hsz
  have hD := hD0.self (sz := s.heap.size)
  generalize hAe : va_A [(k9, .inr (1, [.ref tc, .int (nI z), .int nu, .int ki, .int ce, .int lo])), (tc, .inl (cI, 16, .inl ft))] s.heap.size = A at hD hst ⊢
  have hA : ∀ q : Nat, s.heap.size ≤ q → A q := fun q h => by rw [← hAe]; exact Or.inr h
  have hS : va_S A s.heap s.heap [] := va_S.rf
  have hP : va_P (dC, dI) vwCl [(k9, .inr (1, [.ref tc, .int (nI z), .int nu, .int ki, .int ce, .int lo])), (tc, .inl (cI, 16, .inl ft))] s.heap := hP
  obtain ⟨⟨tb1, hZ1, hT1⟩, ⟨tb2, hZ2, hT2⟩, ⟨tb3, hZ3, hT3⟩, hNk⟩ := id hst
  have hl := lv_entry ([.ref k9, .int x, .int 9]) (n := 4) (Nat.le_of_ble_eq_true rfl)
  rw [lg_entry_eq]
  generalize (lg_sl ([.ref k9, .int x, .int 9]) ++ List.replicate (4 - (lg_sl ([.ref k9, .int x, .int 9])).length) Slot.unset).toArray = ls at hl ⊢
  have hl : lv_has ls 4 [(0, .ref k9), (1, .int x), (2, .int 9)] := hl
  refine lv_iload_n hx hb dX1_begin_0 rfl (lv_at hl 2 rfl) ?_
  refine lv_bipush (v := 16) hx hb dX1_begin_1 (by decide) ?_
  refine lv_icmp_lt (tgt := 8) hx hb dX1_begin_3 (by decide) (fun _ => ?_) (fun c_ => absurd (by decide) c_)
  refine lv_aload_n hx hb dX1_begin_8 rfl (lv_at hl 0 rfl) ?_
  refine lv_iload_n hx hb dX1_begin_9 rfl (lv_at hl 1 rfl) ?_
  have hPc_2 := hP.sub (ws' := [(k9, .inr (1, [.ref tc, .int (nI z), .int nu, .int ki, .int ce, .int lo])), (tc, .inl (cI, 16, .inl ft))]) [0, 1] rfl
  have hDc_2 := hD.sub (ws' := [(k9, .inr (1, [.ref tc, .int (nI z), .int nu, .int ki, .int ce, .int lo])), (tc, .inl (cI, 16, .inl ft))]) [0, 1] (by decide) rfl
  have hFc_2 := va_free (wc := [(k9, .inr (1, [.ref tc, .int (nI z), .int nu, .int ki, .int ce, .int lo])), (tc, .inl (cI, 16, .inl ft))]) hD hS hA [0, 1] rfl
  refine va_callv (va_runV (As := [.int x]) (rest := []) ⟨hx, hb, hml, hown, hts⟩ (r_X1_leave l dC dI cI cZ cL cJ s.heap.size k9 tc z nu ki ce lo ft x (by omega)) (cwV 1 hts gX1_begin_X1_leave rfl rfl rfl (by decide +kernel) ⟨Nat.le_of_ble_eq_true rfl, Nat.le_of_ble_eq_true rfl⟩) ⟨fun a U g mk q => by obtain ⟨q0, q1, qP, qK, qD⟩ := q; exact ⟨q0, q1, qP, va_K.moved (u := U) (U := U.calling g mk a) (Vm.Alike.refl U.vm) qK, qD⟩, va_recv hK hP (ci := 1) (q0 := 0) rfl rfl, fun U hU hW => ⟨rfl, by rw [hU], by rw [hU]; exact hPc_2, va_K.moved hW.alike hK, hDc_2.weaken (fun _ _ _ _ => trivial)⟩⟩ rfl rfl hl.1 rfl (lv_room (Nat.le_of_ble_eq_true rfl)) dX1_begin_10 ⟨Nat.le_of_ble_eq_true rfl, Nat.le_of_ble_eq_true rfl⟩) hS (fun q _ h => hFc_2 q h) hFc_2 (fun u_2 t_2 H1 locs ht hvm h_2 hB hz1 hk1 hS => ?_)
  obtain ⟨zn_2, ftn_2, hP1, hD1, hF_2_0⟩ := hB
  rw [ht] at hP1
  obtain ⟨hP, hD⟩ := va_join (wr := []) (w1 := [(k9, .inr (1, [.ref tc, .int (nI zn_2), .int nu, .int ki, .int ce, .int lo])), (tc, .inl (cI, 16, .inl ftn_2))]) hP hD [0, 1] [] rfl rfl (by decide) (by decide) hk1 hFc_2 hP1 hD1
  generalize H1 = H at hP hS ⊢
  have hP : va_P (dC, dI) vwCl [(k9, .inr (1, [.ref tc, .int (nI zn_2), .int nu, .int ki, .int ce, .int lo])), (tc, .inl (cI, 16, .inl ftn_2))] H := hP
  have hD : va_D A [(k9, .inr (1, [.ref tc, .int (nI zn_2), .int nu, .int ki, .int ce, .int lo])), (tc, .inl (cI, 16, .inl ftn_2))] := hD
  refine lv_iload_n hx hb dX1_begin_13 rfl (lv_at hl 2 rfl) ?_
  refine lv_iconst (v := 1) hx hb dX1_begin_14 (by decide) ?_
  refine lv_iadd hx hb dX1_begin_15 ?_
  refine lv_topi (fun v_3 e_3 => ?_)
  obtain rfl : v_3 = 10 := (e_3).trans (by decide)
  refine lv_istore_n (lv' := [(3, .int 10), (0, .ref k9), (1, .int x), (2, .int 9)]) hx hb dX1_begin_16 rfl hl (by decide) rfl (fun ls hl => ?_)
  refine lv_iload_n hx hb dX1_begin_17 rfl (lv_at hl 2 rfl) ?_
  by_cases k_4 : x = 10
  · subst k_4
    refine lv_tableIn (off := 74) (tgt := 92) hx hb dX1_begin_18 (by decide) (by decide) (by decide) (by decide) ?_
    refine lv_aload_n hx hb dX1_begin_92 rfl (lv_at hl 1 rfl) ?_
    refine va_get (D := (dC, dI)) (ci := 1) (v := .int lo) (C := RX1) (T := TX1) (N := 6) hx hb hts i_X1_begin_X1 hown hK hP 0 rfl rfl 5 (by decide) (hts (.fieldLink RX1 39 "MillTalk$Asks" "loud" "I") (by decide +kernel)) (fun _ h9 => h9) rfl dX1_begin_93 ?_
    have hP9 := hP.sub (ws' := [(k9, .inr (1, [.ref tc, .int (nI zn_2), .int nu, .int ki, .int ce, .int lo])), (tc, .inl (cI, 16, .inl ftn_2))]) [0, 1] rfl
    have hD9 := hD.sub (ws' := [(k9, .inr (1, [.ref tc, .int (nI zn_2), .int nu, .int ki, .int ce, .int lo])), (tc, .inl (cI, 16, .inl ftn_2))]) [0, 1] (by decide) rfl
    exact W.iret (v := lo) hx hb hr (fun t ht hW => ⟨⟨lo, (), rfl, trivial, ⟨zn_2, ftn_2, by rw [ht]; exact hP9, hD9, (by omega)⟩⟩, hS.F ht⟩) hS.2.2 dX1_begin_96
  by_cases k_5 : x = 11
  · subst k_5
    refine lv_tableIn (off := 79) (tgt := 97) hx hb dX1_begin_18 (by decide) (by decide) (by decide) (by decide) ?_
    refine lv_aload_n hx hb dX1_begin_97 rfl (lv_at hl 1 rfl) ?_
    refine lv_bipush (v := 10) hx hb dX1_begin_98 (by decide) ?_
    refine lv_iload_n hx hb dX1_begin_100 rfl (lv_at hl 0 rfl) ?_
    have hPc_6 := hP.sub (ws' := [(k9, .inr (1, [.ref tc, .int (nI zn_2), .int nu, .int ki, .int ce, .int lo])), (tc, .inl (cI, 16, .inl ftn_2))]) [0, 1] rfl
    have hDc_6 := hD.sub (ws' := [(k9, .inr (1, [.ref tc, .int (nI zn_2), .int nu, .int ki, .int ce, .int lo])), (tc, .inl (cI, 16, .inl ftn_2))]) [0, 1] (by decide) rfl
    have hFc_6 := va_free (wc := [(k9, .inr (1, [.ref tc, .int (nI zn_2), .int nu, .int ki, .int ce, .int lo])), (tc, .inl (cI, 16, .inl ftn_2))]) hD hS hA [0, 1] rfl
    refine va_calli (va_runV (As := [.int 10, .int 10]) (rest := []) ⟨hx, hb, hml, hown, hts⟩ (r_X1_begin_10 l dC dI cI cZ cL cJ H.size k9 tc zn_2 nu ki ce lo ftn_2 10 (by omega)) (cwV 2 hts gX1_begin_X1_begin rfl rfl rfl (by decide +kernel) ⟨Nat.le_of_ble_eq_true rfl, Nat.le_of_ble_eq_true rfl⟩) ⟨fun a U g mk q => by obtain ⟨q0, q1, qP, qK, qD, qS⟩ := q; exact ⟨q0, q1, qP, va_K.moved (u := U) (U := U.calling g mk a) (Vm.Alike.refl U.vm) qK, qD, stt_same rfl qS⟩, va_recv hK hP (ci := 1) (q0 := 0) rfl rfl, fun U hU hW => ⟨rfl, by rw [hU], by rw [hU]; exact hPc_6, va_K.moved hW.alike hK, hDc_6.weaken (fun _ _ _ _ => trivial), by rw [hU]; exact stt_warm hW (stt_narrow (stt_kept hst hS.2.1) hFc_6)⟩⟩ rfl rfl hl.1 rfl (lv_room (Nat.le_of_ble_eq_true rfl)) dX1_begin_101 ⟨Nat.le_of_ble_eq_true rfl, Nat.le_of_ble_eq_true rfl⟩) hS (fun q _ h => hFc_6 q h) hFc_6 (fun r_6 u_6 t_6 H1 locs ht hvm h_6 hB hz1 hk1 hS => ?_)
    obtain ⟨zn_6, ftn_6, hP1, hD1, hF_6_0⟩ := hB
    rw [ht] at hP1
    obtain ⟨hP, hD⟩ := va_join (wr := []) (w1 := [(k9, .inr (1, [.ref tc, .int (nI zn_6), .int nu, .int ki, .int ce, .int lo])), (tc, .inl (cI, 16, .inl ftn_6))]) hP hD [0, 1] [] rfl rfl (by decide) (by decide) hk1 hFc_6 hP1 hD1
    generalize H1 = H at hP hS ⊢
    have hP : va_P (dC, dI) vwCl [(k9, .inr (1, [.ref tc, .int (nI zn_6), .int nu, .int ki, .int ce, .int lo])), (tc, .inl (cI, 16, .inl ftn_6))] H := hP
    have hD : va_D A [(k9, .inr (1, [.ref tc, .int (nI zn_6), .int nu, .int ki, .int ce, .int lo])), (tc, .inl (cI, 16, .inl ftn_6))] := hD
    refine lv_aload_n hx hb dX1_begin_104 rfl (lv_at hl 1 rfl) ?_
    refine lv_iconst (v := 1) hx hb dX1_begin_105 (by decide) ?_
    refine lv_iload_n hx hb dX1_begin_106 rfl (lv_at hl 0 rfl) ?_
    have hPc_7 := hP.sub (ws' := [(k9, .inr (1, [.ref tc, .int (nI zn_6), .int nu, .int ki, .int ce, .int lo])), (tc, .inl (cI, 16, .inl ftn_6))]) [0, 1] rfl
    have hDc_7 := hD.sub (ws' := [(k9, .inr (1, [.ref tc, .int (nI zn_6), .int nu, .int ki, .int ce, .int lo])), (tc, .inl (cI, 16, .inl ftn_6))]) [0, 1] (by decide) rfl
    have hFc_7 := va_free (wc := [(k9, .inr (1, [.ref tc, .int (nI zn_6), .int nu, .int ki, .int ce, .int lo])), (tc, .inl (cI, 16, .inl ftn_6))]) hD hS hA [0, 1] rfl
    refine va_calli (va_runV (As := [.int 1, .int 10]) (rest := [.int r_6]) ⟨hx, hb, hml, hown, hts⟩ (r_X1_askAnew_10 l dC dI cI cZ cL cJ H.size k9 tc zn_6 nu ki ce lo ftn_6 1 (by omega)) (cwV 2 hts gX1_begin_X1_askAnew rfl rfl rfl (by decide +kernel) ⟨Nat.le_of_ble_eq_true rfl, Nat.le_of_ble_eq_true rfl⟩) ⟨fun a U g mk q => by obtain ⟨q0, q1, qP, qK, qD, qS⟩ := q; exact ⟨q0, q1, qP, va_K.moved (u := U) (U := U.calling g mk a) (Vm.Alike.refl U.vm) qK, qD, stt_same rfl qS⟩, va_recv hK hP (ci := 1) (q0 := 0) rfl rfl, fun U hU hW => ⟨rfl, by rw [hU], by rw [hU]; exact hPc_7, va_K.moved hW.alike hK, hDc_7.weaken (fun _ _ _ _ => trivial), by rw [hU]; exact stt_warm hW (stt_narrow (stt_kept hst hS.2.1) hFc_7)⟩⟩ rfl rfl hl.1 rfl (lv_room (Nat.le_of_ble_eq_true rfl)) dX1_begin_107 ⟨Nat.le_of_ble_eq_true rfl, Nat.le_of_ble_eq_true rfl⟩) hS (fun q _ h => hFc_7 q h) hFc_7 (fun r_7 u_7 t_7 H1 locs ht hvm h_7 hB hz1 hk1 hS => ?_)
    obtain ⟨zn_7, ftn_7, hP1, hD1, hF_7_0⟩ := hB
    rw [ht] at hP1
    obtain ⟨hP, hD⟩ := va_join (wr := []) (w1 := [(k9, .inr (1, [.ref tc, .int (nI zn_7), .int nu, .int ki, .int ce, .int lo])), (tc, .inl (cI, 16, .inl ftn_7))]) hP hD [0, 1] [] rfl rfl (by decide) (by decide) hk1 hFc_7 hP1 hD1
    generalize H1 = H at hP hS ⊢
    have hP : va_P (dC, dI) vwCl [(k9, .inr (1, [.ref tc, .int (nI zn_7), .int nu, .int ki, .int ce, .int lo])), (tc, .inl (cI, 16, .inl ftn_7))] H := hP
    have hD : va_D A [(k9, .inr (1, [.ref tc, .int (nI zn_7), .int nu, .int ki, .int ce, .int lo])), (tc, .inl (cI, 16, .inl ftn_7))] := hD
    refine lv_iadd hx hb dX1_begin_110 ?_
    refine lv_topi (fun v_8 e_8 => ?_)
    have hP9 := hP.sub (ws' := [(k9, .inr (1, [.ref tc, .int (nI zn_7), .int nu, .int ki, .int ce, .int lo])), (tc, .inl (cI, 16, .inl ftn_7))]) [0, 1] rfl
    have hD9 := hD.sub (ws' := [(k9, .inr (1, [.ref tc, .int (nI zn_7), .int nu, .int ki, .int ce, .int lo])), (tc, .inl (cI, 16, .inl ftn_7))]) [0, 1] (by decide) rfl
    exact W.iret (v := v_8) hx hb hr (fun t ht hW => ⟨⟨v_8, (), rfl, trivial, ⟨zn_7, ftn_7, by rw [ht]; exact hP9, hD9, (by omega)⟩⟩, hS.F ht⟩) hS.2.2 dX1_begin_111
  by_cases k_9 : x = 12
  · subst k_9
    refine lv_tableIn (off := 94) (tgt := 112) hx hb dX1_begin_18 (by decide) (by decide) (by decide) (by decide) ?_
    refine lv_aload_n hx hb dX1_begin_112 rfl (lv_at hl 1 rfl) ?_
    refine lv_bipush (v := 11) hx hb dX1_begin_113 (by decide) ?_
    refine lv_iload_n hx hb dX1_begin_115 rfl (lv_at hl 0 rfl) ?_
    have hPc_10 := hP.sub (ws' := [(k9, .inr (1, [.ref tc, .int (nI zn_2), .int nu, .int ki, .int ce, .int lo])), (tc, .inl (cI, 16, .inl ftn_2))]) [0, 1] rfl
    have hDc_10 := hD.sub (ws' := [(k9, .inr (1, [.ref tc, .int (nI zn_2), .int nu, .int ki, .int ce, .int lo])), (tc, .inl (cI, 16, .inl ftn_2))]) [0, 1] (by decide) rfl
    have hFc_10 := va_free (wc := [(k9, .inr (1, [.ref tc, .int (nI zn_2), .int nu, .int ki, .int ce, .int lo])), (tc, .inl (cI, 16, .inl ftn_2))]) hD hS hA [0, 1] rfl
    refine va_calli (va_runV (As := [.int 11, .int 10]) (rest := []) ⟨hx, hb, hml, hown, hts⟩ (r_X1_begin_10 l dC dI cI cZ cL cJ H.size k9 tc zn_2 nu ki ce lo ftn_2 11 (by omega)) (cwV 2 hts gX1_begin_X1_begin rfl rfl rfl (by decide +kernel) ⟨Nat.le_of_ble_eq_true rfl, Nat.le_of_ble_eq_true rfl⟩) ⟨fun a U g mk q => by obtain ⟨q0, q1, qP, qK, qD, qS⟩ := q; exact ⟨q0, q1, qP, va_K.moved (u := U) (U := U.calling g mk a) (Vm.Alike.refl U.vm) qK, qD, stt_same rfl qS⟩, va_recv hK hP (ci := 1) (q0 := 0) rfl rfl, fun U hU hW => ⟨rfl, by rw [hU], by rw [hU]; exact hPc_10, va_K.moved hW.alike hK, hDc_10.weaken (fun _ _ _ _ => trivial), by rw [hU]; exact stt_warm hW (stt_narrow (stt_kept hst hS.2.1) hFc_10)⟩⟩ rfl rfl hl.1 rfl (lv_room (Nat.le_of_ble_eq_true rfl)) dX1_begin_116 ⟨Nat.le_of_ble_eq_true rfl, Nat.le_of_ble_eq_true rfl⟩) hS (fun q _ h => hFc_10 q h) hFc_10 (fun r_10 u_10 t_10 H1 locs ht hvm h_10 hB hz1 hk1 hS => ?_)
    obtain ⟨zn_10, ftn_10, hP1, hD1, hF_10_0⟩ := hB
    rw [ht] at hP1
    obtain ⟨hP, hD⟩ := va_join (wr := []) (w1 := [(k9, .inr (1, [.ref tc, .int (nI zn_10), .int nu, .int ki, .int ce, .int lo])), (tc, .inl (cI, 16, .inl ftn_10))]) hP hD [0, 1] [] rfl rfl (by decide) (by decide) hk1 hFc_10 hP1 hD1
    generalize H1 = H at hP hS ⊢
    have hP : va_P (dC, dI) vwCl [(k9, .inr (1, [.ref tc, .int (nI zn_10), .int nu, .int ki, .int ce, .int lo])), (tc, .inl (cI, 16, .inl ftn_10))] H := hP
    have hD : va_D A [(k9, .inr (1, [.ref tc, .int (nI zn_10), .int nu, .int ki, .int ce, .int lo])), (tc, .inl (cI, 16, .inl ftn_10))] := hD
    refine lv_ineg hx hb dX1_begin_119 ?_
    refine lv_topi (fun v_11 e_11 => ?_)
    have hP9 := hP.sub (ws' := [(k9, .inr (1, [.ref tc, .int (nI zn_10), .int nu, .int ki, .int ce, .int lo])), (tc, .inl (cI, 16, .inl ftn_10))]) [0, 1] rfl
    have hD9 := hD.sub (ws' := [(k9, .inr (1, [.ref tc, .int (nI zn_10), .int nu, .int ki, .int ce, .int lo])), (tc, .inl (cI, 16, .inl ftn_10))]) [0, 1] (by decide) rfl
    exact W.iret (v := v_11) hx hb hr (fun t ht hW => ⟨⟨v_11, (), rfl, trivial, ⟨zn_10, ftn_10, by rw [ht]; exact hP9, hD9, (by omega)⟩⟩, hS.F ht⟩) hS.2.2 dX1_begin_120
  by_cases k_12 : x = 13
  · subst k_12
    refine lv_tableIn (off := 103) (tgt := 121) hx hb dX1_begin_18 (by decide) (by decide) (by decide) (by decide) ?_
    refine lv_aload_n hx hb dX1_begin_121 rfl (lv_at hl 1 rfl) ?_
    refine lv_bipush (v := 10) hx hb dX1_begin_122 (by decide) ?_
    refine lv_iload_n hx hb dX1_begin_124 rfl (lv_at hl 0 rfl) ?_
    have hPc_13 := hP.sub (ws' := [(k9, .inr (1, [.ref tc, .int (nI zn_2), .int nu, .int ki, .int ce, .int lo])), (tc, .inl (cI, 16, .inl ftn_2))]) [0, 1] rfl
    have hDc_13 := hD.sub (ws' := [(k9, .inr (1, [.ref tc, .int (nI zn_2), .int nu, .int ki, .int ce, .int lo])), (tc, .inl (cI, 16, .inl ftn_2))]) [0, 1] (by decide) rfl
    have hFc_13 := va_free (wc := [(k9, .inr (1, [.ref tc, .int (nI zn_2), .int nu, .int ki, .int ce, .int lo])), (tc, .inl (cI, 16, .inl ftn_2))]) hD hS hA [0, 1] rfl
    refine va_calli (va_runV (As := [.int 10, .int 10]) (rest := []) ⟨hx, hb, hml, hown, hts⟩ (r_X1_begin_10 l dC dI cI cZ cL cJ H.size k9 tc zn_2 nu ki ce lo ftn_2 10 (by omega)) (cwV 2 hts gX1_begin_X1_begin rfl rfl rfl (by decide +kernel) ⟨Nat.le_of_ble_eq_true rfl, Nat.le_of_ble_eq_true rfl⟩) ⟨fun a U g mk q => by obtain ⟨q0, q1, qP, qK, qD, qS⟩ := q; exact ⟨q0, q1, qP, va_K.moved (u := U) (U := U.calling g mk a) (Vm.Alike.refl U.vm) qK, qD, stt_same rfl qS⟩, va_recv hK hP (ci := 1) (q0 := 0) rfl rfl, fun U hU hW => ⟨rfl, by rw [hU], by rw [hU]; exact hPc_13, va_K.moved hW.alike hK, hDc_13.weaken (fun _ _ _ _ => trivial), by rw [hU]; exact stt_warm hW (stt_narrow (stt_kept hst hS.2.1) hFc_13)⟩⟩ rfl rfl hl.1 rfl (lv_room (Nat.le_of_ble_eq_true rfl)) dX1_begin_125 ⟨Nat.le_of_ble_eq_true rfl, Nat.le_of_ble_eq_true rfl⟩) hS (fun q _ h => hFc_13 q h) hFc_13 (fun r_13 u_13 t_13 H1 locs ht hvm h_13 hB hz1 hk1 hS => ?_)
    obtain ⟨zn_13, ftn_13, hP1, hD1, hF_13_0⟩ := hB
    rw [ht] at hP1
    obtain ⟨hP, hD⟩ := va_join (wr := []) (w1 := [(k9, .inr (1, [.ref tc, .int (nI zn_13), .int nu, .int ki, .int ce, .int lo])), (tc, .inl (cI, 16, .inl ftn_13))]) hP hD [0, 1] [] rfl rfl (by decide) (by decide) hk1 hFc_13 hP1 hD1
    generalize H1 = H at hP hS ⊢
    have hP : va_P (dC, dI) vwCl [(k9, .inr (1, [.ref tc, .int (nI zn_13), .int nu, .int ki, .int ce, .int lo])), (tc, .inl (cI, 16, .inl ftn_13))] H := hP
    have hD : va_D A [(k9, .inr (1, [.ref tc, .int (nI zn_13), .int nu, .int ki, .int ce, .int lo])), (tc, .inl (cI, 16, .inl ftn_13))] := hD
    refine lv_bipush (v := 100) hx hb dX1_begin_128 (by decide) ?_
    refine lv_isub hx hb dX1_begin_130 ?_
    refine lv_topi (fun v_14 e_14 => ?_)
    have hP9 := hP.sub (ws' := [(k9, .inr (1, [.ref tc, .int (nI zn_13), .int nu, .int ki, .int ce, .int lo])), (tc, .inl (cI, 16, .inl ftn_13))]) [0, 1] rfl
    have hD9 := hD.sub (ws' := [(k9, .inr (1, [.ref tc, .int (nI zn_13), .int nu, .int ki, .int ce, .int lo])), (tc, .inl (cI, 16, .inl ftn_13))]) [0, 1] (by decide) rfl
    exact W.iret (v := v_14) hx hb hr (fun t ht hW => ⟨⟨v_14, (), rfl, trivial, ⟨zn_13, ftn_13, by rw [ht]; exact hP9, hD9, (by omega)⟩⟩, hS.F ht⟩) hS.2.2 dX1_begin_131
  by_cases k_15 : x = 14
  · subst k_15
    refine lv_tableIn (off := 114) (tgt := 132) hx hb dX1_begin_18 (by decide) (by decide) (by decide) (by decide) ?_
    refine lv_aload_n hx hb dX1_begin_132 rfl (lv_at hl 1 rfl) ?_
    refine lv_bipush (v := 13) hx hb dX1_begin_133 (by decide) ?_
    refine lv_iload_n hx hb dX1_begin_135 rfl (lv_at hl 0 rfl) ?_
    have hPc_16 := hP.sub (ws' := [(k9, .inr (1, [.ref tc, .int (nI zn_2), .int nu, .int ki, .int ce, .int lo])), (tc, .inl (cI, 16, .inl ftn_2))]) [0, 1] rfl
    have hDc_16 := hD.sub (ws' := [(k9, .inr (1, [.ref tc, .int (nI zn_2), .int nu, .int ki, .int ce, .int lo])), (tc, .inl (cI, 16, .inl ftn_2))]) [0, 1] (by decide) rfl
    have hFc_16 := va_free (wc := [(k9, .inr (1, [.ref tc, .int (nI zn_2), .int nu, .int ki, .int ce, .int lo])), (tc, .inl (cI, 16, .inl ftn_2))]) hD hS hA [0, 1] rfl
    refine va_calli (va_runV (As := [.int 13, .int 10]) (rest := []) ⟨hx, hb, hml, hown, hts⟩ (r_X1_begin_10 l dC dI cI cZ cL cJ H.size k9 tc zn_2 nu ki ce lo ftn_2 13 (by omega)) (cwV 2 hts gX1_begin_X1_begin rfl rfl rfl (by decide +kernel) ⟨Nat.le_of_ble_eq_true rfl, Nat.le_of_ble_eq_true rfl⟩) ⟨fun a U g mk q => by obtain ⟨q0, q1, qP, qK, qD, qS⟩ := q; exact ⟨q0, q1, qP, va_K.moved (u := U) (U := U.calling g mk a) (Vm.Alike.refl U.vm) qK, qD, stt_same rfl qS⟩, va_recv hK hP (ci := 1) (q0 := 0) rfl rfl, fun U hU hW => ⟨rfl, by rw [hU], by rw [hU]; exact hPc_16, va_K.moved hW.alike hK, hDc_16.weaken (fun _ _ _ _ => trivial), by rw [hU]; exact stt_warm hW (stt_narrow (stt_kept hst hS.2.1) hFc_16)⟩⟩ rfl rfl hl.1 rfl (lv_room (Nat.le_of_ble_eq_true rfl)) dX1_begin_136 ⟨Nat.le_of_ble_eq_true rfl, Nat.le_of_ble_eq_true rfl⟩) hS (fun q _ h => hFc_16 q h) hFc_16 (fun r_16 u_16 t_16 H1 locs ht hvm h_16 hB hz1 hk1 hS => ?_)
    obtain ⟨zn_16, ftn_16, hP1, hD1, hF_16_0⟩ := hB
    rw [ht] at hP1
    obtain ⟨hP, hD⟩ := va_join (wr := []) (w1 := [(k9, .inr (1, [.ref tc, .int (nI zn_16), .int nu, .int ki, .int ce, .int lo])), (tc, .inl (cI, 16, .inl ftn_16))]) hP hD [0, 1] [] rfl rfl (by decide) (by decide) hk1 hFc_16 hP1 hD1
    generalize H1 = H at hP hS ⊢
    have hP : va_P (dC, dI) vwCl [(k9, .inr (1, [.ref tc, .int (nI zn_16), .int nu, .int ki, .int ce, .int lo])), (tc, .inl (cI, 16, .inl ftn_16))] H := hP
    have hD : va_D A [(k9, .inr (1, [.ref tc, .int (nI zn_16), .int nu, .int ki, .int ce, .int lo])), (tc, .inl (cI, 16, .inl ftn_16))] := hD
    refine lv_iconst (v := 2) hx hb dX1_begin_139 (by decide) ?_
    refine lv_imul hx hb dX1_begin_140 ?_
    refine lv_topi (fun v_17 e_17 => ?_)
    have hP9 := hP.sub (ws' := [(k9, .inr (1, [.ref tc, .int (nI zn_16), .int nu, .int ki, .int ce, .int lo])), (tc, .inl (cI, 16, .inl ftn_16))]) [0, 1] rfl
    have hD9 := hD.sub (ws' := [(k9, .inr (1, [.ref tc, .int (nI zn_16), .int nu, .int ki, .int ce, .int lo])), (tc, .inl (cI, 16, .inl ftn_16))]) [0, 1] (by decide) rfl
    exact W.iret (v := v_17) hx hb hr (fun t ht hW => ⟨⟨v_17, (), rfl, trivial, ⟨zn_16, ftn_16, by rw [ht]; exact hP9, hD9, (by omega)⟩⟩, hS.F ht⟩) hS.2.2 dX1_begin_141
  by_cases k_18 : x = 15
  · subst k_18
    refine lv_tableIn (off := 179) (tgt := 197) hx hb dX1_begin_18 (by decide) (by decide) (by decide) (by decide) ?_
    refine lv_iconst (v := 0) hx hb dX1_begin_197 (by decide) ?_
    have hP9 := hP.sub (ws' := [(k9, .inr (1, [.ref tc, .int (nI zn_2), .int nu, .int ki, .int ce, .int lo])), (tc, .inl (cI, 16, .inl ftn_2))]) [0, 1] rfl
    have hD9 := hD.sub (ws' := [(k9, .inr (1, [.ref tc, .int (nI zn_2), .int nu, .int ki, .int ce, .int lo])), (tc, .inl (cI, 16, .inl ftn_2))]) [0, 1] (by decide) rfl
    exact W.iret (v := 0) hx hb hr (fun t ht hW => ⟨⟨0, (), rfl, trivial, ⟨zn_2, ftn_2, by rw [ht]; exact hP9, hD9, (by omega)⟩⟩, hS.F ht⟩) hS.2.2 dX1_begin_198
  by_cases k_19 : x = 16
  · subst k_19
    refine lv_tableIn (off := 179) (tgt := 197) hx hb dX1_begin_18 (by decide) (by decide) (by decide) (by decide) ?_
    refine lv_iconst (v := 0) hx hb dX1_begin_197 (by decide) ?_
    have hP9 := hP.sub (ws' := [(k9, .inr (1, [.ref tc, .int (nI zn_2), .int nu, .int ki, .int ce, .int lo])), (tc, .inl (cI, 16, .inl ftn_2))]) [0, 1] rfl
    have hD9 := hD.sub (ws' := [(k9, .inr (1, [.ref tc, .int (nI zn_2), .int nu, .int ki, .int ce, .int lo])), (tc, .inl (cI, 16, .inl ftn_2))]) [0, 1] (by decide) rfl
    exact W.iret (v := 0) hx hb hr (fun t ht hW => ⟨⟨0, (), rfl, trivial, ⟨zn_2, ftn_2, by rw [ht]; exact hP9, hD9, (by omega)⟩⟩, hS.F ht⟩) hS.2.2 dX1_begin_198
  by_cases k_20 : x = 17
  · subst k_20
    refine lv_tableIn (off := 179) (tgt := 197) hx hb dX1_begin_18 (by decide) (by decide) (by decide) (by decide) ?_
    refine lv_iconst (v := 0) hx hb dX1_begin_197 (by decide) ?_
    have hP9 := hP.sub (ws' := [(k9, .inr (1, [.ref tc, .int (nI zn_2), .int nu, .int ki, .int ce, .int lo])), (tc, .inl (cI, 16, .inl ftn_2))]) [0, 1] rfl
    have hD9 := hD.sub (ws' := [(k9, .inr (1, [.ref tc, .int (nI zn_2), .int nu, .int ki, .int ce, .int lo])), (tc, .inl (cI, 16, .inl ftn_2))]) [0, 1] (by decide) rfl
    exact W.iret (v := 0) hx hb hr (fun t ht hW => ⟨⟨0, (), rfl, trivial, ⟨zn_2, ftn_2, by rw [ht]; exact hP9, hD9, (by omega)⟩⟩, hS.F ht⟩) hS.2.2 dX1_begin_198
  by_cases k_21 : x = 18
  · subst k_21
    refine lv_tableIn (off := 179) (tgt := 197) hx hb dX1_begin_18 (by decide) (by decide) (by decide) (by decide) ?_
    refine lv_iconst (v := 0) hx hb dX1_begin_197 (by decide) ?_
    have hP9 := hP.sub (ws' := [(k9, .inr (1, [.ref tc, .int (nI zn_2), .int nu, .int ki, .int ce, .int lo])), (tc, .inl (cI, 16, .inl ftn_2))]) [0, 1] rfl
    have hD9 := hD.sub (ws' := [(k9, .inr (1, [.ref tc, .int (nI zn_2), .int nu, .int ki, .int ce, .int lo])), (tc, .inl (cI, 16, .inl ftn_2))]) [0, 1] (by decide) rfl
    exact W.iret (v := 0) hx hb hr (fun t ht hW => ⟨⟨0, (), rfl, trivial, ⟨zn_2, ftn_2, by rw [ht]; exact hP9, hD9, (by omega)⟩⟩, hS.F ht⟩) hS.2.2 dX1_begin_198
  by_cases k_22 : x = 19
  · subst k_22
    refine lv_tableIn (off := 179) (tgt := 197) hx hb dX1_begin_18 (by decide) (by decide) (by decide) (by decide) ?_
    refine lv_iconst (v := 0) hx hb dX1_begin_197 (by decide) ?_
    have hP9 := hP.sub (ws' := [(k9, .inr (1, [.ref tc, .int (nI zn_2), .int nu, .int ki, .int ce, .int lo])), (tc, .inl (cI, 16, .inl ftn_2))]) [0, 1] rfl
    have hD9 := hD.sub (ws' := [(k9, .inr (1, [.ref tc, .int (nI zn_2), .int nu, .int ki, .int ce, .int lo])), (tc, .inl (cI, 16, .inl ftn_2))]) [0, 1] (by decide) rfl
    exact W.iret (v := 0) hx hb hr (fun t ht hW => ⟨⟨0, (), rfl, trivial, ⟨zn_2, ftn_2, by rw [ht]; exact hP9, hD9, (by omega)⟩⟩, hS.F ht⟩) hS.2.2 dX1_begin_198
  by_cases k_23 : x = 20
  · subst k_23
    refine lv_tableIn (off := 124) (tgt := 142) hx hb dX1_begin_18 (by decide) (by decide) (by decide) (by decide) ?_
    refine lv_aload_n hx hb dX1_begin_142 rfl (lv_at hl 1 rfl) ?_
    refine va_get (D := (dC, dI)) (ci := 1) (v := .int nu) (C := RX1) (T := TX1) (N := 6) hx hb hts i_X1_begin_X1 hown hK hP 0 rfl rfl 2 (by decide) (hts (.fieldLink RX1 19 "MillTalk$Asks" "number" "I") (by decide +kernel)) (fun _ h9 => h9) rfl dX1_begin_143 ?_
    have hP9 := hP.sub (ws' := [(k9, .inr (1, [.ref tc, .int (nI zn_2), .int nu, .int ki, .int ce, .int lo])), (tc, .inl (cI, 16, .inl ftn_2))]) [0, 1] rfl
    have hD9 := hD.sub (ws' := [(k9, .inr (1, [.ref tc, .int (nI zn_2), .int nu, .int ki, .int ce, .int lo])), (tc, .inl (cI, 16, .inl ftn_2))]) [0, 1] (by decide) rfl
    exact W.iret (v := nu) hx hb hr (fun t ht hW => ⟨⟨nu, (), rfl, trivial, ⟨zn_2, ftn_2, by rw [ht]; exact hP9, hD9, (by omega)⟩⟩, hS.F ht⟩) hS.2.2 dX1_begin_146
  by_cases k_24 : x = 21
  · subst k_24
    refine lv_tableIn (off := 129) (tgt := 147) hx hb dX1_begin_18 (by decide) (by decide) (by decide) (by decide) ?_
    refine lv_aload_n hx hb dX1_begin_147 rfl (lv_at hl 1 rfl) ?_
    refine lv_bipush (v := 20) hx hb dX1_begin_148 (by decide) ?_
    refine lv_iload_n hx hb dX1_begin_150 rfl (lv_at hl 0 rfl) ?_
    have hPc_25 := hP.sub (ws' := [(k9, .inr (1, [.ref tc, .int (nI zn_2), .int nu, .int ki, .int ce, .int lo])), (tc, .inl (cI, 16, .inl ftn_2))]) [0, 1] rfl
    have hDc_25 := hD.sub (ws' := [(k9, .inr (1, [.ref tc, .int (nI zn_2), .int nu, .int ki, .int ce, .int lo])), (tc, .inl (cI, 16, .inl ftn_2))]) [0, 1] (by decide) rfl
    have hFc_25 := va_free (wc := [(k9, .inr (1, [.ref tc, .int (nI zn_2), .int nu, .int ki, .int ce, .int lo])), (tc, .inl (cI, 16, .inl ftn_2))]) hD hS hA [0, 1] rfl
    refine va_calli (va_runV (As := [.int 20, .int 10]) (rest := []) ⟨hx, hb, hml, hown, hts⟩ (r_X1_begin_10 l dC dI cI cZ cL cJ H.size k9 tc zn_2 nu ki ce lo ftn_2 20 (by omega)) (cwV 2 hts gX1_begin_X1_begin rfl rfl rfl (by decide +kernel) ⟨Nat.le_of_ble_eq_true rfl, Nat.le_of_ble_eq_true rfl⟩) ⟨fun a U g mk q => by obtain ⟨q0, q1, qP, qK, qD, qS⟩ := q; exact ⟨q0, q1, qP, va_K.moved (u := U) (U := U.calling g mk a) (Vm.Alike.refl U.vm) qK, qD, stt_same rfl qS⟩, va_recv hK hP (ci := 1) (q0 := 0) rfl rfl, fun U hU hW => ⟨rfl, by rw [hU], by rw [hU]; exact hPc_25, va_K.moved hW.alike hK, hDc_25.weaken (fun _ _ _ _ => trivial), by rw [hU]; exact stt_warm hW (stt_narrow (stt_kept hst hS.2.1) hFc_25)⟩⟩ rfl rfl hl.1 rfl (lv_room (Nat.le_of_ble_eq_true rfl)) dX1_begin_151 ⟨Nat.le_of_ble_eq_true rfl, Nat.le_of_ble_eq_true rfl⟩) hS (fun q _ h => hFc_25 q h) hFc_25 (fun r_25 u_25 t_25 H1 locs ht hvm h_25 hB hz1 hk1 hS => ?_)
    obtain ⟨zn_25, ftn_25, hP1, hD1, hF_25_0⟩ := hB
    rw [ht] at hP1
    obtain ⟨hP, hD⟩ := va_join (wr := []) (w1 := [(k9, .inr (1, [.ref tc, .int (nI zn_25), .int nu, .int ki, .int ce, .int lo])), (tc, .inl (cI, 16, .inl ftn_25))]) hP hD [0, 1] [] rfl rfl (by decide) (by decide) hk1 hFc_25 hP1 hD1
    generalize H1 = H at hP hS ⊢
    have hP : va_P (dC, dI) vwCl [(k9, .inr (1, [.ref tc, .int (nI zn_25), .int nu, .int ki, .int ce, .int lo])), (tc, .inl (cI, 16, .inl ftn_25))] H := hP
    have hD : va_D A [(k9, .inr (1, [.ref tc, .int (nI zn_25), .int nu, .int ki, .int ce, .int lo])), (tc, .inl (cI, 16, .inl ftn_25))] := hD
    refine lv_aload_n hx hb dX1_begin_154 rfl (lv_at hl 1 rfl) ?_
    refine va_get (D := (dC, dI)) (ci := 1) (v := .int ce) (C := RX1) (T := TX1) (N := 6) hx hb hts i_X1_begin_X1 hown hK hP 0 rfl rfl 4 (by decide) (hts (.fieldLink RX1 33 "MillTalk$Asks" "cell" "I") (by decide +kernel)) (fun _ h9 => h9) rfl dX1_begin_155 ?_
    refine lv_iadd hx hb dX1_begin_158 ?_
    refine lv_topi (fun v_26 e_26 => ?_)
    have hP9 := hP.sub (ws' := [(k9, .inr (1, [.ref tc, .int (nI zn_25), .int nu, .int ki, .int ce, .int lo])), (tc, .inl (cI, 16, .inl ftn_25))]) [0, 1] rfl
    have hD9 := hD.sub (ws' := [(k9, .inr (1, [.ref tc, .int (nI zn_25), .int nu, .int ki, .int ce, .int lo])), (tc, .inl (cI, 16, .inl ftn_25))]) [0, 1] (by decide) rfl
    exact W.iret (v := v_26) hx hb hr (fun t ht hW => ⟨⟨v_26, (), rfl, trivial, ⟨zn_25, ftn_25, by rw [ht]; exact hP9, hD9, (by omega)⟩⟩, hS.F ht⟩) hS.2.2 dX1_begin_159
  by_cases k_27 : x = 22
  · subst k_27
    refine lv_tableIn (off := 142) (tgt := 160) hx hb dX1_begin_18 (by decide) (by decide) (by decide) (by decide) ?_
    refine lv_aload_n hx hb dX1_begin_160 rfl (lv_at hl 1 rfl) ?_
    refine lv_bipush (v := 21) hx hb dX1_begin_161 (by decide) ?_
    refine lv_iload_n hx hb dX1_begin_163 rfl (lv_at hl 0 rfl) ?_
    have hPc_28 := hP.sub (ws' := [(k9, .inr (1, [.ref tc, .int (nI zn_2), .int nu, .int ki, .int ce, .int lo])), (tc, .inl (cI, 16, .inl ftn_2))]) [0, 1] rfl
    have hDc_28 := hD.sub (ws' := [(k9, .inr (1, [.ref tc, .int (nI zn_2), .int nu, .int ki, .int ce, .int lo])), (tc, .inl (cI, 16, .inl ftn_2))]) [0, 1] (by decide) rfl
    have hFc_28 := va_free (wc := [(k9, .inr (1, [.ref tc, .int (nI zn_2), .int nu, .int ki, .int ce, .int lo])), (tc, .inl (cI, 16, .inl ftn_2))]) hD hS hA [0, 1] rfl
    refine va_calli (va_runV (As := [.int 21, .int 10]) (rest := []) ⟨hx, hb, hml, hown, hts⟩ (r_X1_begin_10 l dC dI cI cZ cL cJ H.size k9 tc zn_2 nu ki ce lo ftn_2 21 (by omega)) (cwV 2 hts gX1_begin_X1_begin rfl rfl rfl (by decide +kernel) ⟨Nat.le_of_ble_eq_true rfl, Nat.le_of_ble_eq_true rfl⟩) ⟨fun a U g mk q => by obtain ⟨q0, q1, qP, qK, qD, qS⟩ := q; exact ⟨q0, q1, qP, va_K.moved (u := U) (U := U.calling g mk a) (Vm.Alike.refl U.vm) qK, qD, stt_same rfl qS⟩, va_recv hK hP (ci := 1) (q0 := 0) rfl rfl, fun U hU hW => ⟨rfl, by rw [hU], by rw [hU]; exact hPc_28, va_K.moved hW.alike hK, hDc_28.weaken (fun _ _ _ _ => trivial), by rw [hU]; exact stt_warm hW (stt_narrow (stt_kept hst hS.2.1) hFc_28)⟩⟩ rfl rfl hl.1 rfl (lv_room (Nat.le_of_ble_eq_true rfl)) dX1_begin_164 ⟨Nat.le_of_ble_eq_true rfl, Nat.le_of_ble_eq_true rfl⟩) hS (fun q _ h => hFc_28 q h) hFc_28 (fun r_28 u_28 t_28 H1 locs ht hvm h_28 hB hz1 hk1 hS => ?_)
    obtain ⟨zn_28, ftn_28, hP1, hD1, hF_28_0⟩ := hB
    rw [ht] at hP1
    obtain ⟨hP, hD⟩ := va_join (wr := []) (w1 := [(k9, .inr (1, [.ref tc, .int (nI zn_28), .int nu, .int ki, .int ce, .int lo])), (tc, .inl (cI, 16, .inl ftn_28))]) hP hD [0, 1] [] rfl rfl (by decide) (by decide) hk1 hFc_28 hP1 hD1
    generalize H1 = H at hP hS ⊢
    have hP : va_P (dC, dI) vwCl [(k9, .inr (1, [.ref tc, .int (nI zn_28), .int nu, .int ki, .int ce, .int lo])), (tc, .inl (cI, 16, .inl ftn_28))] H := hP
    have hD : va_D A [(k9, .inr (1, [.ref tc, .int (nI zn_28), .int nu, .int ki, .int ce, .int lo])), (tc, .inl (cI, 16, .inl ftn_28))] := hD
    refine lv_sipush (v := 1000) hx hb dX1_begin_167 (by decide) ?_
    refine lv_isub hx hb dX1_begin_170 ?_
    refine lv_topi (fun v_29 e_29 => ?_)
    have hP9 := hP.sub (ws' := [(k9, .inr (1, [.ref tc, .int (nI zn_28), .int nu, .int ki, .int ce, .int lo])), (tc, .inl (cI, 16, .inl ftn_28))]) [0, 1] rfl
    have hD9 := hD.sub (ws' := [(k9, .inr (1, [.ref tc, .int (nI zn_28), .int nu, .int ki, .int ce, .int lo])), (tc, .inl (cI, 16, .inl ftn_28))]) [0, 1] (by decide) rfl
    exact W.iret (v := v_29) hx hb hr (fun t ht hW => ⟨⟨v_29, (), rfl, trivial, ⟨zn_28, ftn_28, by rw [ht]; exact hP9, hD9, (by omega)⟩⟩, hS.F ht⟩) hS.2.2 dX1_begin_171
  by_cases k_30 : x = 23
  · subst k_30
    refine lv_tableIn (off := 154) (tgt := 172) hx hb dX1_begin_18 (by decide) (by decide) (by decide) (by decide) ?_
    refine lv_aload_n hx hb dX1_begin_172 rfl (lv_at hl 1 rfl) ?_
    refine lv_bipush (v := 20) hx hb dX1_begin_173 (by decide) ?_
    refine lv_iload_n hx hb dX1_begin_175 rfl (lv_at hl 0 rfl) ?_
    have hPc_31 := hP.sub (ws' := [(k9, .inr (1, [.ref tc, .int (nI zn_2), .int nu, .int ki, .int ce, .int lo])), (tc, .inl (cI, 16, .inl ftn_2))]) [0, 1] rfl
    have hDc_31 := hD.sub (ws' := [(k9, .inr (1, [.ref tc, .int (nI zn_2), .int nu, .int ki, .int ce, .int lo])), (tc, .inl (cI, 16, .inl ftn_2))]) [0, 1] (by decide) rfl
    have hFc_31 := va_free (wc := [(k9, .inr (1, [.ref tc, .int (nI zn_2), .int nu, .int ki, .int ce, .int lo])), (tc, .inl (cI, 16, .inl ftn_2))]) hD hS hA [0, 1] rfl
    refine va_calli (va_runV (As := [.int 20, .int 10]) (rest := []) ⟨hx, hb, hml, hown, hts⟩ (r_X1_begin_10 l dC dI cI cZ cL cJ H.size k9 tc zn_2 nu ki ce lo ftn_2 20 (by omega)) (cwV 2 hts gX1_begin_X1_begin rfl rfl rfl (by decide +kernel) ⟨Nat.le_of_ble_eq_true rfl, Nat.le_of_ble_eq_true rfl⟩) ⟨fun a U g mk q => by obtain ⟨q0, q1, qP, qK, qD, qS⟩ := q; exact ⟨q0, q1, qP, va_K.moved (u := U) (U := U.calling g mk a) (Vm.Alike.refl U.vm) qK, qD, stt_same rfl qS⟩, va_recv hK hP (ci := 1) (q0 := 0) rfl rfl, fun U hU hW => ⟨rfl, by rw [hU], by rw [hU]; exact hPc_31, va_K.moved hW.alike hK, hDc_31.weaken (fun _ _ _ _ => trivial), by rw [hU]; exact stt_warm hW (stt_narrow (stt_kept hst hS.2.1) hFc_31)⟩⟩ rfl rfl hl.1 rfl (lv_room (Nat.le_of_ble_eq_true rfl)) dX1_begin_176 ⟨Nat.le_of_ble_eq_true rfl, Nat.le_of_ble_eq_true rfl⟩) hS (fun q _ h => hFc_31 q h) hFc_31 (fun r_31 u_31 t_31 H1 locs ht hvm h_31 hB hz1 hk1 hS => ?_)
    obtain ⟨zn_31, ftn_31, hP1, hD1, hF_31_0⟩ := hB
    rw [ht] at hP1
    obtain ⟨hP, hD⟩ := va_join (wr := []) (w1 := [(k9, .inr (1, [.ref tc, .int (nI zn_31), .int nu, .int ki, .int ce, .int lo])), (tc, .inl (cI, 16, .inl ftn_31))]) hP hD [0, 1] [] rfl rfl (by decide) (by decide) hk1 hFc_31 hP1 hD1
    generalize H1 = H at hP hS ⊢
    have hP : va_P (dC, dI) vwCl [(k9, .inr (1, [.ref tc, .int (nI zn_31), .int nu, .int ki, .int ce, .int lo])), (tc, .inl (cI, 16, .inl ftn_31))] H := hP
    have hD : va_D A [(k9, .inr (1, [.ref tc, .int (nI zn_31), .int nu, .int ki, .int ce, .int lo])), (tc, .inl (cI, 16, .inl ftn_31))] := hD
    refine lv_aload_n hx hb dX1_begin_179 rfl (lv_at hl 1 rfl) ?_
    refine lv_iconst (v := 0) hx hb dX1_begin_180 (by decide) ?_
    refine lv_iload_n hx hb dX1_begin_181 rfl (lv_at hl 0 rfl) ?_
    have hPc_32 := hP.sub (ws' := [(k9, .inr (1, [.ref tc, .int (nI zn_31), .int nu, .int ki, .int ce, .int lo])), (tc, .inl (cI, 16, .inl ftn_31))]) [0, 1] rfl
    have hDc_32 := hD.sub (ws' := [(k9, .inr (1, [.ref tc, .int (nI zn_31), .int nu, .int ki, .int ce, .int lo])), (tc, .inl (cI, 16, .inl ftn_31))]) [0, 1] (by decide) rfl
    have hFc_32 := va_free (wc := [(k9, .inr (1, [.ref tc, .int (nI zn_31), .int nu, .int ki, .int ce, .int lo])), (tc, .inl (cI, 16, .inl ftn_31))]) hD hS hA [0, 1] rfl
    refine va_calli (va_runV (As := [.int 0, .int 10]) (rest := [.int r_31]) ⟨hx, hb, hml, hown, hts⟩ (r_X1_askAnew_10 l dC dI cI cZ cL cJ H.size k9 tc zn_31 nu ki ce lo ftn_31 0 (by omega)) (cwV 2 hts gX1_begin_X1_askAnew rfl rfl rfl (by decide +kernel) ⟨Nat.le_of_ble_eq_true rfl, Nat.le_of_ble_eq_true rfl⟩) ⟨fun a U g mk q => by obtain ⟨q0, q1, qP, qK, qD, qS⟩ := q; exact ⟨q0, q1, qP, va_K.moved (u := U) (U := U.calling g mk a) (Vm.Alike.refl U.vm) qK, qD, stt_same rfl qS⟩, va_recv hK hP (ci := 1) (q0 := 0) rfl rfl, fun U hU hW => ⟨rfl, by rw [hU], by rw [hU]; exact hPc_32, va_K.moved hW.alike hK, hDc_32.weaken (fun _ _ _ _ => trivial), by rw [hU]; exact stt_warm hW (stt_narrow (stt_kept hst hS.2.1) hFc_32)⟩⟩ rfl rfl hl.1 rfl (lv_room (Nat.le_of_ble_eq_true rfl)) dX1_begin_182 ⟨Nat.le_of_ble_eq_true rfl, Nat.le_of_ble_eq_true rfl⟩) hS (fun q _ h => hFc_32 q h) hFc_32 (fun r_32 u_32 t_32 H1 locs ht hvm h_32 hB hz1 hk1 hS => ?_)
    obtain ⟨zn_32, ftn_32, hP1, hD1, hF_32_0⟩ := hB
    rw [ht] at hP1
    obtain ⟨hP, hD⟩ := va_join (wr := []) (w1 := [(k9, .inr (1, [.ref tc, .int (nI zn_32), .int nu, .int ki, .int ce, .int lo])), (tc, .inl (cI, 16, .inl ftn_32))]) hP hD [0, 1] [] rfl rfl (by decide) (by decide) hk1 hFc_32 hP1 hD1
    generalize H1 = H at hP hS ⊢
    have hP : va_P (dC, dI) vwCl [(k9, .inr (1, [.ref tc, .int (nI zn_32), .int nu, .int ki, .int ce, .int lo])), (tc, .inl (cI, 16, .inl ftn_32))] H := hP
    have hD : va_D A [(k9, .inr (1, [.ref tc, .int (nI zn_32), .int nu, .int ki, .int ce, .int lo])), (tc, .inl (cI, 16, .inl ftn_32))] := hD
    refine lv_isub hx hb dX1_begin_185 ?_
    refine lv_topi (fun v_33 e_33 => ?_)
    have hP9 := hP.sub (ws' := [(k9, .inr (1, [.ref tc, .int (nI zn_32), .int nu, .int ki, .int ce, .int lo])), (tc, .inl (cI, 16, .inl ftn_32))]) [0, 1] rfl
    have hD9 := hD.sub (ws' := [(k9, .inr (1, [.ref tc, .int (nI zn_32), .int nu, .int ki, .int ce, .int lo])), (tc, .inl (cI, 16, .inl ftn_32))]) [0, 1] (by decide) rfl
    exact W.iret (v := v_33) hx hb hr (fun t ht hW => ⟨⟨v_33, (), rfl, trivial, ⟨zn_32, ftn_32, by rw [ht]; exact hP9, hD9, (by omega)⟩⟩, hS.F ht⟩) hS.2.2 dX1_begin_186
  by_cases k_34 : x = 24
  · subst k_34
    refine lv_tableIn (off := 169) (tgt := 187) hx hb dX1_begin_18 (by decide) (by decide) (by decide) (by decide) ?_
    refine lv_aload_n hx hb dX1_begin_187 rfl (lv_at hl 1 rfl) ?_
    refine lv_bipush (v := 21) hx hb dX1_begin_188 (by decide) ?_
    refine lv_iload_n hx hb dX1_begin_190 rfl (lv_at hl 0 rfl) ?_
    have hPc_35 := hP.sub (ws' := [(k9, .inr (1, [.ref tc, .int (nI zn_2), .int nu, .int ki, .int ce, .int lo])), (tc, .inl (cI, 16, .inl ftn_2))]) [0, 1] rfl
    have hDc_35 := hD.sub (ws' := [(k9, .inr (1, [.ref tc, .int (nI zn_2), .int nu, .int ki, .int ce, .int lo])), (tc, .inl (cI, 16, .inl ftn_2))]) [0, 1] (by decide) rfl
    have hFc_35 := va_free (wc := [(k9, .inr (1, [.ref tc, .int (nI zn_2), .int nu, .int ki, .int ce, .int lo])), (tc, .inl (cI, 16, .inl ftn_2))]) hD hS hA [0, 1] rfl
    refine va_calli (va_runV (As := [.int 21, .int 10]) (rest := []) ⟨hx, hb, hml, hown, hts⟩ (r_X1_begin_10 l dC dI cI cZ cL cJ H.size k9 tc zn_2 nu ki ce lo ftn_2 21 (by omega)) (cwV 2 hts gX1_begin_X1_begin rfl rfl rfl (by decide +kernel) ⟨Nat.le_of_ble_eq_true rfl, Nat.le_of_ble_eq_true rfl⟩) ⟨fun a U g mk q => by obtain ⟨q0, q1, qP, qK, qD, qS⟩ := q; exact ⟨q0, q1, qP, va_K.moved (u := U) (U := U.calling g mk a) (Vm.Alike.refl U.vm) qK, qD, stt_same rfl qS⟩, va_recv hK hP (ci := 1) (q0 := 0) rfl rfl, fun U hU hW => ⟨rfl, by rw [hU], by rw [hU]; exact hPc_35, va_K.moved hW.alike hK, hDc_35.weaken (fun _ _ _ _ => trivial), by rw [hU]; exact stt_warm hW (stt_narrow (stt_kept hst hS.2.1) hFc_35)⟩⟩ rfl rfl hl.1 rfl (lv_room (Nat.le_of_ble_eq_true rfl)) dX1_begin_191 ⟨Nat.le_of_ble_eq_true rfl, Nat.le_of_ble_eq_true rfl⟩) hS (fun q _ h => hFc_35 q h) hFc_35 (fun r_35 u_35 t_35 H1 locs ht hvm h_35 hB hz1 hk1 hS => ?_)
    obtain ⟨zn_35, ftn_35, hP1, hD1, hF_35_0⟩ := hB
    rw [ht] at hP1
    obtain ⟨hP, hD⟩ := va_join (wr := []) (w1 := [(k9, .inr (1, [.ref tc, .int (nI zn_35), .int nu, .int ki, .int ce, .int lo])), (tc, .inl (cI, 16, .inl ftn_35))]) hP hD [0, 1] [] rfl rfl (by decide) (by decide) hk1 hFc_35 hP1 hD1
    generalize H1 = H at hP hS ⊢
    have hP : va_P (dC, dI) vwCl [(k9, .inr (1, [.ref tc, .int (nI zn_35), .int nu, .int ki, .int ce, .int lo])), (tc, .inl (cI, 16, .inl ftn_35))] H := hP
    have hD : va_D A [(k9, .inr (1, [.ref tc, .int (nI zn_35), .int nu, .int ki, .int ce, .int lo])), (tc, .inl (cI, 16, .inl ftn_35))] := hD
    refine lv_iconst (v := 2) hx hb dX1_begin_194 (by decide) ?_
    refine lv_imul hx hb dX1_begin_195 ?_
    refine lv_topi (fun v_36 e_36 => ?_)
    have hP9 := hP.sub (ws' := [(k9, .inr (1, [.ref tc, .int (nI zn_35), .int nu, .int ki, .int ce, .int lo])), (tc, .inl (cI, 16, .inl ftn_35))]) [0, 1] rfl
    have hD9 := hD.sub (ws' := [(k9, .inr (1, [.ref tc, .int (nI zn_35), .int nu, .int ki, .int ce, .int lo])), (tc, .inl (cI, 16, .inl ftn_35))]) [0, 1] (by decide) rfl
    exact W.iret (v := v_36) hx hb hr (fun t ht hW => ⟨⟨v_36, (), rfl, trivial, ⟨zn_35, ftn_35, by rw [ht]; exact hP9, hD9, (by omega)⟩⟩, hS.F ht⟩) hS.2.2 dX1_begin_196
  have kT_4 := lv_neT k_4 (show (10 : Int32).toInt = 10 from rfl)
  have kT_5 := lv_neT k_5 (show (11 : Int32).toInt = 11 from rfl)
  have kT_9 := lv_neT k_9 (show (12 : Int32).toInt = 12 from rfl)
  have kT_12 := lv_neT k_12 (show (13 : Int32).toInt = 13 from rfl)
  have kT_15 := lv_neT k_15 (show (14 : Int32).toInt = 14 from rfl)
  have kT_18 := lv_neT k_18 (show (15 : Int32).toInt = 15 from rfl)
  have kT_19 := lv_neT k_19 (show (16 : Int32).toInt = 16 from rfl)
  have kT_20 := lv_neT k_20 (show (17 : Int32).toInt = 17 from rfl)
  have kT_21 := lv_neT k_21 (show (18 : Int32).toInt = 18 from rfl)
  have kT_22 := lv_neT k_22 (show (19 : Int32).toInt = 19 from rfl)
  have kT_23 := lv_neT k_23 (show (20 : Int32).toInt = 20 from rfl)
  have kT_24 := lv_neT k_24 (show (21 : Int32).toInt = 21 from rfl)
  have kT_27 := lv_neT k_27 (show (22 : Int32).toInt = 22 from rfl)
  have kT_30 := lv_neT k_30 (show (23 : Int32).toInt = 23 from rfl)
  have kT_34 := lv_neT k_34 (show (24 : Int32).toInt = 24 from rfl)
  refine lv_tableOut (tgt := 197) hx hb dX1_begin_18 (by omega) (by decide) ?_
  refine lv_iconst (v := 0) hx hb dX1_begin_197 (by decide) ?_
  have hP9 := hP.sub (ws' := [(k9, .inr (1, [.ref tc, .int (nI zn_2), .int nu, .int ki, .int ce, .int lo])), (tc, .inl (cI, 16, .inl ftn_2))]) [0, 1] rfl
  have hD9 := hD.sub (ws' := [(k9, .inr (1, [.ref tc, .int (nI zn_2), .int nu, .int ki, .int ce, .int lo])), (tc, .inl (cI, 16, .inl ftn_2))]) [0, 1] (by decide) rfl
  exact W.iret (v := 0) hx hb hr (fun t ht hW => ⟨⟨0, (), rfl, trivial, ⟨zn_2, ftn_2, by rw [ht]; exact hP9, hD9, (by omega)⟩⟩, hS.F ht⟩) hS.2.2 dX1_begin_198
set_option maxHeartbeats 4000000 in
set_option maxRecDepth 100000 in
theorem r_X1_askAnew_9 (l : Launch) (dC : Nat → ClassId) (dI : Nat → Nat → Nat) (cI cZ cL cJ : ClassId) (sz : Nat) (k9 : Nat) (tc : Nat) (z : Nat) (nu : Int32) (ki : Int32) (ce : Int32) (lo : Int32) (ft : Nat → Int32) (x : Int32) (hz : z ≤ 16) : Met l yX1_askAnew wsX1_askAnew ({ frames := 15, cells := 0, slots := 0, locals := 339 }) (va_Pc [.ref k9, .int x, .int 9] (fun U => U.heap.size = sz ∧ va_P (dC, dI) vwCl [(k9, .inr (1, [.ref tc, .int (nI z), .int nu, .int ki, .int ce, .int lo])), (tc, .inl (cI, 16, .inl ft))] U.heap ∧ va_K (dC, dI) vwCl [(cI, .int), (cZ, .boolean), (cL, .object RX3), (cJ, .array .int)] U ∧ va_D (fun _ => True) [(k9, .inr (1, [.ref tc, .int (nI z), .int nu, .int ki, .int ce, .int lo])), (tc, .inl (cI, 16, .inl ft))] ∧ stt (va_A [(k9, .inr (1, [.ref tc, .int (nI z), .int nu, .int ki, .int ce, .int lo])), (tc, .inl (cI, 16, .inl ft))] sz) U U.heap)) (va_Qi (fun r (_ : Unit) => True) (fun (_ : Unit) t => ∃ (zn : Nat) (ftn : Nat → Int32), va_P (dC, dI) vwCl [(k9, .inr (1, [.ref tc, .int (nI zn), .int nu, .int ki, .int ce, .int lo])), (tc, .inl (cI, 16, .inl ftn))] t.heap ∧ va_D (va_A [(k9, .inr (1, [.ref tc, .int (nI z), .int nu, .int ki, .int ce, .int lo])), (tc, .inl (cI, 16, .inl ft))] sz) [(k9, .inr (1, [.ref tc, .int (nI zn), .int nu, .int ki, .int ce, .int lo])), (tc, .inl (cI, 16, .inl ftn))] ∧ zn ≤ 16) (va_A [(k9, .inr (1, [.ref tc, .int (nI z), .int nu, .int ki, .int ce, .int lo])), (tc, .inl (cI, 16, .inl ft))] sz)) 0 0 (va_A [(k9, .inr (1, [.ref tc, .int (nI z), .int nu, .int ki, .int ce, .int lo])), (tc, .inl (cI, 16, .inl ft))] sz) := by
  refine Met.ofW (cc := cX1_askAnew) (maxL := 3) (ret := (some .int)) (by decide) rfl ?_
  intro p e s m args below meth c s₁ B hml hv
  obtain ⟨rfl, hsz, hP, hK, hD0, hst⟩ := hv
  have hx := B.exec
  have hb := B.bytes
  have hr := B.returns
  have hts := atoms_spec (ws := wsX1_askAnew) B.pre
  have hown : s.vm.findClass RX1 = some m.cls := findClass_of_methodNamed B.named
  have hlocks := B.notSynchronized
  subst hsz
  have hD := hD0.self (sz := s.heap.size)
  generalize hAe : va_A [(k9, .inr (1, [.ref tc, .int (nI z), .int nu, .int ki, .int ce, .int lo])), (tc, .inl (cI, 16, .inl ft))] s.heap.size = A at hD hst ⊢
  have hA : ∀ q : Nat, s.heap.size ≤ q → A q := fun q h => by rw [← hAe]; exact Or.inr h
  have hS : va_S A s.heap s.heap [] := va_S.rf
  have hP : va_P (dC, dI) vwCl [(k9, .inr (1, [.ref tc, .int (nI z), .int nu, .int ki, .int ce, .int lo])), (tc, .inl (cI, 16, .inl ft))] s.heap := hP
  obtain ⟨⟨tb1, hZ1, hT1⟩, ⟨tb2, hZ2, hT2⟩, ⟨tb3, hZ3, hT3⟩, hNk⟩ := id hst
  have hl := lv_entry ([.ref k9, .int x, .int 9]) (n := 3) (Nat.le_of_ble_eq_true rfl)
  rw [lg_entry_eq]
  generalize (lg_sl ([.ref k9, .int x, .int 9]) ++ List.replicate (3 - (lg_sl ([.ref k9, .int x, .int 9])).length) Slot.unset).toArray = ls at hl ⊢
  have hl : lv_has ls 3 [(0, .ref k9), (1, .int x), (2, .int 9)] := hl
  refine lv_aload_n hx hb dX1_askAnew_0 rfl (lv_at hl 0 rfl) ?_
  refine lv_aload_n hx hb dX1_askAnew_1 rfl (lv_at hl 0 rfl) ?_
  refine lv_iload_n hx hb dX1_askAnew_2 rfl (lv_at hl 1 rfl) ?_
  have hPc_1 := hP.sub (ws' := [(k9, .inr (1, [.ref tc, .int (nI z), .int nu, .int ki, .int ce, .int lo]))]) [0] rfl
  refine vp_callSi (W.runV (As := [.int x]) (rest := [.ref k9]) ⟨hx, hb, hml, hown, hts⟩ (r_X1_bodyFor l dC dI cI cZ cL cJ k9 tc z nu ki ce lo x ) (cwV 1 hts gX1_askAnew_X1_bodyFor rfl rfl rfl (by decide +kernel) ⟨Nat.le_of_ble_eq_true rfl, Nat.le_of_ble_eq_true rfl⟩) ⟨fun a U g mk q => by obtain ⟨q0, qP, qK, qS⟩ := q; exact ⟨q0, qP, va_K.moved (u := U) (U := U.calling g mk a) (Vm.Alike.refl U.vm) qK, stt_same rfl qS⟩, va_recv hK hP (ci := 1) (q0 := 0) rfl rfl, fun U hU hW => ⟨rfl, by rw [hU]; exact hPc_1, va_K.moved hW.alike hK, by rw [hU]; exact stt_warm hW (stt_narrow (stt_kept hst hS.2.1) (fun _ h => h.elim))⟩⟩ rfl rfl hl.1 rfl (lv_room (Nat.le_of_ble_eq_true rfl)) dX1_askAnew_3 ⟨Nat.le_of_ble_eq_true rfl, Nat.le_of_ble_eq_true rfl⟩) (fun r_1 h_1 => ?_)
  refine lv_iload_n hx hb dX1_askAnew_6 rfl (lv_at hl 2 rfl) ?_
  have hPc_2 := hP.sub (ws' := [(k9, .inr (1, [.ref tc, .int (nI z), .int nu, .int ki, .int ce, .int lo])), (tc, .inl (cI, 16, .inl ft))]) [0, 1] rfl
  have hDc_2 := hD.sub (ws' := [(k9, .inr (1, [.ref tc, .int (nI z), .int nu, .int ki, .int ce, .int lo])), (tc, .inl (cI, 16, .inl ft))]) [0, 1] (by decide) rfl
  have hFc_2 := va_free (wc := [(k9, .inr (1, [.ref tc, .int (nI z), .int nu, .int ki, .int ce, .int lo])), (tc, .inl (cI, 16, .inl ft))]) hD hS hA [0, 1] rfl
  refine va_calli (va_runV (As := [.int r_1, .int 9]) (rest := []) ⟨hx, hb, hml, hown, hts⟩ (r_X1_begin_9 l dC dI cI cZ cL cJ s.heap.size k9 tc z nu ki ce lo ft r_1 (by omega)) (cwV 2 hts gX1_askAnew_X1_begin rfl rfl rfl (by decide +kernel) ⟨Nat.le_of_ble_eq_true rfl, Nat.le_of_ble_eq_true rfl⟩) ⟨fun a U g mk q => by obtain ⟨q0, q1, qP, qK, qD, qS⟩ := q; exact ⟨q0, q1, qP, va_K.moved (u := U) (U := U.calling g mk a) (Vm.Alike.refl U.vm) qK, qD, stt_same rfl qS⟩, va_recv hK hP (ci := 1) (q0 := 0) rfl rfl, fun U hU hW => ⟨rfl, by rw [hU], by rw [hU]; exact hPc_2, va_K.moved hW.alike hK, hDc_2.weaken (fun _ _ _ _ => trivial), by rw [hU]; exact stt_warm hW (stt_narrow (stt_kept hst hS.2.1) hFc_2)⟩⟩ rfl rfl hl.1 rfl (lv_room (Nat.le_of_ble_eq_true rfl)) dX1_askAnew_7 ⟨Nat.le_of_ble_eq_true rfl, Nat.le_of_ble_eq_true rfl⟩) hS (fun q _ h => hFc_2 q h) hFc_2 (fun r_2 u_2 t_2 H1 locs ht hvm h_2 hB hz1 hk1 hS => ?_)
  obtain ⟨zn_2, ftn_2, hP1, hD1, hF_2_0⟩ := hB
  rw [ht] at hP1
  obtain ⟨hP, hD⟩ := va_join (wr := []) (w1 := [(k9, .inr (1, [.ref tc, .int (nI zn_2), .int nu, .int ki, .int ce, .int lo])), (tc, .inl (cI, 16, .inl ftn_2))]) hP hD [0, 1] [] rfl rfl (by decide) (by decide) hk1 hFc_2 hP1 hD1
  generalize H1 = H at hP hS ⊢
  have hP : va_P (dC, dI) vwCl [(k9, .inr (1, [.ref tc, .int (nI zn_2), .int nu, .int ki, .int ce, .int lo])), (tc, .inl (cI, 16, .inl ftn_2))] H := hP
  have hD : va_D A [(k9, .inr (1, [.ref tc, .int (nI zn_2), .int nu, .int ki, .int ce, .int lo])), (tc, .inl (cI, 16, .inl ftn_2))] := hD
  have hP9 := hP.sub (ws' := [(k9, .inr (1, [.ref tc, .int (nI zn_2), .int nu, .int ki, .int ce, .int lo])), (tc, .inl (cI, 16, .inl ftn_2))]) [0, 1] rfl
  have hD9 := hD.sub (ws' := [(k9, .inr (1, [.ref tc, .int (nI zn_2), .int nu, .int ki, .int ce, .int lo])), (tc, .inl (cI, 16, .inl ftn_2))]) [0, 1] (by decide) rfl
  exact W.iret (v := r_2) hx hb hr (fun t ht hW => ⟨⟨r_2, (), rfl, trivial, ⟨zn_2, ftn_2, by rw [ht]; exact hP9, hD9, (by omega)⟩⟩, hS.F ht⟩) hS.2.2 dX1_askAnew_10
set_option maxHeartbeats 4000000 in
set_option maxRecDepth 100000 in
theorem r_X1_begin_8 (l : Launch) (dC : Nat → ClassId) (dI : Nat → Nat → Nat) (cI cZ cL cJ : ClassId) (sz : Nat) (k9 : Nat) (tc : Nat) (z : Nat) (nu : Int32) (ki : Int32) (ce : Int32) (lo : Int32) (ft : Nat → Int32) (x : Int32) (hz : z ≤ 16) : Met l yX1_begin wsX1_begin ({ frames := 16, cells := 0, slots := 0, locals := 361 }) (va_Pc [.ref k9, .int x, .int 8] (fun U => U.heap.size = sz ∧ va_P (dC, dI) vwCl [(k9, .inr (1, [.ref tc, .int (nI z), .int nu, .int ki, .int ce, .int lo])), (tc, .inl (cI, 16, .inl ft))] U.heap ∧ va_K (dC, dI) vwCl [(cI, .int), (cZ, .boolean), (cL, .object RX3), (cJ, .array .int)] U ∧ va_D (fun _ => True) [(k9, .inr (1, [.ref tc, .int (nI z), .int nu, .int ki, .int ce, .int lo])), (tc, .inl (cI, 16, .inl ft))] ∧ stt (va_A [(k9, .inr (1, [.ref tc, .int (nI z), .int nu, .int ki, .int ce, .int lo])), (tc, .inl (cI, 16, .inl ft))] sz) U U.heap)) (va_Qi (fun r (_ : Unit) => True) (fun (_ : Unit) t => ∃ (zn : Nat) (ftn : Nat → Int32), va_P (dC, dI) vwCl [(k9, .inr (1, [.ref tc, .int (nI zn), .int nu, .int ki, .int ce, .int lo])), (tc, .inl (cI, 16, .inl ftn))] t.heap ∧ va_D (va_A [(k9, .inr (1, [.ref tc, .int (nI z), .int nu, .int ki, .int ce, .int lo])), (tc, .inl (cI, 16, .inl ft))] sz) [(k9, .inr (1, [.ref tc, .int (nI zn), .int nu, .int ki, .int ce, .int lo])), (tc, .inl (cI, 16, .inl ftn))] ∧ zn ≤ 16) (va_A [(k9, .inr (1, [.ref tc, .int (nI z), .int nu, .int ki, .int ce, .int lo])), (tc, .inl (cI, 16, .inl ft))] sz)) 0 0 (va_A [(k9, .inr (1, [.ref tc, .int (nI z), .int nu, .int ki, .int ce, .int lo])), (tc, .inl (cI, 16, .inl ft))] sz) := by
  refine Met.ofW (cc := cX1_begin) (maxL := 4) (ret := (some .int)) (by decide) rfl ?_
  intro p e s m args below meth c s₁ B hml hv
  obtain ⟨rfl, hsz, hP, hK, hD0, hst⟩ := hv
  have hx := B.exec
  have hb := B.bytes
  have hr := B.returns
  have hts := atoms_spec (ws := wsX1_begin) B.pre
  have hown : s.vm.findClass RX1 = some m.cls := findClass_of_methodNamed B.named
  have hlocks := B.notSynchronized
  subst hsz
  have hD := hD0.self (sz := s.heap.size)
  generalize hAe : va_A [(k9, .inr (1, [.ref tc, .int (nI z), .int nu, .int ki, .int ce, .int lo])), (tc, .inl (cI, 16, .inl ft))] s.heap.size = A at hD hst ⊢
  have hA : ∀ q : Nat, s.heap.size ≤ q → A q := fun q h => by rw [← hAe]; exact Or.inr h
  have hS : va_S A s.heap s.heap [] := va_S.rf
  have hP : va_P (dC, dI) vwCl [(k9, .inr (1, [.ref tc, .int (nI z), .int nu, .int ki, .int ce, .int lo])), (tc, .inl (cI, 16, .inl ft))] s.heap := hP
  obtain ⟨⟨tb1, hZ1, hT1⟩, ⟨tb2, hZ2, hT2⟩, ⟨tb3, hZ3, hT3⟩, hNk⟩ := id hst
  have hl := lv_entry ([.ref k9, .int x, .int 8]) (n := 4) (Nat.le_of_ble_eq_true rfl)
  rw [lg_entry_eq]
  generalize (lg_sl ([.ref k9, .int x, .int 8]) ++ List.replicate (4 - (lg_sl ([.ref k9, .int x, .int 8])).length) Slot.unset).toArray = ls at hl ⊢
  have hl : lv_has ls 4 [(0, .ref k9), (1, .int x), (2, .int 8)] := hl
  refine lv_iload_n hx hb dX1_begin_0 rfl (lv_at hl 2 rfl) ?_
  refine lv_bipush (v := 16) hx hb dX1_begin_1 (by decide) ?_
  refine lv_icmp_lt (tgt := 8) hx hb dX1_begin_3 (by decide) (fun _ => ?_) (fun c_ => absurd (by decide) c_)
  refine lv_aload_n hx hb dX1_begin_8 rfl (lv_at hl 0 rfl) ?_
  refine lv_iload_n hx hb dX1_begin_9 rfl (lv_at hl 1 rfl) ?_
  have hPc_2 := hP.sub (ws' := [(k9, .inr (1, [.ref tc, .int (nI z), .int nu, .int ki, .int ce, .int lo])), (tc, .inl (cI, 16, .inl ft))]) [0, 1] rfl
  have hDc_2 := hD.sub (ws' := [(k9, .inr (1, [.ref tc, .int (nI z), .int nu, .int ki, .int ce, .int lo])), (tc, .inl (cI, 16, .inl ft))]) [0, 1] (by decide) rfl
  have hFc_2 := va_free (wc := [(k9, .inr (1, [.ref tc, .int (nI z), .int nu, .int ki, .int ce, .int lo])), (tc, .inl (cI, 16, .inl ft))]) hD hS hA [0, 1] rfl
  refine va_callv (va_runV (As := [.int x]) (rest := []) ⟨hx, hb, hml, hown, hts⟩ (r_X1_leave l dC dI cI cZ cL cJ s.heap.size k9 tc z nu ki ce lo ft x (by omega)) (cwV 1 hts gX1_begin_X1_leave rfl rfl rfl (by decide +kernel) ⟨Nat.le_of_ble_eq_true rfl, Nat.le_of_ble_eq_true rfl⟩) ⟨fun a U g mk q => by obtain ⟨q0, q1, qP, qK, qD⟩ := q; exact ⟨q0, q1, qP, va_K.moved (u := U) (U := U.calling g mk a) (Vm.Alike.refl U.vm) qK, qD⟩, va_recv hK hP (ci := 1) (q0 := 0) rfl rfl, fun U hU hW => ⟨rfl, by rw [hU], by rw [hU]; exact hPc_2, va_K.moved hW.alike hK, hDc_2.weaken (fun _ _ _ _ => trivial)⟩⟩ rfl rfl hl.1 rfl (lv_room (Nat.le_of_ble_eq_true rfl)) dX1_begin_10 ⟨Nat.le_of_ble_eq_true rfl, Nat.le_of_ble_eq_true rfl⟩) hS (fun q _ h => hFc_2 q h) hFc_2 (fun u_2 t_2 H1 locs ht hvm h_2 hB hz1 hk1 hS => ?_)
  obtain ⟨zn_2, ftn_2, hP1, hD1, hF_2_0⟩ := hB
  rw [ht] at hP1
  obtain ⟨hP, hD⟩ := va_join (wr := []) (w1 := [(k9, .inr (1, [.ref tc, .int (nI zn_2), .int nu, .int ki, .int ce, .int lo])), (tc, .inl (cI, 16, .inl ftn_2))]) hP hD [0, 1] [] rfl rfl (by decide) (by decide) hk1 hFc_2 hP1 hD1
  generalize H1 = H at hP hS ⊢
  have hP : va_P (dC, dI) vwCl [(k9, .inr (1, [.ref tc, .int (nI zn_2), .int nu, .int ki, .int ce, .int lo])), (tc, .inl (cI, 16, .inl ftn_2))] H := hP
  have hD : va_D A [(k9, .inr (1, [.ref tc, .int (nI zn_2), .int nu, .int ki, .int ce, .int lo])), (tc, .inl (cI, 16, .inl ftn_2))] := hD
  refine lv_iload_n hx hb dX1_begin_13 rfl (lv_at hl 2 rfl) ?_
  refine lv_iconst (v := 1) hx hb dX1_begin_14 (by decide) ?_
  refine lv_iadd hx hb dX1_begin_15 ?_
  refine lv_topi (fun v_3 e_3 => ?_)
  obtain rfl : v_3 = 9 := (e_3).trans (by decide)
  refine lv_istore_n (lv' := [(3, .int 9), (0, .ref k9), (1, .int x), (2, .int 8)]) hx hb dX1_begin_16 rfl hl (by decide) rfl (fun ls hl => ?_)
  refine lv_iload_n hx hb dX1_begin_17 rfl (lv_at hl 2 rfl) ?_
  by_cases k_4 : x = 10
  · subst k_4
    refine lv_tableIn (off := 74) (tgt := 92) hx hb dX1_begin_18 (by decide) (by decide) (by decide) (by decide) ?_
    refine lv_aload_n hx hb dX1_begin_92 rfl (lv_at hl 1 rfl) ?_
    refine va_get (D := (dC, dI)) (ci := 1) (v := .int lo) (C := RX1) (T := TX1) (N := 6) hx hb hts i_X1_begin_X1 hown hK hP 0 rfl rfl 5 (by decide) (hts (.fieldLink RX1 39 "MillTalk$Asks" "loud" "I") (by decide +kernel)) (fun _ h9 => h9) rfl dX1_begin_93 ?_
    have hP9 := hP.sub (ws' := [(k9, .inr (1, [.ref tc, .int (nI zn_2), .int nu, .int ki, .int ce, .int lo])), (tc, .inl (cI, 16, .inl ftn_2))]) [0, 1] rfl
    have hD9 := hD.sub (ws' := [(k9, .inr (1, [.ref tc, .int (nI zn_2), .int nu, .int ki, .int ce, .int lo])), (tc, .inl (cI, 16, .inl ftn_2))]) [0, 1] (by decide) rfl
    exact W.iret (v := lo) hx hb hr (fun t ht hW => ⟨⟨lo, (), rfl, trivial, ⟨zn_2, ftn_2, by rw [ht]; exact hP9, hD9, (by omega)⟩⟩, hS.F ht⟩) hS.2.2 dX1_begin_96
  by_cases k_5 : x = 11
  · subst k_5
    refine lv_tableIn (off := 79) (tgt := 97) hx hb dX1_begin_18 (by decide) (by decide) (by decide) (by decide) ?_
    refine lv_aload_n hx hb dX1_begin_97 rfl (lv_at hl 1 rfl) ?_
    refine lv_bipush (v := 10) hx hb dX1_begin_98 (by decide) ?_
    refine lv_iload_n hx hb dX1_begin_100 rfl (lv_at hl 0 rfl) ?_
    have hPc_6 := hP.sub (ws' := [(k9, .inr (1, [.ref tc, .int (nI zn_2), .int nu, .int ki, .int ce, .int lo])), (tc, .inl (cI, 16, .inl ftn_2))]) [0, 1] rfl
    have hDc_6 := hD.sub (ws' := [(k9, .inr (1, [.ref tc, .int (nI zn_2), .int nu, .int ki, .int ce, .int lo])), (tc, .inl (cI, 16, .inl ftn_2))]) [0, 1] (by decide) rfl
    have hFc_6 := va_free (wc := [(k9, .inr (1, [.ref tc, .int (nI zn_2), .int nu, .int ki, .int ce, .int lo])), (tc, .inl (cI, 16, .inl ftn_2))]) hD hS hA [0, 1] rfl
    refine va_calli (va_runV (As := [.int 10, .int 9]) (rest := []) ⟨hx, hb, hml, hown, hts⟩ (r_X1_begin_9 l dC dI cI cZ cL cJ H.size k9 tc zn_2 nu ki ce lo ftn_2 10 (by omega)) (cwV 2 hts gX1_begin_X1_begin rfl rfl rfl (by decide +kernel) ⟨Nat.le_of_ble_eq_true rfl, Nat.le_of_ble_eq_true rfl⟩) ⟨fun a U g mk q => by obtain ⟨q0, q1, qP, qK, qD, qS⟩ := q; exact ⟨q0, q1, qP, va_K.moved (u := U) (U := U.calling g mk a) (Vm.Alike.refl U.vm) qK, qD, stt_same rfl qS⟩, va_recv hK hP (ci := 1) (q0 := 0) rfl rfl, fun U hU hW => ⟨rfl, by rw [hU], by rw [hU]; exact hPc_6, va_K.moved hW.alike hK, hDc_6.weaken (fun _ _ _ _ => trivial), by rw [hU]; exact stt_warm hW (stt_narrow (stt_kept hst hS.2.1) hFc_6)⟩⟩ rfl rfl hl.1 rfl (lv_room (Nat.le_of_ble_eq_true rfl)) dX1_begin_101 ⟨Nat.le_of_ble_eq_true rfl, Nat.le_of_ble_eq_true rfl⟩) hS (fun q _ h => hFc_6 q h) hFc_6 (fun r_6 u_6 t_6 H1 locs ht hvm h_6 hB hz1 hk1 hS => ?_)
    obtain ⟨zn_6, ftn_6, hP1, hD1, hF_6_0⟩ := hB
    rw [ht] at hP1
    obtain ⟨hP, hD⟩ := va_join (wr := []) (w1 := [(k9, .inr (1, [.ref tc, .int (nI zn_6), .int nu, .int ki, .int ce, .int lo])), (tc, .inl (cI, 16, .inl ftn_6))]) hP hD [0, 1] [] rfl rfl (by decide) (by decide) hk1 hFc_6 hP1 hD1
    generalize H1 = H at hP hS ⊢
    have hP : va_P (dC, dI) vwCl [(k9, .inr (1, [.ref tc, .int (nI zn_6), .int nu, .int ki, .int ce, .int lo])), (tc, .inl (cI, 16, .inl ftn_6))] H := hP
    have hD : va_D A [(k9, .inr (1, [.ref tc, .int (nI zn_6), .int nu, .int ki, .int ce, .int lo])), (tc, .inl (cI, 16, .inl ftn_6))] := hD
    refine lv_aload_n hx hb dX1_begin_104 rfl (lv_at hl 1 rfl) ?_
    refine lv_iconst (v := 1) hx hb dX1_begin_105 (by decide) ?_
    refine lv_iload_n hx hb dX1_begin_106 rfl (lv_at hl 0 rfl) ?_
    have hPc_7 := hP.sub (ws' := [(k9, .inr (1, [.ref tc, .int (nI zn_6), .int nu, .int ki, .int ce, .int lo])), (tc, .inl (cI, 16, .inl ftn_6))]) [0, 1] rfl
    have hDc_7 := hD.sub (ws' := [(k9, .inr (1, [.ref tc, .int (nI zn_6), .int nu, .int ki, .int ce, .int lo])), (tc, .inl (cI, 16, .inl ftn_6))]) [0, 1] (by decide) rfl
    have hFc_7 := va_free (wc := [(k9, .inr (1, [.ref tc, .int (nI zn_6), .int nu, .int ki, .int ce, .int lo])), (tc, .inl (cI, 16, .inl ftn_6))]) hD hS hA [0, 1] rfl
    refine va_calli (va_runV (As := [.int 1, .int 9]) (rest := [.int r_6]) ⟨hx, hb, hml, hown, hts⟩ (r_X1_askAnew_9 l dC dI cI cZ cL cJ H.size k9 tc zn_6 nu ki ce lo ftn_6 1 (by omega)) (cwV 2 hts gX1_begin_X1_askAnew rfl rfl rfl (by decide +kernel) ⟨Nat.le_of_ble_eq_true rfl, Nat.le_of_ble_eq_true rfl⟩) ⟨fun a U g mk q => by obtain ⟨q0, q1, qP, qK, qD, qS⟩ := q; exact ⟨q0, q1, qP, va_K.moved (u := U) (U := U.calling g mk a) (Vm.Alike.refl U.vm) qK, qD, stt_same rfl qS⟩, va_recv hK hP (ci := 1) (q0 := 0) rfl rfl, fun U hU hW => ⟨rfl, by rw [hU], by rw [hU]; exact hPc_7, va_K.moved hW.alike hK, hDc_7.weaken (fun _ _ _ _ => trivial), by rw [hU]; exact stt_warm hW (stt_narrow (stt_kept hst hS.2.1) hFc_7)⟩⟩ rfl rfl hl.1 rfl (lv_room (Nat.le_of_ble_eq_true rfl)) dX1_begin_107 ⟨Nat.le_of_ble_eq_true rfl, Nat.le_of_ble_eq_true rfl⟩) hS (fun q _ h => hFc_7 q h) hFc_7 (fun r_7 u_7 t_7 H1 locs ht hvm h_7 hB hz1 hk1 hS => ?_)
    obtain ⟨zn_7, ftn_7, hP1, hD1, hF_7_0⟩ := hB
    rw [ht] at hP1
    obtain ⟨hP, hD⟩ := va_join (wr := []) (w1 := [(k9, .inr (1, [.ref tc, .int (nI zn_7), .int nu, .int ki, .int ce, .int lo])), (tc, .inl (cI, 16, .inl ftn_7))]) hP hD [0, 1] [] rfl rfl (by decide) (by decide) hk1 hFc_7 hP1 hD1
    generalize H1 = H at hP hS ⊢
    have hP : va_P (dC, dI) vwCl [(k9, .inr (1, [.ref tc, .int (nI zn_7), .int nu, .int ki, .int ce, .int lo])), (tc, .inl (cI, 16, .inl ftn_7))] H := hP
    have hD : va_D A [(k9, .inr (1, [.ref tc, .int (nI zn_7), .int nu, .int ki, .int ce, .int lo])), (tc, .inl (cI, 16, .inl ftn_7))] := hD
    refine lv_iadd hx hb dX1_begin_110 ?_
    refine lv_topi (fun v_8 e_8 => ?_)
    have hP9 := hP.sub (ws' := [(k9, .inr (1, [.ref tc, .int (nI zn_7), .int nu, .int ki, .int ce, .int lo])), (tc, .inl (cI, 16, .inl ftn_7))]) [0, 1] rfl
    have hD9 := hD.sub (ws' := [(k9, .inr (1, [.ref tc, .int (nI zn_7), .int nu, .int ki, .int ce, .int lo])), (tc, .inl (cI, 16, .inl ftn_7))]) [0, 1] (by decide) rfl
    exact W.iret (v := v_8) hx hb hr (fun t ht hW => ⟨⟨v_8, (), rfl, trivial, ⟨zn_7, ftn_7, by rw [ht]; exact hP9, hD9, (by omega)⟩⟩, hS.F ht⟩) hS.2.2 dX1_begin_111
  by_cases k_9 : x = 12
  · subst k_9
    refine lv_tableIn (off := 94) (tgt := 112) hx hb dX1_begin_18 (by decide) (by decide) (by decide) (by decide) ?_
    refine lv_aload_n hx hb dX1_begin_112 rfl (lv_at hl 1 rfl) ?_
    refine lv_bipush (v := 11) hx hb dX1_begin_113 (by decide) ?_
    refine lv_iload_n hx hb dX1_begin_115 rfl (lv_at hl 0 rfl) ?_
    have hPc_10 := hP.sub (ws' := [(k9, .inr (1, [.ref tc, .int (nI zn_2), .int nu, .int ki, .int ce, .int lo])), (tc, .inl (cI, 16, .inl ftn_2))]) [0, 1] rfl
    have hDc_10 := hD.sub (ws' := [(k9, .inr (1, [.ref tc, .int (nI zn_2), .int nu, .int ki, .int ce, .int lo])), (tc, .inl (cI, 16, .inl ftn_2))]) [0, 1] (by decide) rfl
    have hFc_10 := va_free (wc := [(k9, .inr (1, [.ref tc, .int (nI zn_2), .int nu, .int ki, .int ce, .int lo])), (tc, .inl (cI, 16, .inl ftn_2))]) hD hS hA [0, 1] rfl
    refine va_calli (va_runV (As := [.int 11, .int 9]) (rest := []) ⟨hx, hb, hml, hown, hts⟩ (r_X1_begin_9 l dC dI cI cZ cL cJ H.size k9 tc zn_2 nu ki ce lo ftn_2 11 (by omega)) (cwV 2 hts gX1_begin_X1_begin rfl rfl rfl (by decide +kernel) ⟨Nat.le_of_ble_eq_true rfl, Nat.le_of_ble_eq_true rfl⟩) ⟨fun a U g mk q => by obtain ⟨q0, q1, qP, qK, qD, qS⟩ := q; exact ⟨q0, q1, qP, va_K.moved (u := U) (U := U.calling g mk a) (Vm.Alike.refl U.vm) qK, qD, stt_same rfl qS⟩, va_recv hK hP (ci := 1) (q0 := 0) rfl rfl, fun U hU hW => ⟨rfl, by rw [hU], by rw [hU]; exact hPc_10, va_K.moved hW.alike hK, hDc_10.weaken (fun _ _ _ _ => trivial), by rw [hU]; exact stt_warm hW (stt_narrow (stt_kept hst hS.2.1) hFc_10)⟩⟩ rfl rfl hl.1 rfl (lv_room (Nat.le_of_ble_eq_true rfl)) dX1_begin_116 ⟨Nat.le_of_ble_eq_true rfl, Nat.le_of_ble_eq_true rfl⟩) hS (fun q _ h => hFc_10 q h) hFc_10 (fun r_10 u_10 t_10 H1 locs ht hvm h_10 hB hz1 hk1 hS => ?_)
    obtain ⟨zn_10, ftn_10, hP1, hD1, hF_10_0⟩ := hB
    rw [ht] at hP1
    obtain ⟨hP, hD⟩ := va_join (wr := []) (w1 := [(k9, .inr (1, [.ref tc, .int (nI zn_10), .int nu, .int ki, .int ce, .int lo])), (tc, .inl (cI, 16, .inl ftn_10))]) hP hD [0, 1] [] rfl rfl (by decide) (by decide) hk1 hFc_10 hP1 hD1
    generalize H1 = H at hP hS ⊢
    have hP : va_P (dC, dI) vwCl [(k9, .inr (1, [.ref tc, .int (nI zn_10), .int nu, .int ki, .int ce, .int lo])), (tc, .inl (cI, 16, .inl ftn_10))] H := hP
    have hD : va_D A [(k9, .inr (1, [.ref tc, .int (nI zn_10), .int nu, .int ki, .int ce, .int lo])), (tc, .inl (cI, 16, .inl ftn_10))] := hD
    refine lv_ineg hx hb dX1_begin_119 ?_
    refine lv_topi (fun v_11 e_11 => ?_)
    have hP9 := hP.sub (ws' := [(k9, .inr (1, [.ref tc, .int (nI zn_10), .int nu, .int ki, .int ce, .int lo])), (tc, .inl (cI, 16, .inl ftn_10))]) [0, 1] rfl
    have hD9 := hD.sub (ws' := [(k9, .inr (1, [.ref tc, .int (nI zn_10), .int nu, .int ki, .int ce, .int lo])), (tc, .inl (cI, 16, .inl ftn_10))]) [0, 1] (by decide) rfl
    exact W.iret (v := v_11) hx hb hr (fun t ht hW => ⟨⟨v_11, (), rfl, trivial, ⟨zn_10, ftn_10, by rw [ht]; exact hP9, hD9, (by omega)⟩⟩, hS.F ht⟩) hS.2.2 dX1_begin_120
  by_cases k_12 : x = 13
  · subst k_12
    refine lv_tableIn (off := 103) (tgt := 121) hx hb dX1_begin_18 (by decide) (by decide) (by decide) (by decide) ?_
    refine lv_aload_n hx hb dX1_begin_121 rfl (lv_at hl 1 rfl) ?_
    refine lv_bipush (v := 10) hx hb dX1_begin_122 (by decide) ?_
    refine lv_iload_n hx hb dX1_begin_124 rfl (lv_at hl 0 rfl) ?_
    have hPc_13 := hP.sub (ws' := [(k9, .inr (1, [.ref tc, .int (nI zn_2), .int nu, .int ki, .int ce, .int lo])), (tc, .inl (cI, 16, .inl ftn_2))]) [0, 1] rfl
    have hDc_13 := hD.sub (ws' := [(k9, .inr (1, [.ref tc, .int (nI zn_2), .int nu, .int ki, .int ce, .int lo])), (tc, .inl (cI, 16, .inl ftn_2))]) [0, 1] (by decide) rfl
    have hFc_13 := va_free (wc := [(k9, .inr (1, [.ref tc, .int (nI zn_2), .int nu, .int ki, .int ce, .int lo])), (tc, .inl (cI, 16, .inl ftn_2))]) hD hS hA [0, 1] rfl
    refine va_calli (va_runV (As := [.int 10, .int 9]) (rest := []) ⟨hx, hb, hml, hown, hts⟩ (r_X1_begin_9 l dC dI cI cZ cL cJ H.size k9 tc zn_2 nu ki ce lo ftn_2 10 (by omega)) (cwV 2 hts gX1_begin_X1_begin rfl rfl rfl (by decide +kernel) ⟨Nat.le_of_ble_eq_true rfl, Nat.le_of_ble_eq_true rfl⟩) ⟨fun a U g mk q => by obtain ⟨q0, q1, qP, qK, qD, qS⟩ := q; exact ⟨q0, q1, qP, va_K.moved (u := U) (U := U.calling g mk a) (Vm.Alike.refl U.vm) qK, qD, stt_same rfl qS⟩, va_recv hK hP (ci := 1) (q0 := 0) rfl rfl, fun U hU hW => ⟨rfl, by rw [hU], by rw [hU]; exact hPc_13, va_K.moved hW.alike hK, hDc_13.weaken (fun _ _ _ _ => trivial), by rw [hU]; exact stt_warm hW (stt_narrow (stt_kept hst hS.2.1) hFc_13)⟩⟩ rfl rfl hl.1 rfl (lv_room (Nat.le_of_ble_eq_true rfl)) dX1_begin_125 ⟨Nat.le_of_ble_eq_true rfl, Nat.le_of_ble_eq_true rfl⟩) hS (fun q _ h => hFc_13 q h) hFc_13 (fun r_13 u_13 t_13 H1 locs ht hvm h_13 hB hz1 hk1 hS => ?_)
    obtain ⟨zn_13, ftn_13, hP1, hD1, hF_13_0⟩ := hB
    rw [ht] at hP1
    obtain ⟨hP, hD⟩ := va_join (wr := []) (w1 := [(k9, .inr (1, [.ref tc, .int (nI zn_13), .int nu, .int ki, .int ce, .int lo])), (tc, .inl (cI, 16, .inl ftn_13))]) hP hD [0, 1] [] rfl rfl (by decide) (by decide) hk1 hFc_13 hP1 hD1
    generalize H1 = H at hP hS ⊢
    have hP : va_P (dC, dI) vwCl [(k9, .inr (1, [.ref tc, .int (nI zn_13), .int nu, .int ki, .int ce, .int lo])), (tc, .inl (cI, 16, .inl ftn_13))] H := hP
    have hD : va_D A [(k9, .inr (1, [.ref tc, .int (nI zn_13), .int nu, .int ki, .int ce, .int lo])), (tc, .inl (cI, 16, .inl ftn_13))] := hD
    refine lv_bipush (v := 100) hx hb dX1_begin_128 (by decide) ?_
    refine lv_isub hx hb dX1_begin_130 ?_
    refine lv_topi (fun v_14 e_14 => ?_)
    have hP9 := hP.sub (ws' := [(k9, .inr (1, [.ref tc, .int (nI zn_13), .int nu, .int ki, .int ce, .int lo])), (tc, .inl (cI, 16, .inl ftn_13))]) [0, 1] rfl
    have hD9 := hD.sub (ws' := [(k9, .inr (1, [.ref tc, .int (nI zn_13), .int nu, .int ki, .int ce, .int lo])), (tc, .inl (cI, 16, .inl ftn_13))]) [0, 1] (by decide) rfl
    exact W.iret (v := v_14) hx hb hr (fun t ht hW => ⟨⟨v_14, (), rfl, trivial, ⟨zn_13, ftn_13, by rw [ht]; exact hP9, hD9, (by omega)⟩⟩, hS.F ht⟩) hS.2.2 dX1_begin_131
  by_cases k_15 : x = 14
  · subst k_15
    refine lv_tableIn (off := 114) (tgt := 132) hx hb dX1_begin_18 (by decide) (by decide) (by decide) (by decide) ?_
    refine lv_aload_n hx hb dX1_begin_132 rfl (lv_at hl 1 rfl) ?_
    refine lv_bipush (v := 13) hx hb dX1_begin_133 (by decide) ?_
    refine lv_iload_n hx hb dX1_begin_135 rfl (lv_at hl 0 rfl) ?_
    have hPc_16 := hP.sub (ws' := [(k9, .inr (1, [.ref tc, .int (nI zn_2), .int nu, .int ki, .int ce, .int lo])), (tc, .inl (cI, 16, .inl ftn_2))]) [0, 1] rfl
    have hDc_16 := hD.sub (ws' := [(k9, .inr (1, [.ref tc, .int (nI zn_2), .int nu, .int ki, .int ce, .int lo])), (tc, .inl (cI, 16, .inl ftn_2))]) [0, 1] (by decide) rfl
    have hFc_16 := va_free (wc := [(k9, .inr (1, [.ref tc, .int (nI zn_2), .int nu, .int ki, .int ce, .int lo])), (tc, .inl (cI, 16, .inl ftn_2))]) hD hS hA [0, 1] rfl
    refine va_calli (va_runV (As := [.int 13, .int 9]) (rest := []) ⟨hx, hb, hml, hown, hts⟩ (r_X1_begin_9 l dC dI cI cZ cL cJ H.size k9 tc zn_2 nu ki ce lo ftn_2 13 (by omega)) (cwV 2 hts gX1_begin_X1_begin rfl rfl rfl (by decide +kernel) ⟨Nat.le_of_ble_eq_true rfl, Nat.le_of_ble_eq_true rfl⟩) ⟨fun a U g mk q => by obtain ⟨q0, q1, qP, qK, qD, qS⟩ := q; exact ⟨q0, q1, qP, va_K.moved (u := U) (U := U.calling g mk a) (Vm.Alike.refl U.vm) qK, qD, stt_same rfl qS⟩, va_recv hK hP (ci := 1) (q0 := 0) rfl rfl, fun U hU hW => ⟨rfl, by rw [hU], by rw [hU]; exact hPc_16, va_K.moved hW.alike hK, hDc_16.weaken (fun _ _ _ _ => trivial), by rw [hU]; exact stt_warm hW (stt_narrow (stt_kept hst hS.2.1) hFc_16)⟩⟩ rfl rfl hl.1 rfl (lv_room (Nat.le_of_ble_eq_true rfl)) dX1_begin_136 ⟨Nat.le_of_ble_eq_true rfl, Nat.le_of_ble_eq_true rfl⟩) hS (fun q _ h => hFc_16 q h) hFc_16 (fun r_16 u_16 t_16 H1 locs ht hvm h_16 hB hz1 hk1 hS => ?_)
    obtain ⟨zn_16, ftn_16, hP1, hD1, hF_16_0⟩ := hB
    rw [ht] at hP1
    obtain ⟨hP, hD⟩ := va_join (wr := []) (w1 := [(k9, .inr (1, [.ref tc, .int (nI zn_16), .int nu, .int ki, .int ce, .int lo])), (tc, .inl (cI, 16, .inl ftn_16))]) hP hD [0, 1] [] rfl rfl (by decide) (by decide) hk1 hFc_16 hP1 hD1
    generalize H1 = H at hP hS ⊢
    have hP : va_P (dC, dI) vwCl [(k9, .inr (1, [.ref tc, .int (nI zn_16), .int nu, .int ki, .int ce, .int lo])), (tc, .inl (cI, 16, .inl ftn_16))] H := hP
    have hD : va_D A [(k9, .inr (1, [.ref tc, .int (nI zn_16), .int nu, .int ki, .int ce, .int lo])), (tc, .inl (cI, 16, .inl ftn_16))] := hD
    refine lv_iconst (v := 2) hx hb dX1_begin_139 (by decide) ?_
    refine lv_imul hx hb dX1_begin_140 ?_
    refine lv_topi (fun v_17 e_17 => ?_)
    have hP9 := hP.sub (ws' := [(k9, .inr (1, [.ref tc, .int (nI zn_16), .int nu, .int ki, .int ce, .int lo])), (tc, .inl (cI, 16, .inl ftn_16))]) [0, 1] rfl
    have hD9 := hD.sub (ws' := [(k9, .inr (1, [.ref tc, .int (nI zn_16), .int nu, .int ki, .int ce, .int lo])), (tc, .inl (cI, 16, .inl ftn_16))]) [0, 1] (by decide) rfl
    exact W.iret (v := v_17) hx hb hr (fun t ht hW => ⟨⟨v_17, (), rfl, trivial, ⟨zn_16, ftn_16, by rw [ht]; exact hP9, hD9, (by omega)⟩⟩, hS.F ht⟩) hS.2.2 dX1_begin_141
  by_cases k_18 : x = 15
  · subst k_18
    refine lv_tableIn (off := 179) (tgt := 197) hx hb dX1_begin_18 (by decide) (by decide) (by decide) (by decide) ?_
    refine lv_iconst (v := 0) hx hb dX1_begin_197 (by decide) ?_
    have hP9 := hP.sub (ws' := [(k9, .inr (1, [.ref tc, .int (nI zn_2), .int nu, .int ki, .int ce, .int lo])), (tc, .inl (cI, 16, .inl ftn_2))]) [0, 1] rfl
    have hD9 := hD.sub (ws' := [(k9, .inr (1, [.ref tc, .int (nI zn_2), .int nu, .int ki, .int ce, .int lo])), (tc, .inl (cI, 16, .inl ftn_2))]) [0, 1] (by decide) rfl
    exact W.iret (v := 0) hx hb hr (fun t ht hW => ⟨⟨0, (), rfl, trivial, ⟨zn_2, ftn_2, by rw [ht]; exact hP9, hD9, (by omega)⟩⟩, hS.F ht⟩) hS.2.2 dX1_begin_198
  by_cases k_19 : x = 16
  · subst k_19
    refine lv_tableIn (off := 179) (tgt := 197) hx hb dX1_begin_18 (by decide) (by decide) (by decide) (by decide) ?_
    refine lv_iconst (v := 0) hx hb dX1_begin_197 (by decide) ?_
    have hP9 := hP.sub (ws' := [(k9, .inr (1, [.ref tc, .int (nI zn_2), .int nu, .int ki, .int ce, .int lo])), (tc, .inl (cI, 16, .inl ftn_2))]) [0, 1] rfl
    have hD9 := hD.sub (ws' := [(k9, .inr (1, [.ref tc, .int (nI zn_2), .int nu, .int ki, .int ce, .int lo])), (tc, .inl (cI, 16, .inl ftn_2))]) [0, 1] (by decide) rfl
    exact W.iret (v := 0) hx hb hr (fun t ht hW => ⟨⟨0, (), rfl, trivial, ⟨zn_2, ftn_2, by rw [ht]; exact hP9, hD9, (by omega)⟩⟩, hS.F ht⟩) hS.2.2 dX1_begin_198
  by_cases k_20 : x = 17
  · subst k_20
    refine lv_tableIn (off := 179) (tgt := 197) hx hb dX1_begin_18 (by decide) (by decide) (by decide) (by decide) ?_
    refine lv_iconst (v := 0) hx hb dX1_begin_197 (by decide) ?_
    have hP9 := hP.sub (ws' := [(k9, .inr (1, [.ref tc, .int (nI zn_2), .int nu, .int ki, .int ce, .int lo])), (tc, .inl (cI, 16, .inl ftn_2))]) [0, 1] rfl
    have hD9 := hD.sub (ws' := [(k9, .inr (1, [.ref tc, .int (nI zn_2), .int nu, .int ki, .int ce, .int lo])), (tc, .inl (cI, 16, .inl ftn_2))]) [0, 1] (by decide) rfl
    exact W.iret (v := 0) hx hb hr (fun t ht hW => ⟨⟨0, (), rfl, trivial, ⟨zn_2, ftn_2, by rw [ht]; exact hP9, hD9, (by omega)⟩⟩, hS.F ht⟩) hS.2.2 dX1_begin_198
  by_cases k_21 : x = 18
  · subst k_21
    refine lv_tableIn (off := 179) (tgt := 197) hx hb dX1_begin_18 (by decide) (by decide) (by decide) (by decide) ?_
    refine lv_iconst (v := 0) hx hb dX1_begin_197 (by decide) ?_
    have hP9 := hP.sub (ws' := [(k9, .inr (1, [.ref tc, .int (nI zn_2), .int nu, .int ki, .int ce, .int lo])), (tc, .inl (cI, 16, .inl ftn_2))]) [0, 1] rfl
    have hD9 := hD.sub (ws' := [(k9, .inr (1, [.ref tc, .int (nI zn_2), .int nu, .int ki, .int ce, .int lo])), (tc, .inl (cI, 16, .inl ftn_2))]) [0, 1] (by decide) rfl
    exact W.iret (v := 0) hx hb hr (fun t ht hW => ⟨⟨0, (), rfl, trivial, ⟨zn_2, ftn_2, by rw [ht]; exact hP9, hD9, (by omega)⟩⟩, hS.F ht⟩) hS.2.2 dX1_begin_198
  by_cases k_22 : x = 19
  · subst k_22
    refine lv_tableIn (off := 179) (tgt := 197) hx hb dX1_begin_18 (by decide) (by decide) (by decide) (by decide) ?_
    refine lv_iconst (v := 0) hx hb dX1_begin_197 (by decide) ?_
    have hP9 := hP.sub (ws' := [(k9, .inr (1, [.ref tc, .int (nI zn_2), .int nu, .int ki, .int ce, .int lo])), (tc, .inl (cI, 16, .inl ftn_2))]) [0, 1] rfl
    have hD9 := hD.sub (ws' := [(k9, .inr (1, [.ref tc, .int (nI zn_2), .int nu, .int ki, .int ce, .int lo])), (tc, .inl (cI, 16, .inl ftn_2))]) [0, 1] (by decide) rfl
    exact W.iret (v := 0) hx hb hr (fun t ht hW => ⟨⟨0, (), rfl, trivial, ⟨zn_2, ftn_2, by rw [ht]; exact hP9, hD9, (by omega)⟩⟩, hS.F ht⟩) hS.2.2 dX1_begin_198
  by_cases k_23 : x = 20
  · subst k_23
    refine lv_tableIn (off := 124) (tgt := 142) hx hb dX1_begin_18 (by decide) (by decide) (by decide) (by decide) ?_
    refine lv_aload_n hx hb dX1_begin_142 rfl (lv_at hl 1 rfl) ?_
    refine va_get (D := (dC, dI)) (ci := 1) (v := .int nu) (C := RX1) (T := TX1) (N := 6) hx hb hts i_X1_begin_X1 hown hK hP 0 rfl rfl 2 (by decide) (hts (.fieldLink RX1 19 "MillTalk$Asks" "number" "I") (by decide +kernel)) (fun _ h9 => h9) rfl dX1_begin_143 ?_
    have hP9 := hP.sub (ws' := [(k9, .inr (1, [.ref tc, .int (nI zn_2), .int nu, .int ki, .int ce, .int lo])), (tc, .inl (cI, 16, .inl ftn_2))]) [0, 1] rfl
    have hD9 := hD.sub (ws' := [(k9, .inr (1, [.ref tc, .int (nI zn_2), .int nu, .int ki, .int ce, .int lo])), (tc, .inl (cI, 16, .inl ftn_2))]) [0, 1] (by decide) rfl
    exact W.iret (v := nu) hx hb hr (fun t ht hW => ⟨⟨nu, (), rfl, trivial, ⟨zn_2, ftn_2, by rw [ht]; exact hP9, hD9, (by omega)⟩⟩, hS.F ht⟩) hS.2.2 dX1_begin_146
  by_cases k_24 : x = 21
  · subst k_24
    refine lv_tableIn (off := 129) (tgt := 147) hx hb dX1_begin_18 (by decide) (by decide) (by decide) (by decide) ?_
    refine lv_aload_n hx hb dX1_begin_147 rfl (lv_at hl 1 rfl) ?_
    refine lv_bipush (v := 20) hx hb dX1_begin_148 (by decide) ?_
    refine lv_iload_n hx hb dX1_begin_150 rfl (lv_at hl 0 rfl) ?_
    have hPc_25 := hP.sub (ws' := [(k9, .inr (1, [.ref tc, .int (nI zn_2), .int nu, .int ki, .int ce, .int lo])), (tc, .inl (cI, 16, .inl ftn_2))]) [0, 1] rfl
    have hDc_25 := hD.sub (ws' := [(k9, .inr (1, [.ref tc, .int (nI zn_2), .int nu, .int ki, .int ce, .int lo])), (tc, .inl (cI, 16, .inl ftn_2))]) [0, 1] (by decide) rfl
    have hFc_25 := va_free (wc := [(k9, .inr (1, [.ref tc, .int (nI zn_2), .int nu, .int ki, .int ce, .int lo])), (tc, .inl (cI, 16, .inl ftn_2))]) hD hS hA [0, 1] rfl
    refine va_calli (va_runV (As := [.int 20, .int 9]) (rest := []) ⟨hx, hb, hml, hown, hts⟩ (r_X1_begin_9 l dC dI cI cZ cL cJ H.size k9 tc zn_2 nu ki ce lo ftn_2 20 (by omega)) (cwV 2 hts gX1_begin_X1_begin rfl rfl rfl (by decide +kernel) ⟨Nat.le_of_ble_eq_true rfl, Nat.le_of_ble_eq_true rfl⟩) ⟨fun a U g mk q => by obtain ⟨q0, q1, qP, qK, qD, qS⟩ := q; exact ⟨q0, q1, qP, va_K.moved (u := U) (U := U.calling g mk a) (Vm.Alike.refl U.vm) qK, qD, stt_same rfl qS⟩, va_recv hK hP (ci := 1) (q0 := 0) rfl rfl, fun U hU hW => ⟨rfl, by rw [hU], by rw [hU]; exact hPc_25, va_K.moved hW.alike hK, hDc_25.weaken (fun _ _ _ _ => trivial), by rw [hU]; exact stt_warm hW (stt_narrow (stt_kept hst hS.2.1) hFc_25)⟩⟩ rfl rfl hl.1 rfl (lv_room (Nat.le_of_ble_eq_true rfl)) dX1_begin_151 ⟨Nat.le_of_ble_eq_true rfl, Nat.le_of_ble_eq_true rfl⟩) hS (fun q _ h => hFc_25 q h) hFc_25 (fun r_25 u_25 t_25 H1 locs ht hvm h_25 hB hz1 hk1 hS => ?_)
    obtain ⟨zn_25, ftn_25, hP1, hD1, hF_25_0⟩ := hB
    rw [ht] at hP1
    obtain ⟨hP, hD⟩ := va_join (wr := []) (w1 := [(k9, .inr (1, [.ref tc, .int (nI zn_25), .int nu, .int ki, .int ce, .int lo])), (tc, .inl (cI, 16, .inl ftn_25))]) hP hD [0, 1] [] rfl rfl (by decide) (by decide) hk1 hFc_25 hP1 hD1
    generalize H1 = H at hP hS ⊢
    have hP : va_P (dC, dI) vwCl [(k9, .inr (1, [.ref tc, .int (nI zn_25), .int nu, .int ki, .int ce, .int lo])), (tc, .inl (cI, 16, .inl ftn_25))] H := hP
    have hD : va_D A [(k9, .inr (1, [.ref tc, .int (nI zn_25), .int nu, .int ki, .int ce, .int lo])), (tc, .inl (cI, 16, .inl ftn_25))] := hD
    refine lv_aload_n hx hb dX1_begin_154 rfl (lv_at hl 1 rfl) ?_
    refine va_get (D := (dC, dI)) (ci := 1) (v := .int ce) (C := RX1) (T := TX1) (N := 6) hx hb hts i_X1_begin_X1 hown hK hP 0 rfl rfl 4 (by decide) (hts (.fieldLink RX1 33 "MillTalk$Asks" "cell" "I") (by decide +kernel)) (fun _ h9 => h9) rfl dX1_begin_155 ?_
    refine lv_iadd hx hb dX1_begin_158 ?_
    refine lv_topi (fun v_26 e_26 => ?_)
    have hP9 := hP.sub (ws' := [(k9, .inr (1, [.ref tc, .int (nI zn_25), .int nu, .int ki, .int ce, .int lo])), (tc, .inl (cI, 16, .inl ftn_25))]) [0, 1] rfl
    have hD9 := hD.sub (ws' := [(k9, .inr (1, [.ref tc, .int (nI zn_25), .int nu, .int ki, .int ce, .int lo])), (tc, .inl (cI, 16, .inl ftn_25))]) [0, 1] (by decide) rfl
    exact W.iret (v := v_26) hx hb hr (fun t ht hW => ⟨⟨v_26, (), rfl, trivial, ⟨zn_25, ftn_25, by rw [ht]; exact hP9, hD9, (by omega)⟩⟩, hS.F ht⟩) hS.2.2 dX1_begin_159
  by_cases k_27 : x = 22
  · subst k_27
    refine lv_tableIn (off := 142) (tgt := 160) hx hb dX1_begin_18 (by decide) (by decide) (by decide) (by decide) ?_
    refine lv_aload_n hx hb dX1_begin_160 rfl (lv_at hl 1 rfl) ?_
    refine lv_bipush (v := 21) hx hb dX1_begin_161 (by decide) ?_
    refine lv_iload_n hx hb dX1_begin_163 rfl (lv_at hl 0 rfl) ?_
    have hPc_28 := hP.sub (ws' := [(k9, .inr (1, [.ref tc, .int (nI zn_2), .int nu, .int ki, .int ce, .int lo])), (tc, .inl (cI, 16, .inl ftn_2))]) [0, 1] rfl
    have hDc_28 := hD.sub (ws' := [(k9, .inr (1, [.ref tc, .int (nI zn_2), .int nu, .int ki, .int ce, .int lo])), (tc, .inl (cI, 16, .inl ftn_2))]) [0, 1] (by decide) rfl
    have hFc_28 := va_free (wc := [(k9, .inr (1, [.ref tc, .int (nI zn_2), .int nu, .int ki, .int ce, .int lo])), (tc, .inl (cI, 16, .inl ftn_2))]) hD hS hA [0, 1] rfl
    refine va_calli (va_runV (As := [.int 21, .int 9]) (rest := []) ⟨hx, hb, hml, hown, hts⟩ (r_X1_begin_9 l dC dI cI cZ cL cJ H.size k9 tc zn_2 nu ki ce lo ftn_2 21 (by omega)) (cwV 2 hts gX1_begin_X1_begin rfl rfl rfl (by decide +kernel) ⟨Nat.le_of_ble_eq_true rfl, Nat.le_of_ble_eq_true rfl⟩) ⟨fun a U g mk q => by obtain ⟨q0, q1, qP, qK, qD, qS⟩ := q; exact ⟨q0, q1, qP, va_K.moved (u := U) (U := U.calling g mk a) (Vm.Alike.refl U.vm) qK, qD, stt_same rfl qS⟩, va_recv hK hP (ci := 1) (q0 := 0) rfl rfl, fun U hU hW => ⟨rfl, by rw [hU], by rw [hU]; exact hPc_28, va_K.moved hW.alike hK, hDc_28.weaken (fun _ _ _ _ => trivial), by rw [hU]; exact stt_warm hW (stt_narrow (stt_kept hst hS.2.1) hFc_28)⟩⟩ rfl rfl hl.1 rfl (lv_room (Nat.le_of_ble_eq_true rfl)) dX1_begin_164 ⟨Nat.le_of_ble_eq_true rfl, Nat.le_of_ble_eq_true rfl⟩) hS (fun q _ h => hFc_28 q h) hFc_28 (fun r_28 u_28 t_28 H1 locs ht hvm h_28 hB hz1 hk1 hS => ?_)
    obtain ⟨zn_28, ftn_28, hP1, hD1, hF_28_0⟩ := hB
    rw [ht] at hP1
    obtain ⟨hP, hD⟩ := va_join (wr := []) (w1 := [(k9, .inr (1, [.ref tc, .int (nI zn_28), .int nu, .int ki, .int ce, .int lo])), (tc, .inl (cI, 16, .inl ftn_28))]) hP hD [0, 1] [] rfl rfl (by decide) (by decide) hk1 hFc_28 hP1 hD1
    generalize H1 = H at hP hS ⊢
    have hP : va_P (dC, dI) vwCl [(k9, .inr (1, [.ref tc, .int (nI zn_28), .int nu, .int ki, .int ce, .int lo])), (tc, .inl (cI, 16, .inl ftn_28))] H := hP
    have hD : va_D A [(k9, .inr (1, [.ref tc, .int (nI zn_28), .int nu, .int ki, .int ce, .int lo])), (tc, .inl (cI, 16, .inl ftn_28))] := hD
    refine lv_sipush (v := 1000) hx hb dX1_begin_167 (by decide) ?_
    refine lv_isub hx hb dX1_begin_170 ?_
    refine lv_topi (fun v_29 e_29 => ?_)
    have hP9 := hP.sub (ws' := [(k9, .inr (1, [.ref tc, .int (nI zn_28), .int nu, .int ki, .int ce, .int lo])), (tc, .inl (cI, 16, .inl ftn_28))]) [0, 1] rfl
    have hD9 := hD.sub (ws' := [(k9, .inr (1, [.ref tc, .int (nI zn_28), .int nu, .int ki, .int ce, .int lo])), (tc, .inl (cI, 16, .inl ftn_28))]) [0, 1] (by decide) rfl
    exact W.iret (v := v_29) hx hb hr (fun t ht hW => ⟨⟨v_29, (), rfl, trivial, ⟨zn_28, ftn_28, by rw [ht]; exact hP9, hD9, (by omega)⟩⟩, hS.F ht⟩) hS.2.2 dX1_begin_171
  by_cases k_30 : x = 23
  · subst k_30
    refine lv_tableIn (off := 154) (tgt := 172) hx hb dX1_begin_18 (by decide) (by decide) (by decide) (by decide) ?_
    refine lv_aload_n hx hb dX1_begin_172 rfl (lv_at hl 1 rfl) ?_
    refine lv_bipush (v := 20) hx hb dX1_begin_173 (by decide) ?_
    refine lv_iload_n hx hb dX1_begin_175 rfl (lv_at hl 0 rfl) ?_
    have hPc_31 := hP.sub (ws' := [(k9, .inr (1, [.ref tc, .int (nI zn_2), .int nu, .int ki, .int ce, .int lo])), (tc, .inl (cI, 16, .inl ftn_2))]) [0, 1] rfl
    have hDc_31 := hD.sub (ws' := [(k9, .inr (1, [.ref tc, .int (nI zn_2), .int nu, .int ki, .int ce, .int lo])), (tc, .inl (cI, 16, .inl ftn_2))]) [0, 1] (by decide) rfl
    have hFc_31 := va_free (wc := [(k9, .inr (1, [.ref tc, .int (nI zn_2), .int nu, .int ki, .int ce, .int lo])), (tc, .inl (cI, 16, .inl ftn_2))]) hD hS hA [0, 1] rfl
    refine va_calli (va_runV (As := [.int 20, .int 9]) (rest := []) ⟨hx, hb, hml, hown, hts⟩ (r_X1_begin_9 l dC dI cI cZ cL cJ H.size k9 tc zn_2 nu ki ce lo ftn_2 20 (by omega)) (cwV 2 hts gX1_begin_X1_begin rfl rfl rfl (by decide +kernel) ⟨Nat.le_of_ble_eq_true rfl, Nat.le_of_ble_eq_true rfl⟩) ⟨fun a U g mk q => by obtain ⟨q0, q1, qP, qK, qD, qS⟩ := q; exact ⟨q0, q1, qP, va_K.moved (u := U) (U := U.calling g mk a) (Vm.Alike.refl U.vm) qK, qD, stt_same rfl qS⟩, va_recv hK hP (ci := 1) (q0 := 0) rfl rfl, fun U hU hW => ⟨rfl, by rw [hU], by rw [hU]; exact hPc_31, va_K.moved hW.alike hK, hDc_31.weaken (fun _ _ _ _ => trivial), by rw [hU]; exact stt_warm hW (stt_narrow (stt_kept hst hS.2.1) hFc_31)⟩⟩ rfl rfl hl.1 rfl (lv_room (Nat.le_of_ble_eq_true rfl)) dX1_begin_176 ⟨Nat.le_of_ble_eq_true rfl, Nat.le_of_ble_eq_true rfl⟩) hS (fun q _ h => hFc_31 q h) hFc_31 (fun r_31 u_31 t_31 H1 locs ht hvm h_31 hB hz1 hk1 hS => ?_)
    obtain ⟨zn_31, ftn_31, hP1, hD1, hF_31_0⟩ := hB
    rw [ht] at hP1
    obtain ⟨hP, hD⟩ := va_join (wr := []) (w1 := [(k9, .inr (1, [.ref tc, .int (nI zn_31), .int nu, .int ki, .int ce, .int lo])), (tc, .inl (cI, 16, .inl ftn_31))]) hP hD [0, 1] [] rfl rfl (by decide) (by decide) hk1 hFc_31 hP1 hD1
    generalize H1 = H at hP hS ⊢
    have hP : va_P (dC, dI) vwCl [(k9, .inr (1, [.ref tc, .int (nI zn_31), .int nu, .int ki, .int ce, .int lo])), (tc, .inl (cI, 16, .inl ftn_31))] H := hP
    have hD : va_D A [(k9, .inr (1, [.ref tc, .int (nI zn_31), .int nu, .int ki, .int ce, .int lo])), (tc, .inl (cI, 16, .inl ftn_31))] := hD
    refine lv_aload_n hx hb dX1_begin_179 rfl (lv_at hl 1 rfl) ?_
    refine lv_iconst (v := 0) hx hb dX1_begin_180 (by decide) ?_
    refine lv_iload_n hx hb dX1_begin_181 rfl (lv_at hl 0 rfl) ?_
    have hPc_32 := hP.sub (ws' := [(k9, .inr (1, [.ref tc, .int (nI zn_31), .int nu, .int ki, .int ce, .int lo])), (tc, .inl (cI, 16, .inl ftn_31))]) [0, 1] rfl
    have hDc_32 := hD.sub (ws' := [(k9, .inr (1, [.ref tc, .int (nI zn_31), .int nu, .int ki, .int ce, .int lo])), (tc, .inl (cI, 16, .inl ftn_31))]) [0, 1] (by decide) rfl
    have hFc_32 := va_free (wc := [(k9, .inr (1, [.ref tc, .int (nI zn_31), .int nu, .int ki, .int ce, .int lo])), (tc, .inl (cI, 16, .inl ftn_31))]) hD hS hA [0, 1] rfl
    refine va_calli (va_runV (As := [.int 0, .int 9]) (rest := [.int r_31]) ⟨hx, hb, hml, hown, hts⟩ (r_X1_askAnew_9 l dC dI cI cZ cL cJ H.size k9 tc zn_31 nu ki ce lo ftn_31 0 (by omega)) (cwV 2 hts gX1_begin_X1_askAnew rfl rfl rfl (by decide +kernel) ⟨Nat.le_of_ble_eq_true rfl, Nat.le_of_ble_eq_true rfl⟩) ⟨fun a U g mk q => by obtain ⟨q0, q1, qP, qK, qD, qS⟩ := q; exact ⟨q0, q1, qP, va_K.moved (u := U) (U := U.calling g mk a) (Vm.Alike.refl U.vm) qK, qD, stt_same rfl qS⟩, va_recv hK hP (ci := 1) (q0 := 0) rfl rfl, fun U hU hW => ⟨rfl, by rw [hU], by rw [hU]; exact hPc_32, va_K.moved hW.alike hK, hDc_32.weaken (fun _ _ _ _ => trivial), by rw [hU]; exact stt_warm hW (stt_narrow (stt_kept hst hS.2.1) hFc_32)⟩⟩ rfl rfl hl.1 rfl (lv_room (Nat.le_of_ble_eq_true rfl)) dX1_begin_182 ⟨Nat.le_of_ble_eq_true rfl, Nat.le_of_ble_eq_true rfl⟩) hS (fun q _ h => hFc_32 q h) hFc_32 (fun r_32 u_32 t_32 H1 locs ht hvm h_32 hB hz1 hk1 hS => ?_)
    obtain ⟨zn_32, ftn_32, hP1, hD1, hF_32_0⟩ := hB
    rw [ht] at hP1
    obtain ⟨hP, hD⟩ := va_join (wr := []) (w1 := [(k9, .inr (1, [.ref tc, .int (nI zn_32), .int nu, .int ki, .int ce, .int lo])), (tc, .inl (cI, 16, .inl ftn_32))]) hP hD [0, 1] [] rfl rfl (by decide) (by decide) hk1 hFc_32 hP1 hD1
    generalize H1 = H at hP hS ⊢
    have hP : va_P (dC, dI) vwCl [(k9, .inr (1, [.ref tc, .int (nI zn_32), .int nu, .int ki, .int ce, .int lo])), (tc, .inl (cI, 16, .inl ftn_32))] H := hP
    have hD : va_D A [(k9, .inr (1, [.ref tc, .int (nI zn_32), .int nu, .int ki, .int ce, .int lo])), (tc, .inl (cI, 16, .inl ftn_32))] := hD
    refine lv_isub hx hb dX1_begin_185 ?_
    refine lv_topi (fun v_33 e_33 => ?_)
    have hP9 := hP.sub (ws' := [(k9, .inr (1, [.ref tc, .int (nI zn_32), .int nu, .int ki, .int ce, .int lo])), (tc, .inl (cI, 16, .inl ftn_32))]) [0, 1] rfl
    have hD9 := hD.sub (ws' := [(k9, .inr (1, [.ref tc, .int (nI zn_32), .int nu, .int ki, .int ce, .int lo])), (tc, .inl (cI, 16, .inl ftn_32))]) [0, 1] (by decide) rfl
    exact W.iret (v := v_33) hx hb hr (fun t ht hW => ⟨⟨v_33, (), rfl, trivial, ⟨zn_32, ftn_32, by rw [ht]; exact hP9, hD9, (by omega)⟩⟩, hS.F ht⟩) hS.2.2 dX1_begin_186
  by_cases k_34 : x = 24
  · subst k_34
    refine lv_tableIn (off := 169) (tgt := 187) hx hb dX1_begin_18 (by decide) (by decide) (by decide) (by decide) ?_
    refine lv_aload_n hx hb dX1_begin_187 rfl (lv_at hl 1 rfl) ?_
    refine lv_bipush (v := 21) hx hb dX1_begin_188 (by decide) ?_
    refine lv_iload_n hx hb dX1_begin_190 rfl (lv_at hl 0 rfl) ?_
    have hPc_35 := hP.sub (ws' := [(k9, .inr (1, [.ref tc, .int (nI zn_2), .int nu, .int ki, .int ce, .int lo])), (tc, .inl (cI, 16, .inl ftn_2))]) [0, 1] rfl
    have hDc_35 := hD.sub (ws' := [(k9, .inr (1, [.ref tc, .int (nI zn_2), .int nu, .int ki, .int ce, .int lo])), (tc, .inl (cI, 16, .inl ftn_2))]) [0, 1] (by decide) rfl
    have hFc_35 := va_free (wc := [(k9, .inr (1, [.ref tc, .int (nI zn_2), .int nu, .int ki, .int ce, .int lo])), (tc, .inl (cI, 16, .inl ftn_2))]) hD hS hA [0, 1] rfl
    refine va_calli (va_runV (As := [.int 21, .int 9]) (rest := []) ⟨hx, hb, hml, hown, hts⟩ (r_X1_begin_9 l dC dI cI cZ cL cJ H.size k9 tc zn_2 nu ki ce lo ftn_2 21 (by omega)) (cwV 2 hts gX1_begin_X1_begin rfl rfl rfl (by decide +kernel) ⟨Nat.le_of_ble_eq_true rfl, Nat.le_of_ble_eq_true rfl⟩) ⟨fun a U g mk q => by obtain ⟨q0, q1, qP, qK, qD, qS⟩ := q; exact ⟨q0, q1, qP, va_K.moved (u := U) (U := U.calling g mk a) (Vm.Alike.refl U.vm) qK, qD, stt_same rfl qS⟩, va_recv hK hP (ci := 1) (q0 := 0) rfl rfl, fun U hU hW => ⟨rfl, by rw [hU], by rw [hU]; exact hPc_35, va_K.moved hW.alike hK, hDc_35.weaken (fun _ _ _ _ => trivial), by rw [hU]; exact stt_warm hW (stt_narrow (stt_kept hst hS.2.1) hFc_35)⟩⟩ rfl rfl hl.1 rfl (lv_room (Nat.le_of_ble_eq_true rfl)) dX1_begin_191 ⟨Nat.le_of_ble_eq_true rfl, Nat.le_of_ble_eq_true rfl⟩) hS (fun q _ h => hFc_35 q h) hFc_35 (fun r_35 u_35 t_35 H1 locs ht hvm h_35 hB hz1 hk1 hS => ?_)
    obtain ⟨zn_35, ftn_35, hP1, hD1, hF_35_0⟩ := hB
    rw [ht] at hP1
    obtain ⟨hP, hD⟩ := va_join (wr := []) (w1 := [(k9, .inr (1, [.ref tc, .int (nI zn_35), .int nu, .int ki, .int ce, .int lo])), (tc, .inl (cI, 16, .inl ftn_35))]) hP hD [0, 1] [] rfl rfl (by decide) (by decide) hk1 hFc_35 hP1 hD1
    generalize H1 = H at hP hS ⊢
    have hP : va_P (dC, dI) vwCl [(k9, .inr (1, [.ref tc, .int (nI zn_35), .int nu, .int ki, .int ce, .int lo])), (tc, .inl (cI, 16, .inl ftn_35))] H := hP
    have hD : va_D A [(k9, .inr (1, [.ref tc, .int (nI zn_35), .int nu, .int ki, .int ce, .int lo])), (tc, .inl (cI, 16, .inl ftn_35))] := hD
    refine lv_iconst (v := 2) hx hb dX1_begin_194 (by decide) ?_
    refine lv_imul hx hb dX1_begin_195 ?_
    refine lv_topi (fun v_36 e_36 => ?_)
    have hP9 := hP.sub (ws' := [(k9, .inr (1, [.ref tc, .int (nI zn_35), .int nu, .int ki, .int ce, .int lo])), (tc, .inl (cI, 16, .inl ftn_35))]) [0, 1] rfl
    have hD9 := hD.sub (ws' := [(k9, .inr (1, [.ref tc, .int (nI zn_35), .int nu, .int ki, .int ce, .int lo])), (tc, .inl (cI, 16, .inl ftn_35))]) [0, 1] (by decide) rfl
    exact W.iret (v := v_36) hx hb hr (fun t ht hW => ⟨⟨v_36, (), rfl, trivial, ⟨zn_35, ftn_35, by rw [ht]; exact hP9, hD9, (by omega)⟩⟩, hS.F ht⟩) hS.2.2 dX1_begin_196
  have kT_4 := lv_neT k_4 (show (10 : Int32).toInt = 10 from rfl)
  have kT_5 := lv_neT k_5 (show (11 : Int32).toInt = 11 from rfl)
  have kT_9 := lv_neT k_9 (show (12 : Int32).toInt = 12 from rfl)
  have kT_12 := lv_neT k_12 (show (13 : Int32).toInt = 13 from rfl)
  have kT_15 := lv_neT k_15 (show (14 : Int32).toInt = 14 from rfl)
  have kT_18 := lv_neT k_18 (show (15 : Int32).toInt = 15 from rfl)
  have kT_19 := lv_neT k_19 (show (16 : Int32).toInt = 16 from rfl)
  have kT_20 := lv_neT k_20 (show (17 : Int32).toInt = 17 from rfl)
  have kT_21 := lv_neT k_21 (show (18 : Int32).toInt = 18 from rfl)
  have kT_22 := lv_neT k_22 (show (19 : Int32).toInt = 19 from rfl)
  have kT_23 := lv_neT k_23 (show (20 : Int32).toInt = 20 from rfl)
  have kT_24 := lv_neT k_24 (show (21 : Int32).toInt = 21 from rfl)
  have kT_27 := lv_neT k_27 (show (22 : Int32).toInt = 22 from rfl)
  have kT_30 := lv_neT k_30 (show (23 : Int32).toInt = 23 from rfl)
  have kT_34 := lv_neT k_34 (show (24 : Int32).toInt = 24 from rfl)
  refine lv_tableOut (tgt := 197) hx hb dX1_begin_18 (by omega) (by decide) ?_
  refine lv_iconst (v := 0) hx hb dX1_begin_197 (by decide) ?_
  have hP9 := hP.sub (ws' := [(k9, .inr (1, [.ref tc, .int (nI zn_2), .int nu, .int ki, .int ce, .int lo])), (tc, .inl (cI, 16, .inl ftn_2))]) [0, 1] rfl
  have hD9 := hD.sub (ws' := [(k9, .inr (1, [.ref tc, .int (nI zn_2), .int nu, .int ki, .int ce, .int lo])), (tc, .inl (cI, 16, .inl ftn_2))]) [0, 1] (by decide) rfl
  exact W.iret (v := 0) hx hb hr (fun t ht hW => ⟨⟨0, (), rfl, trivial, ⟨zn_2, ftn_2, by rw [ht]; exact hP9, hD9, (by omega)⟩⟩, hS.F ht⟩) hS.2.2 dX1_begin_198
set_option maxHeartbeats 4000000 in
set_option maxRecDepth 100000 in
theorem r_X1_askAnew_8 (l : Launch) (dC : Nat → ClassId) (dI : Nat → Nat → Nat) (cI cZ cL cJ : ClassId) (sz : Nat) (k9 : Nat) (tc : Nat) (z : Nat) (nu : Int32) (ki : Int32) (ce : Int32) (lo : Int32) (ft : Nat → Int32) (x : Int32) (hz : z ≤ 16) : Met l yX1_askAnew wsX1_askAnew ({ frames := 17, cells := 0, slots := 0, locals := 384 }) (va_Pc [.ref k9, .int x, .int 8] (fun U => U.heap.size = sz ∧ va_P (dC, dI) vwCl [(k9, .inr (1, [.ref tc, .int (nI z), .int nu, .int ki, .int ce, .int lo])), (tc, .inl (cI, 16, .inl ft))] U.heap ∧ va_K (dC, dI) vwCl [(cI, .int), (cZ, .boolean), (cL, .object RX3), (cJ, .array .int)] U ∧ va_D (fun _ => True) [(k9, .inr (1, [.ref tc, .int (nI z), .int nu, .int ki, .int ce, .int lo])), (tc, .inl (cI, 16, .inl ft))] ∧ stt (va_A [(k9, .inr (1, [.ref tc, .int (nI z), .int nu, .int ki, .int ce, .int lo])), (tc, .inl (cI, 16, .inl ft))] sz) U U.heap)) (va_Qi (fun r (_ : Unit) => True) (fun (_ : Unit) t => ∃ (zn : Nat) (ftn : Nat → Int32), va_P (dC, dI) vwCl [(k9, .inr (1, [.ref tc, .int (nI zn), .int nu, .int ki, .int ce, .int lo])), (tc, .inl (cI, 16, .inl ftn))] t.heap ∧ va_D (va_A [(k9, .inr (1, [.ref tc, .int (nI z), .int nu, .int ki, .int ce, .int lo])), (tc, .inl (cI, 16, .inl ft))] sz) [(k9, .inr (1, [.ref tc, .int (nI zn), .int nu, .int ki, .int ce, .int lo])), (tc, .inl (cI, 16, .inl ftn))] ∧ zn ≤ 16) (va_A [(k9, .inr (1, [.ref tc, .int (nI z), .int nu, .int ki, .int ce, .int lo])), (tc, .inl (cI, 16, .inl ft))] sz)) 0 0 (va_A [(k9, .inr (1, [.ref tc, .int (nI z), .int nu, .int ki, .int ce, .int lo])), (tc, .inl (cI, 16, .inl ft))] sz) := by
  refine Met.ofW (cc := cX1_askAnew) (maxL := 3) (ret := (some .int)) (by decide) rfl ?_
  intro p e s m args below meth c s₁ B hml hv
  obtain ⟨rfl, hsz, hP, hK, hD0, hst⟩ := hv
  have hx := B.exec
  have hb := B.bytes
  have hr := B.returns
  have hts := atoms_spec (ws := wsX1_askAnew) B.pre
  have hown : s.vm.findClass RX1 = some m.cls := findClass_of_methodNamed B.named
  have hlocks := B.notSynchronized
  subst hsz
  have hD := hD0.self (sz := s.heap.size)
  generalize hAe : va_A [(k9, .inr (1, [.ref tc, .int (nI z), .int nu, .int ki, .int ce, .int lo])), (tc, .inl (cI, 16, .inl ft))] s.heap.size = A at hD hst ⊢
  have hA : ∀ q : Nat, s.heap.size ≤ q → A q := fun q h => by rw [← hAe]; exact Or.inr h
  have hS : va_S A s.heap s.heap [] := va_S.rf
  have hP : va_P (dC, dI) vwCl [(k9, .inr (1, [.ref tc, .int (nI z), .int nu, .int ki, .int ce, .int lo])), (tc, .inl (cI, 16, .inl ft))] s.heap := hP
  obtain ⟨⟨tb1, hZ1, hT1⟩, ⟨tb2, hZ2, hT2⟩, ⟨tb3, hZ3, hT3⟩, hNk⟩ := id hst
  have hl := lv_entry ([.ref k9, .int x, .int 8]) (n := 3) (Nat.le_of_ble_eq_true rfl)
  rw [lg_entry_eq]
  generalize (lg_sl ([.ref k9, .int x, .int 8]) ++ List.replicate (3 - (lg_sl ([.ref k9, .int x, .int 8])).length) Slot.unset).toArray = ls at hl ⊢
  have hl : lv_has ls 3 [(0, .ref k9), (1, .int x), (2, .int 8)] := hl
  refine lv_aload_n hx hb dX1_askAnew_0 rfl (lv_at hl 0 rfl) ?_
  refine lv_aload_n hx hb dX1_askAnew_1 rfl (lv_at hl 0 rfl) ?_
  refine lv_iload_n hx hb dX1_askAnew_2 rfl (lv_at hl 1 rfl) ?_
  have hPc_1 := hP.sub (ws' := [(k9, .inr (1, [.ref tc, .int (nI z), .int nu, .int ki, .int ce, .int lo]))]) [0] rfl
  refine vp_callSi (W.runV (As := [.int x]) (rest := [.ref k9]) ⟨hx, hb, hml, hown, hts⟩ (r_X1_bodyFor l dC dI cI cZ cL cJ k9 tc z nu ki ce lo x ) (cwV 1 hts gX1_askAnew_X1_bodyFor rfl rfl rfl (by decide +kernel) ⟨Nat.le_of_ble_eq_true rfl, Nat.le_of_ble_eq_true rfl⟩) ⟨fun a U g mk q => by obtain ⟨q0, qP, qK, qS⟩ := q; exact ⟨q0, qP, va_K.moved (u := U) (U := U.calling g mk a) (Vm.Alike.refl U.vm) qK, stt_same rfl qS⟩, va_recv hK hP (ci := 1) (q0 := 0) rfl rfl, fun U hU hW => ⟨rfl, by rw [hU]; exact hPc_1, va_K.moved hW.alike hK, by rw [hU]; exact stt_warm hW (stt_narrow (stt_kept hst hS.2.1) (fun _ h => h.elim))⟩⟩ rfl rfl hl.1 rfl (lv_room (Nat.le_of_ble_eq_true rfl)) dX1_askAnew_3 ⟨Nat.le_of_ble_eq_true rfl, Nat.le_of_ble_eq_true rfl⟩) (fun r_1 h_1 => ?_)
  refine lv_iload_n hx hb dX1_askAnew_6 rfl (lv_at hl 2 rfl) ?_
  have hPc_2 := hP.sub (ws' := [(k9, .inr (1, [.ref tc, .int (nI z), .int nu, .int ki, .int ce, .int lo])), (tc, .inl (cI, 16, .inl ft))]) [0, 1] rfl
  have hDc_2 := hD.sub (ws' := [(k9, .inr (1, [.ref tc, .int (nI z), .int nu, .int ki, .int ce, .int lo])), (tc, .inl (cI, 16, .inl ft))]) [0, 1] (by decide) rfl
  have hFc_2 := va_free (wc := [(k9, .inr (1, [.ref tc, .int (nI z), .int nu, .int ki, .int ce, .int lo])), (tc, .inl (cI, 16, .inl ft))]) hD hS hA [0, 1] rfl
  refine va_calli (va_runV (As := [.int r_1, .int 8]) (rest := []) ⟨hx, hb, hml, hown, hts⟩ (r_X1_begin_8 l dC dI cI cZ cL cJ s.heap.size k9 tc z nu ki ce lo ft r_1 (by omega)) (cwV 2 hts gX1_askAnew_X1_begin rfl rfl rfl (by decide +kernel) ⟨Nat.le_of_ble_eq_true rfl, Nat.le_of_ble_eq_true rfl⟩) ⟨fun a U g mk q => by obtain ⟨q0, q1, qP, qK, qD, qS⟩ := q; exact ⟨q0, q1, qP, va_K.moved (u := U) (U := U.calling g mk a) (Vm.Alike.refl U.vm) qK, qD, stt_same rfl qS⟩, va_recv hK hP (ci := 1) (q0 := 0) rfl rfl, fun U hU hW => ⟨rfl, by rw [hU], by rw [hU]; exact hPc_2, va_K.moved hW.alike hK, hDc_2.weaken (fun _ _ _ _ => trivial), by rw [hU]; exact stt_warm hW (stt_narrow (stt_kept hst hS.2.1) hFc_2)⟩⟩ rfl rfl hl.1 rfl (lv_room (Nat.le_of_ble_eq_true rfl)) dX1_askAnew_7 ⟨Nat.le_of_ble_eq_true rfl, Nat.le_of_ble_eq_true rfl⟩) hS (fun q _ h => hFc_2 q h) hFc_2 (fun r_2 u_2 t_2 H1 locs ht hvm h_2 hB hz1 hk1 hS => ?_)
  obtain ⟨zn_2, ftn_2, hP1, hD1, hF_2_0⟩ := hB
  rw [ht] at hP1
  obtain ⟨hP, hD⟩ := va_join (wr := []) (w1 := [(k9, .inr (1, [.ref tc, .int (nI zn_2), .int nu, .int ki, .int ce, .int lo])), (tc, .inl (cI, 16, .inl ftn_2))]) hP hD [0, 1] [] rfl rfl (by decide) (by decide) hk1 hFc_2 hP1 hD1
  generalize H1 = H at hP hS ⊢
  have hP : va_P (dC, dI) vwCl [(k9, .inr (1, [.ref tc, .int (nI zn_2), .int nu, .int ki, .int ce, .int lo])), (tc, .inl (cI, 16, .inl ftn_2))] H := hP
  have hD : va_D A [(k9, .inr (1, [.ref tc, .int (nI zn_2), .int nu, .int ki, .int ce, .int lo])), (tc, .inl (cI, 16, .inl ftn_2))] := hD
  have hP9 := hP.sub (ws' := [(k9, .inr (1, [.ref tc, .int (nI zn_2), .int nu, .int ki, .int ce, .int lo])), (tc, .inl (cI, 16, .inl ftn_2))]) [0, 1] rfl
  have hD9 := hD.sub (ws' := [(k9, .inr (1, [.ref tc, .int (nI zn_2), .int nu, .int ki, .int ce, .int lo])), (tc, .inl (cI, 16, .inl ftn_2))]) [0, 1] (by decide) rfl
  exact W.iret (v := r_2) hx hb hr (fun t ht hW => ⟨⟨r_2, (), rfl, trivial, ⟨zn_2, ftn_2, by rw [ht]; exact hP9, hD9, (by omega)⟩⟩, hS.F ht⟩) hS.2.2 dX1_askAnew_10
set_option maxHeartbeats 4000000 in
set_option maxRecDepth 100000 in
theorem r_X1_begin_7 (l : Launch) (dC : Nat → ClassId) (dI : Nat → Nat → Nat) (cI cZ cL cJ : ClassId) (sz : Nat) (k9 : Nat) (tc : Nat) (z : Nat) (nu : Int32) (ki : Int32) (ce : Int32) (lo : Int32) (ft : Nat → Int32) (x : Int32) (hz : z ≤ 16) : Met l yX1_begin wsX1_begin ({ frames := 18, cells := 0, slots := 0, locals := 406 }) (va_Pc [.ref k9, .int x, .int 7] (fun U => U.heap.size = sz ∧ va_P (dC, dI) vwCl [(k9, .inr (1, [.ref tc, .int (nI z), .int nu, .int ki, .int ce, .int lo])), (tc, .inl (cI, 16, .inl ft))] U.heap ∧ va_K (dC, dI) vwCl [(cI, .int), (cZ, .boolean), (cL, .object RX3), (cJ, .array .int)] U ∧ va_D (fun _ => True) [(k9, .inr (1, [.ref tc, .int (nI z), .int nu, .int ki, .int ce, .int lo])), (tc, .inl (cI, 16, .inl ft))] ∧ stt (va_A [(k9, .inr (1, [.ref tc, .int (nI z), .int nu, .int ki, .int ce, .int lo])), (tc, .inl (cI, 16, .inl ft))] sz) U U.heap)) (va_Qi (fun r (_ : Unit) => True) (fun (_ : Unit) t => ∃ (zn : Nat) (ftn : Nat → Int32), va_P (dC, dI) vwCl [(k9, .inr (1, [.ref tc, .int (nI zn), .int nu, .int ki, .int ce, .int lo])), (tc, .inl (cI, 16, .inl ftn))] t.heap ∧ va_D (va_A [(k9, .inr (1, [.ref tc, .int (nI z), .int nu, .int ki, .int ce, .int lo])), (tc, .inl (cI, 16, .inl ft))] sz) [(k9, .inr (1, [.ref tc, .int (nI zn), .int nu, .int ki, .int ce, .int lo])), (tc, .inl (cI, 16, .inl ftn))] ∧ zn ≤ 16) (va_A [(k9, .inr (1, [.ref tc, .int (nI z), .int nu, .int ki, .int ce, .int lo])), (tc, .inl (cI, 16, .inl ft))] sz)) 0 0 (va_A [(k9, .inr (1, [.ref tc, .int (nI z), .int nu, .int ki, .int ce, .int lo])), (tc, .inl (cI, 16, .inl ft))] sz) := by
  refine Met.ofW (cc := cX1_begin) (maxL := 4) (ret := (some .int)) (by decide) rfl ?_
  intro p e s m args below meth c s₁ B hml hv
  obtain ⟨rfl, hsz, hP, hK, hD0, hst⟩ := hv
  have hx := B.exec
  have hb := B.bytes
  have hr := B.returns
  have hts := atoms_spec (ws := wsX1_begin) B.pre
  have hown : s.vm.findClass RX1 = some m.cls := findClass_of_methodNamed B.named
  have hlocks := B.notSynchronized
  subst hsz
  have hD := hD0.self (sz := s.heap.size)
  generalize hAe : va_A [(k9, .inr (1, [.ref tc, .int (nI z), .int nu, .int ki, .int ce, .int lo])), (tc, .inl (cI, 16, .inl ft))] s.heap.size = A at hD hst ⊢
  have hA : ∀ q : Nat, s.heap.size ≤ q → A q := fun q h => by rw [← hAe]; exact Or.inr h
  have hS : va_S A s.heap s.heap [] := va_S.rf
  have hP : va_P (dC, dI) vwCl [(k9, .inr (1, [.ref tc, .int (nI z), .int nu, .int ki, .int ce, .int lo])), (tc, .inl (cI, 16, .inl ft))] s.heap := hP
  obtain ⟨⟨tb1, hZ1, hT1⟩, ⟨tb2, hZ2, hT2⟩, ⟨tb3, hZ3, hT3⟩, hNk⟩ := id hst
  have hl := lv_entry ([.ref k9, .int x, .int 7]) (n := 4) (Nat.le_of_ble_eq_true rfl)
  rw [lg_entry_eq]
  generalize (lg_sl ([.ref k9, .int x, .int 7]) ++ List.replicate (4 - (lg_sl ([.ref k9, .int x, .int 7])).length) Slot.unset).toArray = ls at hl ⊢
  have hl : lv_has ls 4 [(0, .ref k9), (1, .int x), (2, .int 7)] := hl
  refine lv_iload_n hx hb dX1_begin_0 rfl (lv_at hl 2 rfl) ?_
  refine lv_bipush (v := 16) hx hb dX1_begin_1 (by decide) ?_
  refine lv_icmp_lt (tgt := 8) hx hb dX1_begin_3 (by decide) (fun _ => ?_) (fun c_ => absurd (by decide) c_)
  refine lv_aload_n hx hb dX1_begin_8 rfl (lv_at hl 0 rfl) ?_
  refine lv_iload_n hx hb dX1_begin_9 rfl (lv_at hl 1 rfl) ?_
  have hPc_2 := hP.sub (ws' := [(k9, .inr (1, [.ref tc, .int (nI z), .int nu, .int ki, .int ce, .int lo])), (tc, .inl (cI, 16, .inl ft))]) [0, 1] rfl
  have hDc_2 := hD.sub (ws' := [(k9, .inr (1, [.ref tc, .int (nI z), .int nu, .int ki, .int ce, .int lo])), (tc, .inl (cI, 16, .inl ft))]) [0, 1] (by decide) rfl
  have hFc_2 := va_free (wc := [(k9, .inr (1, [.ref tc, .int (nI z), .int nu, .int ki, .int ce, .int lo])), (tc, .inl (cI, 16, .inl ft))]) hD hS hA [0, 1] rfl
  refine va_callv (va_runV (As := [.int x]) (rest := []) ⟨hx, hb, hml, hown, hts⟩ (r_X1_leave l dC dI cI cZ cL cJ s.heap.size k9 tc z nu ki ce lo ft x (by omega)) (cwV 1 hts gX1_begin_X1_leave rfl rfl rfl (by decide +kernel) ⟨Nat.le_of_ble_eq_true rfl, Nat.le_of_ble_eq_true rfl⟩) ⟨fun a U g mk q => by obtain ⟨q0, q1, qP, qK, qD⟩ := q; exact ⟨q0, q1, qP, va_K.moved (u := U) (U := U.calling g mk a) (Vm.Alike.refl U.vm) qK, qD⟩, va_recv hK hP (ci := 1) (q0 := 0) rfl rfl, fun U hU hW => ⟨rfl, by rw [hU], by rw [hU]; exact hPc_2, va_K.moved hW.alike hK, hDc_2.weaken (fun _ _ _ _ => trivial)⟩⟩ rfl rfl hl.1 rfl (lv_room (Nat.le_of_ble_eq_true rfl)) dX1_begin_10 ⟨Nat.le_of_ble_eq_true rfl, Nat.le_of_ble_eq_true rfl⟩) hS (fun q _ h => hFc_2 q h) hFc_2 (fun u_2 t_2 H1 locs ht hvm h_2 hB hz1 hk1 hS => ?_)
  obtain ⟨zn_2, ftn_2, hP1, hD1, hF_2_0⟩ := hB
  rw [ht] at hP1
  obtain ⟨hP, hD⟩ := va_join (wr := []) (w1 := [(k9, .inr (1, [.ref tc, .int (nI zn_2), .int nu, .int ki, .int ce, .int lo])), (tc, .inl (cI, 16, .inl ftn_2))]) hP hD [0, 1] [] rfl rfl (by decide) (by decide) hk1 hFc_2 hP1 hD1
  generalize H1 = H at hP hS ⊢
  have hP : va_P (dC, dI) vwCl [(k9, .inr (1, [.ref tc, .int (nI zn_2), .int nu, .int ki, .int ce, .int lo])), (tc, .inl (cI, 16, .inl ftn_2))] H := hP
  have hD : va_D A [(k9, .inr (1, [.ref tc, .int (nI zn_2), .int nu, .int ki, .int ce, .int lo])), (tc, .inl (cI, 16, .inl ftn_2))] := hD
  refine lv_iload_n hx hb dX1_begin_13 rfl (lv_at hl 2 rfl) ?_
  refine lv_iconst (v := 1) hx hb dX1_begin_14 (by decide) ?_
  refine lv_iadd hx hb dX1_begin_15 ?_
  refine lv_topi (fun v_3 e_3 => ?_)
  obtain rfl : v_3 = 8 := (e_3).trans (by decide)
  refine lv_istore_n (lv' := [(3, .int 8), (0, .ref k9), (1, .int x), (2, .int 7)]) hx hb dX1_begin_16 rfl hl (by decide) rfl (fun ls hl => ?_)
  refine lv_iload_n hx hb dX1_begin_17 rfl (lv_at hl 2 rfl) ?_
  by_cases k_4 : x = 10
  · subst k_4
    refine lv_tableIn (off := 74) (tgt := 92) hx hb dX1_begin_18 (by decide) (by decide) (by decide) (by decide) ?_
    refine lv_aload_n hx hb dX1_begin_92 rfl (lv_at hl 1 rfl) ?_
    refine va_get (D := (dC, dI)) (ci := 1) (v := .int lo) (C := RX1) (T := TX1) (N := 6) hx hb hts i_X1_begin_X1 hown hK hP 0 rfl rfl 5 (by decide) (hts (.fieldLink RX1 39 "MillTalk$Asks" "loud" "I") (by decide +kernel)) (fun _ h9 => h9) rfl dX1_begin_93 ?_
    have hP9 := hP.sub (ws' := [(k9, .inr (1, [.ref tc, .int (nI zn_2), .int nu, .int ki, .int ce, .int lo])), (tc, .inl (cI, 16, .inl ftn_2))]) [0, 1] rfl
    have hD9 := hD.sub (ws' := [(k9, .inr (1, [.ref tc, .int (nI zn_2), .int nu, .int ki, .int ce, .int lo])), (tc, .inl (cI, 16, .inl ftn_2))]) [0, 1] (by decide) rfl
    exact W.iret (v := lo) hx hb hr (fun t ht hW => ⟨⟨lo, (), rfl, trivial, ⟨zn_2, ftn_2, by rw [ht]; exact hP9, hD9, (by omega)⟩⟩, hS.F ht⟩) hS.2.2 dX1_begin_96
  by_cases k_5 : x = 11
  · subst k_5
    refine lv_tableIn (off := 79) (tgt := 97) hx hb dX1_begin_18 (by decide) (by decide) (by decide) (by decide) ?_
    refine lv_aload_n hx hb dX1_begin_97 rfl (lv_at hl 1 rfl) ?_
    refine lv_bipush (v := 10) hx hb dX1_begin_98 (by decide) ?_
    refine lv_iload_n hx hb dX1_begin_100 rfl (lv_at hl 0 rfl) ?_
    have hPc_6 := hP.sub (ws' := [(k9, .inr (1, [.ref tc, .int (nI zn_2), .int nu, .int ki, .int ce, .int lo])), (tc, .inl (cI, 16, .inl ftn_2))]) [0, 1] rfl
    have hDc_6 := hD.sub (ws' := [(k9, .inr (1, [.ref tc, .int (nI zn_2), .int nu, .int ki, .int ce, .int lo])), (tc, .inl (cI, 16, .inl ftn_2))]) [0, 1] (by decide) rfl
    have hFc_6 := va_free (wc := [(k9, .inr (1, [.ref tc, .int (nI zn_2), .int nu, .int ki, .int ce, .int lo])), (tc, .inl (cI, 16, .inl ftn_2))]) hD hS hA [0, 1] rfl
    refine va_calli (va_runV (As := [.int 10, .int 8]) (rest := []) ⟨hx, hb, hml, hown, hts⟩ (r_X1_begin_8 l dC dI cI cZ cL cJ H.size k9 tc zn_2 nu ki ce lo ftn_2 10 (by omega)) (cwV 2 hts gX1_begin_X1_begin rfl rfl rfl (by decide +kernel) ⟨Nat.le_of_ble_eq_true rfl, Nat.le_of_ble_eq_true rfl⟩) ⟨fun a U g mk q => by obtain ⟨q0, q1, qP, qK, qD, qS⟩ := q; exact ⟨q0, q1, qP, va_K.moved (u := U) (U := U.calling g mk a) (Vm.Alike.refl U.vm) qK, qD, stt_same rfl qS⟩, va_recv hK hP (ci := 1) (q0 := 0) rfl rfl, fun U hU hW => ⟨rfl, by rw [hU], by rw [hU]; exact hPc_6, va_K.moved hW.alike hK, hDc_6.weaken (fun _ _ _ _ => trivial), by rw [hU]; exact stt_warm hW (stt_narrow (stt_kept hst hS.2.1) hFc_6)⟩⟩ rfl rfl hl.1 rfl (lv_room (Nat.le_of_ble_eq_true rfl)) dX1_begin_101 ⟨Nat.le_of_ble_eq_true rfl, Nat.le_of_ble_eq_true rfl⟩) hS (fun q _ h => hFc_6 q h) hFc_6 (fun r_6 u_6 t_6 H1 locs ht hvm h_6 hB hz1 hk1 hS => ?_)
    obtain ⟨zn_6, ftn_6, hP1, hD1, hF_6_0⟩ := hB
    rw [ht] at hP1
    obtain ⟨hP, hD⟩ := va_join (wr := []) (w1 := [(k9, .inr (1, [.ref tc, .int (nI zn_6), .int nu, .int ki, .int ce, .int lo])), (tc, .inl (cI, 16, .inl ftn_6))]) hP hD [0, 1] [] rfl rfl (by decide) (by decide) hk1 hFc_6 hP1 hD1
    generalize H1 = H at hP hS ⊢
    have hP : va_P (dC, dI) vwCl [(k9, .inr (1, [.ref tc, .int (nI zn_6), .int nu, .int ki, .int ce, .int lo])), (tc, .inl (cI, 16, .inl ftn_6))] H := hP
    have hD : va_D A [(k9, .inr (1, [.ref tc, .int (nI zn_6), .int nu, .int ki, .int ce, .int lo])), (tc, .inl (cI, 16, .inl ftn_6))] := hD
    refine lv_aload_n hx hb dX1_begin_104 rfl (lv_at hl 1 rfl) ?_
    refine lv_iconst (v := 1) hx hb dX1_begin_105 (by decide) ?_
    refine lv_iload_n hx hb dX1_begin_106 rfl (lv_at hl 0 rfl) ?_
    have hPc_7 := hP.sub (ws' := [(k9, .inr (1, [.ref tc, .int (nI zn_6), .int nu, .int ki, .int ce, .int lo])), (tc, .inl (cI, 16, .inl ftn_6))]) [0, 1] rfl
    have hDc_7 := hD.sub (ws' := [(k9, .inr (1, [.ref tc, .int (nI zn_6), .int nu, .int ki, .int ce, .int lo])), (tc, .inl (cI, 16, .inl ftn_6))]) [0, 1] (by decide) rfl
    have hFc_7 := va_free (wc := [(k9, .inr (1, [.ref tc, .int (nI zn_6), .int nu, .int ki, .int ce, .int lo])), (tc, .inl (cI, 16, .inl ftn_6))]) hD hS hA [0, 1] rfl
    refine va_calli (va_runV (As := [.int 1, .int 8]) (rest := [.int r_6]) ⟨hx, hb, hml, hown, hts⟩ (r_X1_askAnew_8 l dC dI cI cZ cL cJ H.size k9 tc zn_6 nu ki ce lo ftn_6 1 (by omega)) (cwV 2 hts gX1_begin_X1_askAnew rfl rfl rfl (by decide +kernel) ⟨Nat.le_of_ble_eq_true rfl, Nat.le_of_ble_eq_true rfl⟩) ⟨fun a U g mk q => by obtain ⟨q0, q1, qP, qK, qD, qS⟩ := q; exact ⟨q0, q1, qP, va_K.moved (u := U) (U := U.calling g mk a) (Vm.Alike.refl U.vm) qK, qD, stt_same rfl qS⟩, va_recv hK hP (ci := 1) (q0 := 0) rfl rfl, fun U hU hW => ⟨rfl, by rw [hU], by rw [hU]; exact hPc_7, va_K.moved hW.alike hK, hDc_7.weaken (fun _ _ _ _ => trivial), by rw [hU]; exact stt_warm hW (stt_narrow (stt_kept hst hS.2.1) hFc_7)⟩⟩ rfl rfl hl.1 rfl (lv_room (Nat.le_of_ble_eq_true rfl)) dX1_begin_107 ⟨Nat.le_of_ble_eq_true rfl, Nat.le_of_ble_eq_true rfl⟩) hS (fun q _ h => hFc_7 q h) hFc_7 (fun r_7 u_7 t_7 H1 locs ht hvm h_7 hB hz1 hk1 hS => ?_)
    obtain ⟨zn_7, ftn_7, hP1, hD1, hF_7_0⟩ := hB
    rw [ht] at hP1
    obtain ⟨hP, hD⟩ := va_join (wr := []) (w1 := [(k9, .inr (1, [.ref tc, .int (nI zn_7), .int nu, .int ki, .int ce, .int lo])), (tc, .inl (cI, 16, .inl ftn_7))]) hP hD [0, 1] [] rfl rfl (by decide) (by decide) hk1 hFc_7 hP1 hD1
    generalize H1 = H at hP hS ⊢
    have hP : va_P (dC, dI) vwCl [(k9, .inr (1, [.ref tc, .int (nI zn_7), .int nu, .int ki, .int ce, .int lo])), (tc, .inl (cI, 16, .inl ftn_7))] H := hP
    have hD : va_D A [(k9, .inr (1, [.ref tc, .int (nI zn_7), .int nu, .int ki, .int ce, .int lo])), (tc, .inl (cI, 16, .inl ftn_7))] := hD
    refine lv_iadd hx hb dX1_begin_110 ?_
    refine lv_topi (fun v_8 e_8 => ?_)
    have hP9 := hP.sub (ws' := [(k9, .inr (1, [.ref tc, .int (nI zn_7), .int nu, .int ki, .int ce, .int lo])), (tc, .inl (cI, 16, .inl ftn_7))]) [0, 1] rfl
    have hD9 := hD.sub (ws' := [(k9, .inr (1, [.ref tc, .int (nI zn_7), .int nu, .int ki, .int ce, .int lo])), (tc, .inl (cI, 16, .inl ftn_7))]) [0, 1] (by decide) rfl
    exact W.iret (v := v_8) hx hb hr (fun t ht hW => ⟨⟨v_8, (), rfl, trivial, ⟨zn_7, ftn_7, by rw [ht]; exact hP9, hD9, (by omega)⟩⟩, hS.F ht⟩) hS.2.2 dX1_begin_111
  by_cases k_9 : x = 12
  · subst k_9
    refine lv_tableIn (off := 94) (tgt := 112) hx hb dX1_begin_18 (by decide) (by decide) (by decide) (by decide) ?_
    refine lv_aload_n hx hb dX1_begin_112 rfl (lv_at hl 1 rfl) ?_
    refine lv_bipush (v := 11) hx hb dX1_begin_113 (by decide) ?_
    refine lv_iload_n hx hb dX1_begin_115 rfl (lv_at hl 0 rfl) ?_
    have hPc_10 := hP.sub (ws' := [(k9, .inr (1, [.ref tc, .int (nI zn_2), .int nu, .int ki, .int ce, .int lo])), (tc, .inl (cI, 16, .inl ftn_2))]) [0, 1] rfl
    have hDc_10 := hD.sub (ws' := [(k9, .inr (1, [.ref tc, .int (nI zn_2), .int nu, .int ki, .int ce, .int lo])), (tc, .inl (cI, 16, .inl ftn_2))]) [0, 1] (by decide) rfl
    have hFc_10 := va_free (wc := [(k9, .inr (1, [.ref tc, .int (nI zn_2), .int nu, .int ki, .int ce, .int lo])), (tc, .inl (cI, 16, .inl ftn_2))]) hD hS hA [0, 1] rfl
    refine va_calli (va_runV (As := [.int 11, .int 8]) (rest := []) ⟨hx, hb, hml, hown, hts⟩ (r_X1_begin_8 l dC dI cI cZ cL cJ H.size k9 tc zn_2 nu ki ce lo ftn_2 11 (by omega)) (cwV 2 hts gX1_begin_X1_begin rfl rfl rfl (by decide +kernel) ⟨Nat.le_of_ble_eq_true rfl, Nat.le_of_ble_eq_true rfl⟩) ⟨fun a U g mk q => by obtain ⟨q0, q1, qP, qK, qD, qS⟩ := q; exact ⟨q0, q1, qP, va_K.moved (u := U) (U := U.calling g mk a) (Vm.Alike.refl U.vm) qK, qD, stt_same rfl qS⟩, va_recv hK hP (ci := 1) (q0 := 0) rfl rfl, fun U hU hW => ⟨rfl, by rw [hU], by rw [hU]; exact hPc_10, va_K.moved hW.alike hK, hDc_10.weaken (fun _ _ _ _ => trivial), by rw [hU]; exact stt_warm hW (stt_narrow (stt_kept hst hS.2.1) hFc_10)⟩⟩ rfl rfl hl.1 rfl (lv_room (Nat.le_of_ble_eq_true rfl)) dX1_begin_116 ⟨Nat.le_of_ble_eq_true rfl, Nat.le_of_ble_eq_true rfl⟩) hS (fun q _ h => hFc_10 q h) hFc_10 (fun r_10 u_10 t_10 H1 locs ht hvm h_10 hB hz1 hk1 hS => ?_)
    obtain ⟨zn_10, ftn_10, hP1, hD1, hF_10_0⟩ := hB
    rw [ht] at hP1
    obtain ⟨hP, hD⟩ := va_join (wr := []) (w1 := [(k9, .inr (1, [.ref tc, .int (nI zn_10), .int nu, .int ki, .int ce, .int lo])), (tc, .inl (cI, 16, .inl ftn_10))]) hP hD [0, 1] [] rfl rfl (by decide) (by decide) hk1 hFc_10 hP1 hD1
    generalize H1 = H at hP hS ⊢
    have hP : va_P (dC, dI) vwCl [(k9, .inr (1, [.ref tc, .int (nI zn_10), .int nu, .int ki, .int ce, .int lo])), (tc, .inl (cI, 16, .inl ftn_10))] H := hP
    have hD : va_D A [(k9, .inr (1, [.ref tc, .int (nI zn_10), .int nu, .int ki, .int ce, .int lo])), (tc, .inl (cI, 16, .inl ftn_10))] := hD
    refine lv_ineg hx hb dX1_begin_119 ?_
    refine lv_topi (fun v_11 e_11 => ?_)
    have hP9 := hP.sub (ws' := [(k9, .inr (1, [.ref tc, .int (nI zn_10), .int nu, .int ki, .int ce, .int lo])), (tc, .inl (cI, 16, .inl ftn_10))]) [0, 1] rfl
    have hD9 := hD.sub (ws' := [(k9, .inr (1, [.ref tc, .int (nI zn_10), .int nu, .int ki, .int ce, .int lo])), (tc, .inl (cI, 16, .inl ftn_10))]) [0, 1] (by decide) rfl
    exact W.iret (v := v_11) hx hb hr (fun t ht hW => ⟨⟨v_11, (), rfl, trivial, ⟨zn_10, ftn_10, by rw [ht]; exact hP9, hD9, (by omega)⟩⟩, hS.F ht⟩) hS.2.2 dX1_begin_120
  by_cases k_12 : x = 13
  · subst k_12
    refine lv_tableIn (off := 103) (tgt := 121) hx hb dX1_begin_18 (by decide) (by decide) (by decide) (by decide) ?_
    refine lv_aload_n hx hb dX1_begin_121 rfl (lv_at hl 1 rfl) ?_
    refine lv_bipush (v := 10) hx hb dX1_begin_122 (by decide) ?_
    refine lv_iload_n hx hb dX1_begin_124 rfl (lv_at hl 0 rfl) ?_
    have hPc_13 := hP.sub (ws' := [(k9, .inr (1, [.ref tc, .int (nI zn_2), .int nu, .int ki, .int ce, .int lo])), (tc, .inl (cI, 16, .inl ftn_2))]) [0, 1] rfl
    have hDc_13 := hD.sub (ws' := [(k9, .inr (1, [.ref tc, .int (nI zn_2), .int nu, .int ki, .int ce, .int lo])), (tc, .inl (cI, 16, .inl ftn_2))]) [0, 1] (by decide) rfl
    have hFc_13 := va_free (wc := [(k9, .inr (1, [.ref tc, .int (nI zn_2), .int nu, .int ki, .int ce, .int lo])), (tc, .inl (cI, 16, .inl ftn_2))]) hD hS hA [0, 1] rfl
    refine va_calli (va_runV (As := [.int 10, .int 8]) (rest := []) ⟨hx, hb, hml, hown, hts⟩ (r_X1_begin_8 l dC dI cI cZ cL cJ H.size k9 tc zn_2 nu ki ce lo ftn_2 10 (by omega)) (cwV 2 hts gX1_begin_X1_begin rfl rfl rfl (by decide +kernel) ⟨Nat.le_of_ble_eq_true rfl, Nat.le_of_ble_eq_true rfl⟩) ⟨fun a U g mk q => by obtain ⟨q0, q1, qP, qK, qD, qS⟩ := q; exact ⟨q0, q1, qP, va_K.moved (u := U) (U := U.calling g mk a) (Vm.Alike.refl U.vm) qK, qD, stt_same rfl qS⟩, va_recv hK hP (ci := 1) (q0 := 0) rfl rfl, fun U hU hW => ⟨rfl, by rw [hU], by rw [hU]; exact hPc_13, va_K.moved hW.alike hK, hDc_13.weaken (fun _ _ _ _ => trivial), by rw [hU]; exact stt_warm hW (stt_narrow (stt_kept hst hS.2.1) hFc_13)⟩⟩ rfl rfl hl.1 rfl (lv_room (Nat.le_of_ble_eq_true rfl)) dX1_begin_125 ⟨Nat.le_of_ble_eq_true rfl, Nat.le_of_ble_eq_true rfl⟩) hS (fun q _ h => hFc_13 q h) hFc_13 (fun r_13 u_13 t_13 H1 locs ht hvm h_13 hB hz1 hk1 hS => ?_)
    obtain ⟨zn_13, ftn_13, hP1, hD1, hF_13_0⟩ := hB
    rw [ht] at hP1
    obtain ⟨hP, hD⟩ := va_join (wr := []) (w1 := [(k9, .inr (1, [.ref tc, .int (nI zn_13), .int nu, .int ki, .int ce, .int lo])), (tc, .inl (cI, 16, .inl ftn_13))]) hP hD [0, 1] [] rfl rfl (by decide) (by decide) hk1 hFc_13 hP1 hD1
    generalize H1 = H at hP hS ⊢
    have hP : va_P (dC, dI) vwCl [(k9, .inr (1, [.ref tc, .int (nI zn_13), .int nu, .int ki, .int ce, .int lo])), (tc, .inl (cI, 16, .inl ftn_13))] H := hP
    have hD : va_D A [(k9, .inr (1, [.ref tc, .int (nI zn_13), .int nu, .int ki, .int ce, .int lo])), (tc, .inl (cI, 16, .inl ftn_13))] := hD
    refine lv_bipush (v := 100) hx hb dX1_begin_128 (by decide) ?_
    refine lv_isub hx hb dX1_begin_130 ?_
    refine lv_topi (fun v_14 e_14 => ?_)
    have hP9 := hP.sub (ws' := [(k9, .inr (1, [.ref tc, .int (nI zn_13), .int nu, .int ki, .int ce, .int lo])), (tc, .inl (cI, 16, .inl ftn_13))]) [0, 1] rfl
    have hD9 := hD.sub (ws' := [(k9, .inr (1, [.ref tc, .int (nI zn_13), .int nu, .int ki, .int ce, .int lo])), (tc, .inl (cI, 16, .inl ftn_13))]) [0, 1] (by decide) rfl
    exact W.iret (v := v_14) hx hb hr (fun t ht hW => ⟨⟨v_14, (), rfl, trivial, ⟨zn_13, ftn_13, by rw [ht]; exact hP9, hD9, (by omega)⟩⟩, hS.F ht⟩) hS.2.2 dX1_begin_131
  by_cases k_15 : x = 14
  · subst k_15
    refine lv_tableIn (off := 114) (tgt := 132) hx hb dX1_begin_18 (by decide) (by decide) (by decide) (by decide) ?_
    refine lv_aload_n hx hb dX1_begin_132 rfl (lv_at hl 1 rfl) ?_
    refine lv_bipush (v := 13) hx hb dX1_begin_133 (by decide) ?_
    refine lv_iload_n hx hb dX1_begin_135 rfl (lv_at hl 0 rfl) ?_
    have hPc_16 := hP.sub (ws' := [(k9, .inr (1, [.ref tc, .int (nI zn_2), .int nu, .int ki, .int ce, .int lo])), (tc, .inl (cI, 16, .inl ftn_2))]) [0, 1] rfl
    have hDc_16 := hD.sub (ws' := [(k9, .inr (1, [.ref tc, .int (nI zn_2), .int nu, .int ki, .int ce, .int lo])), (tc, .inl (cI, 16, .inl ftn_2))]) [0, 1] (by decide) rfl
    have hFc_16 := va_free (wc := [(k9, .inr (1, [.ref tc, .int (nI zn_2), .int nu, .int ki, .int ce, .int lo])), (tc, .inl (cI, 16, .inl ftn_2))]) hD hS hA [0, 1] rfl
    refine va_calli (va_runV (As := [.int 13, .int 8]) (rest := []) ⟨hx, hb, hml, hown, hts⟩ (r_X1_begin_8 l dC dI cI cZ cL cJ H.size k9 tc zn_2 nu ki ce lo ftn_2 13 (by omega)) (cwV 2 hts gX1_begin_X1_begin rfl rfl rfl (by decide +kernel) ⟨Nat.le_of_ble_eq_true rfl, Nat.le_of_ble_eq_true rfl⟩) ⟨fun a U g mk q => by obtain ⟨q0, q1, qP, qK, qD, qS⟩ := q; exact ⟨q0, q1, qP, va_K.moved (u := U) (U := U.calling g mk a) (Vm.Alike.refl U.vm) qK, qD, stt_same rfl qS⟩, va_recv hK hP (ci := 1) (q0 := 0) rfl rfl, fun U hU hW => ⟨rfl, by rw [hU], by rw [hU]; exact hPc_16, va_K.moved hW.alike hK, hDc_16.weaken (fun _ _ _ _ => trivial), by rw [hU]; exact stt_warm hW (stt_narrow (stt_kept hst hS.2.1) hFc_16)⟩⟩ rfl rfl hl.1 rfl (lv_room (Nat.le_of_ble_eq_true rfl)) dX1_begin_136 ⟨Nat.le_of_ble_eq_true rfl, Nat.le_of_ble_eq_true rfl⟩) hS (fun q _ h => hFc_16 q h) hFc_16 (fun r_16 u_16 t_16 H1 locs ht hvm h_16 hB hz1 hk1 hS => ?_)
    obtain ⟨zn_16, ftn_16, hP1, hD1, hF_16_0⟩ := hB
    rw [ht] at hP1
    obtain ⟨hP, hD⟩ := va_join (wr := []) (w1 := [(k9, .inr (1, [.ref tc, .int (nI zn_16), .int nu, .int ki, .int ce, .int lo])), (tc, .inl (cI, 16, .inl ftn_16))]) hP hD [0, 1] [] rfl rfl (by decide) (by decide) hk1 hFc_16 hP1 hD1
    generalize H1 = H at hP hS ⊢
    have hP : va_P (dC, dI) vwCl [(k9, .inr (1, [.ref tc, .int (nI zn_16), .int nu, .int ki, .int ce, .int lo])), (tc, .inl (cI, 16, .inl ftn_16))] H := hP
    have hD : va_D A [(k9, .inr (1, [.ref tc, .int (nI zn_16), .int nu, .int ki, .int ce, .int lo])), (tc, .inl (cI, 16, .inl ftn_16))] := hD
    refine lv_iconst (v := 2) hx hb dX1_begin_139 (by decide) ?_
    refine lv_imul hx hb dX1_begin_140 ?_
    refine lv_topi (fun v_17 e_17 => ?_)
    have hP9 := hP.sub (ws' := [(k9, .inr (1, [.ref tc, .int (nI zn_16), .int nu, .int ki, .int ce, .int lo])), (tc, .inl (cI, 16, .inl ftn_16))]) [0, 1] rfl
    have hD9 := hD.sub (ws' := [(k9, .inr (1, [.ref tc, .int (nI zn_16), .int nu, .int ki, .int ce, .int lo])), (tc, .inl (cI, 16, .inl ftn_16))]) [0, 1] (by decide) rfl
    exact W.iret (v := v_17) hx hb hr (fun t ht hW => ⟨⟨v_17, (), rfl, trivial, ⟨zn_16, ftn_16, by rw [ht]; exact hP9, hD9, (by omega)⟩⟩, hS.F ht⟩) hS.2.2 dX1_begin_141
  by_cases k_18 : x = 15
  · subst k_18
    refine lv_tableIn (off := 179) (tgt := 197) hx hb dX1_begin_18 (by decide) (by decide) (by decide) (by decide) ?_
    refine lv_iconst (v := 0) hx hb dX1_begin_197 (by decide) ?_
    have hP9 := hP.sub (ws' := [(k9, .inr (1, [.ref tc, .int (nI zn_2), .int nu, .int ki, .int ce, .int lo])), (tc, .inl (cI, 16, .inl ftn_2))]) [0, 1] rfl
    have hD9 := hD.sub (ws' := [(k9, .inr (1, [.ref tc, .int (nI zn_2), .int nu, .int ki, .int ce, .int lo])), (tc, .inl (cI, 16, .inl ftn_2))]) [0, 1] (by decide) rfl
    exact W.iret (v := 0) hx hb hr (fun t ht hW => ⟨⟨0, (), rfl, trivial, ⟨zn_2, ftn_2, by rw [ht]; exact hP9, hD9, (by omega)⟩⟩, hS.F ht⟩) hS.2.2 dX1_begin_198
  by_cases k_19 : x = 16
  · subst k_19
    refine lv_tableIn (off := 179) (tgt := 197) hx hb dX1_begin_18 (by decide) (by decide) (by decide) (by decide) ?_
    refine lv_iconst (v := 0) hx hb dX1_begin_197 (by decide) ?_
    have hP9 := hP.sub (ws' := [(k9, .inr (1, [.ref tc, .int (nI zn_2), .int nu, .int ki, .int ce, .int lo])), (tc, .inl (cI, 16, .inl ftn_2))]) [0, 1] rfl
    have hD9 := hD.sub (ws' := [(k9, .inr (1, [.ref tc, .int (nI zn_2), .int nu, .int ki, .int ce, .int lo])), (tc, .inl (cI, 16, .inl ftn_2))]) [0, 1] (by decide) rfl
    exact W.iret (v := 0) hx hb hr (fun t ht hW => ⟨⟨0, (), rfl, trivial, ⟨zn_2, ftn_2, by rw [ht]; exact hP9, hD9, (by omega)⟩⟩, hS.F ht⟩) hS.2.2 dX1_begin_198
  by_cases k_20 : x = 17
  · subst k_20
    refine lv_tableIn (off := 179) (tgt := 197) hx hb dX1_begin_18 (by decide) (by decide) (by decide) (by decide) ?_
    refine lv_iconst (v := 0) hx hb dX1_begin_197 (by decide) ?_
    have hP9 := hP.sub (ws' := [(k9, .inr (1, [.ref tc, .int (nI zn_2), .int nu, .int ki, .int ce, .int lo])), (tc, .inl (cI, 16, .inl ftn_2))]) [0, 1] rfl
    have hD9 := hD.sub (ws' := [(k9, .inr (1, [.ref tc, .int (nI zn_2), .int nu, .int ki, .int ce, .int lo])), (tc, .inl (cI, 16, .inl ftn_2))]) [0, 1] (by decide) rfl
    exact W.iret (v := 0) hx hb hr (fun t ht hW => ⟨⟨0, (), rfl, trivial, ⟨zn_2, ftn_2, by rw [ht]; exact hP9, hD9, (by omega)⟩⟩, hS.F ht⟩) hS.2.2 dX1_begin_198
  by_cases k_21 : x = 18
  · subst k_21
    refine lv_tableIn (off := 179) (tgt := 197) hx hb dX1_begin_18 (by decide) (by decide) (by decide) (by decide) ?_
    refine lv_iconst (v := 0) hx hb dX1_begin_197 (by decide) ?_
    have hP9 := hP.sub (ws' := [(k9, .inr (1, [.ref tc, .int (nI zn_2), .int nu, .int ki, .int ce, .int lo])), (tc, .inl (cI, 16, .inl ftn_2))]) [0, 1] rfl
    have hD9 := hD.sub (ws' := [(k9, .inr (1, [.ref tc, .int (nI zn_2), .int nu, .int ki, .int ce, .int lo])), (tc, .inl (cI, 16, .inl ftn_2))]) [0, 1] (by decide) rfl
    exact W.iret (v := 0) hx hb hr (fun t ht hW => ⟨⟨0, (), rfl, trivial, ⟨zn_2, ftn_2, by rw [ht]; exact hP9, hD9, (by omega)⟩⟩, hS.F ht⟩) hS.2.2 dX1_begin_198
  by_cases k_22 : x = 19
  · subst k_22
    refine lv_tableIn (off := 179) (tgt := 197) hx hb dX1_begin_18 (by decide) (by decide) (by decide) (by decide) ?_
    refine lv_iconst (v := 0) hx hb dX1_begin_197 (by decide) ?_
    have hP9 := hP.sub (ws' := [(k9, .inr (1, [.ref tc, .int (nI zn_2), .int nu, .int ki, .int ce, .int lo])), (tc, .inl (cI, 16, .inl ftn_2))]) [0, 1] rfl
    have hD9 := hD.sub (ws' := [(k9, .inr (1, [.ref tc, .int (nI zn_2), .int nu, .int ki, .int ce, .int lo])), (tc, .inl (cI, 16, .inl ftn_2))]) [0, 1] (by decide) rfl
    exact W.iret (v := 0) hx hb hr (fun t ht hW => ⟨⟨0, (), rfl, trivial, ⟨zn_2, ftn_2, by rw [ht]; exact hP9, hD9, (by omega)⟩⟩, hS.F ht⟩) hS.2.2 dX1_begin_198
  by_cases k_23 : x = 20
  · subst k_23
    refine lv_tableIn (off := 124) (tgt := 142) hx hb dX1_begin_18 (by decide) (by decide) (by decide) (by decide) ?_
    refine lv_aload_n hx hb dX1_begin_142 rfl (lv_at hl 1 rfl) ?_
    refine va_get (D := (dC, dI)) (ci := 1) (v := .int nu) (C := RX1) (T := TX1) (N := 6) hx hb hts i_X1_begin_X1 hown hK hP 0 rfl rfl 2 (by decide) (hts (.fieldLink RX1 19 "MillTalk$Asks" "number" "I") (by decide +kernel)) (fun _ h9 => h9) rfl dX1_begin_143 ?_
    have hP9 := hP.sub (ws' := [(k9, .inr (1, [.ref tc, .int (nI zn_2), .int nu, .int ki, .int ce, .int lo])), (tc, .inl (cI, 16, .inl ftn_2))]) [0, 1] rfl
    have hD9 := hD.sub (ws' := [(k9, .inr (1, [.ref tc, .int (nI zn_2), .int nu, .int ki, .int ce, .int lo])), (tc, .inl (cI, 16, .inl ftn_2))]) [0, 1] (by decide) rfl
    exact W.iret (v := nu) hx hb hr (fun t ht hW => ⟨⟨nu, (), rfl, trivial, ⟨zn_2, ftn_2, by rw [ht]; exact hP9, hD9, (by omega)⟩⟩, hS.F ht⟩) hS.2.2 dX1_begin_146
  by_cases k_24 : x = 21
  · subst k_24
    refine lv_tableIn (off := 129) (tgt := 147) hx hb dX1_begin_18 (by decide) (by decide) (by decide) (by decide) ?_
    refine lv_aload_n hx hb dX1_begin_147 rfl (lv_at hl 1 rfl) ?_
    refine lv_bipush (v := 20) hx hb dX1_begin_148 (by decide) ?_
    refine lv_iload_n hx hb dX1_begin_150 rfl (lv_at hl 0 rfl) ?_
    have hPc_25 := hP.sub (ws' := [(k9, .inr (1, [.ref tc, .int (nI zn_2), .int nu, .int ki, .int ce, .int lo])), (tc, .inl (cI, 16, .inl ftn_2))]) [0, 1] rfl
    have hDc_25 := hD.sub (ws' := [(k9, .inr (1, [.ref tc, .int (nI zn_2), .int nu, .int ki, .int ce, .int lo])), (tc, .inl (cI, 16, .inl ftn_2))]) [0, 1] (by decide) rfl
    have hFc_25 := va_free (wc := [(k9, .inr (1, [.ref tc, .int (nI zn_2), .int nu, .int ki, .int ce, .int lo])), (tc, .inl (cI, 16, .inl ftn_2))]) hD hS hA [0, 1] rfl
    refine va_calli (va_runV (As := [.int 20, .int 8]) (rest := []) ⟨hx, hb, hml, hown, hts⟩ (r_X1_begin_8 l dC dI cI cZ cL cJ H.size k9 tc zn_2 nu ki ce lo ftn_2 20 (by omega)) (cwV 2 hts gX1_begin_X1_begin rfl rfl rfl (by decide +kernel) ⟨Nat.le_of_ble_eq_true rfl, Nat.le_of_ble_eq_true rfl⟩) ⟨fun a U g mk q => by obtain ⟨q0, q1, qP, qK, qD, qS⟩ := q; exact ⟨q0, q1, qP, va_K.moved (u := U) (U := U.calling g mk a) (Vm.Alike.refl U.vm) qK, qD, stt_same rfl qS⟩, va_recv hK hP (ci := 1) (q0 := 0) rfl rfl, fun U hU hW => ⟨rfl, by rw [hU], by rw [hU]; exact hPc_25, va_K.moved hW.alike hK, hDc_25.weaken (fun _ _ _ _ => trivial), by rw [hU]; exact stt_warm hW (stt_narrow (stt_kept hst hS.2.1) hFc_25)⟩⟩ rfl rfl hl.1 rfl (lv_room (Nat.le_of_ble_eq_true rfl)) dX1_begin_151 ⟨Nat.le_of_ble_eq_true rfl, Nat.le_of_ble_eq_true rfl⟩) hS (fun q _ h => hFc_25 q h) hFc_25 (fun r_25 u_25 t_25 H1 locs ht hvm h_25 hB hz1 hk1 hS => ?_)
    obtain ⟨zn_25, ftn_25, hP1, hD1, hF_25_0⟩ := hB
    rw [ht] at hP1
    obtain ⟨hP, hD⟩ := va_join (wr := []) (w1 := [(k9, .inr (1, [.ref tc, .int (nI zn_25), .int nu, .int ki, .int ce, .int lo])), (tc, .inl (cI, 16, .inl ftn_25))]) hP hD [0, 1] [] rfl rfl (by decide) (by decide) hk1 hFc_25 hP1 hD1
    generalize H1 = H at hP hS ⊢
    have hP : va_P (dC, dI) vwCl [(k9, .inr (1, [.ref tc, .int (nI zn_25), .int nu, .int ki, .int ce, .int lo])), (tc, .inl (cI, 16, .inl ftn_25))] H := hP
    have hD : va_D A [(k9, .inr (1, [.ref tc, .int (nI zn_25), .int nu, .int ki, .int ce, .int lo])), (tc, .inl (cI, 16, .inl ftn_25))] := hD
    refine lv_aload_n hx hb dX1_begin_154 rfl (lv_at hl 1 rfl) ?_
    refine va_get (D := (dC, dI)) (ci := 1) (v := .int ce) (C := RX1) (T := TX1) (N := 6) hx hb hts i_X1_begin_X1 hown hK hP 0 rfl rfl 4 (by decide) (hts (.fieldLink RX1 33 "MillTalk$Asks" "cell" "I") (by decide +kernel)) (fun _ h9 => h9) rfl dX1_begin_155 ?_
    refine lv_iadd hx hb dX1_begin_158 ?_
    refine lv_topi (fun v_26 e_26 => ?_)
    have hP9 := hP.sub (ws' := [(k9, .inr (1, [.ref tc, .int (nI zn_25), .int nu, .int ki, .int ce, .int lo])), (tc, .inl (cI, 16, .inl ftn_25))]) [0, 1] rfl
    have hD9 := hD.sub (ws' := [(k9, .inr (1, [.ref tc, .int (nI zn_25), .int nu, .int ki, .int ce, .int lo])), (tc, .inl (cI, 16, .inl ftn_25))]) [0, 1] (by decide) rfl
    exact W.iret (v := v_26) hx hb hr (fun t ht hW => ⟨⟨v_26, (), rfl, trivial, ⟨zn_25, ftn_25, by rw [ht]; exact hP9, hD9, (by omega)⟩⟩, hS.F ht⟩) hS.2.2 dX1_begin_159
  by_cases k_27 : x = 22
  · subst k_27
    refine lv_tableIn (off := 142) (tgt := 160) hx hb dX1_begin_18 (by decide) (by decide) (by decide) (by decide) ?_
    refine lv_aload_n hx hb dX1_begin_160 rfl (lv_at hl 1 rfl) ?_
    refine lv_bipush (v := 21) hx hb dX1_begin_161 (by decide) ?_
    refine lv_iload_n hx hb dX1_begin_163 rfl (lv_at hl 0 rfl) ?_
    have hPc_28 := hP.sub (ws' := [(k9, .inr (1, [.ref tc, .int (nI zn_2), .int nu, .int ki, .int ce, .int lo])), (tc, .inl (cI, 16, .inl ftn_2))]) [0, 1] rfl
    have hDc_28 := hD.sub (ws' := [(k9, .inr (1, [.ref tc, .int (nI zn_2), .int nu, .int ki, .int ce, .int lo])), (tc, .inl (cI, 16, .inl ftn_2))]) [0, 1] (by decide) rfl
    have hFc_28 := va_free (wc := [(k9, .inr (1, [.ref tc, .int (nI zn_2), .int nu, .int ki, .int ce, .int lo])), (tc, .inl (cI, 16, .inl ftn_2))]) hD hS hA [0, 1] rfl
    refine va_calli (va_runV (As := [.int 21, .int 8]) (rest := []) ⟨hx, hb, hml, hown, hts⟩ (r_X1_begin_8 l dC dI cI cZ cL cJ H.size k9 tc zn_2 nu ki ce lo ftn_2 21 (by omega)) (cwV 2 hts gX1_begin_X1_begin rfl rfl rfl (by decide +kernel) ⟨Nat.le_of_ble_eq_true rfl, Nat.le_of_ble_eq_true rfl⟩) ⟨fun a U g mk q => by obtain ⟨q0, q1, qP, qK, qD, qS⟩ := q; exact ⟨q0, q1, qP, va_K.moved (u := U) (U := U.calling g mk a) (Vm.Alike.refl U.vm) qK, qD, stt_same rfl qS⟩, va_recv hK hP (ci := 1) (q0 := 0) rfl rfl, fun U hU hW => ⟨rfl, by rw [hU], by rw [hU]; exact hPc_28, va_K.moved hW.alike hK, hDc_28.weaken (fun _ _ _ _ => trivial), by rw [hU]; exact stt_warm hW (stt_narrow (stt_kept hst hS.2.1) hFc_28)⟩⟩ rfl rfl hl.1 rfl (lv_room (Nat.le_of_ble_eq_true rfl)) dX1_begin_164 ⟨Nat.le_of_ble_eq_true rfl, Nat.le_of_ble_eq_true rfl⟩) hS (fun q _ h => hFc_28 q h) hFc_28 (fun r_28 u_28 t_28 H1 locs ht hvm h_28 hB hz1 hk1 hS => ?_)
    obtain ⟨zn_28, ftn_28, hP1, hD1, hF_28_0⟩ := hB
    rw [ht] at hP1
    obtain ⟨hP, hD⟩ := va_join (wr := []) (w1 := [(k9, .inr (1, [.ref tc, .int (nI zn_28), .int nu, .int ki, .int ce, .int lo])), (tc, .inl (cI, 16, .inl ftn_28))]) hP hD [0, 1] [] rfl rfl (by decide) (by decide) hk1 hFc_28 hP1 hD1
    generalize H1 = H at hP hS ⊢
    have hP : va_P (dC, dI) vwCl [(k9, .inr (1, [.ref tc, .int (nI zn_28), .int nu, .int ki, .int ce, .int lo])), (tc, .inl (cI, 16, .inl ftn_28))] H := hP
    have hD : va_D A [(k9, .inr (1, [.ref tc, .int (nI zn_28), .int nu, .int ki, .int ce, .int lo])), (tc, .inl (cI, 16, .inl ftn_28))] := hD
    refine lv_sipush (v := 1000) hx hb dX1_begin_167 (by decide) ?_
    refine lv_isub hx hb dX1_begin_170 ?_
    refine lv_topi (fun v_29 e_29 => ?_)
    have hP9 := hP.sub (ws' := [(k9, .inr (1, [.ref tc, .int (nI zn_28), .int nu, .int ki, .int ce, .int lo])), (tc, .inl (cI, 16, .inl ftn_28))]) [0, 1] rfl
    have hD9 := hD.sub (ws' := [(k9, .inr (1, [.ref tc, .int (nI zn_28), .int nu, .int ki, .int ce, .int lo])), (tc, .inl (cI, 16, .inl ftn_28))]) [0, 1] (by decide) rfl
    exact W.iret (v := v_29) hx hb hr (fun t ht hW => ⟨⟨v_29, (), rfl, trivial, ⟨zn_28, ftn_28, by rw [ht]; exact hP9, hD9, (by omega)⟩⟩, hS.F ht⟩) hS.2.2 dX1_begin_171
  by_cases k_30 : x = 23
  · subst k_30
    refine lv_tableIn (off := 154) (tgt := 172) hx hb dX1_begin_18 (by decide) (by decide) (by decide) (by decide) ?_
    refine lv_aload_n hx hb dX1_begin_172 rfl (lv_at hl 1 rfl) ?_
    refine lv_bipush (v := 20) hx hb dX1_begin_173 (by decide) ?_
    refine lv_iload_n hx hb dX1_begin_175 rfl (lv_at hl 0 rfl) ?_
    have hPc_31 := hP.sub (ws' := [(k9, .inr (1, [.ref tc, .int (nI zn_2), .int nu, .int ki, .int ce, .int lo])), (tc, .inl (cI, 16, .inl ftn_2))]) [0, 1] rfl
    have hDc_31 := hD.sub (ws' := [(k9, .inr (1, [.ref tc, .int (nI zn_2), .int nu, .int ki, .int ce, .int lo])), (tc, .inl (cI, 16, .inl ftn_2))]) [0, 1] (by decide) rfl
    have hFc_31 := va_free (wc := [(k9, .inr (1, [.ref tc, .int (nI zn_2), .int nu, .int ki, .int ce, .int lo])), (tc, .inl (cI, 16, .inl ftn_2))]) hD hS hA [0, 1] rfl
    refine va_calli (va_runV (As := [.int 20, .int 8]) (rest := []) ⟨hx, hb, hml, hown, hts⟩ (r_X1_begin_8 l dC dI cI cZ cL cJ H.size k9 tc zn_2 nu ki ce lo ftn_2 20 (by omega)) (cwV 2 hts gX1_begin_X1_begin rfl rfl rfl (by decide +kernel) ⟨Nat.le_of_ble_eq_true rfl, Nat.le_of_ble_eq_true rfl⟩) ⟨fun a U g mk q => by obtain ⟨q0, q1, qP, qK, qD, qS⟩ := q; exact ⟨q0, q1, qP, va_K.moved (u := U) (U := U.calling g mk a) (Vm.Alike.refl U.vm) qK, qD, stt_same rfl qS⟩, va_recv hK hP (ci := 1) (q0 := 0) rfl rfl, fun U hU hW => ⟨rfl, by rw [hU], by rw [hU]; exact hPc_31, va_K.moved hW.alike hK, hDc_31.weaken (fun _ _ _ _ => trivial), by rw [hU]; exact stt_warm hW (stt_narrow (stt_kept hst hS.2.1) hFc_31)⟩⟩ rfl rfl hl.1 rfl (lv_room (Nat.le_of_ble_eq_true rfl)) dX1_begin_176 ⟨Nat.le_of_ble_eq_true rfl, Nat.le_of_ble_eq_true rfl⟩) hS (fun q _ h => hFc_31 q h) hFc_31 (fun r_31 u_31 t_31 H1 locs ht hvm h_31 hB hz1 hk1 hS => ?_)
    obtain ⟨zn_31, ftn_31, hP1, hD1, hF_31_0⟩ := hB
    rw [ht] at hP1
    obtain ⟨hP, hD⟩ := va_join (wr := []) (w1 := [(k9, .inr (1, [.ref tc, .int (nI zn_31), .int nu, .int ki, .int ce, .int lo])), (tc, .inl (cI, 16, .inl ftn_31))]) hP hD [0, 1] [] rfl rfl (by decide) (by decide) hk1 hFc_31 hP1 hD1
    generalize H1 = H at hP hS ⊢
    have hP : va_P (dC, dI) vwCl [(k9, .inr (1, [.ref tc, .int (nI zn_31), .int nu, .int ki, .int ce, .int lo])), (tc, .inl (cI, 16, .inl ftn_31))] H := hP
    have hD : va_D A [(k9, .inr (1, [.ref tc, .int (nI zn_31), .int nu, .int ki, .int ce, .int lo])), (tc, .inl (cI, 16, .inl ftn_31))] := hD
    refine lv_aload_n hx hb dX1_begin_179 rfl (lv_at hl 1 rfl) ?_
    refine lv_iconst (v := 0) hx hb dX1_begin_180 (by decide) ?_
    refine lv_iload_n hx hb dX1_begin_181 rfl (lv_at hl 0 rfl) ?_
    have hPc_32 := hP.sub (ws' := [(k9, .inr (1, [.ref tc, .int (nI zn_31), .int nu, .int ki, .int ce, .int lo])), (tc, .inl (cI, 16, .inl ftn_31))]) [0, 1] rfl
    have hDc_32 := hD.sub (ws' := [(k9, .inr (1, [.ref tc, .int (nI zn_31), .int nu, .int ki, .int ce, .int lo])), (tc, .inl (cI, 16, .inl ftn_31))]) [0, 1] (by decide) rfl
    have hFc_32 := va_free (wc := [(k9, .inr (1, [.ref tc, .int (nI zn_31), .int nu, .int ki, .int ce, .int lo])), (tc, .inl (cI, 16, .inl ftn_31))]) hD hS hA [0, 1] rfl
    refine va_calli (va_runV (As := [.int 0, .int 8]) (rest := [.int r_31]) ⟨hx, hb, hml, hown, hts⟩ (r_X1_askAnew_8 l dC dI cI cZ cL cJ H.size k9 tc zn_31 nu ki ce lo ftn_31 0 (by omega)) (cwV 2 hts gX1_begin_X1_askAnew rfl rfl rfl (by decide +kernel) ⟨Nat.le_of_ble_eq_true rfl, Nat.le_of_ble_eq_true rfl⟩) ⟨fun a U g mk q => by obtain ⟨q0, q1, qP, qK, qD, qS⟩ := q; exact ⟨q0, q1, qP, va_K.moved (u := U) (U := U.calling g mk a) (Vm.Alike.refl U.vm) qK, qD, stt_same rfl qS⟩, va_recv hK hP (ci := 1) (q0 := 0) rfl rfl, fun U hU hW => ⟨rfl, by rw [hU], by rw [hU]; exact hPc_32, va_K.moved hW.alike hK, hDc_32.weaken (fun _ _ _ _ => trivial), by rw [hU]; exact stt_warm hW (stt_narrow (stt_kept hst hS.2.1) hFc_32)⟩⟩ rfl rfl hl.1 rfl (lv_room (Nat.le_of_ble_eq_true rfl)) dX1_begin_182 ⟨Nat.le_of_ble_eq_true rfl, Nat.le_of_ble_eq_true rfl⟩) hS (fun q _ h => hFc_32 q h) hFc_32 (fun r_32 u_32 t_32 H1 locs ht hvm h_32 hB hz1 hk1 hS => ?_)
    obtain ⟨zn_32, ftn_32, hP1, hD1, hF_32_0⟩ := hB
    rw [ht] at hP1
    obtain ⟨hP, hD⟩ := va_join (wr := []) (w1 := [(k9, .inr (1, [.ref tc, .int (nI zn_32), .int nu, .int ki, .int ce, .int lo])), (tc, .inl (cI, 16, .inl ftn_32))]) hP hD [0, 1] [] rfl rfl (by decide) (by decide) hk1 hFc_32 hP1 hD1
    generalize H1 = H at hP hS ⊢
    have hP : va_P (dC, dI) vwCl [(k9, .inr (1, [.ref tc, .int (nI zn_32), .int nu, .int ki, .int ce, .int lo])), (tc, .inl (cI, 16, .inl ftn_32))] H := hP
    have hD : va_D A [(k9, .inr (1, [.ref tc, .int (nI zn_32), .int nu, .int ki, .int ce, .int lo])), (tc, .inl (cI, 16, .inl ftn_32))] := hD
    refine lv_isub hx hb dX1_begin_185 ?_
    refine lv_topi (fun v_33 e_33 => ?_)
    have hP9 := hP.sub (ws' := [(k9, .inr (1, [.ref tc, .int (nI zn_32), .int nu, .int ki, .int ce, .int lo])), (tc, .inl (cI, 16, .inl ftn_32))]) [0, 1] rfl
    have hD9 := hD.sub (ws' := [(k9, .inr (1, [.ref tc, .int (nI zn_32), .int nu, .int ki, .int ce, .int lo])), (tc, .inl (cI, 16, .inl ftn_32))]) [0, 1] (by decide) rfl
    exact W.iret (v := v_33) hx hb hr (fun t ht hW => ⟨⟨v_33, (), rfl, trivial, ⟨zn_32, ftn_32, by rw [ht]; exact hP9, hD9, (by omega)⟩⟩, hS.F ht⟩) hS.2.2 dX1_begin_186
  by_cases k_34 : x = 24
  · subst k_34
    refine lv_tableIn (off := 169) (tgt := 187) hx hb dX1_begin_18 (by decide) (by decide) (by decide) (by decide) ?_
    refine lv_aload_n hx hb dX1_begin_187 rfl (lv_at hl 1 rfl) ?_
    refine lv_bipush (v := 21) hx hb dX1_begin_188 (by decide) ?_
    refine lv_iload_n hx hb dX1_begin_190 rfl (lv_at hl 0 rfl) ?_
    have hPc_35 := hP.sub (ws' := [(k9, .inr (1, [.ref tc, .int (nI zn_2), .int nu, .int ki, .int ce, .int lo])), (tc, .inl (cI, 16, .inl ftn_2))]) [0, 1] rfl
    have hDc_35 := hD.sub (ws' := [(k9, .inr (1, [.ref tc, .int (nI zn_2), .int nu, .int ki, .int ce, .int lo])), (tc, .inl (cI, 16, .inl ftn_2))]) [0, 1] (by decide) rfl
    have hFc_35 := va_free (wc := [(k9, .inr (1, [.ref tc, .int (nI zn_2), .int nu, .int ki, .int ce, .int lo])), (tc, .inl (cI, 16, .inl ftn_2))]) hD hS hA [0, 1] rfl
    refine va_calli (va_runV (As := [.int 21, .int 8]) (rest := []) ⟨hx, hb, hml, hown, hts⟩ (r_X1_begin_8 l dC dI cI cZ cL cJ H.size k9 tc zn_2 nu ki ce lo ftn_2 21 (by omega)) (cwV 2 hts gX1_begin_X1_begin rfl rfl rfl (by decide +kernel) ⟨Nat.le_of_ble_eq_true rfl, Nat.le_of_ble_eq_true rfl⟩) ⟨fun a U g mk q => by obtain ⟨q0, q1, qP, qK, qD, qS⟩ := q; exact ⟨q0, q1, qP, va_K.moved (u := U) (U := U.calling g mk a) (Vm.Alike.refl U.vm) qK, qD, stt_same rfl qS⟩, va_recv hK hP (ci := 1) (q0 := 0) rfl rfl, fun U hU hW => ⟨rfl, by rw [hU], by rw [hU]; exact hPc_35, va_K.moved hW.alike hK, hDc_35.weaken (fun _ _ _ _ => trivial), by rw [hU]; exact stt_warm hW (stt_narrow (stt_kept hst hS.2.1) hFc_35)⟩⟩ rfl rfl hl.1 rfl (lv_room (Nat.le_of_ble_eq_true rfl)) dX1_begin_191 ⟨Nat.le_of_ble_eq_true rfl, Nat.le_of_ble_eq_true rfl⟩) hS (fun q _ h => hFc_35 q h) hFc_35 (fun r_35 u_35 t_35 H1 locs ht hvm h_35 hB hz1 hk1 hS => ?_)
    obtain ⟨zn_35, ftn_35, hP1, hD1, hF_35_0⟩ := hB
    rw [ht] at hP1
    obtain ⟨hP, hD⟩ := va_join (wr := []) (w1 := [(k9, .inr (1, [.ref tc, .int (nI zn_35), .int nu, .int ki, .int ce, .int lo])), (tc, .inl (cI, 16, .inl ftn_35))]) hP hD [0, 1] [] rfl rfl (by decide) (by decide) hk1 hFc_35 hP1 hD1
    generalize H1 = H at hP hS ⊢
    have hP : va_P (dC, dI) vwCl [(k9, .inr (1, [.ref tc, .int (nI zn_35), .int nu, .int ki, .int ce, .int lo])), (tc, .inl (cI, 16, .inl ftn_35))] H := hP
    have hD : va_D A [(k9, .inr (1, [.ref tc, .int (nI zn_35), .int nu, .int ki, .int ce, .int lo])), (tc, .inl (cI, 16, .inl ftn_35))] := hD
    refine lv_iconst (v := 2) hx hb dX1_begin_194 (by decide) ?_
    refine lv_imul hx hb dX1_begin_195 ?_
    refine lv_topi (fun v_36 e_36 => ?_)
    have hP9 := hP.sub (ws' := [(k9, .inr (1, [.ref tc, .int (nI zn_35), .int nu, .int ki, .int ce, .int lo])), (tc, .inl (cI, 16, .inl ftn_35))]) [0, 1] rfl
    have hD9 := hD.sub (ws' := [(k9, .inr (1, [.ref tc, .int (nI zn_35), .int nu, .int ki, .int ce, .int lo])), (tc, .inl (cI, 16, .inl ftn_35))]) [0, 1] (by decide) rfl
    exact W.iret (v := v_36) hx hb hr (fun t ht hW => ⟨⟨v_36, (), rfl, trivial, ⟨zn_35, ftn_35, by rw [ht]; exact hP9, hD9, (by omega)⟩⟩, hS.F ht⟩) hS.2.2 dX1_begin_196
  have kT_4 := lv_neT k_4 (show (10 : Int32).toInt = 10 from rfl)
  have kT_5 := lv_neT k_5 (show (11 : Int32).toInt = 11 from rfl)
  have kT_9 := lv_neT k_9 (show (12 : Int32).toInt = 12 from rfl)
  have kT_12 := lv_neT k_12 (show (13 : Int32).toInt = 13 from rfl)
  have kT_15 := lv_neT k_15 (show (14 : Int32).toInt = 14 from rfl)
  have kT_18 := lv_neT k_18 (show (15 : Int32).toInt = 15 from rfl)
  have kT_19 := lv_neT k_19 (show (16 : Int32).toInt = 16 from rfl)
  have kT_20 := lv_neT k_20 (show (17 : Int32).toInt = 17 from rfl)
  have kT_21 := lv_neT k_21 (show (18 : Int32).toInt = 18 from rfl)
  have kT_22 := lv_neT k_22 (show (19 : Int32).toInt = 19 from rfl)
  have kT_23 := lv_neT k_23 (show (20 : Int32).toInt = 20 from rfl)
  have kT_24 := lv_neT k_24 (show (21 : Int32).toInt = 21 from rfl)
  have kT_27 := lv_neT k_27 (show (22 : Int32).toInt = 22 from rfl)
  have kT_30 := lv_neT k_30 (show (23 : Int32).toInt = 23 from rfl)
  have kT_34 := lv_neT k_34 (show (24 : Int32).toInt = 24 from rfl)
  refine lv_tableOut (tgt := 197) hx hb dX1_begin_18 (by omega) (by decide) ?_
  refine lv_iconst (v := 0) hx hb dX1_begin_197 (by decide) ?_
  have hP9 := hP.sub (ws' := [(k9, .inr (1, [.ref tc, .int (nI zn_2), .int nu, .int ki, .int ce, .int lo])), (tc, .inl (cI, 16, .inl ftn_2))]) [0, 1] rfl
  have hD9 := hD.sub (ws' := [(k9, .inr (1, [.ref tc, .int (nI zn_2), .int nu, .int ki, .int ce, .int lo])), (tc, .inl (cI, 16, .inl ftn_2))]) [0, 1] (by decide) rfl
  exact W.iret (v := 0) hx hb hr (fun t ht hW => ⟨⟨0, (), rfl, trivial, ⟨zn_2, ftn_2, by rw [ht]; exact hP9, hD9, (by omega)⟩⟩, hS.F ht⟩) hS.2.2 dX1_begin_198
set_option maxHeartbeats 4000000 in
set_option maxRecDepth 100000 in
theorem r_X1_askAnew_7 (l : Launch) (dC : Nat → ClassId) (dI : Nat → Nat → Nat) (cI cZ cL cJ : ClassId) (sz : Nat) (k9 : Nat) (tc : Nat) (z : Nat) (nu : Int32) (ki : Int32) (ce : Int32) (lo : Int32) (ft : Nat → Int32) (x : Int32) (hz : z ≤ 16) : Met l yX1_askAnew wsX1_askAnew ({ frames := 19, cells := 0, slots := 0, locals := 429 }) (va_Pc [.ref k9, .int x, .int 7] (fun U => U.heap.size = sz ∧ va_P (dC, dI) vwCl [(k9, .inr (1, [.ref tc, .int (nI z), .int nu, .int ki, .int ce, .int lo])), (tc, .inl (cI, 16, .inl ft))] U.heap ∧ va_K (dC, dI) vwCl [(cI, .int), (cZ, .boolean), (cL, .object RX3), (cJ, .array .int)] U ∧ va_D (fun _ => True) [(k9, .inr (1, [.ref tc, .int (nI z), .int nu, .int ki, .int ce, .int lo])), (tc, .inl (cI, 16, .inl ft))] ∧ stt (va_A [(k9, .inr (1, [.ref tc, .int (nI z), .int nu, .int ki, .int ce, .int lo])), (tc, .inl (cI, 16, .inl ft))] sz) U U.heap)) (va_Qi (fun r (_ : Unit) => True) (fun (_ : Unit) t => ∃ (zn : Nat) (ftn : Nat → Int32), va_P (dC, dI) vwCl [(k9, .inr (1, [.ref tc, .int (nI zn), .int nu, .int ki, .int ce, .int lo])), (tc, .inl (cI, 16, .inl ftn))] t.heap ∧ va_D (va_A [(k9, .inr (1, [.ref tc, .int (nI z), .int nu, .int ki, .int ce, .int lo])), (tc, .inl (cI, 16, .inl ft))] sz) [(k9, .inr (1, [.ref tc, .int (nI zn), .int nu, .int ki, .int ce, .int lo])), (tc, .inl (cI, 16, .inl ftn))] ∧ zn ≤ 16) (va_A [(k9, .inr (1, [.ref tc, .int (nI z), .int nu, .int ki, .int ce, .int lo])), (tc, .inl (cI, 16, .inl ft))] sz)) 0 0 (va_A [(k9, .inr (1, [.ref tc, .int (nI z), .int nu, .int ki, .int ce, .int lo])), (tc, .inl (cI, 16, .inl ft))] sz) := by
  refine Met.ofW (cc := cX1_askAnew) (maxL := 3) (ret := (some .int)) (by decide) rfl ?_
  intro p e s m args below meth c s₁ B hml hv
  obtain ⟨rfl, hsz, hP, hK, hD0, hst⟩ := hv
  have hx := B.exec
  have hb := B.bytes
  have hr := B.returns
  have hts := atoms_spec (ws := wsX1_askAnew) B.pre
  have hown : s.vm.findClass RX1 = some m.cls := findClass_of_methodNamed B.named
  have hlocks := B.notSynchronized
  subst hsz
  have hD := hD0.self (sz := s.heap.size)
  generalize hAe : va_A [(k9, .inr (1, [.ref tc, .int (nI z), .int nu, .int ki, .int ce, .int lo])), (tc, .inl (cI, 16, .inl ft))] s.heap.size = A at hD hst ⊢
  have hA : ∀ q : Nat, s.heap.size ≤ q → A q := fun q h => by rw [← hAe]; exact Or.inr h
  have hS : va_S A s.heap s.heap [] := va_S.rf
  have hP : va_P (dC, dI) vwCl [(k9, .inr (1, [.ref tc, .int (nI z), .int nu, .int ki, .int ce, .int lo])), (tc, .inl (cI, 16, .inl ft))] s.heap := hP
  obtain ⟨⟨tb1, hZ1, hT1⟩, ⟨tb2, hZ2, hT2⟩, ⟨tb3, hZ3, hT3⟩, hNk⟩ := id hst
  have hl := lv_entry ([.ref k9, .int x, .int 7]) (n := 3) (Nat.le_of_ble_eq_true rfl)
  rw [lg_entry_eq]
  generalize (lg_sl ([.ref k9, .int x, .int 7]) ++ List.replicate (3 - (lg_sl ([.ref k9, .int x, .int 7])).length) Slot.unset).toArray = ls at hl ⊢
  have hl : lv_has ls 3 [(0, .ref k9), (1, .int x), (2, .int 7)] := hl
  refine lv_aload_n hx hb dX1_askAnew_0 rfl (lv_at hl 0 rfl) ?_
  refine lv_aload_n hx hb dX1_askAnew_1 rfl (lv_at hl 0 rfl) ?_
  refine lv_iload_n hx hb dX1_askAnew_2 rfl (lv_at hl 1 rfl) ?_
  have hPc_1 := hP.sub (ws' := [(k9, .inr (1, [.ref tc, .int (nI z), .int nu, .int ki, .int ce, .int lo]))]) [0] rfl
  refine vp_callSi (W.runV (As := [.int x]) (rest := [.ref k9]) ⟨hx, hb, hml, hown, hts⟩ (r_X1_bodyFor l dC dI cI cZ cL cJ k9 tc z nu ki ce lo x ) (cwV 1 hts gX1_askAnew_X1_bodyFor rfl rfl rfl (by decide +kernel) ⟨Nat.le_of_ble_eq_true rfl, Nat.le_of_ble_eq_true rfl⟩) ⟨fun a U g mk q => by obtain ⟨q0, qP, qK, qS⟩ := q; exact ⟨q0, qP, va_K.moved (u := U) (U := U.calling g mk a) (Vm.Alike.refl U.vm) qK, stt_same rfl qS⟩, va_recv hK hP (ci := 1) (q0 := 0) rfl rfl, fun U hU hW => ⟨rfl, by rw [hU]; exact hPc_1, va_K.moved hW.alike hK, by rw [hU]; exact stt_warm hW (stt_narrow (stt_kept hst hS.2.1) (fun _ h => h.elim))⟩⟩ rfl rfl hl.1 rfl (lv_room (Nat.le_of_ble_eq_true rfl)) dX1_askAnew_3 ⟨Nat.le_of_ble_eq_true rfl, Nat.le_of_ble_eq_true rfl⟩) (fun r_1 h_1 => ?_)
  refine lv_iload_n hx hb dX1_askAnew_6 rfl (lv_at hl 2 rfl) ?_
  have hPc_2 := hP.sub (ws' := [(k9, .inr (1, [.ref tc, .int (nI z), .int nu, .int ki, .int ce, .int lo])), (tc, .inl (cI, 16, .inl ft))]) [0, 1] rfl
  have hDc_2 := hD.sub (ws' := [(k9, .inr (1, [.ref tc, .int (nI z), .int nu, .int ki, .int ce, .int lo])), (tc, .inl (cI, 16, .inl ft))]) [0, 1] (by decide) rfl
  have hFc_2 := va_free (wc := [(k9, .inr (1, [.ref tc, .int (nI z), .int nu, .int ki, .int ce, .int lo])), (tc, .inl (cI, 16, .inl ft))]) hD hS hA [0, 1] rfl
  refine va_calli (va_runV (As := [.int r_1, .int 7]) (rest := []) ⟨hx, hb, hml, hown, hts⟩ (r_X1_begin_7 l dC dI cI cZ cL cJ s.heap.size k9 tc z nu ki ce lo ft r_1 (by omega)) (cwV 2 hts gX1_askAnew_X1_begin rfl rfl rfl (by decide +kernel) ⟨Nat.le_of_ble_eq_true rfl, Nat.le_of_ble_eq_true rfl⟩) ⟨fun a U g mk q => by obtain ⟨q0, q1, qP, qK, qD, qS⟩ := q; exact ⟨q0, q1, qP, va_K.moved (u := U) (U := U.calling g mk a) (Vm.Alike.refl U.vm) qK, qD, stt_same rfl qS⟩, va_recv hK hP (ci := 1) (q0 := 0) rfl rfl, fun U hU hW => ⟨rfl, by rw [hU], by rw [hU]; exact hPc_2, va_K.moved hW.alike hK, hDc_2.weaken (fun _ _ _ _ => trivial), by rw [hU]; exact stt_warm hW (stt_narrow (stt_kept hst hS.2.1) hFc_2)⟩⟩ rfl rfl hl.1 rfl (lv_room (Nat.le_of_ble_eq_true rfl)) dX1_askAnew_7 ⟨Nat.le_of_ble_eq_true rfl, Nat.le_of_ble_eq_true rfl⟩) hS (fun q _ h => hFc_2 q h) hFc_2 (fun r_2 u_2 t_2 H1 locs ht hvm h_2 hB hz1 hk1 hS => ?_)
  obtain ⟨zn_2, ftn_2, hP1, hD1, hF_2_0⟩ := hB
  rw [ht] at hP1
  obtain ⟨hP, hD⟩ := va_join (wr := []) (w1 := [(k9, .inr (1, [.ref tc, .int (nI zn_2), .int nu, .int ki, .int ce, .int lo])), (tc, .inl (cI, 16, .inl ftn_2))]) hP hD [0, 1] [] rfl rfl (by decide) (by decide) hk1 hFc_2 hP1 hD1
  generalize H1 = H at hP hS ⊢
  have hP : va_P (dC, dI) vwCl [(k9, .inr (1, [.ref tc, .int (nI zn_2), .int nu, .int ki, .int ce, .int lo])), (tc, .inl (cI, 16, .inl ftn_2))] H := hP
  have hD : va_D A [(k9, .inr (1, [.ref tc, .int (nI zn_2), .int nu, .int ki, .int ce, .int lo])), (tc, .inl (cI, 16, .inl ftn_2))] := hD
  have hP9 := hP.sub (ws' := [(k9, .inr (1, [.ref tc, .int (nI zn_2), .int nu, .int ki, .int ce, .int lo])), (tc, .inl (cI, 16, .inl ftn_2))]) [0, 1] rfl
  have hD9 := hD.sub (ws' := [(k9, .inr (1, [.ref tc, .int (nI zn_2), .int nu, .int ki, .int ce, .int lo])), (tc, .inl (cI, 16, .inl ftn_2))]) [0, 1] (by decide) rfl
  exact W.iret (v := r_2) hx hb hr (fun t ht hW => ⟨⟨r_2, (), rfl, trivial, ⟨zn_2, ftn_2, by rw [ht]; exact hP9, hD9, (by omega)⟩⟩, hS.F ht⟩) hS.2.2 dX1_askAnew_10
set_option maxHeartbeats 4000000 in
set_option maxRecDepth 100000 in
theorem r_X1_begin_6 (l : Launch) (dC : Nat → ClassId) (dI : Nat → Nat → Nat) (cI cZ cL cJ : ClassId) (sz : Nat) (k9 : Nat) (tc : Nat) (z : Nat) (nu : Int32) (ki : Int32) (ce : Int32) (lo : Int32) (ft : Nat → Int32) (x : Int32) (hz : z ≤ 16) : Met l yX1_begin wsX1_begin ({ frames := 20, cells := 0, slots := 0, locals := 451 }) (va_Pc [.ref k9, .int x, .int 6] (fun U => U.heap.size = sz ∧ va_P (dC, dI) vwCl [(k9, .inr (1, [.ref tc, .int (nI z), .int nu, .int ki, .int ce, .int lo])), (tc, .inl (cI, 16, .inl ft))] U.heap ∧ va_K (dC, dI) vwCl [(cI, .int), (cZ, .boolean), (cL, .object RX3), (cJ, .array .int)] U ∧ va_D (fun _ => True) [(k9, .inr (1, [.ref tc, .int (nI z), .int nu, .int ki, .int ce, .int lo])), (tc, .inl (cI, 16, .inl ft))] ∧ stt (va_A [(k9, .inr (1, [.ref tc, .int (nI z), .int nu, .int ki, .int ce, .int lo])), (tc, .inl (cI, 16, .inl ft))] sz) U U.heap)) (va_Qi (fun r (_ : Unit) => True) (fun (_ : Unit) t => ∃ (zn : Nat) (ftn : Nat → Int32), va_P (dC, dI) vwCl [(k9, .inr (1, [.ref tc, .int (nI zn), .int nu, .int ki, .int ce, .int lo])), (tc, .inl (cI, 16, .inl ftn))] t.heap ∧ va_D (va_A [(k9, .inr (1, [.ref tc, .int (nI z), .int nu, .int ki, .int ce, .int lo])), (tc, .inl (cI, 16, .inl ft))] sz) [(k9, .inr (1, [.ref tc, .int (nI zn), .int nu, .int ki, .int ce, .int lo])), (tc, .inl (cI, 16, .inl ftn))] ∧ zn ≤ 16) (va_A [(k9, .inr (1, [.ref tc, .int (nI z), .int nu, .int ki, .int ce, .int lo])), (tc, .inl (cI, 16, .inl ft))] sz)) 0 0 (va_A [(k9, .inr (1, [.ref tc, .int (nI z), .int nu, .int ki, .int ce, .int lo])), (tc, .inl (cI, 16, .inl ft))] sz) := by
  refine Met.ofW (cc := cX1_begin) (maxL := 4) (ret := (some .int)) (by decide) rfl ?_
  intro p e s m args below meth c s₁ B hml hv
  obtain ⟨rfl, hsz, hP, hK, hD0, hst⟩ := hv
  have hx := B.exec
  have hb := B.bytes
  have hr := B.returns
  have hts := atoms_spec (ws := wsX1_begin) B.pre
  have hown : s.vm.findClass RX1 = some m.cls := findClass_of_methodNamed B.named
  have hlocks := B.notSynchronized
  subst hsz
  have hD := hD0.self (sz := s.heap.size)
  generalize hAe : va_A [(k9, .inr (1, [.ref tc, .int (nI z), .int nu, .int ki, .int ce, .int lo])), (tc, .inl (cI, 16, .inl ft))] s.heap.size = A at hD hst ⊢
  have hA : ∀ q : Nat, s.heap.size ≤ q → A q := fun q h => by rw [← hAe]; exact Or.inr h
  have hS : va_S A s.heap s.heap [] := va_S.rf
  have hP : va_P (dC, dI) vwCl [(k9, .inr (1, [.ref tc, .int (nI z), .int nu, .int ki, .int ce, .int lo])), (tc, .inl (cI, 16, .inl ft))] s.heap := hP
  obtain ⟨⟨tb1, hZ1, hT1⟩, ⟨tb2, hZ2, hT2⟩, ⟨tb3, hZ3, hT3⟩, hNk⟩ := id hst
  have hl := lv_entry ([.ref k9, .int x, .int 6]) (n := 4) (Nat.le_of_ble_eq_true rfl)
  rw [lg_entry_eq]
  generalize (lg_sl ([.ref k9, .int x, .int 6]) ++ List.replicate (4 - (lg_sl ([.ref k9, .int x, .int 6])).length) Slot.unset).toArray = ls at hl ⊢
  have hl : lv_has ls 4 [(0, .ref k9), (1, .int x), (2, .int 6)] := hl
  refine lv_iload_n hx hb dX1_begin_0 rfl (lv_at hl 2 rfl) ?_
  refine lv_bipush (v := 16) hx hb dX1_begin_1 (by decide) ?_
  refine lv_icmp_lt (tgt := 8) hx hb dX1_begin_3 (by decide) (fun _ => ?_) (fun c_ => absurd (by decide) c_)
  refine lv_aload_n hx hb dX1_begin_8 rfl (lv_at hl 0 rfl) ?_
  refine lv_iload_n hx hb dX1_begin_9 rfl (lv_at hl 1 rfl) ?_
  have hPc_2 := hP.sub (ws' := [(k9, .inr (1, [.ref tc, .int (nI z), .int nu, .int ki, .int ce, .int lo])), (tc, .inl (cI, 16, .inl ft))]) [0, 1] rfl
  have hDc_2 := hD.sub (ws' := [(k9, .inr (1, [.ref tc, .int (nI z), .int nu, .int ki, .int ce, .int lo])), (tc, .inl (cI, 16, .inl ft))]) [0, 1] (by decide) rfl
  have hFc_2 := va_free (wc := [(k9, .inr (1, [.ref tc, .int (nI z), .int nu, .int ki, .int ce, .int lo])), (tc, .inl (cI, 16, .inl ft))]) hD hS hA [0, 1] rfl
  refine va_callv (va_runV (As := [.int x]) (rest := []) ⟨hx, hb, hml, hown, hts⟩ (r_X1_leave l dC dI cI cZ cL cJ s.heap.size k9 tc z nu ki ce lo ft x (by omega)) (cwV 1 hts gX1_begin_X1_leave rfl rfl rfl (by decide +kernel) ⟨Nat.le_of_ble_eq_true rfl, Nat.le_of_ble_eq_true rfl⟩) ⟨fun a U g mk q => by obtain ⟨q0, q1, qP, qK, qD⟩ := q; exact ⟨q0, q1, qP, va_K.moved (u := U) (U := U.calling g mk a) (Vm.Alike.refl U.vm) qK, qD⟩, va_recv hK hP (ci := 1) (q0 := 0) rfl rfl, fun U hU hW => ⟨rfl, by rw [hU], by rw [hU]; exact hPc_2, va_K.moved hW.alike hK, hDc_2.weaken (fun _ _ _ _ => trivial)⟩⟩ rfl rfl hl.1 rfl (lv_room (Nat.le_of_ble_eq_true rfl)) dX1_begin_10 ⟨Nat.le_of_ble_eq_true rfl, Nat.le_of_ble_eq_true rfl⟩) hS (fun q _ h => hFc_2 q h) hFc_2 (fun u_2 t_2 H1 locs ht hvm h_2 hB hz1 hk1 hS => ?_)
  obtain ⟨zn_2, ftn_2, hP1, hD1, hF_2_0⟩ := hB
  rw [ht] at hP1
  obtain ⟨hP, hD⟩ := va_join (wr := []) (w1 := [(k9, .inr (1, [.ref tc, .int (nI zn_2), .int nu, .int ki, .int ce, .int lo])), (tc, .inl (cI, 16, .inl ftn_2))]) hP hD [0, 1] [] rfl rfl (by decide) (by decide) hk1 hFc_2 hP1 hD1
  generalize H1 = H at hP hS ⊢
  have hP : va_P (dC, dI) vwCl [(k9, .inr (1, [.ref tc, .int (nI zn_2), .int nu, .int ki, .int ce, .int lo])), (tc, .inl (cI, 16, .inl ftn_2))] H := hP
  have hD : va_D A [(k9, .inr (1, [.ref tc, .int (nI zn_2), .int nu, .int ki, .int ce, .int lo])), (tc, .inl (cI, 16, .inl ftn_2))] := hD
  refine lv_iload_n hx hb dX1_begin_13 rfl (lv_at hl 2 rfl) ?_
  refine lv_iconst (v := 1) hx hb dX1_begin_14 (by decide) ?_
  refine lv_iadd hx hb dX1_begin_15 ?_
  refine lv_topi (fun v_3 e_3 => ?_)
  obtain rfl : v_3 = 7 := (e_3).trans (by decide)
  refine lv_istore_n (lv' := [(3, .int 7), (0, .ref k9), (1, .int x), (2, .int 6)]) hx hb dX1_begin_16 rfl hl (by decide) rfl (fun ls hl => ?_)
  refine lv_iload_n hx hb dX1_begin_17 rfl (lv_at hl 2 rfl) ?_
  by_cases k_4 : x = 10
  · subst k_4
    refine lv_tableIn (off := 74) (tgt := 92) hx hb dX1_begin_18 (by decide) (by decide) (by decide) (by decide) ?_
    refine lv_aload_n hx hb dX1_begin_92 rfl (lv_at hl 1 rfl) ?_
    refine va_get (D := (dC, dI)) (ci := 1) (v := .int lo) (C := RX1) (T := TX1) (N := 6) hx hb hts i_X1_begin_X1 hown hK hP 0 rfl rfl 5 (by decide) (hts (.fieldLink RX1 39 "MillTalk$Asks" "loud" "I") (by decide +kernel)) (fun _ h9 => h9) rfl dX1_begin_93 ?_
    have hP9 := hP.sub (ws' := [(k9, .inr (1, [.ref tc, .int (nI zn_2), .int nu, .int ki, .int ce, .int lo])), (tc, .inl (cI, 16, .inl ftn_2))]) [0, 1] rfl
    have hD9 := hD.sub (ws' := [(k9, .inr (1, [.ref tc, .int (nI zn_2), .int nu, .int ki, .int ce, .int lo])), (tc, .inl (cI, 16, .inl ftn_2))]) [0, 1] (by decide) rfl
    exact W.iret (v := lo) hx hb hr (fun t ht hW => ⟨⟨lo, (), rfl, trivial, ⟨zn_2, ftn_2, by rw [ht]; exact hP9, hD9, (by omega)⟩⟩, hS.F ht⟩) hS.2.2 dX1_begin_96
  by_cases k_5 : x = 11
  · subst k_5
    refine lv_tableIn (off := 79) (tgt := 97) hx hb dX1_begin_18 (by decide) (by decide) (by decide) (by decide) ?_
    refine lv_aload_n hx hb dX1_begin_97 rfl (lv_at hl 1 rfl) ?_
    refine lv_bipush (v := 10) hx hb dX1_begin_98 (by decide) ?_
    refine lv_iload_n hx hb dX1_begin_100 rfl (lv_at hl 0 rfl) ?_
    have hPc_6 := hP.sub (ws' := [(k9, .inr (1, [.ref tc, .int (nI zn_2), .int nu, .int ki, .int ce, .int lo])), (tc, .inl (cI, 16, .inl ftn_2))]) [0, 1] rfl
    have hDc_6 := hD.sub (ws' := [(k9, .inr (1, [.ref tc, .int (nI zn_2), .int nu, .int ki, .int ce, .int lo])), (tc, .inl (cI, 16, .inl ftn_2))]) [0, 1] (by decide) rfl
    have hFc_6 := va_free (wc := [(k9, .inr (1, [.ref tc, .int (nI zn_2), .int nu, .int ki, .int ce, .int lo])), (tc, .inl (cI, 16, .inl ftn_2))]) hD hS hA [0, 1] rfl
    refine va_calli (va_runV (As := [.int 10, .int 7]) (rest := []) ⟨hx, hb, hml, hown, hts⟩ (r_X1_begin_7 l dC dI cI cZ cL cJ H.size k9 tc zn_2 nu ki ce lo ftn_2 10 (by omega)) (cwV 2 hts gX1_begin_X1_begin rfl rfl rfl (by decide +kernel) ⟨Nat.le_of_ble_eq_true rfl, Nat.le_of_ble_eq_true rfl⟩) ⟨fun a U g mk q => by obtain ⟨q0, q1, qP, qK, qD, qS⟩ := q; exact ⟨q0, q1, qP, va_K.moved (u := U) (U := U.calling g mk a) (Vm.Alike.refl U.vm) qK, qD, stt_same rfl qS⟩, va_recv hK hP (ci := 1) (q0 := 0) rfl rfl, fun U hU hW => ⟨rfl, by rw [hU], by rw [hU]; exact hPc_6, va_K.moved hW.alike hK, hDc_6.weaken (fun _ _ _ _ => trivial), by rw [hU]; exact stt_warm hW (stt_narrow (stt_kept hst hS.2.1) hFc_6)⟩⟩ rfl rfl hl.1 rfl (lv_room (Nat.le_of_ble_eq_true rfl)) dX1_begin_101 ⟨Nat.le_of_ble_eq_true rfl, Nat.le_of_ble_eq_true rfl⟩) hS (fun q _ h => hFc_6 q h) hFc_6 (fun r_6 u_6 t_6 H1 locs ht hvm h_6 hB hz1 hk1 hS => ?_)
    obtain ⟨zn_6, ftn_6, hP1, hD1, hF_6_0⟩ := hB
    rw [ht] at hP1
    obtain ⟨hP, hD⟩ := va_join (wr := []) (w1 := [(k9, .inr (1, [.ref tc, .int (nI zn_6), .int nu, .int ki, .int ce, .int lo])), (tc, .inl (cI, 16, .inl ftn_6))]) hP hD [0, 1] [] rfl rfl (by decide) (by decide) hk1 hFc_6 hP1 hD1
    generalize H1 = H at hP hS ⊢
    have hP : va_P (dC, dI) vwCl [(k9, .inr (1, [.ref tc, .int (nI zn_6), .int nu, .int ki, .int ce, .int lo])), (tc, .inl (cI, 16, .inl ftn_6))] H := hP
    have hD : va_D A [(k9, .inr (1, [.ref tc, .int (nI zn_6), .int nu, .int ki, .int ce, .int lo])), (tc, .inl (cI, 16, .inl ftn_6))] := hD
    refine lv_aload_n hx hb dX1_begin_104 rfl (lv_at hl 1 rfl) ?_
    refine lv_iconst (v := 1) hx hb dX1_begin_105 (by decide) ?_
    refine lv_iload_n hx hb dX1_begin_106 rfl (lv_at hl 0 rfl) ?_
    have hPc_7 := hP.sub (ws' := [(k9, .inr (1, [.ref tc, .int (nI zn_6), .int nu, .int ki, .int ce, .int lo])), (tc, .inl (cI, 16, .inl ftn_6))]) [0, 1] rfl
    have hDc_7 := hD.sub (ws' := [(k9, .inr (1, [.ref tc, .int (nI zn_6), .int nu, .int ki, .int ce, .int lo])), (tc, .inl (cI, 16, .inl ftn_6))]) [0, 1] (by decide) rfl
    have hFc_7 := va_free (wc := [(k9, .inr (1, [.ref tc, .int (nI zn_6), .int nu, .int ki, .int ce, .int lo])), (tc, .inl (cI, 16, .inl ftn_6))]) hD hS hA [0, 1] rfl
    refine va_calli (va_runV (As := [.int 1, .int 7]) (rest := [.int r_6]) ⟨hx, hb, hml, hown, hts⟩ (r_X1_askAnew_7 l dC dI cI cZ cL cJ H.size k9 tc zn_6 nu ki ce lo ftn_6 1 (by omega)) (cwV 2 hts gX1_begin_X1_askAnew rfl rfl rfl (by decide +kernel) ⟨Nat.le_of_ble_eq_true rfl, Nat.le_of_ble_eq_true rfl⟩) ⟨fun a U g mk q => by obtain ⟨q0, q1, qP, qK, qD, qS⟩ := q; exact ⟨q0, q1, qP, va_K.moved (u := U) (U := U.calling g mk a) (Vm.Alike.refl U.vm) qK, qD, stt_same rfl qS⟩, va_recv hK hP (ci := 1) (q0 := 0) rfl rfl, fun U hU hW => ⟨rfl, by rw [hU], by rw [hU]; exact hPc_7, va_K.moved hW.alike hK, hDc_7.weaken (fun _ _ _ _ => trivial), by rw [hU]; exact stt_warm hW (stt_narrow (stt_kept hst hS.2.1) hFc_7)⟩⟩ rfl rfl hl.1 rfl (lv_room (Nat.le_of_ble_eq_true rfl)) dX1_begin_107 ⟨Nat.le_of_ble_eq_true rfl, Nat.le_of_ble_eq_true rfl⟩) hS (fun q _ h => hFc_7 q h) hFc_7 (fun r_7 u_7 t_7 H1 locs ht hvm h_7 hB hz1 hk1 hS => ?_)
    obtain ⟨zn_7, ftn_7, hP1, hD1, hF_7_0⟩ := hB
    rw [ht] at hP1
    obtain ⟨hP, hD⟩ := va_join (wr := []) (w1 := [(k9, .inr (1, [.ref tc, .int (nI zn_7), .int nu, .int ki, .int ce, .int lo])), (tc, .inl (cI, 16, .inl ftn_7))]) hP hD [0, 1] [] rfl rfl (by decide) (by decide) hk1 hFc_7 hP1 hD1
    generalize H1 = H at hP hS ⊢
    have hP : va_P (dC, dI) vwCl [(k9, .inr (1, [.ref tc, .int (nI zn_7), .int nu, .int ki, .int ce, .int lo])), (tc, .inl (cI, 16, .inl ftn_7))] H := hP
    have hD : va_D A [(k9, .inr (1, [.ref tc, .int (nI zn_7), .int nu, .int ki, .int ce, .int lo])), (tc, .inl (cI, 16, .inl ftn_7))] := hD
    refine lv_iadd hx hb dX1_begin_110 ?_
    refine lv_topi (fun v_8 e_8 => ?_)
    have hP9 := hP.sub (ws' := [(k9, .inr (1, [.ref tc, .int (nI zn_7), .int nu, .int ki, .int ce, .int lo])), (tc, .inl (cI, 16, .inl ftn_7))]) [0, 1] rfl
    have hD9 := hD.sub (ws' := [(k9, .inr (1, [.ref tc, .int (nI zn_7), .int nu, .int ki, .int ce, .int lo])), (tc, .inl (cI, 16, .inl ftn_7))]) [0, 1] (by decide) rfl
    exact W.iret (v := v_8) hx hb hr (fun t ht hW => ⟨⟨v_8, (), rfl, trivial, ⟨zn_7, ftn_7, by rw [ht]; exact hP9, hD9, (by omega)⟩⟩, hS.F ht⟩) hS.2.2 dX1_begin_111
  by_cases k_9 : x = 12
  · subst k_9
    refine lv_tableIn (off := 94) (tgt := 112) hx hb dX1_begin_18 (by decide) (by decide) (by decide) (by decide) ?_
    refine lv_aload_n hx hb dX1_begin_112 rfl (lv_at hl 1 rfl) ?_
    refine lv_bipush (v := 11) hx hb dX1_begin_113 (by decide) ?_
    refine lv_iload_n hx hb dX1_begin_115 rfl (lv_at hl 0 rfl) ?_
    have hPc_10 := hP.sub (ws' := [(k9, .inr (1, [.ref tc, .int (nI zn_2), .int nu, .int ki, .int ce, .int lo])), (tc, .inl (cI, 16, .inl ftn_2))]) [0, 1] rfl
    have hDc_10 := hD.sub (ws' := [(k9, .inr (1, [.ref tc, .int (nI zn_2), .int nu, .int ki, .int ce, .int lo])), (tc, .inl (cI, 16, .inl ftn_2))]) [0, 1] (by decide) rfl
    have hFc_10 := va_free (wc := [(k9, .inr (1, [.ref tc, .int (nI zn_2), .int nu, .int ki, .int ce, .int lo])), (tc, .inl (cI, 16, .inl ftn_2))]) hD hS hA [0, 1] rfl
    refine va_calli (va_runV (As := [.int 11, .int 7]) (rest := []) ⟨hx, hb, hml, hown, hts⟩ (r_X1_begin_7 l dC dI cI cZ cL cJ H.size k9 tc zn_2 nu ki ce lo ftn_2 11 (by omega)) (cwV 2 hts gX1_begin_X1_begin rfl rfl rfl (by decide +kernel) ⟨Nat.le_of_ble_eq_true rfl, Nat.le_of_ble_eq_true rfl⟩) ⟨fun a U g mk q => by obtain ⟨q0, q1, qP, qK, qD, qS⟩ := q; exact ⟨q0, q1, qP, va_K.moved (u := U) (U := U.calling g mk a) (Vm.Alike.refl U.vm) qK, qD, stt_same rfl qS⟩, va_recv hK hP (ci := 1) (q0 := 0) rfl rfl, fun U hU hW => ⟨rfl, by rw [hU], by rw [hU]; exact hPc_10, va_K.moved hW.alike hK, hDc_10.weaken (fun _ _ _ _ => trivial), by rw [hU]; exact stt_warm hW (stt_narrow (stt_kept hst hS.2.1) hFc_10)⟩⟩ rfl rfl hl.1 rfl (lv_room (Nat.le_of_ble_eq_true rfl)) dX1_begin_116 ⟨Nat.le_of_ble_eq_true rfl, Nat.le_of_ble_eq_true rfl⟩) hS (fun q _ h => hFc_10 q h) hFc_10 (fun r_10 u_10 t_10 H1 locs ht hvm h_10 hB hz1 hk1 hS => ?_)
    obtain ⟨zn_10, ftn_10, hP1, hD1, hF_10_0⟩ := hB
    rw [ht] at hP1
    obtain ⟨hP, hD⟩ := va_join (wr := []) (w1 := [(k9, .inr (1, [.ref tc, .int (nI zn_10), .int nu, .int ki, .int ce, .int lo])), (tc, .inl (cI, 16, .inl ftn_10))]) hP hD [0, 1] [] rfl rfl (by decide) (by decide) hk1 hFc_10 hP1 hD1
    generalize H1 = H at hP hS ⊢
    have hP : va_P (dC, dI) vwCl [(k9, .inr (1, [.ref tc, .int (nI zn_10), .int nu, .int ki, .int ce, .int lo])), (tc, .inl (cI, 16, .inl ftn_10))] H := hP
    have hD : va_D A [(k9, .inr (1, [.ref tc, .int (nI zn_10), .int nu, .int ki, .int ce, .int lo])), (tc, .inl (cI, 16, .inl ftn_10))] := hD
    refine lv_ineg hx hb dX1_begin_119 ?_
    refine lv_topi (fun v_11 e_11 => ?_)
    have hP9 := hP.sub (ws' := [(k9, .inr (1, [.ref tc, .int (nI zn_10), .int nu, .int ki, .int ce, .int lo])), (tc, .inl (cI, 16, .inl ftn_10))]) [0, 1] rfl
    have hD9 := hD.sub (ws' := [(k9, .inr (1, [.ref tc, .int (nI zn_10), .int nu, .int ki, .int ce, .int lo])), (tc, .inl (cI, 16, .inl ftn_10))]) [0, 1] (by decide) rfl
    exact W.iret (v := v_11) hx hb hr (fun t ht hW => ⟨⟨v_11, (), rfl, trivial, ⟨zn_10, ftn_10, by rw [ht]; exact hP9, hD9, (by omega)⟩⟩, hS.F ht⟩) hS.2.2 dX1_begin_120
  by_cases k_12 : x = 13
  · subst k_12
    refine lv_tableIn (off := 103) (tgt := 121) hx hb dX1_begin_18 (by decide) (by decide) (by decide) (by decide) ?_
    refine lv_aload_n hx hb dX1_begin_121 rfl (lv_at hl 1 rfl) ?_
    refine lv_bipush (v := 10) hx hb dX1_begin_122 (by decide) ?_
    refine lv_iload_n hx hb dX1_begin_124 rfl (lv_at hl 0 rfl) ?_
    have hPc_13 := hP.sub (ws' := [(k9, .inr (1, [.ref tc, .int (nI zn_2), .int nu, .int ki, .int ce, .int lo])), (tc, .inl (cI, 16, .inl ftn_2))]) [0, 1] rfl
    have hDc_13 := hD.sub (ws' := [(k9, .inr (1, [.ref tc, .int (nI zn_2), .int nu, .int ki, .int ce, .int lo])), (tc, .inl (cI, 16, .inl ftn_2))]) [0, 1] (by decide) rfl
    have hFc_13 := va_free (wc := [(k9, .inr (1, [.ref tc, .int (nI zn_2), .int nu, .int ki, .int ce, .int lo])), (tc, .inl (cI, 16, .inl ftn_2))]) hD hS hA [0, 1] rfl
    refine va_calli (va_runV (As := [.int 10, .int 7]) (rest := []) ⟨hx, hb, hml, hown, hts⟩ (r_X1_begin_7 l dC dI cI cZ cL cJ H.size k9 tc zn_2 nu ki ce lo ftn_2 10 (by omega)) (cwV 2 hts gX1_begin_X1_begin rfl rfl rfl (by decide +kernel) ⟨Nat.le_of_ble_eq_true rfl, Nat.le_of_ble_eq_true rfl⟩) ⟨fun a U g mk q => by obtain ⟨q0, q1, qP, qK, qD, qS⟩ := q; exact ⟨q0, q1, qP, va_K.moved (u := U) (U := U.calling g mk a) (Vm.Alike.refl U.vm) qK, qD, stt_same rfl qS⟩, va_recv hK hP (ci := 1) (q0 := 0) rfl rfl, fun U hU hW => ⟨rfl, by rw [hU], by rw [hU]; exact hPc_13, va_K.moved hW.alike hK, hDc_13.weaken (fun _ _ _ _ => trivial), by rw [hU]; exact stt_warm hW (stt_narrow (stt_kept hst hS.2.1) hFc_13)⟩⟩ rfl rfl hl.1 rfl (lv_room (Nat.le_of_ble_eq_true rfl)) dX1_begin_125 ⟨Nat.le_of_ble_eq_true rfl, Nat.le_of_ble_eq_true rfl⟩) hS (fun q _ h => hFc_13 q h) hFc_13 (fun r_13 u_13 t_13 H1 locs ht hvm h_13 hB hz1 hk1 hS => ?_)
    obtain ⟨zn_13, ftn_13, hP1, hD1, hF_13_0⟩ := hB
    rw [ht] at hP1
    obtain ⟨hP, hD⟩ := va_join (wr := []) (w1 := [(k9, .inr (1, [.ref tc, .int (nI zn_13), .int nu, .int ki, .int ce, .int lo])), (tc, .inl (cI, 16, .inl ftn_13))]) hP hD [0, 1] [] rfl rfl (by decide) (by decide) hk1 hFc_13 hP1 hD1
    generalize H1 = H at hP hS ⊢
    have hP : va_P (dC, dI) vwCl [(k9, .inr (1, [.ref tc, .int (nI zn_13), .int nu, .int ki, .int ce, .int lo])), (tc, .inl (cI, 16, .inl ftn_13))] H := hP
    have hD : va_D A [(k9, .inr (1, [.ref tc, .int (nI zn_13), .int nu, .int ki, .int ce, .int lo])), (tc, .inl (cI, 16, .inl ftn_13))] := hD
    refine lv_bipush (v := 100) hx hb dX1_begin_128 (by decide) ?_
    refine lv_isub hx hb dX1_begin_130 ?_
    refine lv_topi (fun v_14 e_14 => ?_)
    have hP9 := hP.sub (ws' := [(k9, .inr (1, [.ref tc, .int (nI zn_13), .int nu, .int ki, .int ce, .int lo])), (tc, .inl (cI, 16, .inl ftn_13))]) [0, 1] rfl
    have hD9 := hD.sub (ws' := [(k9, .inr (1, [.ref tc, .int (nI zn_13), .int nu, .int ki, .int ce, .int lo])), (tc, .inl (cI, 16, .inl ftn_13))]) [0, 1] (by decide) rfl
    exact W.iret (v := v_14) hx hb hr (fun t ht hW => ⟨⟨v_14, (), rfl, trivial, ⟨zn_13, ftn_13, by rw [ht]; exact hP9, hD9, (by omega)⟩⟩, hS.F ht⟩) hS.2.2 dX1_begin_131
  by_cases k_15 : x = 14
  · subst k_15
    refine lv_tableIn (off := 114) (tgt := 132) hx hb dX1_begin_18 (by decide) (by decide) (by decide) (by decide) ?_
    refine lv_aload_n hx hb dX1_begin_132 rfl (lv_at hl 1 rfl) ?_
    refine lv_bipush (v := 13) hx hb dX1_begin_133 (by decide) ?_
    refine lv_iload_n hx hb dX1_begin_135 rfl (lv_at hl 0 rfl) ?_
    have hPc_16 := hP.sub (ws' := [(k9, .inr (1, [.ref tc, .int (nI zn_2), .int nu, .int ki, .int ce, .int lo])), (tc, .inl (cI, 16, .inl ftn_2))]) [0, 1] rfl
    have hDc_16 := hD.sub (ws' := [(k9, .inr (1, [.ref tc, .int (nI zn_2), .int nu, .int ki, .int ce, .int lo])), (tc, .inl (cI, 16, .inl ftn_2))]) [0, 1] (by decide) rfl
    have hFc_16 := va_free (wc := [(k9, .inr (1, [.ref tc, .int (nI zn_2), .int nu, .int ki, .int ce, .int lo])), (tc, .inl (cI, 16, .inl ftn_2))]) hD hS hA [0, 1] rfl
    refine va_calli (va_runV (As := [.int 13, .int 7]) (rest := []) ⟨hx, hb, hml, hown, hts⟩ (r_X1_begin_7 l dC dI cI cZ cL cJ H.size k9 tc zn_2 nu ki ce lo ftn_2 13 (by omega)) (cwV 2 hts gX1_begin_X1_begin rfl rfl rfl (by decide +kernel) ⟨Nat.le_of_ble_eq_true rfl, Nat.le_of_ble_eq_true rfl⟩) ⟨fun a U g mk q => by obtain ⟨q0, q1, qP, qK, qD, qS⟩ := q; exact ⟨q0, q1, qP, va_K.moved (u := U) (U := U.calling g mk a) (Vm.Alike.refl U.vm) qK, qD, stt_same rfl qS⟩, va_recv hK hP (ci := 1) (q0 := 0) rfl rfl, fun U hU hW => ⟨rfl, by rw [hU], by rw [hU]; exact hPc_16, va_K.moved hW.alike hK, hDc_16.weaken (fun _ _ _ _ => trivial), by rw [hU]; exact stt_warm hW (stt_narrow (stt_kept hst hS.2.1) hFc_16)⟩⟩ rfl rfl hl.1 rfl (lv_room (Nat.le_of_ble_eq_true rfl)) dX1_begin_136 ⟨Nat.le_of_ble_eq_true rfl, Nat.le_of_ble_eq_true rfl⟩) hS (fun q _ h => hFc_16 q h) hFc_16 (fun r_16 u_16 t_16 H1 locs ht hvm h_16 hB hz1 hk1 hS => ?_)
    obtain ⟨zn_16, ftn_16, hP1, hD1, hF_16_0⟩ := hB
    rw [ht] at hP1
    obtain ⟨hP, hD⟩ := va_join (wr := []) (w1 := [(k9, .inr (1, [.ref tc, .int (nI zn_16), .int nu, .int ki, .int ce, .int lo])), (tc, .inl (cI, 16, .inl ftn_16))]) hP hD [0, 1] [] rfl rfl (by decide) (by decide) hk1 hFc_16 hP1 hD1
    generalize H1 = H at hP hS ⊢
    have hP : va_P (dC, dI) vwCl [(k9, .inr (1, [.ref tc, .int (nI zn_16), .int nu, .int ki, .int ce, .int lo])), (tc, .inl (cI, 16, .inl ftn_16))] H := hP
    have hD : va_D A [(k9, .inr (1, [.ref tc, .int (nI zn_16), .int nu, .int ki, .int ce, .int lo])), (tc, .inl (cI, 16, .inl ftn_16))] := hD
    refine lv_iconst (v := 2) hx hb dX1_begin_139 (by decide) ?_
    refine lv_imul hx hb dX1_begin_140 ?_
    refine lv_topi (fun v_17 e_17 => ?_)
    have hP9 := hP.sub (ws' := [(k9, .inr (1, [.ref tc, .int (nI zn_16), .int nu, .int ki, .int ce, .int lo])), (tc, .inl (cI, 16, .inl ftn_16))]) [0, 1] rfl
    have hD9 := hD.sub (ws' := [(k9, .inr (1, [.ref tc, .int (nI zn_16), .int nu, .int ki, .int ce, .int lo])), (tc, .inl (cI, 16, .inl ftn_16))]) [0, 1] (by decide) rfl
    exact W.iret (v := v_17) hx hb hr (fun t ht hW => ⟨⟨v_17, (), rfl, trivial, ⟨zn_16, ftn_16, by rw [ht]; exact hP9, hD9, (by omega)⟩⟩, hS.F ht⟩) hS.2.2 dX1_begin_141
  by_cases k_18 : x = 15
  · subst k_18
    refine lv_tableIn (off := 179) (tgt := 197) hx hb dX1_begin_18 (by decide) (by decide) (by decide) (by decide) ?_
    refine lv_iconst (v := 0) hx hb dX1_begin_197 (by decide) ?_
    have hP9 := hP.sub (ws' := [(k9, .inr (1, [.ref tc, .int (nI zn_2), .int nu, .int ki, .int ce, .int lo])), (tc, .inl (cI, 16, .inl ftn_2))]) [0, 1] rfl
    have hD9 := hD.sub (ws' := [(k9, .inr (1, [.ref tc, .int (nI zn_2), .int nu, .int ki, .int ce, .int lo])), (tc, .inl (cI, 16, .inl ftn_2))]) [0, 1] (by decide) rfl
    exact W.iret (v := 0) hx hb hr (fun t ht hW => ⟨⟨0, (), rfl, trivial, ⟨zn_2, ftn_2, by rw [ht]; exact hP9, hD9, (by omega)⟩⟩, hS.F ht⟩) hS.2.2 dX1_begin_198
  by_cases k_19 : x = 16
  · subst k_19
    refine lv_tableIn (off := 179) (tgt := 197) hx hb dX1_begin_18 (by decide) (by decide) (by decide) (by decide) ?_
    refine lv_iconst (v := 0) hx hb dX1_begin_197 (by decide) ?_
    have hP9 := hP.sub (ws' := [(k9, .inr (1, [.ref tc, .int (nI zn_2), .int nu, .int ki, .int ce, .int lo])), (tc, .inl (cI, 16, .inl ftn_2))]) [0, 1] rfl
    have hD9 := hD.sub (ws' := [(k9, .inr (1, [.ref tc, .int (nI zn_2), .int nu, .int ki, .int ce, .int lo])), (tc, .inl (cI, 16, .inl ftn_2))]) [0, 1] (by decide) rfl
    exact W.iret (v := 0) hx hb hr (fun t ht hW => ⟨⟨0, (), rfl, trivial, ⟨zn_2, ftn_2, by rw [ht]; exact hP9, hD9, (by omega)⟩⟩, hS.F ht⟩) hS.2.2 dX1_begin_198
  by_cases k_20 : x = 17
  · subst k_20
    refine lv_tableIn (off := 179) (tgt := 197) hx hb dX1_begin_18 (by decide) (by decide) (by decide) (by decide) ?_
    refine lv_iconst (v := 0) hx hb dX1_begin_197 (by decide) ?_
    have hP9 := hP.sub (ws' := [(k9, .inr (1, [.ref tc, .int (nI zn_2), .int nu, .int ki, .int ce, .int lo])), (tc, .inl (cI, 16, .inl ftn_2))]) [0, 1] rfl
    have hD9 := hD.sub (ws' := [(k9, .inr (1, [.ref tc, .int (nI zn_2), .int nu, .int ki, .int ce, .int lo])), (tc, .inl (cI, 16, .inl ftn_2))]) [0, 1] (by decide) rfl
    exact W.iret (v := 0) hx hb hr (fun t ht hW => ⟨⟨0, (), rfl, trivial, ⟨zn_2, ftn_2, by rw [ht]; exact hP9, hD9, (by omega)⟩⟩, hS.F ht⟩) hS.2.2 dX1_begin_198
  by_cases k_21 : x = 18
  · subst k_21
    refine lv_tableIn (off := 179) (tgt := 197) hx hb dX1_begin_18 (by decide) (by decide) (by decide) (by decide) ?_
    refine lv_iconst (v := 0) hx hb dX1_begin_197 (by decide) ?_
    have hP9 := hP.sub (ws' := [(k9, .inr (1, [.ref tc, .int (nI zn_2), .int nu, .int ki, .int ce, .int lo])), (tc, .inl (cI, 16, .inl ftn_2))]) [0, 1] rfl
    have hD9 := hD.sub (ws' := [(k9, .inr (1, [.ref tc, .int (nI zn_2), .int nu, .int ki, .int ce, .int lo])), (tc, .inl (cI, 16, .inl ftn_2))]) [0, 1] (by decide) rfl
    exact W.iret (v := 0) hx hb hr (fun t ht hW => ⟨⟨0, (), rfl, trivial, ⟨zn_2, ftn_2, by rw [ht]; exact hP9, hD9, (by omega)⟩⟩, hS.F ht⟩) hS.2.2 dX1_begin_198
  by_cases k_22 : x = 19
  · subst k_22
    refine lv_tableIn (off := 179) (tgt := 197) hx hb dX1_begin_18 (by decide) (by decide) (by decide) (by decide) ?_
    refine lv_iconst (v := 0) hx hb dX1_begin_197 (by decide) ?_
    have hP9 := hP.sub (ws' := [(k9, .inr (1, [.ref tc, .int (nI zn_2), .int nu, .int ki, .int ce, .int lo])), (tc, .inl (cI, 16, .inl ftn_2))]) [0, 1] rfl
    have hD9 := hD.sub (ws' := [(k9, .inr (1, [.ref tc, .int (nI zn_2), .int nu, .int ki, .int ce, .int lo])), (tc, .inl (cI, 16, .inl ftn_2))]) [0, 1] (by decide) rfl
    exact W.iret (v := 0) hx hb hr (fun t ht hW => ⟨⟨0, (), rfl, trivial, ⟨zn_2, ftn_2, by rw [ht]; exact hP9, hD9, (by omega)⟩⟩, hS.F ht⟩) hS.2.2 dX1_begin_198
  by_cases k_23 : x = 20
  · subst k_23
    refine lv_tableIn (off := 124) (tgt := 142) hx hb dX1_begin_18 (by decide) (by decide) (by decide) (by decide) ?_
    refine lv_aload_n hx hb dX1_begin_142 rfl (lv_at hl 1 rfl) ?_
    refine va_get (D := (dC, dI)) (ci := 1) (v := .int nu) (C := RX1) (T := TX1) (N := 6) hx hb hts i_X1_begin_X1 hown hK hP 0 rfl rfl 2 (by decide) (hts (.fieldLink RX1 19 "MillTalk$Asks" "number" "I") (by decide +kernel)) (fun _ h9 => h9) rfl dX1_begin_143 ?_
    have hP9 := hP.sub (ws' := [(k9, .inr (1, [.ref tc, .int (nI zn_2), .int nu, .int ki, .int ce, .int lo])), (tc, .inl (cI, 16, .inl ftn_2))]) [0, 1] rfl
    have hD9 := hD.sub (ws' := [(k9, .inr (1, [.ref tc, .int (nI zn_2), .int nu, .int ki, .int ce, .int lo])), (tc, .inl (cI, 16, .inl ftn_2))]) [0, 1] (by decide) rfl
    exact W.iret (v := nu) hx hb hr (fun t ht hW => ⟨⟨nu, (), rfl, trivial, ⟨zn_2, ftn_2, by rw [ht]; exact hP9, hD9, (by omega)⟩⟩, hS.F ht⟩) hS.2.2 dX1_begin_146
  by_cases k_24 : x = 21
  · subst k_24
    refine lv_tableIn (off := 129) (tgt := 147) hx hb dX1_begin_18 (by decide) (by decide) (by decide) (by decide) ?_
    refine lv_aload_n hx hb dX1_begin_147 rfl (lv_at hl 1 rfl) ?_
    refine lv_bipush (v := 20) hx hb dX1_begin_148 (by decide) ?_
    refine lv_iload_n hx hb dX1_begin_150 rfl (lv_at hl 0 rfl) ?_
    have hPc_25 := hP.sub (ws' := [(k9, .inr (1, [.ref tc, .int (nI zn_2), .int nu, .int ki, .int ce, .int lo])), (tc, .inl (cI, 16, .inl ftn_2))]) [0, 1] rfl
    have hDc_25 := hD.sub (ws' := [(k9, .inr (1, [.ref tc, .int (nI zn_2), .int nu, .int ki, .int ce, .int lo])), (tc, .inl (cI, 16, .inl ftn_2))]) [0, 1] (by decide) rfl
    have hFc_25 := va_free (wc := [(k9, .inr (1, [.ref tc, .int (nI zn_2), .int nu, .int ki, .int ce, .int lo])), (tc, .inl (cI, 16, .inl ftn_2))]) hD hS hA [0, 1] rfl
    refine va_calli (va_runV (As := [.int 20, .int 7]) (rest := []) ⟨hx, hb, hml, hown, hts⟩ (r_X1_begin_7 l dC dI cI cZ cL cJ H.size k9 tc zn_2 nu ki ce lo ftn_2 20 (by omega)) (cwV 2 hts gX1_begin_X1_begin rfl rfl rfl (by decide +kernel) ⟨Nat.le_of_ble_eq_true rfl, Nat.le_of_ble_eq_true rfl⟩) ⟨fun a U g mk q => by obtain ⟨q0, q1, qP, qK, qD, qS⟩ := q; exact ⟨q0, q1, qP, va_K.moved (u := U) (U := U.calling g mk a) (Vm.Alike.refl U.vm) qK, qD, stt_same rfl qS⟩, va_recv hK hP (ci := 1) (q0 := 0) rfl rfl, fun U hU hW => ⟨rfl, by rw [hU], by rw [hU]; exact hPc_25, va_K.moved hW.alike hK, hDc_25.weaken (fun _ _ _ _ => trivial), by rw [hU]; exact stt_warm hW (stt_narrow (stt_kept hst hS.2.1) hFc_25)⟩⟩ rfl rfl hl.1 rfl (lv_room (Nat.le_of_ble_eq_true rfl)) dX1_begin_151 ⟨Nat.le_of_ble_eq_true rfl, Nat.le_of_ble_eq_true rfl⟩) hS (fun q _ h => hFc_25 q h) hFc_25 (fun r_25 u_25 t_25 H1 locs ht hvm h_25 hB hz1 hk1 hS => ?_)
    obtain ⟨zn_25, ftn_25, hP1, hD1, hF_25_0⟩ := hB
    rw [ht] at hP1
    obtain ⟨hP, hD⟩ := va_join (wr := []) (w1 := [(k9, .inr (1, [.ref tc, .int (nI zn_25), .int nu, .int ki, .int ce, .int lo])), (tc, .inl (cI, 16, .inl ftn_25))]) hP hD [0, 1] [] rfl rfl (by decide) (by decide) hk1 hFc_25 hP1 hD1
    generalize H1 = H at hP hS ⊢
    have hP : va_P (dC, dI) vwCl [(k9, .inr (1, [.ref tc, .int (nI zn_25), .int nu, .int ki, .int ce, .int lo])), (tc, .inl (cI, 16, .inl ftn_25))] H := hP
    have hD : va_D A [(k9, .inr (1, [.ref tc, .int (nI zn_25), .int nu, .int ki, .int ce, .int lo])), (tc, .inl (cI, 16, .inl ftn_25))] := hD
    refine lv_aload_n hx hb dX1_begin_154 rfl (lv_at hl 1 rfl) ?_
    refine va_get (D := (dC, dI)) (ci := 1) (v := .int ce) (C := RX1) (T := TX1) (N := 6) hx hb hts i_X1_begin_X1 hown hK hP 0 rfl rfl 4 (by decide) (hts (.fieldLink RX1 33 "MillTalk$Asks" "cell" "I") (by decide +kernel)) (fun _ h9 => h9) rfl dX1_begin_155 ?_
    refine lv_iadd hx hb dX1_begin_158 ?_
    refine lv_topi (fun v_26 e_26 => ?_)
    have hP9 := hP.sub (ws' := [(k9, .inr (1, [.ref tc, .int (nI zn_25), .int nu, .int ki, .int ce, .int lo])), (tc, .inl (cI, 16, .inl ftn_25))]) [0, 1] rfl
    have hD9 := hD.sub (ws' := [(k9, .inr (1, [.ref tc, .int (nI zn_25), .int nu, .int ki, .int ce, .int lo])), (tc, .inl (cI, 16, .inl ftn_25))]) [0, 1] (by decide) rfl
    exact W.iret (v := v_26) hx hb hr (fun t ht hW => ⟨⟨v_26, (), rfl, trivial, ⟨zn_25, ftn_25, by rw [ht]; exact hP9, hD9, (by omega)⟩⟩, hS.F ht⟩) hS.2.2 dX1_begin_159
  by_cases k_27 : x = 22
  · subst k_27
    refine lv_tableIn (off := 142) (tgt := 160) hx hb dX1_begin_18 (by decide) (by decide) (by decide) (by decide) ?_
    refine lv_aload_n hx hb dX1_begin_160 rfl (lv_at hl 1 rfl) ?_
    refine lv_bipush (v := 21) hx hb dX1_begin_161 (by decide) ?_
    refine lv_iload_n hx hb dX1_begin_163 rfl (lv_at hl 0 rfl) ?_
    have hPc_28 := hP.sub (ws' := [(k9, .inr (1, [.ref tc, .int (nI zn_2), .int nu, .int ki, .int ce, .int lo])), (tc, .inl (cI, 16, .inl ftn_2))]) [0, 1] rfl
    have hDc_28 := hD.sub (ws' := [(k9, .inr (1, [.ref tc, .int (nI zn_2), .int nu, .int ki, .int ce, .int lo])), (tc, .inl (cI, 16, .inl ftn_2))]) [0, 1] (by decide) rfl
    have hFc_28 := va_free (wc := [(k9, .inr (1, [.ref tc, .int (nI zn_2), .int nu, .int ki, .int ce, .int lo])), (tc, .inl (cI, 16, .inl ftn_2))]) hD hS hA [0, 1] rfl
    refine va_calli (va_runV (As := [.int 21, .int 7]) (rest := []) ⟨hx, hb, hml, hown, hts⟩ (r_X1_begin_7 l dC dI cI cZ cL cJ H.size k9 tc zn_2 nu ki ce lo ftn_2 21 (by omega)) (cwV 2 hts gX1_begin_X1_begin rfl rfl rfl (by decide +kernel) ⟨Nat.le_of_ble_eq_true rfl, Nat.le_of_ble_eq_true rfl⟩) ⟨fun a U g mk q => by obtain ⟨q0, q1, qP, qK, qD, qS⟩ := q; exact ⟨q0, q1, qP, va_K.moved (u := U) (U := U.calling g mk a) (Vm.Alike.refl U.vm) qK, qD, stt_same rfl qS⟩, va_recv hK hP (ci := 1) (q0 := 0) rfl rfl, fun U hU hW => ⟨rfl, by rw [hU], by rw [hU]; exact hPc_28, va_K.moved hW.alike hK, hDc_28.weaken (fun _ _ _ _ => trivial), by rw [hU]; exact stt_warm hW (stt_narrow (stt_kept hst hS.2.1) hFc_28)⟩⟩ rfl rfl hl.1 rfl (lv_room (Nat.le_of_ble_eq_true rfl)) dX1_begin_164 ⟨Nat.le_of_ble_eq_true rfl, Nat.le_of_ble_eq_true rfl⟩) hS (fun q _ h => hFc_28 q h) hFc_28 (fun r_28 u_28 t_28 H1 locs ht hvm h_28 hB hz1 hk1 hS => ?_)
    obtain ⟨zn_28, ftn_28, hP1, hD1, hF_28_0⟩ := hB
    rw [ht] at hP1
    obtain ⟨hP, hD⟩ := va_join (wr := []) (w1 := [(k9, .inr (1, [.ref tc, .int (nI zn_28), .int nu, .int ki, .int ce, .int lo])), (tc, .inl (cI, 16, .inl ftn_28))]) hP hD [0, 1] [] rfl rfl (by decide) (by decide) hk1 hFc_28 hP1 hD1
    generalize H1 = H at hP hS ⊢
    have hP : va_P (dC, dI) vwCl [(k9, .inr (1, [.ref tc, .int (nI zn_28), .int nu, .int ki, .int ce, .int lo])), (tc, .inl (cI, 16, .inl ftn_28))] H := hP
    have hD : va_D A [(k9, .inr (1, [.ref tc, .int (nI zn_28), .int nu, .int ki, .int ce, .int lo])), (tc, .inl (cI, 16, .inl ftn_28))] := hD
    refine lv_sipush (v := 1000) hx hb dX1_begin_167 (by decide) ?_
    refine lv_isub hx hb dX1_begin_170 ?_
    refine lv_topi (fun v_29 e_29 => ?_)
    have hP9 := hP.sub (ws' := [(k9, .inr (1, [.ref tc, .int (nI zn_28), .int nu, .int ki, .int ce, .int lo])), (tc, .inl (cI, 16, .inl ftn_28))]) [0, 1] rfl
    have hD9 := hD.sub (ws' := [(k9, .inr (1, [.ref tc, .int (nI zn_28), .int nu, .int ki, .int ce, .int lo])), (tc, .inl (cI, 16, .inl ftn_28))]) [0, 1] (by decide) rfl
    exact W.iret (v := v_29) hx hb hr (fun t ht hW => ⟨⟨v_29, (), rfl, trivial, ⟨zn_28, ftn_28, by rw [ht]; exact hP9, hD9, (by omega)⟩⟩, hS.F ht⟩) hS.2.2 dX1_begin_171
  by_cases k_30 : x = 23
  · subst k_30
    refine lv_tableIn (off := 154) (tgt := 172) hx hb dX1_begin_18 (by decide) (by decide) (by decide) (by decide) ?_
    refine lv_aload_n hx hb dX1_begin_172 rfl (lv_at hl 1 rfl) ?_
    refine lv_bipush (v := 20) hx hb dX1_begin_173 (by decide) ?_
    refine lv_iload_n hx hb dX1_begin_175 rfl (lv_at hl 0 rfl) ?_
    have hPc_31 := hP.sub (ws' := [(k9, .inr (1, [.ref tc, .int (nI zn_2), .int nu, .int ki, .int ce, .int lo])), (tc, .inl (cI, 16, .inl ftn_2))]) [0, 1] rfl
    have hDc_31 := hD.sub (ws' := [(k9, .inr (1, [.ref tc, .int (nI zn_2), .int nu, .int ki, .int ce, .int lo])), (tc, .inl (cI, 16, .inl ftn_2))]) [0, 1] (by decide) rfl
    have hFc_31 := va_free (wc := [(k9, .inr (1, [.ref tc, .int (nI zn_2), .int nu, .int ki, .int ce, .int lo])), (tc, .inl (cI, 16, .inl ftn_2))]) hD hS hA [0, 1] rfl
    refine va_calli (va_runV (As := [.int 20, .int 7]) (rest := []) ⟨hx, hb, hml, hown, hts⟩ (r_X1_begin_7 l dC dI cI cZ cL cJ H.size k9 tc zn_2 nu ki ce lo ftn_2 20 (by omega)) (cwV 2 hts gX1_begin_X1_begin rfl rfl rfl (by decide +kernel) ⟨Nat.le_of_ble_eq_true rfl, Nat.le_of_ble_eq_true rfl⟩) ⟨fun a U g mk q => by obtain ⟨q0, q1, qP, qK, qD, qS⟩ := q; exact ⟨q0, q1, qP, va_K.moved (u := U) (U := U.calling g mk a) (Vm.Alike.refl U.vm) qK, qD, stt_same rfl qS⟩, va_recv hK hP (ci := 1) (q0 := 0) rfl rfl, fun U hU hW => ⟨rfl, by rw [hU], by rw [hU]; exact hPc_31, va_K.moved hW.alike hK, hDc_31.weaken (fun _ _ _ _ => trivial), by rw [hU]; exact stt_warm hW (stt_narrow (stt_kept hst hS.2.1) hFc_31)⟩⟩ rfl rfl hl.1 rfl (lv_room (Nat.le_of_ble_eq_true rfl)) dX1_begin_176 ⟨Nat.le_of_ble_eq_true rfl, Nat.le_of_ble_eq_true rfl⟩) hS (fun q _ h => hFc_31 q h) hFc_31 (fun r_31 u_31 t_31 H1 locs ht hvm h_31 hB hz1 hk1 hS => ?_)
    obtain ⟨zn_31, ftn_31, hP1, hD1, hF_31_0⟩ := hB
    rw [ht] at hP1
    obtain ⟨hP, hD⟩ := va_join (wr := []) (w1 := [(k9, .inr (1, [.ref tc, .int (nI zn_31), .int nu, .int ki, .int ce, .int lo])), (tc, .inl (cI, 16, .inl ftn_31))]) hP hD [0, 1] [] rfl rfl (by decide) (by decide) hk1 hFc_31 hP1 hD1
    generalize H1 = H at hP hS ⊢
    have hP : va_P (dC, dI) vwCl [(k9, .inr (1, [.ref tc, .int (nI zn_31), .int nu, .int ki, .int ce, .int lo])), (tc, .inl (cI, 16, .inl ftn_31))] H := hP
    have hD : va_D A [(k9, .inr (1, [.ref tc, .int (nI zn_31), .int nu, .int ki, .int ce, .int lo])), (tc, .inl (cI, 16, .inl ftn_31))] := hD
    refine lv_aload_n hx hb dX1_begin_179 rfl (lv_at hl 1 rfl) ?_
    refine lv_iconst (v := 0) hx hb dX1_begin_180 (by decide) ?_
    refine lv_iload_n hx hb dX1_begin_181 rfl (lv_at hl 0 rfl) ?_
    have hPc_32 := hP.sub (ws' := [(k9, .inr (1, [.ref tc, .int (nI zn_31), .int nu, .int ki, .int ce, .int lo])), (tc, .inl (cI, 16, .inl ftn_31))]) [0, 1] rfl
    have hDc_32 := hD.sub (ws' := [(k9, .inr (1, [.ref tc, .int (nI zn_31), .int nu, .int ki, .int ce, .int lo])), (tc, .inl (cI, 16, .inl ftn_31))]) [0, 1] (by decide) rfl
    have hFc_32 := va_free (wc := [(k9, .inr (1, [.ref tc, .int (nI zn_31), .int nu, .int ki, .int ce, .int lo])), (tc, .inl (cI, 16, .inl ftn_31))]) hD hS hA [0, 1] rfl
    refine va_calli (va_runV (As := [.int 0, .int 7]) (rest := [.int r_31]) ⟨hx, hb, hml, hown, hts⟩ (r_X1_askAnew_7 l dC dI cI cZ cL cJ H.size k9 tc zn_31 nu ki ce lo ftn_31 0 (by omega)) (cwV 2 hts gX1_begin_X1_askAnew rfl rfl rfl (by decide +kernel) ⟨Nat.le_of_ble_eq_true rfl, Nat.le_of_ble_eq_true rfl⟩) ⟨fun a U g mk q => by obtain ⟨q0, q1, qP, qK, qD, qS⟩ := q; exact ⟨q0, q1, qP, va_K.moved (u := U) (U := U.calling g mk a) (Vm.Alike.refl U.vm) qK, qD, stt_same rfl qS⟩, va_recv hK hP (ci := 1) (q0 := 0) rfl rfl, fun U hU hW => ⟨rfl, by rw [hU], by rw [hU]; exact hPc_32, va_K.moved hW.alike hK, hDc_32.weaken (fun _ _ _ _ => trivial), by rw [hU]; exact stt_warm hW (stt_narrow (stt_kept hst hS.2.1) hFc_32)⟩⟩ rfl rfl hl.1 rfl (lv_room (Nat.le_of_ble_eq_true rfl)) dX1_begin_182 ⟨Nat.le_of_ble_eq_true rfl, Nat.le_of_ble_eq_true rfl⟩) hS (fun q _ h => hFc_32 q h) hFc_32 (fun r_32 u_32 t_32 H1 locs ht hvm h_32 hB hz1 hk1 hS => ?_)
    obtain ⟨zn_32, ftn_32, hP1, hD1, hF_32_0⟩ := hB
    rw [ht] at hP1
    obtain ⟨hP, hD⟩ := va_join (wr := []) (w1 := [(k9, .inr (1, [.ref tc, .int (nI zn_32), .int nu, .int ki, .int ce, .int lo])), (tc, .inl (cI, 16, .inl ftn_32))]) hP hD [0, 1] [] rfl rfl (by decide) (by decide) hk1 hFc_32 hP1 hD1
    generalize H1 = H at hP hS ⊢
    have hP : va_P (dC, dI) vwCl [(k9, .inr (1, [.ref tc, .int (nI zn_32), .int nu, .int ki, .int ce, .int lo])), (tc, .inl (cI, 16, .inl ftn_32))] H := hP
    have hD : va_D A [(k9, .inr (1, [.ref tc, .int (nI zn_32), .int nu, .int ki, .int ce, .int lo])), (tc, .inl (cI, 16, .inl ftn_32))] := hD
    refine lv_isub hx hb dX1_begin_185 ?_
    refine lv_topi (fun v_33 e_33 => ?_)
    have hP9 := hP.sub (ws' := [(k9, .inr (1, [.ref tc, .int (nI zn_32), .int nu, .int ki, .int ce, .int lo])), (tc, .inl (cI, 16, .inl ftn_32))]) [0, 1] rfl
    have hD9 := hD.sub (ws' := [(k9, .inr (1, [.ref tc, .int (nI zn_32), .int nu, .int ki, .int ce, .int lo])), (tc, .inl (cI, 16, .inl ftn_32))]) [0, 1] (by decide) rfl
    exact W.iret (v := v_33) hx hb hr (fun t ht hW => ⟨⟨v_33, (), rfl, trivial, ⟨zn_32, ftn_32, by rw [ht]; exact hP9, hD9, (by omega)⟩⟩, hS.F ht⟩) hS.2.2 dX1_begin_186
  by_cases k_34 : x = 24
  · subst k_34
    refine lv_tableIn (off := 169) (tgt := 187) hx hb dX1_begin_18 (by decide) (by decide) (by decide) (by decide) ?_
    refine lv_aload_n hx hb dX1_begin_187 rfl (lv_at hl 1 rfl) ?_
    refine lv_bipush (v := 21) hx hb dX1_begin_188 (by decide) ?_
    refine lv_iload_n hx hb dX1_begin_190 rfl (lv_at hl 0 rfl) ?_
    have hPc_35 := hP.sub (ws' := [(k9, .inr (1, [.ref tc, .int (nI zn_2), .int nu, .int ki, .int ce, .int lo])), (tc, .inl (cI, 16, .inl ftn_2))]) [0, 1] rfl
    have hDc_35 := hD.sub (ws' := [(k9, .inr (1, [.ref tc, .int (nI zn_2), .int nu, .int ki, .int ce, .int lo])), (tc, .inl (cI, 16, .inl ftn_2))]) [0, 1] (by decide) rfl
    have hFc_35 := va_free (wc := [(k9, .inr (1, [.ref tc, .int (nI zn_2), .int nu, .int ki, .int ce, .int lo])), (tc, .inl (cI, 16, .inl ftn_2))]) hD hS hA [0, 1] rfl
    refine va_calli (va_runV (As := [.int 21, .int 7]) (rest := []) ⟨hx, hb, hml, hown, hts⟩ (r_X1_begin_7 l dC dI cI cZ cL cJ H.size k9 tc zn_2 nu ki ce lo ftn_2 21 (by omega)) (cwV 2 hts gX1_begin_X1_begin rfl rfl rfl (by decide +kernel) ⟨Nat.le_of_ble_eq_true rfl, Nat.le_of_ble_eq_true rfl⟩) ⟨fun a U g mk q => by obtain ⟨q0, q1, qP, qK, qD, qS⟩ := q; exact ⟨q0, q1, qP, va_K.moved (u := U) (U := U.calling g mk a) (Vm.Alike.refl U.vm) qK, qD, stt_same rfl qS⟩, va_recv hK hP (ci := 1) (q0 := 0) rfl rfl, fun U hU hW => ⟨rfl, by rw [hU], by rw [hU]; exact hPc_35, va_K.moved hW.alike hK, hDc_35.weaken (fun _ _ _ _ => trivial), by rw [hU]; exact stt_warm hW (stt_narrow (stt_kept hst hS.2.1) hFc_35)⟩⟩ rfl rfl hl.1 rfl (lv_room (Nat.le_of_ble_eq_true rfl)) dX1_begin_191 ⟨Nat.le_of_ble_eq_true rfl, Nat.le_of_ble_eq_true rfl⟩) hS (fun q _ h => hFc_35 q h) hFc_35 (fun r_35 u_35 t_35 H1 locs ht hvm h_35 hB hz1 hk1 hS => ?_)
    obtain ⟨zn_35, ftn_35, hP1, hD1, hF_35_0⟩ := hB
    rw [ht] at hP1
    obtain ⟨hP, hD⟩ := va_join (wr := []) (w1 := [(k9, .inr (1, [.ref tc, .int (nI zn_35), .int nu, .int ki, .int ce, .int lo])), (tc, .inl (cI, 16, .inl ftn_35))]) hP hD [0, 1] [] rfl rfl (by decide) (by decide) hk1 hFc_35 hP1 hD1
    generalize H1 = H at hP hS ⊢
    have hP : va_P (dC, dI) vwCl [(k9, .inr (1, [.ref tc, .int (nI zn_35), .int nu, .int ki, .int ce, .int lo])), (tc, .inl (cI, 16, .inl ftn_35))] H := hP
    have hD : va_D A [(k9, .inr (1, [.ref tc, .int (nI zn_35), .int nu, .int ki, .int ce, .int lo])), (tc, .inl (cI, 16, .inl ftn_35))] := hD
    refine lv_iconst (v := 2) hx hb dX1_begin_194 (by decide) ?_
    refine lv_imul hx hb dX1_begin_195 ?_
    refine lv_topi (fun v_36 e_36 => ?_)
    have hP9 := hP.sub (ws' := [(k9, .inr (1, [.ref tc, .int (nI zn_35), .int nu, .int ki, .int ce, .int lo])), (tc, .inl (cI, 16, .inl ftn_35))]) [0, 1] rfl
    have hD9 := hD.sub (ws' := [(k9, .inr (1, [.ref tc, .int (nI zn_35), .int nu, .int ki, .int ce, .int lo])), (tc, .inl (cI, 16, .inl ftn_35))]) [0, 1] (by decide) rfl
    exact W.iret (v := v_36) hx hb hr (fun t ht hW => ⟨⟨v_36, (), rfl, trivial, ⟨zn_35, ftn_35, by rw [ht]; exact hP9, hD9, (by omega)⟩⟩, hS.F ht⟩) hS.2.2 dX1_begin_196
  have kT_4 := lv_neT k_4 (show (10 : Int32).toInt = 10 from rfl)
  have kT_5 := lv_neT k_5 (show (11 : Int32).toInt = 11 from rfl)
  have kT_9 := lv_neT k_9 (show (12 : Int32).toInt = 12 from rfl)
  have kT_12 := lv_neT k_12 (show (13 : Int32).toInt = 13 from rfl)
  have kT_15 := lv_neT k_15 (show (14 : Int32).toInt = 14 from rfl)
  have kT_18 := lv_neT k_18 (show (15 : Int32).toInt = 15 from rfl)
  have kT_19 := lv_neT k_19 (show (16 : Int32).toInt = 16 from rfl)
  have kT_20 := lv_neT k_20 (show (17 : Int32).toInt = 17 from rfl)
  have kT_21 := lv_neT k_21 (show (18 : Int32).toInt = 18 from rfl)
  have kT_22 := lv_neT k_22 (show (19 : Int32).toInt = 19 from rfl)
  have kT_23 := lv_neT k_23 (show (20 : Int32).toInt = 20 from rfl)
  have kT_24 := lv_neT k_24 (show (21 : Int32).toInt = 21 from rfl)
  have kT_27 := lv_neT k_27 (show (22 : Int32).toInt = 22 from rfl)
  have kT_30 := lv_neT k_30 (show (23 : Int32).toInt = 23 from rfl)
  have kT_34 := lv_neT k_34 (show (24 : Int32).toInt = 24 from rfl)
  refine lv_tableOut (tgt := 197) hx hb dX1_begin_18 (by omega) (by decide) ?_
  refine lv_iconst (v := 0) hx hb dX1_begin_197 (by decide) ?_
  have hP9 := hP.sub (ws' := [(k9, .inr (1, [.ref tc, .int (nI zn_2), .int nu, .int ki, .int ce, .int lo])), (tc, .inl (cI, 16, .inl ftn_2))]) [0, 1] rfl
  have hD9 := hD.sub (ws' := [(k9, .inr (1, [.ref tc, .int (nI zn_2), .int nu, .int ki, .int ce, .int lo])), (tc, .inl (cI, 16, .inl ftn_2))]) [0, 1] (by decide) rfl
  exact W.iret (v := 0) hx hb hr (fun t ht hW => ⟨⟨0, (), rfl, trivial, ⟨zn_2, ftn_2, by rw [ht]; exact hP9, hD9, (by omega)⟩⟩, hS.F ht⟩) hS.2.2 dX1_begin_198
set_option maxHeartbeats 4000000 in
set_option maxRecDepth 100000 in
theorem r_X1_askAnew_6 (l : Launch) (dC : Nat → ClassId) (dI : Nat → Nat → Nat) (cI cZ cL cJ : ClassId) (sz : Nat) (k9 : Nat) (tc : Nat) (z : Nat) (nu : Int32) (ki : Int32) (ce : Int32) (lo : Int32) (ft : Nat → Int32) (x : Int32) (hz : z ≤ 16) : Met l yX1_askAnew wsX1_askAnew ({ frames := 21, cells := 0, slots := 0, locals := 474 }) (va_Pc [.ref k9, .int x, .int 6] (fun U => U.heap.size = sz ∧ va_P (dC, dI) vwCl [(k9, .inr (1, [.ref tc, .int (nI z), .int nu, .int ki, .int ce, .int lo])), (tc, .inl (cI, 16, .inl ft))] U.heap ∧ va_K (dC, dI) vwCl [(cI, .int), (cZ, .boolean), (cL, .object RX3), (cJ, .array .int)] U ∧ va_D (fun _ => True) [(k9, .inr (1, [.ref tc, .int (nI z), .int nu, .int ki, .int ce, .int lo])), (tc, .inl (cI, 16, .inl ft))] ∧ stt (va_A [(k9, .inr (1, [.ref tc, .int (nI z), .int nu, .int ki, .int ce, .int lo])), (tc, .inl (cI, 16, .inl ft))] sz) U U.heap)) (va_Qi (fun r (_ : Unit) => True) (fun (_ : Unit) t => ∃ (zn : Nat) (ftn : Nat → Int32), va_P (dC, dI) vwCl [(k9, .inr (1, [.ref tc, .int (nI zn), .int nu, .int ki, .int ce, .int lo])), (tc, .inl (cI, 16, .inl ftn))] t.heap ∧ va_D (va_A [(k9, .inr (1, [.ref tc, .int (nI z), .int nu, .int ki, .int ce, .int lo])), (tc, .inl (cI, 16, .inl ft))] sz) [(k9, .inr (1, [.ref tc, .int (nI zn), .int nu, .int ki, .int ce, .int lo])), (tc, .inl (cI, 16, .inl ftn))] ∧ zn ≤ 16) (va_A [(k9, .inr (1, [.ref tc, .int (nI z), .int nu, .int ki, .int ce, .int lo])), (tc, .inl (cI, 16, .inl ft))] sz)) 0 0 (va_A [(k9, .inr (1, [.ref tc, .int (nI z), .int nu, .int ki, .int ce, .int lo])), (tc, .inl (cI, 16, .inl ft))] sz) := by
  refine Met.ofW (cc := cX1_askAnew) (maxL := 3) (ret := (some .int)) (by decide) rfl ?_
  intro p e s m args below meth c s₁ B hml hv
  obtain ⟨rfl, hsz, hP, hK, hD0, hst⟩ := hv
  have hx := B.exec
  have hb := B.bytes
  have hr := B.returns
  have hts := atoms_spec (ws := wsX1_askAnew) B.pre
  have hown : s.vm.findClass RX1 = some m.cls := findClass_of_methodNamed B.named
  have hlocks := B.notSynchronized
  subst hsz
  have hD := hD0.self (sz := s.heap.size)
  generalize hAe : va_A [(k9, .inr (1, [.ref tc, .int (nI z), .int nu, .int ki, .int ce, .int lo])), (tc, .inl (cI, 16, .inl ft))] s.heap.size = A at hD hst ⊢
  have hA : ∀ q : Nat, s.heap.size ≤ q → A q := fun q h => by rw [← hAe]; exact Or.inr h
  have hS : va_S A s.heap s.heap [] := va_S.rf
  have hP : va_P (dC, dI) vwCl [(k9, .inr (1, [.ref tc, .int (nI z), .int nu, .int ki, .int ce, .int lo])), (tc, .inl (cI, 16, .inl ft))] s.heap := hP
  obtain ⟨⟨tb1, hZ1, hT1⟩, ⟨tb2, hZ2, hT2⟩, ⟨tb3, hZ3, hT3⟩, hNk⟩ := id hst
  have hl := lv_entry ([.ref k9, .int x, .int 6]) (n := 3) (Nat.le_of_ble_eq_true rfl)
  rw [lg_entry_eq]
  generalize (lg_sl ([.ref k9, .int x, .int 6]) ++ List.replicate (3 - (lg_sl ([.ref k9, .int x, .int 6])).length) Slot.unset).toArray = ls at hl ⊢
  have hl : lv_has ls 3 [(0, .ref k9), (1, .int x), (2, .int 6)] := hl
  refine lv_aload_n hx hb dX1_askAnew_0 rfl (lv_at hl 0 rfl) ?_
  refine lv_aload_n hx hb dX1_askAnew_1 rfl (lv_at hl 0 rfl) ?_
  refine lv_iload_n hx hb dX1_askAnew_2 rfl (lv_at hl 1 rfl) ?_
  have hPc_1 := hP.sub (ws' := [(k9, .inr (1, [.ref tc, .int (nI z), .int nu, .int ki, .int ce, .int lo]))]) [0] rfl
  refine vp_callSi (W.runV (As := [.int x]) (rest := [.ref k9]) ⟨hx, hb, hml, hown, hts⟩ (r_X1_bodyFor l dC dI cI cZ cL cJ k9 tc z nu ki ce lo x ) (cwV 1 hts gX1_askAnew_X1_bodyFor rfl rfl rfl (by decide +kernel) ⟨Nat.le_of_ble_eq_true rfl, Nat.le_of_ble_eq_true rfl⟩) ⟨fun a U g mk q => by obtain ⟨q0, qP, qK, qS⟩ := q; exact ⟨q0, qP, va_K.moved (u := U) (U := U.calling g mk a) (Vm.Alike.refl U.vm) qK, stt_same rfl qS⟩, va_recv hK hP (ci := 1) (q0 := 0) rfl rfl, fun U hU hW => ⟨rfl, by rw [hU]; exact hPc_1, va_K.moved hW.alike hK, by rw [hU]; exact stt_warm hW (stt_narrow (stt_kept hst hS.2.1) (fun _ h => h.elim))⟩⟩ rfl rfl hl.1 rfl (lv_room (Nat.le_of_ble_eq_true rfl)) dX1_askAnew_3 ⟨Nat.le_of_ble_eq_true rfl, Nat.le_of_ble_eq_true rfl⟩) (fun r_1 h_1 => ?_)
  refine lv_iload_n hx hb dX1_askAnew_6 rfl (lv_at hl 2 rfl) ?_
  have hPc_2 := hP.sub (ws' := [(k9, .inr (1, [.ref tc, .int (nI z), .int nu, .int ki, .int ce, .int lo])), (tc, .inl (cI, 16, .inl ft))]) [0, 1] rfl
  have hDc_2 := hD.sub (ws' := [(k9, .inr (1, [.ref tc, .int (nI z), .int nu, .int ki, .int ce, .int lo])), (tc, .inl (cI, 16, .inl ft))]) [0, 1] (by decide) rfl
  have hFc_2 := va_free (wc := [(k9, .inr (1, [.ref tc, .int (nI z), .int nu, .int ki, .int ce, .int lo])), (tc, .inl (cI, 16, .inl ft))]) hD hS hA [0, 1] rfl
  refine va_calli (va_runV (As := [.int r_1, .int 6]) (rest := []) ⟨hx, hb, hml, hown, hts⟩ (r_X1_begin_6 l dC dI cI cZ cL cJ s.heap.size k9 tc z nu ki ce lo ft r_1 (by omega)) (cwV 2 hts gX1_askAnew_X1_begin rfl rfl rfl (by decide +kernel) ⟨Nat.le_of_ble_eq_true rfl, Nat.le_of_ble_eq_true rfl⟩) ⟨fun a U g mk q => by obtain ⟨q0, q1, qP, qK, qD, qS⟩ := q; exact ⟨q0, q1, qP, va_K.moved (u := U) (U := U.calling g mk a) (Vm.Alike.refl U.vm) qK, qD, stt_same rfl qS⟩, va_recv hK hP (ci := 1) (q0 := 0) rfl rfl, fun U hU hW => ⟨rfl, by rw [hU], by rw [hU]; exact hPc_2, va_K.moved hW.alike hK, hDc_2.weaken (fun _ _ _ _ => trivial), by rw [hU]; exact stt_warm hW (stt_narrow (stt_kept hst hS.2.1) hFc_2)⟩⟩ rfl rfl hl.1 rfl (lv_room (Nat.le_of_ble_eq_true rfl)) dX1_askAnew_7 ⟨Nat.le_of_ble_eq_true rfl, Nat.le_of_ble_eq_true rfl⟩) hS (fun q _ h => hFc_2 q h) hFc_2 (fun r_2 u_2 t_2 H1 locs ht hvm h_2 hB hz1 hk1 hS => ?_)
  obtain ⟨zn_2, ftn_2, hP1, hD1, hF_2_0⟩ := hB
  rw [ht] at hP1
  obtain ⟨hP, hD⟩ := va_join (wr := []) (w1 := [(k9, .inr (1, [.ref tc, .int (nI zn_2), .int nu, .int ki, .int ce, .int lo])), (tc, .inl (cI, 16, .inl ftn_2))]) hP hD [0, 1] [] rfl rfl (by decide) (by decide) hk1 hFc_2 hP1 hD1
  generalize H1 = H at hP hS ⊢
  have hP : va_P (dC, dI) vwCl [(k9, .inr (1, [.ref tc, .int (nI zn_2), .int nu, .int ki, .int ce, .int lo])), (tc, .inl (cI, 16, .inl ftn_2))] H := hP
  have hD : va_D A [(k9, .inr (1, [.ref tc, .int (nI zn_2), .int nu, .int ki, .int ce, .int lo])), (tc, .inl (cI, 16, .inl ftn_2))] := hD
  have hP9 := hP.sub (ws' := [(k9, .inr (1, [.ref tc, .int (nI zn_2), .int nu, .int ki, .int ce, .int lo])), (tc, .inl (cI, 16, .inl ftn_2))]) [0, 1] rfl
  have hD9 := hD.sub (ws' := [(k9, .inr (1, [.ref tc, .int (nI zn_2), .int nu, .int ki, .int ce, .int lo])), (tc, .inl (cI, 16, .inl ftn_2))]) [0, 1] (by decide) rfl
  exact W.iret (v := r_2) hx hb hr (fun t ht hW => ⟨⟨r_2, (), rfl, trivial, ⟨zn_2, ftn_2, by rw [ht]; exact hP9, hD9, (by omega)⟩⟩, hS.F ht⟩) hS.2.2 dX1_askAnew_10
set_option maxHeartbeats 4000000 in
set_option maxRecDepth 100000 in
theorem r_X1_begin_5 (l : Launch) (dC : Nat → ClassId) (dI : Nat → Nat → Nat) (cI cZ cL cJ : ClassId) (sz : Nat) (k9 : Nat) (tc : Nat) (z : Nat) (nu : Int32) (ki : Int32) (ce : Int32) (lo : Int32) (ft : Nat → Int32) (x : Int32) (hz : z ≤ 16) : Met l yX1_begin wsX1_begin ({ frames := 22, cells := 0, slots := 0, locals := 496 }) (va_Pc [.ref k9, .int x, .int 5] (fun U => U.heap.size = sz ∧ va_P (dC, dI) vwCl [(k9, .inr (1, [.ref tc, .int (nI z), .int nu, .int ki, .int ce, .int lo])), (tc, .inl (cI, 16, .inl ft))] U.heap ∧ va_K (dC, dI) vwCl [(cI, .int), (cZ, .boolean), (cL, .object RX3), (cJ, .array .int)] U ∧ va_D (fun _ => True) [(k9, .inr (1, [.ref tc, .int (nI z), .int nu, .int ki, .int ce, .int lo])), (tc, .inl (cI, 16, .inl ft))] ∧ stt (va_A [(k9, .inr (1, [.ref tc, .int (nI z), .int nu, .int ki, .int ce, .int lo])), (tc, .inl (cI, 16, .inl ft))] sz) U U.heap)) (va_Qi (fun r (_ : Unit) => True) (fun (_ : Unit) t => ∃ (zn : Nat) (ftn : Nat → Int32), va_P (dC, dI) vwCl [(k9, .inr (1, [.ref tc, .int (nI zn), .int nu, .int ki, .int ce, .int lo])), (tc, .inl (cI, 16, .inl ftn))] t.heap ∧ va_D (va_A [(k9, .inr (1, [.ref tc, .int (nI z), .int nu, .int ki, .int ce, .int lo])), (tc, .inl (cI, 16, .inl ft))] sz) [(k9, .inr (1, [.ref tc, .int (nI zn), .int nu, .int ki, .int ce, .int lo])), (tc, .inl (cI, 16, .inl ftn))] ∧ zn ≤ 16) (va_A [(k9, .inr (1, [.ref tc, .int (nI z), .int nu, .int ki, .int ce, .int lo])), (tc, .inl (cI, 16, .inl ft))] sz)) 0 0 (va_A [(k9, .inr (1, [.ref tc, .int (nI z), .int nu, .int ki, .int ce, .int lo])), (tc, .inl (cI, 16, .inl ft))] sz) := by
  refine Met.ofW (cc := cX1_begin) (maxL := 4) (ret := (some .int)) (by decide) rfl ?_
  intro p e s m args below meth c s₁ B hml hv
  obtain ⟨rfl, hsz, hP, hK, hD0, hst⟩ := hv
  have hx := B.exec
  have hb := B.bytes
  have hr := B.returns
  have hts := atoms_spec (ws := wsX1_begin) B.pre
  have hown : s.vm.findClass RX1 = some m.cls := findClass_of_methodNamed B.named
  have hlocks := B.notSynchronized
  subst hsz
  have hD := hD0.self (sz := s.heap.size)
  generalize hAe : va_A [(k9, .inr (1, [.ref tc, .int (nI z), .int nu, .int ki, .int ce, .int lo])), (tc, .inl (cI, 16, .inl ft))] s.heap.size = A at hD hst ⊢
  have hA : ∀ q : Nat, s.heap.size ≤ q → A q := fun q h => by rw [← hAe]; exact Or.inr h
  have hS : va_S A s.heap s.heap [] := va_S.rf
  have hP : va_P (dC, dI) vwCl [(k9, .inr (1, [.ref tc, .int (nI z), .int nu, .int ki, .int ce, .int lo])), (tc, .inl (cI, 16, .inl ft))] s.heap := hP
  obtain ⟨⟨tb1, hZ1, hT1⟩, ⟨tb2, hZ2, hT2⟩, ⟨tb3, hZ3, hT3⟩, hNk⟩ := id hst
  have hl := lv_entry ([.ref k9, .int x, .int 5]) (n := 4) (Nat.le_of_ble_eq_true rfl)
  rw [lg_entry_eq]
  generalize (lg_sl ([.ref k9, .int x, .int 5]) ++ List.replicate (4 - (lg_sl ([.ref k9, .int x, .int 5])).length) Slot.unset).toArray = ls at hl ⊢
  have hl : lv_has ls 4 [(0, .ref k9), (1, .int x), (2, .int 5)] := hl
  refine lv_iload_n hx hb dX1_begin_0 rfl (lv_at hl 2 rfl) ?_
  refine lv_bipush (v := 16) hx hb dX1_begin_1 (by decide) ?_
  refine lv_icmp_lt (tgt := 8) hx hb dX1_begin_3 (by decide) (fun _ => ?_) (fun c_ => absurd (by decide) c_)
  refine lv_aload_n hx hb dX1_begin_8 rfl (lv_at hl 0 rfl) ?_
  refine lv_iload_n hx hb dX1_begin_9 rfl (lv_at hl 1 rfl) ?_
  have hPc_2 := hP.sub (ws' := [(k9, .inr (1, [.ref tc, .int (nI z), .int nu, .int ki, .int ce, .int lo])), (tc, .inl (cI, 16, .inl ft))]) [0, 1] rfl
  have hDc_2 := hD.sub (ws' := [(k9, .inr (1, [.ref tc, .int (nI z), .int nu, .int ki, .int ce, .int lo])), (tc, .inl (cI, 16, .inl ft))]) [0, 1] (by decide) rfl
  have hFc_2 := va_free (wc := [(k9, .inr (1, [.ref tc, .int (nI z), .int nu, .int ki, .int ce, .int lo])), (tc, .inl (cI, 16, .inl ft))]) hD hS hA [0, 1] rfl
  refine va_callv (va_runV (As := [.int x]) (rest := []) ⟨hx, hb, hml, hown, hts⟩ (r_X1_leave l dC dI cI cZ cL cJ s.heap.size k9 tc z nu ki ce lo ft x (by omega)) (cwV 1 hts gX1_begin_X1_leave rfl rfl rfl (by decide +kernel) ⟨Nat.le_of_ble_eq_true rfl, Nat.le_of_ble_eq_true rfl⟩) ⟨fun a U g mk q => by obtain ⟨q0, q1, qP, qK, qD⟩ := q; exact ⟨q0, q1, qP, va_K.moved (u := U) (U := U.calling g mk a) (Vm.Alike.refl U.vm) qK, qD⟩, va_recv hK hP (ci := 1) (q0 := 0) rfl rfl, fun U hU hW => ⟨rfl, by rw [hU], by rw [hU]; exact hPc_2, va_K.moved hW.alike hK, hDc_2.weaken (fun _ _ _ _ => trivial)⟩⟩ rfl rfl hl.1 rfl (lv_room (Nat.le_of_ble_eq_true rfl)) dX1_begin_10 ⟨Nat.le_of_ble_eq_true rfl, Nat.le_of_ble_eq_true rfl⟩) hS (fun q _ h => hFc_2 q h) hFc_2 (fun u_2 t_2 H1 locs ht hvm h_2 hB hz1 hk1 hS => ?_)
  obtain ⟨zn_2, ftn_2, hP1, hD1, hF_2_0⟩ := hB
  rw [ht] at hP1
  obtain ⟨hP, hD⟩ := va_join (wr := []) (w1 := [(k9, .inr (1, [.ref tc, .int (nI zn_2), .int nu, .int ki, .int ce, .int lo])), (tc, .inl (cI, 16, .inl ftn_2))]) hP hD [0, 1] [] rfl rfl (by decide) (by decide) hk1 hFc_2 hP1 hD1
  generalize H1 = H at hP hS ⊢
  have hP : va_P (dC, dI) vwCl [(k9, .inr (1, [.ref tc, .int (nI zn_2), .int nu, .int ki, .int ce, .int lo])), (tc, .inl (cI, 16, .inl ftn_2))] H := hP
  have hD : va_D A [(k9, .inr (1, [.ref tc, .int (nI zn_2), .int nu, .int ki, .int ce, .int lo])), (tc, .inl (cI, 16, .inl ftn_2))] := hD
  refine lv_iload_n hx hb dX1_begin_13 rfl (lv_at hl 2 rfl) ?_
  refine lv_iconst (v := 1) hx hb dX1_begin_14 (by decide) ?_
  refine lv_iadd hx hb dX1_begin_15 ?_
  refine lv_topi (fun v_3 e_3 => ?_)
  obtain rfl : v_3 = 6 := (e_3).trans (by decide)
  refine lv_istore_n (lv' := [(3, .int 6), (0, .ref k9), (1, .int x), (2, .int 5)]) hx hb dX1_begin_16 rfl hl (by decide) rfl (fun ls hl => ?_)
  refine lv_iload_n hx hb dX1_begin_17 rfl (lv_at hl 2 rfl) ?_
  by_cases k_4 : x = 10
  · subst k_4
    refine lv_tableIn (off := 74) (tgt := 92) hx hb dX1_begin_18 (by decide) (by decide) (by decide) (by decide) ?_
    refine lv_aload_n hx hb dX1_begin_92 rfl (lv_at hl 1 rfl) ?_
    refine va_get (D := (dC, dI)) (ci := 1) (v := .int lo) (C := RX1) (T := TX1) (N := 6) hx hb hts i_X1_begin_X1 hown hK hP 0 rfl rfl 5 (by decide) (hts (.fieldLink RX1 39 "MillTalk$Asks" "loud" "I") (by decide +kernel)) (fun _ h9 => h9) rfl dX1_begin_93 ?_
    have hP9 := hP.sub (ws' := [(k9, .inr (1, [.ref tc, .int (nI zn_2), .int nu, .int ki, .int ce, .int lo])), (tc, .inl (cI, 16, .inl ftn_2))]) [0, 1] rfl
    have hD9 := hD.sub (ws' := [(k9, .inr (1, [.ref tc, .int (nI zn_2), .int nu, .int ki, .int ce, .int lo])), (tc, .inl (cI, 16, .inl ftn_2))]) [0, 1] (by decide) rfl
    exact W.iret (v := lo) hx hb hr (fun t ht hW => ⟨⟨lo, (), rfl, trivial, ⟨zn_2, ftn_2, by rw [ht]; exact hP9, hD9, (by omega)⟩⟩, hS.F ht⟩) hS.2.2 dX1_begin_96
  by_cases k_5 : x = 11
  · subst k_5
    refine lv_tableIn (off := 79) (tgt := 97) hx hb dX1_begin_18 (by decide) (by decide) (by decide) (by decide) ?_
    refine lv_aload_n hx hb dX1_begin_97 rfl (lv_at hl 1 rfl) ?_
    refine lv_bipush (v := 10) hx hb dX1_begin_98 (by decide) ?_
    refine lv_iload_n hx hb dX1_begin_100 rfl (lv_at hl 0 rfl) ?_
    have hPc_6 := hP.sub (ws' := [(k9, .inr (1, [.ref tc, .int (nI zn_2), .int nu, .int ki, .int ce, .int lo])), (tc, .inl (cI, 16, .inl ftn_2))]) [0, 1] rfl
    have hDc_6 := hD.sub (ws' := [(k9, .inr (1, [.ref tc, .int (nI zn_2), .int nu, .int ki, .int ce, .int lo])), (tc, .inl (cI, 16, .inl ftn_2))]) [0, 1] (by decide) rfl
    have hFc_6 := va_free (wc := [(k9, .inr (1, [.ref tc, .int (nI zn_2), .int nu, .int ki, .int ce, .int lo])), (tc, .inl (cI, 16, .inl ftn_2))]) hD hS hA [0, 1] rfl
    refine va_calli (va_runV (As := [.int 10, .int 6]) (rest := []) ⟨hx, hb, hml, hown, hts⟩ (r_X1_begin_6 l dC dI cI cZ cL cJ H.size k9 tc zn_2 nu ki ce lo ftn_2 10 (by omega)) (cwV 2 hts gX1_begin_X1_begin rfl rfl rfl (by decide +kernel) ⟨Nat.le_of_ble_eq_true rfl, Nat.le_of_ble_eq_true rfl⟩) ⟨fun a U g mk q => by obtain ⟨q0, q1, qP, qK, qD, qS⟩ := q; exact ⟨q0, q1, qP, va_K.moved (u := U) (U := U.calling g mk a) (Vm.Alike.refl U.vm) qK, qD, stt_same rfl qS⟩, va_recv hK hP (ci := 1) (q0 := 0) rfl rfl, fun U hU hW => ⟨rfl, by rw [hU], by rw [hU]; exact hPc_6, va_K.moved hW.alike hK, hDc_6.weaken (fun _ _ _ _ => trivial), by rw [hU]; exact stt_warm hW (stt_narrow (stt_kept hst hS.2.1) hFc_6)⟩⟩ rfl rfl hl.1 rfl (lv_room (Nat.le_of_ble_eq_true rfl)) dX1_begin_101 ⟨Nat.le_of_ble_eq_true rfl, Nat.le_of_ble_eq_true rfl⟩) hS (fun q _ h => hFc_6 q h) hFc_6 (fun r_6 u_6 t_6 H1 locs ht hvm h_6 hB hz1 hk1 hS => ?_)
    obtain ⟨zn_6, ftn_6, hP1, hD1, hF_6_0⟩ := hB
    rw [ht] at hP1
    obtain ⟨hP, hD⟩ := va_join (wr := []) (w1 := [(k9, .inr (1, [.ref tc, .int (nI zn_6), .int nu, .int ki, .int ce, .int lo])), (tc, .inl (cI, 16, .inl ftn_6))]) hP hD [0, 1] [] rfl rfl (by decide) (by decide) hk1 hFc_6 hP1 hD1
    generalize H1 = H at hP hS ⊢
    have hP : va_P (dC, dI) vwCl [(k9, .inr (1, [.ref tc, .int (nI zn_6), .int nu, .int ki, .int ce, .int lo])), (tc, .inl (cI, 16, .inl ftn_6))] H := hP
    have hD : va_D A [(k9, .inr (1, [.ref tc, .int (nI zn_6), .int nu, .int ki, .int ce, .int lo])), (tc, .inl (cI, 16, .inl ftn_6))] := hD
    refine lv_aload_n hx hb dX1_begin_104 rfl (lv_at hl 1 rfl) ?_
    refine lv_iconst (v := 1) hx hb dX1_begin_105 (by decide) ?_
    refine lv_iload_n hx hb dX1_begin_106 rfl (lv_at hl 0 rfl) ?_
    have hPc_7 := hP.sub (ws' := [(k9, .inr (1, [.ref tc, .int (nI zn_6), .int nu, .int ki, .int ce, .int lo])), (tc, .inl (cI, 16, .inl ftn_6))]) [0, 1] rfl
    have hDc_7 := hD.sub (ws' := [(k9, .inr (1, [.ref tc, .int (nI zn_6), .int nu, .int ki, .int ce, .int lo])), (tc, .inl (cI, 16, .inl ftn_6))]) [0, 1] (by decide) rfl
    have hFc_7 := va_free (wc := [(k9, .inr (1, [.ref tc, .int (nI zn_6), .int nu, .int ki, .int ce, .int lo])), (tc, .inl (cI, 16, .inl ftn_6))]) hD hS hA [0, 1] rfl
    refine va_calli (va_runV (As := [.int 1, .int 6]) (rest := [.int r_6]) ⟨hx, hb, hml, hown, hts⟩ (r_X1_askAnew_6 l dC dI cI cZ cL cJ H.size k9 tc zn_6 nu ki ce lo ftn_6 1 (by omega)) (cwV 2 hts gX1_begin_X1_askAnew rfl rfl rfl (by decide +kernel) ⟨Nat.le_of_ble_eq_true rfl, Nat.le_of_ble_eq_true rfl⟩) ⟨fun a U g mk q => by obtain ⟨q0, q1, qP, qK, qD, qS⟩ := q; exact ⟨q0, q1, qP, va_K.moved (u := U) (U := U.calling g mk a) (Vm.Alike.refl U.vm) qK, qD, stt_same rfl qS⟩, va_recv hK hP (ci := 1) (q0 := 0) rfl rfl, fun U hU hW => ⟨rfl, by rw [hU], by rw [hU]; exact hPc_7, va_K.moved hW.alike hK, hDc_7.weaken (fun _ _ _ _ => trivial), by rw [hU]; exact stt_warm hW (stt_narrow (stt_kept hst hS.2.1) hFc_7)⟩⟩ rfl rfl hl.1 rfl (lv_room (Nat.le_of_ble_eq_true rfl)) dX1_begin_107 ⟨Nat.le_of_ble_eq_true rfl, Nat.le_of_ble_eq_true rfl⟩) hS (fun q _ h => hFc_7 q h) hFc_7 (fun r_7 u_7 t_7 H1 locs ht hvm h_7 hB hz1 hk1 hS => ?_)
    obtain ⟨zn_7, ftn_7, hP1, hD1, hF_7_0⟩ := hB
    rw [ht] at hP1
    obtain ⟨hP, hD⟩ := va_join (wr := []) (w1 := [(k9, .inr (1, [.ref tc, .int (nI zn_7), .int nu, .int ki, .int ce, .int lo])), (tc, .inl (cI, 16, .inl ftn_7))]) hP hD [0, 1] [] rfl rfl (by decide) (by decide) hk1 hFc_7 hP1 hD1
    generalize H1 = H at hP hS ⊢
    have hP : va_P (dC, dI) vwCl [(k9, .inr (1, [.ref tc, .int (nI zn_7), .int nu, .int ki, .int ce, .int lo])), (tc, .inl (cI, 16, .inl ftn_7))] H := hP
    have hD : va_D A [(k9, .inr (1, [.ref tc, .int (nI zn_7), .int nu, .int ki, .int ce, .int lo])), (tc, .inl (cI, 16, .inl ftn_7))] := hD
    refine lv_iadd hx hb dX1_begin_110 ?_
    refine lv_topi (fun v_8 e_8 => ?_)
    have hP9 := hP.sub (ws' := [(k9, .inr (1, [.ref tc, .int (nI zn_7), .int nu, .int ki, .int ce, .int lo])), (tc, .inl (cI, 16, .inl ftn_7))]) [0, 1] rfl
    have hD9 := hD.sub (ws' := [(k9, .inr (1, [.ref tc, .int (nI zn_7), .int nu, .int ki, .int ce, .int lo])), (tc, .inl (cI, 16, .inl ftn_7))]) [0, 1] (by decide) rfl
    exact W.iret (v := v_8) hx hb hr (fun t ht hW => ⟨⟨v_8, (), rfl, trivial, ⟨zn_7, ftn_7, by rw [ht]; exact hP9, hD9, (by omega)⟩⟩, hS.F ht⟩) hS.2.2 dX1_begin_111
  by_cases k_9 : x = 12
  · subst k_9
    refine lv_tableIn (off := 94) (tgt := 112) hx hb dX1_begin_18 (by decide) (by decide) (by decide) (by decide) ?_
    refine lv_aload_n hx hb dX1_begin_112 rfl (lv_at hl 1 rfl) ?_
    refine lv_bipush (v := 11) hx hb dX1_begin_113 (by decide) ?_
    refine lv_iload_n hx hb dX1_begin_115 rfl (lv_at hl 0 rfl) ?_
    have hPc_10 := hP.sub (ws' := [(k9, .inr (1, [.ref tc, .int (nI zn_2), .int nu, .int ki, .int ce, .int lo])), (tc, .inl (cI, 16, .inl ftn_2))]) [0, 1] rfl
    have hDc_10 := hD.sub (ws' := [(k9, .inr (1, [.ref tc, .int (nI zn_2), .int nu, .int ki, .int ce, .int lo])), (tc, .inl (cI, 16, .inl ftn_2))]) [0, 1] (by decide) rfl
    have hFc_10 := va_free (wc := [(k9, .inr (1, [.ref tc, .int (nI zn_2), .int nu, .int ki, .int ce, .int lo])), (tc, .inl (cI, 16, .inl ftn_2))]) hD hS hA [0, 1] rfl
    refine va_calli (va_runV (As := [.int 11, .int 6]) (rest := []) ⟨hx, hb, hml, hown, hts⟩ (r_X1_begin_6 l dC dI cI cZ cL cJ H.size k9 tc zn_2 nu ki ce lo ftn_2 11 (by omega)) (cwV 2 hts gX1_begin_X1_begin rfl rfl rfl (by decide +kernel) ⟨Nat.le_of_ble_eq_true rfl, Nat.le_of_ble_eq_true rfl⟩) ⟨fun a U g mk q => by obtain ⟨q0, q1, qP, qK, qD, qS⟩ := q; exact ⟨q0, q1, qP, va_K.moved (u := U) (U := U.calling g mk a) (Vm.Alike.refl U.vm) qK, qD, stt_same rfl qS⟩, va_recv hK hP (ci := 1) (q0 := 0) rfl rfl, fun U hU hW => ⟨rfl, by rw [hU], by rw [hU]; exact hPc_10, va_K.moved hW.alike hK, hDc_10.weaken (fun _ _ _ _ => trivial), by rw [hU]; exact stt_warm hW (stt_narrow (stt_kept hst hS.2.1) hFc_10)⟩⟩ rfl rfl hl.1 rfl (lv_room (Nat.le_of_ble_eq_true rfl)) dX1_begin_116 ⟨Nat.le_of_ble_eq_true rfl, Nat.le_of_ble_eq_true rfl⟩) hS (fun q _ h => hFc_10 q h) hFc_10 (fun r_10 u_10 t_10 H1 locs ht hvm h_10 hB hz1 hk1 hS => ?_)
    obtain ⟨zn_10, ftn_10, hP1, hD1, hF_10_0⟩ := hB
    rw [ht] at hP1
    obtain ⟨hP, hD⟩ := va_join (wr := []) (w1 := [(k9, .inr (1, [.ref tc, .int (nI zn_10), .int nu, .int ki, .int ce, .int lo])), (tc, .inl (cI, 16, .inl ftn_10))]) hP hD [0, 1] [] rfl rfl (by decide) (by decide) hk1 hFc_10 hP1 hD1
    generalize H1 = H at hP hS ⊢
    have hP : va_P (dC, dI) vwCl [(k9, .inr (1, [.ref tc, .int (nI zn_10), .int nu, .int ki, .int ce, .int lo])), (tc, .inl (cI, 16, .inl ftn_10))] H := hP
    have hD : va_D A [(k9, .inr (1, [.ref tc, .int (nI zn_10), .int nu, .int ki, .int ce, .int lo])), (tc, .inl (cI, 16, .inl ftn_10))] := hD
    refine lv_ineg hx hb dX1_begin_119 ?_
    refine lv_topi (fun v_11 e_11 => ?_)
    have hP9 := hP.sub (ws' := [(k9, .inr (1, [.ref tc, .int (nI zn_10), .int nu, .int ki, .int ce, .int lo])), (tc, .inl (cI, 16, .inl ftn_10))]) [0, 1] rfl
    have hD9 := hD.sub (ws' := [(k9, .inr (1, [.ref tc, .int (nI zn_10), .int nu, .int ki, .int ce, .int lo])), (tc, .inl (cI, 16, .inl ftn_10))]) [0, 1] (by decide) rfl
    exact W.iret (v := v_11) hx hb hr (fun t ht hW => ⟨⟨v_11, (), rfl, trivial, ⟨zn_10, ftn_10, by rw [ht]; exact hP9, hD9, (by omega)⟩⟩, hS.F ht⟩) hS.2.2 dX1_begin_120
  by_cases k_12 : x = 13
  · subst k_12
    refine lv_tableIn (off := 103) (tgt := 121) hx hb dX1_begin_18 (by decide) (by decide) (by decide) (by decide) ?_
    refine lv_aload_n hx hb dX1_begin_121 rfl (lv_at hl 1 rfl) ?_
    refine lv_bipush (v := 10) hx hb dX1_begin_122 (by decide) ?_
    refine lv_iload_n hx hb dX1_begin_124 rfl (lv_at hl 0 rfl) ?_
    have hPc_13 := hP.sub (ws' := [(k9, .inr (1, [.ref tc, .int (nI zn_2), .int nu, .int ki, .int ce, .int lo])), (tc, .inl (cI, 16, .inl ftn_2))]) [0, 1] rfl
    have hDc_13 := hD.sub (ws' := [(k9, .inr (1, [.ref tc, .int (nI zn_2), .int nu, .int ki, .int ce, .int lo])), (tc, .inl (cI, 16, .inl ftn_2))]) [0, 1] (by decide) rfl
    have hFc_13 := va_free (wc := [(k9, .inr (1, [.ref tc, .int (nI zn_2), .int nu, .int ki, .int ce, .int lo])), (tc, .inl (cI, 16, .inl ftn_2))]) hD hS hA [0, 1] rfl
    refine va_calli (va_runV (As := [.int 10, .int 6]) (rest := []) ⟨hx, hb, hml, hown, hts⟩ (r_X1_begin_6 l dC dI cI cZ cL cJ H.size k9 tc zn_2 nu ki ce lo ftn_2 10 (by omega)) (cwV 2 hts gX1_begin_X1_begin rfl rfl rfl (by decide +kernel) ⟨Nat.le_of_ble_eq_true rfl, Nat.le_of_ble_eq_true rfl⟩) ⟨fun a U g mk q => by obtain ⟨q0, q1, qP, qK, qD, qS⟩ := q; exact ⟨q0, q1, qP, va_K.moved (u := U) (U := U.calling g mk a) (Vm.Alike.refl U.vm) qK, qD, stt_same rfl qS⟩, va_recv hK hP (ci := 1) (q0 := 0) rfl rfl, fun U hU hW => ⟨rfl, by rw [hU], by rw [hU]; exact hPc_13, va_K.moved hW.alike hK, hDc_13.weaken (fun _ _ _ _ => trivial), by rw [hU]; exact stt_warm hW (stt_narrow (stt_kept hst hS.2.1) hFc_13)⟩⟩ rfl rfl hl.1 rfl (lv_room (Nat.le_of_ble_eq_true rfl)) dX1_begin_125 ⟨Nat.le_of_ble_eq_true rfl, Nat.le_of_ble_eq_true rfl⟩) hS (fun q _ h => hFc_13 q h) hFc_13 (fun r_13 u_13 t_13 H1 locs ht hvm h_13 hB hz1 hk1 hS => ?_)
    obtain ⟨zn_13, ftn_13, hP1, hD1, hF_13_0⟩ := hB
    rw [ht] at hP1
    obtain ⟨hP, hD⟩ := va_join (wr := []) (w1 := [(k9, .inr (1, [.ref tc, .int (nI zn_13), .int nu, .int ki, .int ce, .int lo])), (tc, .inl (cI, 16, .inl ftn_13))]) hP hD [0, 1] [] rfl rfl (by decide) (by decide) hk1 hFc_13 hP1 hD1
    generalize H1 = H at hP hS ⊢
    have hP : va_P (dC, dI) vwCl [(k9, .inr (1, [.ref tc, .int (nI zn_13), .int nu, .int ki, .int ce, .int lo])), (tc, .inl (cI, 16, .inl ftn_13))] H := hP
    have hD : va_D A [(k9, .inr (1, [.ref tc, .int (nI zn_13), .int nu, .int ki, .int ce, .int lo])), (tc, .inl (cI, 16, .inl ftn_13))] := hD
    refine lv_bipush (v := 100) hx hb dX1_begin_128 (by decide) ?_
    refine lv_isub hx hb dX1_begin_130 ?_
    refine lv_topi (fun v_14 e_14 => ?_)
    have hP9 := hP.sub (ws' := [(k9, .inr (1, [.ref tc, .int (nI zn_13), .int nu, .int ki, .int ce, .int lo])), (tc, .inl (cI, 16, .inl ftn_13))]) [0, 1] rfl
    have hD9 := hD.sub (ws' := [(k9, .inr (1, [.ref tc, .int (nI zn_13), .int nu, .int ki, .int ce, .int lo])), (tc, .inl (cI, 16, .inl ftn_13))]) [0, 1] (by decide) rfl
    exact W.iret (v := v_14) hx hb hr (fun t ht hW => ⟨⟨v_14, (), rfl, trivial, ⟨zn_13, ftn_13, by rw [ht]; exact hP9, hD9, (by omega)⟩⟩, hS.F ht⟩) hS.2.2 dX1_begin_131
  by_cases k_15 : x = 14
  · subst k_15
    refine lv_tableIn (off := 114) (tgt := 132) hx hb dX1_begin_18 (by decide) (by decide) (by decide) (by decide) ?_
    refine lv_aload_n hx hb dX1_begin_132 rfl (lv_at hl 1 rfl) ?_
    refine lv_bipush (v := 13) hx hb dX1_begin_133 (by decide) ?_
    refine lv_iload_n hx hb dX1_begin_135 rfl (lv_at hl 0 rfl) ?_
    have hPc_16 := hP.sub (ws' := [(k9, .inr (1, [.ref tc, .int (nI zn_2), .int nu, .int ki, .int ce, .int lo])), (tc, .inl (cI, 16, .inl ftn_2))]) [0, 1] rfl
    have hDc_16 := hD.sub (ws' := [(k9, .inr (1, [.ref tc, .int (nI zn_2), .int nu, .int ki, .int ce, .int lo])), (tc, .inl (cI, 16, .inl ftn_2))]) [0, 1] (by decide) rfl
    have hFc_16 := va_free (wc := [(k9, .inr (1, [.ref tc, .int (nI zn_2), .int nu, .int ki, .int ce, .int lo])), (tc, .inl (cI, 16, .inl ftn_2))]) hD hS hA [0, 1] rfl
    refine va_calli (va_runV (As := [.int 13, .int 6]) (rest := []) ⟨hx, hb, hml, hown, hts⟩ (r_X1_begin_6 l dC dI cI cZ cL cJ H.size k9 tc zn_2 nu ki ce lo ftn_2 13 (by omega)) (cwV 2 hts gX1_begin_X1_begin rfl rfl rfl (by decide +kernel) ⟨Nat.le_of_ble_eq_true rfl, Nat.le_of_ble_eq_true rfl⟩) ⟨fun a U g mk q => by obtain ⟨q0, q1, qP, qK, qD, qS⟩ := q; exact ⟨q0, q1, qP, va_K.moved (u := U) (U := U.calling g mk a) (Vm.Alike.refl U.vm) qK, qD, stt_same rfl qS⟩, va_recv hK hP (ci := 1) (q0 := 0) rfl rfl, fun U hU hW => ⟨rfl, by rw [hU], by rw [hU]; exact hPc_16, va_K.moved hW.alike hK, hDc_16.weaken (fun _ _ _ _ => trivial), by rw [hU]; exact stt_warm hW (stt_narrow (stt_kept hst hS.2.1) hFc_16)⟩⟩ rfl rfl hl.1 rfl (lv_room (Nat.le_of_ble_eq_true rfl)) dX1_begin_136 ⟨Nat.le_of_ble_eq_true rfl, Nat.le_of_ble_eq_true rfl⟩) hS (fun q _ h => hFc_16 q h) hFc_16 (fun r_16 u_16 t_16 H1 locs ht hvm h_16 hB hz1 hk1 hS => ?_)
    obtain ⟨zn_16, ftn_16, hP1, hD1, hF_16_0⟩ := hB
    rw [ht] at hP1
    obtain ⟨hP, hD⟩ := va_join (wr := []) (w1 := [(k9, .inr (1, [.ref tc, .int (nI zn_16), .int nu, .int ki, .int ce, .int lo])), (tc, .inl (cI, 16, .inl ftn_16))]) hP hD [0, 1] [] rfl rfl (by decide) (by decide) hk1 hFc_16 hP1 hD1
    generalize H1 = H at hP hS ⊢
    have hP : va_P (dC, dI) vwCl [(k9, .inr (1, [.ref tc, .int (nI zn_16), .int nu, .int ki, .int ce, .int lo])), (tc, .inl (cI, 16, .inl ftn_16))] H := hP
    have hD : va_D A [(k9, .inr (1, [.ref tc, .int (nI zn_16), .int nu, .int ki, .int ce, .int lo])), (tc, .inl (cI, 16, .inl ftn_16))] := hD
    refine lv_iconst (v := 2) hx hb dX1_begin_139 (by decide) ?_
    refine lv_imul hx hb dX1_begin_140 ?_
    refine lv_topi (fun v_17 e_17 => ?_)
    have hP9 := hP.sub (ws' := [(k9, .inr (1, [.ref tc, .int (nI zn_16), .int nu, .int ki, .int ce, .int lo])), (tc, .inl (cI, 16, .inl ftn_16))]) [0, 1] rfl
    have hD9 := hD.sub (ws' := [(k9, .inr (1, [.ref tc, .int (nI zn_16), .int nu, .int ki, .int ce, .int lo])), (tc, .inl (cI, 16, .inl ftn_16))]) [0, 1] (by decide) rfl
    exact W.iret (v := v_17) hx hb hr (fun t ht hW => ⟨⟨v_17, (), rfl, trivial, ⟨zn_16, ftn_16, by rw [ht]; exact hP9, hD9, (by omega)⟩⟩, hS.F ht⟩) hS.2.2 dX1_begin_141
  by_cases k_18 : x = 15
  · subst k_18
    refine lv_tableIn (off := 179) (tgt := 197) hx hb dX1_begin_18 (by decide) (by decide) (by decide) (by decide) ?_
    refine lv_iconst (v := 0) hx hb dX1_begin_197 (by decide) ?_
    have hP9 := hP.sub (ws' := [(k9, .inr (1, [.ref tc, .int (nI zn_2), .int nu, .int ki, .int ce, .int lo])), (tc, .inl (cI, 16, .inl ftn_2))]) [0, 1] rfl
    have hD9 := hD.sub (ws' := [(k9, .inr (1, [.ref tc, .int (nI zn_2), .int nu, .int ki, .int ce, .int lo])), (tc, .inl (cI, 16, .inl ftn_2))]) [0, 1] (by decide) rfl
    exact W.iret (v := 0) hx hb hr (fun t ht hW => ⟨⟨0, (), rfl, trivial, ⟨zn_2, ftn_2, by rw [ht]; exact hP9, hD9, (by omega)⟩⟩, hS.F ht⟩) hS.2.2 dX1_begin_198
  by_cases k_19 : x = 16
  · subst k_19
    refine lv_tableIn (off := 179) (tgt := 197) hx hb dX1_begin_18 (by decide) (by decide) (by decide) (by decide) ?_
    refine lv_iconst (v := 0) hx hb dX1_begin_197 (by decide) ?_
    have hP9 := hP.sub (ws' := [(k9, .inr (1, [.ref tc, .int (nI zn_2), .int nu, .int ki, .int ce, .int lo])), (tc, .inl (cI, 16, .inl ftn_2))]) [0, 1] rfl
    have hD9 := hD.sub (ws' := [(k9, .inr (1, [.ref tc, .int (nI zn_2), .int nu, .int ki, .int ce, .int lo])), (tc, .inl (cI, 16, .inl ftn_2))]) [0, 1] (by decide) rfl
    exact W.iret (v := 0) hx hb hr (fun t ht hW => ⟨⟨0, (), rfl, trivial, ⟨zn_2, ftn_2, by rw [ht]; exact hP9, hD9, (by omega)⟩⟩, hS.F ht⟩) hS.2.2 dX1_begin_198
  by_cases k_20 : x = 17
  · subst k_20
    refine lv_tableIn (off := 179) (tgt := 197) hx hb dX1_begin_18 (by decide) (by decide) (by decide) (by decide) ?_
    refine lv_iconst (v := 0) hx hb dX1_begin_197 (by decide) ?_
    have hP9 := hP.sub (ws' := [(k9, .inr (1, [.ref tc, .int (nI zn_2), .int nu, .int ki, .int ce, .int lo])), (tc, .inl (cI, 16, .inl ftn_2))]) [0, 1] rfl
    have hD9 := hD.sub (ws' := [(k9, .inr (1, [.ref tc, .int (nI zn_2), .int nu, .int ki, .int ce, .int lo])), (tc, .inl (cI, 16, .inl ftn_2))]) [0, 1] (by decide) rfl
    exact W.iret (v := 0) hx hb hr (fun t ht hW => ⟨⟨0, (), rfl, trivial, ⟨zn_2, ftn_2, by rw [ht]; exact hP9, hD9, (by omega)⟩⟩, hS.F ht⟩) hS.2.2 dX1_begin_198
  by_cases k_21 : x = 18
  · subst k_21
    refine lv_tableIn (off := 179) (tgt := 197) hx hb dX1_begin_18 (by decide) (by decide) (by decide) (by decide) ?_
    refine lv_iconst (v := 0) hx hb dX1_begin_197 (by decide) ?_
    have hP9 := hP.sub (ws' := [(k9, .inr (1, [.ref tc, .int (nI zn_2), .int nu, .int ki, .int ce, .int lo])), (tc, .inl (cI, 16, .inl ftn_2))]) [0, 1] rfl
    have hD9 := hD.sub (ws' := [(k9, .inr (1, [.ref tc, .int (nI zn_2), .int nu, .int ki, .int ce, .int lo])), (tc, .inl (cI, 16, .inl ftn_2))]) [0, 1] (by decide) rfl
    exact W.iret (v := 0) hx hb hr (fun t ht hW => ⟨⟨0, (), rfl, trivial, ⟨zn_2, ftn_2, by rw [ht]; exact hP9, hD9, (by omega)⟩⟩, hS.F ht⟩) hS.2.2 dX1_begin_198
  by_cases k_22 : x = 19
  · subst k_22
    refine lv_tableIn (off := 179) (tgt := 197) hx hb dX1_begin_18 (by decide) (by decide) (by decide) (by decide) ?_
    refine lv_iconst (v := 0) hx hb dX1_begin_197 (by decide) ?_
    have hP9 := hP.sub (ws' := [(k9, .inr (1, [.ref tc, .int (nI zn_2), .int nu, .int ki, .int ce, .int lo])), (tc, .inl (cI, 16, .inl ftn_2))]) [0, 1] rfl
    have hD9 := hD.sub (ws' := [(k9, .inr (1, [.ref tc, .int (nI zn_2), .int nu, .int ki, .int ce, .int lo])), (tc, .inl (cI, 16, .inl ftn_2))]) [0, 1] (by decide) rfl
    exact W.iret (v := 0) hx hb hr (fun t ht hW => ⟨⟨0, (), rfl, trivial, ⟨zn_2, ftn_2, by rw [ht]; exact hP9, hD9, (by omega)⟩⟩, hS.F ht⟩) hS.2.2 dX1_begin_198
  by_cases k_23 : x = 20
  · subst k_23
    refine lv_tableIn (off := 124) (tgt := 142) hx hb dX1_begin_18 (by decide) (by decide) (by decide) (by decide) ?_
    refine lv_aload_n hx hb dX1_begin_142 rfl (lv_at hl 1 rfl) ?_
    refine va_get (D := (dC, dI)) (ci := 1) (v := .int nu) (C := RX1) (T := TX1) (N := 6) hx hb hts i_X1_begin_X1 hown hK hP 0 rfl rfl 2 (by decide) (hts (.fieldLink RX1 19 "MillTalk$Asks" "number" "I") (by decide +kernel)) (fun _ h9 => h9) rfl dX1_begin_143 ?_
    have hP9 := hP.sub (ws' := [(k9, .inr (1, [.ref tc, .int (nI zn_2), .int nu, .int ki, .int ce, .int lo])), (tc, .inl (cI, 16, .inl ftn_2))]) [0, 1] rfl
    have hD9 := hD.sub (ws' := [(k9, .inr (1, [.ref tc, .int (nI zn_2), .int nu, .int ki, .int ce, .int lo])), (tc, .inl (cI, 16, .inl ftn_2))]) [0, 1] (by decide) rfl
    exact W.iret (v := nu) hx hb hr (fun t ht hW => ⟨⟨nu, (), rfl, trivial, ⟨zn_2, ftn_2, by rw [ht]; exact hP9, hD9, (by omega)⟩⟩, hS.F ht⟩) hS.2.2 dX1_begin_146
  by_cases k_24 : x = 21
  · subst k_24
    refine lv_tableIn (off := 129) (tgt := 147) hx hb dX1_begin_18 (by decide) (by decide) (by decide) (by decide) ?_
    refine lv_aload_n hx hb dX1_begin_147 rfl (lv_at hl 1 rfl) ?_
    refine lv_bipush (v := 20) hx hb dX1_begin_148 (by decide) ?_
    refine lv_iload_n hx hb dX1_begin_150 rfl (lv_at hl 0 rfl) ?_
    have hPc_25 := hP.sub (ws' := [(k9, .inr (1, [.ref tc, .int (nI zn_2), .int nu, .int ki, .int ce, .int lo])), (tc, .inl (cI, 16, .inl ftn_2))]) [0, 1] rfl
    have hDc_25 := hD.sub (ws' := [(k9, .inr (1, [.ref tc, .int (nI zn_2), .int nu, .int ki, .int ce, .int lo])), (tc, .inl (cI, 16, .inl ftn_2))]) [0, 1] (by decide) rfl
    have hFc_25 := va_free (wc := [(k9, .inr (1, [.ref tc, .int (nI zn_2), .int nu, .int ki, .int ce, .int lo])), (tc, .inl (cI, 16, .inl ftn_2))]) hD hS hA [0, 1] rfl
    refine va_calli (va_runV (As := [.int 20, .int 6]) (rest := []) ⟨hx, hb, hml, hown, hts⟩ (r_X1_begin_6 l dC dI cI cZ cL cJ H.size k9 tc zn_2 nu ki ce lo ftn_2 20 (by omega)) (cwV 2 hts gX1_begin_X1_begin rfl rfl rfl (by decide +kernel) ⟨Nat.le_of_ble_eq_true rfl, Nat.le_of_ble_eq_true rfl⟩) ⟨fun a U g mk q => by obtain ⟨q0, q1, qP, qK, qD, qS⟩ := q; exact ⟨q0, q1, qP, va_K.moved (u := U) (U := U.calling g mk a) (Vm.Alike.refl U.vm) qK, qD, stt_same rfl qS⟩, va_recv hK hP (ci := 1) (q0 := 0) rfl rfl, fun U hU hW => ⟨rfl, by rw [hU], by rw [hU]; exact hPc_25, va_K.moved hW.alike hK, hDc_25.weaken (fun _ _ _ _ => trivial), by rw [hU]; exact stt_warm hW (stt_narrow (stt_kept hst hS.2.1) hFc_25)⟩⟩ rfl rfl hl.1 rfl (lv_room (Nat.le_of_ble_eq_true rfl)) dX1_begin_151 ⟨Nat.le_of_ble_eq_true rfl, Nat.le_of_ble_eq_true rfl⟩) hS (fun q _ h => hFc_25 q h) hFc_25 (fun r_25 u_25 t_25 H1 locs ht hvm h_25 hB hz1 hk1 hS => ?_)
    obtain ⟨zn_25, ftn_25, hP1, hD1, hF_25_0⟩ := hB
    rw [ht] at hP1
    obtain ⟨hP, hD⟩ := va_join (wr := []) (w1 := [(k9, .inr (1, [.ref tc, .int (nI zn_25), .int nu, .int ki, .int ce, .int lo])), (tc, .inl (cI, 16, .inl ftn_25))]) hP hD [0, 1] [] rfl rfl (by decide) (by decide) hk1 hFc_25 hP1 hD1
    generalize H1 = H at hP hS ⊢
    have hP : va_P (dC, dI) vwCl [(k9, .inr (1, [.ref tc, .int (nI zn_25), .int nu, .int ki, .int ce, .int lo])), (tc, .inl (cI, 16, .inl ftn_25))] H := hP
    have hD : va_D A [(k9, .inr (1, [.ref tc, .int (nI zn_25), .int nu, .int ki, .int ce, .int lo])), (tc, .inl (cI, 16, .inl ftn_25))] := hD
    refine lv_aload_n hx hb dX1_begin_154 rfl (lv_at hl 1 rfl) ?_
    refine va_get (D := (dC, dI)) (ci := 1) (v := .int ce) (C := RX1) (T := TX1) (N := 6) hx hb hts i_X1_begin_X1 hown hK hP 0 rfl rfl 4 (by decide) (hts (.fieldLink RX1 33 "MillTalk$Asks" "cell" "I") (by decide +kernel)) (fun _ h9 => h9) rfl dX1_begin_155 ?_
    refine lv_iadd hx hb dX1_begin_158 ?_
    refine lv_topi (fun v_26 e_26 => ?_)
    have hP9 := hP.sub (ws' := [(k9, .inr (1, [.ref tc, .int (nI zn_25), .int nu, .int ki, .int ce, .int lo])), (tc, .inl (cI, 16, .inl ftn_25))]) [0, 1] rfl
    have hD9 := hD.sub (ws' := [(k9, .inr (1, [.ref tc, .int (nI zn_25), .int nu, .int ki, .int ce, .int lo])), (tc, .inl (cI, 16, .inl ftn_25))]) [0, 1] (by decide) rfl
    exact W.iret (v := v_26) hx hb hr (fun t ht hW => ⟨⟨v_26, (), rfl, trivial, ⟨zn_25, ftn_25, by rw [ht]; exact hP9, hD9, (by omega)⟩⟩, hS.F ht⟩) hS.2.2 dX1_begin_159
  by_cases k_27 : x = 22
  · subst k_27
    refine lv_tableIn (off := 142) (tgt := 160) hx hb dX1_begin_18 (by decide) (by decide) (by decide) (by decide) ?_
    refine lv_aload_n hx hb dX1_begin_160 rfl (lv_at hl 1 rfl) ?_
    refine lv_bipush (v := 21) hx hb dX1_begin_161 (by decide) ?_
    refine lv_iload_n hx hb dX1_begin_163 rfl (lv_at hl 0 rfl) ?_
    have hPc_28 := hP.sub (ws' := [(k9, .inr (1, [.ref tc, .int (nI zn_2), .int nu, .int ki, .int ce, .int lo])), (tc, .inl (cI, 16, .inl ftn_2))]) [0, 1] rfl
    have hDc_28 := hD.sub (ws' := [(k9, .inr (1, [.ref tc, .int (nI zn_2), .int nu, .int ki, .int ce, .int lo])), (tc, .inl (cI, 16, .inl ftn_2))]) [0, 1] (by decide) rfl
    have hFc_28 := va_free (wc := [(k9, .inr (1, [.ref tc, .int (nI zn_2), .int nu, .int ki, .int ce, .int lo])), (tc, .inl (cI, 16, .inl ftn_2))]) hD hS hA [0, 1] rfl
    refine va_calli (va_runV (As := [.int 21, .int 6]) (rest := []) ⟨hx, hb, hml, hown, hts⟩ (r_X1_begin_6 l dC dI cI cZ cL cJ H.size k9 tc zn_2 nu ki ce lo ftn_2 21 (by omega)) (cwV 2 hts gX1_begin_X1_begin rfl rfl rfl (by decide +kernel) ⟨Nat.le_of_ble_eq_true rfl, Nat.le_of_ble_eq_true rfl⟩) ⟨fun a U g mk q => by obtain ⟨q0, q1, qP, qK, qD, qS⟩ := q; exact ⟨q0, q1, qP, va_K.moved (u := U) (U := U.calling g mk a) (Vm.Alike.refl U.vm) qK, qD, stt_same rfl qS⟩, va_recv hK hP (ci := 1) (q0 := 0) rfl rfl, fun U hU hW => ⟨rfl, by rw [hU], by rw [hU]; exact hPc_28, va_K.moved hW.alike hK, hDc_28.weaken (fun _ _ _ _ => trivial), by rw [hU]; exact stt_warm hW (stt_narrow (stt_kept hst hS.2.1) hFc_28)⟩⟩ rfl rfl hl.1 rfl (lv_room (Nat.le_of_ble_eq_true rfl)) dX1_begin_164 ⟨Nat.le_of_ble_eq_true rfl, Nat.le_of_ble_eq_true rfl⟩) hS (fun q _ h => hFc_28 q h) hFc_28 (fun r_28 u_28 t_28 H1 locs ht hvm h_28 hB hz1 hk1 hS => ?_)
    obtain ⟨zn_28, ftn_28, hP1, hD1, hF_28_0⟩ := hB
    rw [ht] at hP1
    obtain ⟨hP, hD⟩ := va_join (wr := []) (w1 := [(k9, .inr (1, [.ref tc, .int (nI zn_28), .int nu, .int ki, .int ce, .int lo])), (tc, .inl (cI, 16, .inl ftn_28))]) hP hD [0, 1] [] rfl rfl (by decide) (by decide) hk1 hFc_28 hP1 hD1
    generalize H1 = H at hP hS ⊢
    have hP : va_P (dC, dI) vwCl [(k9, .inr (1, [.ref tc, .int (nI zn_28), .int nu, .int ki, .int ce, .int lo])), (tc, .inl (cI, 16, .inl ftn_28))] H := hP
    have hD : va_D A [(k9, .inr (1, [.ref tc, .int (nI zn_28), .int nu, .int ki, .int ce, .int lo])), (tc, .inl (cI, 16, .inl ftn_28))] := hD
    refine lv_sipush (v := 1000) hx hb dX1_begin_167 (by decide) ?_
    refine lv_isub hx hb dX1_begin_170 ?_
    refine lv_topi (fun v_29 e_29 => ?_)
    have hP9 := hP.sub (ws' := [(k9, .inr (1, [.ref tc, .int (nI zn_28), .int nu, .int ki, .int ce, .int lo])), (tc, .inl (cI, 16, .inl ftn_28))]) [0, 1] rfl
    have hD9 := hD.sub (ws' := [(k9, .inr (1, [.ref tc, .int (nI zn_28), .int nu, .int ki, .int ce, .int lo])), (tc, .inl (cI, 16, .inl ftn_28))]) [0, 1] (by decide) rfl
    exact W.iret (v := v_29) hx hb hr (fun t ht hW => ⟨⟨v_29, (), rfl, trivial, ⟨zn_28, ftn_28, by rw [ht]; exact hP9, hD9, (by omega)⟩⟩, hS.F ht⟩) hS.2.2 dX1_begin_171
  by_cases k_30 : x = 23
  · subst k_30
    refine lv_tableIn (off := 154) (tgt := 172) hx hb dX1_begin_18 (by decide) (by decide) (by decide) (by decide) ?_
    refine lv_aload_n hx hb dX1_begin_172 rfl (lv_at hl 1 rfl) ?_
    refine lv_bipush (v := 20) hx hb dX1_begin_173 (by decide) ?_
    refine lv_iload_n hx hb dX1_begin_175 rfl (lv_at hl 0 rfl) ?_
    have hPc_31 := hP.sub (ws' := [(k9, .inr (1, [.ref tc, .int (nI zn_2), .int nu, .int ki, .int ce, .int lo])), (tc, .inl (cI, 16, .inl ftn_2))]) [0, 1] rfl
    have hDc_31 := hD.sub (ws' := [(k9, .inr (1, [.ref tc, .int (nI zn_2), .int nu, .int ki, .int ce, .int lo])), (tc, .inl (cI, 16, .inl ftn_2))]) [0, 1] (by decide) rfl
    have hFc_31 := va_free (wc := [(k9, .inr (1, [.ref tc, .int (nI zn_2), .int nu, .int ki, .int ce, .int lo])), (tc, .inl (cI, 16, .inl ftn_2))]) hD hS hA [0, 1] rfl
    refine va_calli (va_runV (As := [.int 20, .int 6]) (rest := []) ⟨hx, hb, hml, hown, hts⟩ (r_X1_begin_6 l dC dI cI cZ cL cJ H.size k9 tc zn_2 nu ki ce lo ftn_2 20 (by omega)) (cwV 2 hts gX1_begin_X1_begin rfl rfl rfl (by decide +kernel) ⟨Nat.le_of_ble_eq_true rfl, Nat.le_of_ble_eq_true rfl⟩) ⟨fun a U g mk q => by obtain ⟨q0, q1, qP, qK, qD, qS⟩ := q; exact ⟨q0, q1, qP, va_K.moved (u := U) (U := U.calling g mk a) (Vm.Alike.refl U.vm) qK, qD, stt_same rfl qS⟩, va_recv hK hP (ci := 1) (q0 := 0) rfl rfl, fun U hU hW => ⟨rfl, by rw [hU], by rw [hU]; exact hPc_31, va_K.moved hW.alike hK, hDc_31.weaken (fun _ _ _ _ => trivial), by rw [hU]; exact stt_warm hW (stt_narrow (stt_kept hst hS.2.1) hFc_31)⟩⟩ rfl rfl hl.1 rfl (lv_room (Nat.le_of_ble_eq_true rfl)) dX1_begin_176 ⟨Nat.le_of_ble_eq_true rfl, Nat.le_of_ble_eq_true rfl⟩) hS (fun q _ h => hFc_31 q h) hFc_31 (fun r_31 u_31 t_31 H1 locs ht hvm h_31 hB hz1 hk1 hS => ?_)
    obtain ⟨zn_31, ftn_31, hP1, hD1, hF_31_0⟩ := hB
    rw [ht] at hP1
    obtain ⟨hP, hD⟩ := va_join (wr := []) (w1 := [(k9, .inr (1, [.ref tc, .int (nI zn_31), .int nu, .int ki, .int ce, .int lo])), (tc, .inl (cI, 16, .inl ftn_31))]) hP hD [0, 1] [] rfl rfl (by decide) (by decide) hk1 hFc_31 hP1 hD1
    generalize H1 = H at hP hS ⊢
    have hP : va_P (dC, dI) vwCl [(k9, .inr (1, [.ref tc, .int (nI zn_31), .int nu, .int ki, .int ce, .int lo])), (tc, .inl (cI, 16, .inl ftn_31))] H := hP
    have hD : va_D A [(k9, .inr (1, [.ref tc, .int (nI zn_31), .int nu, .int ki, .int ce, .int lo])), (tc, .inl (cI, 16, .inl ftn_31))] := hD
    refine lv_aload_n hx hb dX1_begin_179 rfl (lv_at hl 1 rfl) ?_
    refine lv_iconst (v := 0) hx hb dX1_begin_180 (by decide) ?_
    refine lv_iload_n hx hb dX1_begin_181 rfl (lv_at hl 0 rfl) ?_
    have hPc_32 := hP.sub (ws' := [(k9, .inr (1, [.ref tc, .int (nI zn_31), .int nu, .int ki, .int ce, .int lo])), (tc, .inl (cI, 16, .inl ftn_31))]) [0, 1] rfl
    have hDc_32 := hD.sub (ws' := [(k9, .inr (1, [.ref tc, .int (nI zn_31), .int nu, .int ki, .int ce, .int lo])), (tc, .inl (cI, 16, .inl ftn_31))]) [0, 1] (by decide) rfl
    have hFc_32 := va_free (wc := [(k9, .inr (1, [.ref tc, .int (nI zn_31), .int nu, .int ki, .int ce, .int lo])), (tc, .inl (cI, 16, .inl ftn_31))]) hD hS hA [0, 1] rfl
    refine va_calli (va_runV (As := [.int 0, .int 6]) (rest := [.int r_31]) ⟨hx, hb, hml, hown, hts⟩ (r_X1_askAnew_6 l dC dI cI cZ cL cJ H.size k9 tc zn_31 nu ki ce lo ftn_31 0 (by omega)) (cwV 2 hts gX1_begin_X1_askAnew rfl rfl rfl (by decide +kernel) ⟨Nat.le_of_ble_eq_true rfl, Nat.le_of_ble_eq_true rfl⟩) ⟨fun a U g mk q => by obtain ⟨q0, q1, qP, qK, qD, qS⟩ := q; exact ⟨q0, q1, qP, va_K.moved (u := U) (U := U.calling g mk a) (Vm.Alike.refl U.vm) qK, qD, stt_same rfl qS⟩, va_recv hK hP (ci := 1) (q0 := 0) rfl rfl, fun U hU hW => ⟨rfl, by rw [hU], by rw [hU]; exact hPc_32, va_K.moved hW.alike hK, hDc_32.weaken (fun _ _ _ _ => trivial), by rw [hU]; exact stt_warm hW (stt_narrow (stt_kept hst hS.2.1) hFc_32)⟩⟩ rfl rfl hl.1 rfl (lv_room (Nat.le_of_ble_eq_true rfl)) dX1_begin_182 ⟨Nat.le_of_ble_eq_true rfl, Nat.le_of_ble_eq_true rfl⟩) hS (fun q _ h => hFc_32 q h) hFc_32 (fun r_32 u_32 t_32 H1 locs ht hvm h_32 hB hz1 hk1 hS => ?_)
    obtain ⟨zn_32, ftn_32, hP1, hD1, hF_32_0⟩ := hB
    rw [ht] at hP1
    obtain ⟨hP, hD⟩ := va_join (wr := []) (w1 := [(k9, .inr (1, [.ref tc, .int (nI zn_32), .int nu, .int ki, .int ce, .int lo])), (tc, .inl (cI, 16, .inl ftn_32))]) hP hD [0, 1] [] rfl rfl (by decide) (by decide) hk1 hFc_32 hP1 hD1
    generalize H1 = H at hP hS ⊢
    have hP : va_P (dC, dI) vwCl [(k9, .inr (1, [.ref tc, .int (nI zn_32), .int nu, .int ki, .int ce, .int lo])), (tc, .inl (cI, 16, .inl ftn_32))] H := hP
    have hD : va_D A [(k9, .inr (1, [.ref tc, .int (nI zn_32), .int nu, .int ki, .int ce, .int lo])), (tc, .inl (cI, 16, .inl ftn_32))] := hD
    refine lv_isub hx hb dX1_begin_185 ?_
    refine lv_topi (fun v_33 e_33 => ?_)
    have hP9 := hP.sub (ws' := [(k9, .inr (1, [.ref tc, .int (nI zn_32), .int nu, .int ki, .int ce, .int lo])), (tc, .inl (cI, 16, .inl ftn_32))]) [0, 1] rfl
    have hD9 := hD.sub (ws' := [(k9, .inr (1, [.ref tc, .int (nI zn_32), .int nu, .int ki, .int ce, .int lo])), (tc, .inl (cI, 16, .inl ftn_32))]) [0, 1] (by decide) rfl
    exact W.iret (v := v_33) hx hb hr (fun t ht hW => ⟨⟨v_33, (), rfl, trivial, ⟨zn_32, ftn_32, by rw [ht]; exact hP9, hD9, (by omega)⟩⟩, hS.F ht⟩) hS.2.2 dX1_begin_186
  by_cases k_34 : x = 24
  · subst k_34
    refine lv_tableIn (off := 169) (tgt := 187) hx hb dX1_begin_18 (by decide) (by decide) (by decide) (by decide) ?_
    refine lv_aload_n hx hb dX1_begin_187 rfl (lv_at hl 1 rfl) ?_
    refine lv_bipush (v := 21) hx hb dX1_begin_188 (by decide) ?_
    refine lv_iload_n hx hb dX1_begin_190 rfl (lv_at hl 0 rfl) ?_
    have hPc_35 := hP.sub (ws' := [(k9, .inr (1, [.ref tc, .int (nI zn_2), .int nu, .int ki, .int ce, .int lo])), (tc, .inl (cI, 16, .inl ftn_2))]) [0, 1] rfl
    have hDc_35 := hD.sub (ws' := [(k9, .inr (1, [.ref tc, .int (nI zn_2), .int nu, .int ki, .int ce, .int lo])), (tc, .inl (cI, 16, .inl ftn_2))]) [0, 1] (by decide) rfl
    have hFc_35 := va_free (wc := [(k9, .inr (1, [.ref tc, .int (nI zn_2), .int nu, .int ki, .int ce, .int lo])), (tc, .inl (cI, 16, .inl ftn_2))]) hD hS hA [0, 1] rfl
    refine va_calli (va_runV (As := [.int 21, .int 6]) (rest := []) ⟨hx, hb, hml, hown, hts⟩ (r_X1_begin_6 l dC dI cI cZ cL cJ H.size k9 tc zn_2 nu ki ce lo ftn_2 21 (by omega)) (cwV 2 hts gX1_begin_X1_begin rfl rfl rfl (by decide +kernel) ⟨Nat.le_of_ble_eq_true rfl, Nat.le_of_ble_eq_true rfl⟩) ⟨fun a U g mk q => by obtain ⟨q0, q1, qP, qK, qD, qS⟩ := q; exact ⟨q0, q1, qP, va_K.moved (u := U) (U := U.calling g mk a) (Vm.Alike.refl U.vm) qK, qD, stt_same rfl qS⟩, va_recv hK hP (ci := 1) (q0 := 0) rfl rfl, fun U hU hW => ⟨rfl, by rw [hU], by rw [hU]; exact hPc_35, va_K.moved hW.alike hK, hDc_35.weaken (fun _ _ _ _ => trivial), by rw [hU]; exact stt_warm hW (stt_narrow (stt_kept hst hS.2.1) hFc_35)⟩⟩ rfl rfl hl.1 rfl (lv_room (Nat.le_of_ble_eq_true rfl)) dX1_begin_191 ⟨Nat.le_of_ble_eq_true rfl, Nat.le_of_ble_eq_true rfl⟩) hS (fun q _ h => hFc_35 q h) hFc_35 (fun r_35 u_35 t_35 H1 locs ht hvm h_35 hB hz1 hk1 hS => ?_)
    obtain ⟨zn_35, ftn_35, hP1, hD1, hF_35_0⟩ := hB
    rw [ht] at hP1
    obtain ⟨hP, hD⟩ := va_join (wr := []) (w1 := [(k9, .inr (1, [.ref tc, .int (nI zn_35), .int nu, .int ki, .int ce, .int lo])), (tc, .inl (cI, 16, .inl ftn_35))]) hP hD [0, 1] [] rfl rfl (by decide) (by decide) hk1 hFc_35 hP1 hD1
    generalize H1 = H at hP hS ⊢
    have hP : va_P (dC, dI) vwCl [(k9, .inr (1, [.ref tc, .int (nI zn_35), .int nu, .int ki, .int ce, .int lo])), (tc, .inl (cI, 16, .inl ftn_35))] H := hP
    have hD : va_D A [(k9, .inr (1, [.ref tc, .int (nI zn_35), .int nu, .int ki, .int ce, .int lo])), (tc, .inl (cI, 16, .inl ftn_35))] := hD
    refine lv_iconst (v := 2) hx hb dX1_begin_194 (by decide) ?_
    refine lv_imul hx hb dX1_begin_195 ?_
    refine lv_topi (fun v_36 e_36 => ?_)
    have hP9 := hP.sub (ws' := [(k9, .inr (1, [.ref tc, .int (nI zn_35), .int nu, .int ki, .int ce, .int lo])), (tc, .inl (cI, 16, .inl ftn_35))]) [0, 1] rfl
    have hD9 := hD.sub (ws' := [(k9, .inr (1, [.ref tc, .int (nI zn_35), .int nu, .int ki, .int ce, .int lo])), (tc, .inl (cI, 16, .inl ftn_35))]) [0, 1] (by decide) rfl
    exact W.iret (v := v_36) hx hb hr (fun t ht hW => ⟨⟨v_36, (), rfl, trivial, ⟨zn_35, ftn_35, by rw [ht]; exact hP9, hD9, (by omega)⟩⟩, hS.F ht⟩) hS.2.2 dX1_begin_196
  have kT_4 := lv_neT k_4 (show (10 : Int32).toInt = 10 from rfl)
  have kT_5 := lv_neT k_5 (show (11 : Int32).toInt = 11 from rfl)
  have kT_9 := lv_neT k_9 (show (12 : Int32).toInt = 12 from rfl)
  have kT_12 := lv_neT k_12 (show (13 : Int32).toInt = 13 from rfl)
  have kT_15 := lv_neT k_15 (show (14 : Int32).toInt = 14 from rfl)
  have kT_18 := lv_neT k_18 (show (15 : Int32).toInt = 15 from rfl)
  have kT_19 := lv_neT k_19 (show (16 : Int32).toInt = 16 from rfl)
  have kT_20 := lv_neT k_20 (show (17 : Int32).toInt = 17 from rfl)
  have kT_21 := lv_neT k_21 (show (18 : Int32).toInt = 18 from rfl)
  have kT_22 := lv_neT k_22 (show (19 : Int32).toInt = 19 from rfl)
  have kT_23 := lv_neT k_23 (show (20 : Int32).toInt = 20 from rfl)
  have kT_24 := lv_neT k_24 (show (21 : Int32).toInt = 21 from rfl)
  have kT_27 := lv_neT k_27 (show (22 : Int32).toInt = 22 from rfl)
  have kT_30 := lv_neT k_30 (show (23 : Int32).toInt = 23 from rfl)
  have kT_34 := lv_neT k_34 (show (24 : Int32).toInt = 24 from rfl)
  refine lv_tableOut (tgt := 197) hx hb dX1_begin_18 (by omega) (by decide) ?_
  refine lv_iconst (v := 0) hx hb dX1_begin_197 (by decide) ?_
  have hP9 := hP.sub (ws' := [(k9, .inr (1, [.ref tc, .int (nI zn_2), .int nu, .int ki, .int ce, .int lo])), (tc, .inl (cI, 16, .inl ftn_2))]) [0, 1] rfl
  have hD9 := hD.sub (ws' := [(k9, .inr (1, [.ref tc, .int (nI zn_2), .int nu, .int ki, .int ce, .int lo])), (tc, .inl (cI, 16, .inl ftn_2))]) [0, 1] (by decide) rfl
  exact W.iret (v := 0) hx hb hr (fun t ht hW => ⟨⟨0, (), rfl, trivial, ⟨zn_2, ftn_2, by rw [ht]; exact hP9, hD9, (by omega)⟩⟩, hS.F ht⟩) hS.2.2 dX1_begin_198
set_option maxHeartbeats 4000000 in
set_option maxRecDepth 100000 in
theorem r_X1_askAnew_5 (l : Launch) (dC : Nat → ClassId) (dI : Nat → Nat → Nat) (cI cZ cL cJ : ClassId) (sz : Nat) (k9 : Nat) (tc : Nat) (z : Nat) (nu : Int32) (ki : Int32) (ce : Int32) (lo : Int32) (ft : Nat → Int32) (x : Int32) (hz : z ≤ 16) : Met l yX1_askAnew wsX1_askAnew ({ frames := 23, cells := 0, slots := 0, locals := 519 }) (va_Pc [.ref k9, .int x, .int 5] (fun U => U.heap.size = sz ∧ va_P (dC, dI) vwCl [(k9, .inr (1, [.ref tc, .int (nI z), .int nu, .int ki, .int ce, .int lo])), (tc, .inl (cI, 16, .inl ft))] U.heap ∧ va_K (dC, dI) vwCl [(cI, .int), (cZ, .boolean), (cL, .object RX3), (cJ, .array .int)] U ∧ va_D (fun _ => True) [(k9, .inr (1, [.ref tc, .int (nI z), .int nu, .int ki, .int ce, .int lo])), (tc, .inl (cI, 16, .inl ft))] ∧ stt (va_A [(k9, .inr (1, [.ref tc, .int (nI z), .int nu, .int ki, .int ce, .int lo])), (tc, .inl (cI, 16, .inl ft))] sz) U U.heap)) (va_Qi (fun r (_ : Unit) => True) (fun (_ : Unit) t => ∃ (zn : Nat) (ftn : Nat → Int32), va_P (dC, dI) vwCl [(k9, .inr (1, [.ref tc, .int (nI zn), .int nu, .int ki, .int ce, .int lo])), (tc, .inl (cI, 16, .inl ftn))] t.heap ∧ va_D (va_A [(k9, .inr (1, [.ref tc, .int (nI z), .int nu, .int ki, .int ce, .int lo])), (tc, .inl (cI, 16, .inl ft))] sz) [(k9, .inr (1, [.ref tc, .int (nI zn), .int nu, .int ki, .int ce, .int lo])), (tc, .inl (cI, 16, .inl ftn))] ∧ zn ≤ 16) (va_A [(k9, .inr (1, [.ref tc, .int (nI z), .int nu, .int ki, .int ce, .int lo])), (tc, .inl (cI, 16, .inl ft))] sz)) 0 0 (va_A [(k9, .inr (1, [.ref tc, .int (nI z), .int nu, .int ki, .int ce, .int lo])), (tc, .inl (cI, 16, .inl ft))] sz) := by
  refine Met.ofW (cc := cX1_askAnew) (maxL := 3) (ret := (some .int)) (by decide) rfl ?_
  intro p e s m args below meth c s₁ B hml hv
  obtain ⟨rfl, hsz, hP, hK, hD0, hst⟩ := hv
  have hx := B.exec
  have hb := B.bytes
  have hr := B.returns
  have hts := atoms_spec (ws := wsX1_askAnew) B.pre
  have hown : s.vm.findClass RX1 = some m.cls := findClass_of_methodNamed B.named
  have hlocks := B.notSynchronized
  subst hsz
  have hD := hD0.self (sz := s.heap.size)
  generalize hAe : va_A [(k9, .inr (1, [.ref tc, .int (nI z), .int nu, .int ki, .int ce, .int lo])), (tc, .inl (cI, 16, .inl ft))] s.heap.size = A at hD hst ⊢
  have hA : ∀ q : Nat, s.heap.size ≤ q → A q := fun q h => by rw [← hAe]; exact Or.inr h
  have hS : va_S A s.heap s.heap [] := va_S.rf
  have hP : va_P (dC, dI) vwCl [(k9, .inr (1, [.ref tc, .int (nI z), .int nu, .int ki, .int ce, .int lo])), (tc, .inl (cI, 16, .inl ft))] s.heap := hP
  obtain ⟨⟨tb1, hZ1, hT1⟩, ⟨tb2, hZ2, hT2⟩, ⟨tb3, hZ3, hT3⟩, hNk⟩ := id hst
  have hl := lv_entry ([.ref k9, .int x, .int 5]) (n := 3) (Nat.le_of_ble_eq_true rfl)
  rw [lg_entry_eq]
  generalize (lg_sl ([.ref k9, .int x, .int 5]) ++ List.replicate (3 - (lg_sl ([.ref k9, .int x, .int 5])).length) Slot.unset).toArray = ls at hl ⊢
  have hl : lv_has ls 3 [(0, .ref k9), (1, .int x), (2, .int 5)] := hl
  refine lv_aload_n hx hb dX1_askAnew_0 rfl (lv_at hl 0 rfl) ?_
  refine lv_aload_n hx hb dX1_askAnew_1 rfl (lv_at hl 0 rfl) ?_
  refine lv_iload_n hx hb dX1_askAnew_2 rfl (lv_at hl 1 rfl) ?_
  have hPc_1 := hP.sub (ws' := [(k9, .inr (1, [.ref tc, .int (nI z), .int nu, .int ki, .int ce, .int lo]))]) [0] rfl
  refine vp_callSi (W.runV (As := [.int x]) (rest := [.ref k9]) ⟨hx, hb, hml, hown, hts⟩ (r_X1_bodyFor l dC dI cI cZ cL cJ k9 tc z nu ki ce lo x ) (cwV 1 hts gX1_askAnew_X1_bodyFor rfl rfl rfl (by decide +kernel) ⟨Nat.le_of_ble_eq_true rfl, Nat.le_of_ble_eq_true rfl⟩) ⟨fun a U g mk q => by obtain ⟨q0, qP, qK, qS⟩ := q; exact ⟨q0, qP, va_K.moved (u := U) (U := U.calling g mk a) (Vm.Alike.refl U.vm) qK, stt_same rfl qS⟩, va_recv hK hP (ci := 1) (q0 := 0) rfl rfl, fun U hU hW => ⟨rfl, by rw [hU]; exact hPc_1, va_K.moved hW.alike hK, by rw [hU]; exact stt_warm hW (stt_narrow (stt_kept hst hS.2.1) (fun _ h => h.elim))⟩⟩ rfl rfl hl.1 rfl (lv_room (Nat.le_of_ble_eq_true rfl)) dX1_askAnew_3 ⟨Nat.le_of_ble_eq_true rfl, Nat.le_of_ble_eq_true rfl⟩) (fun r_1 h_1 => ?_)
  refine lv_iload_n hx hb dX1_askAnew_6 rfl (lv_at hl 2 rfl) ?_
  have hPc_2 := hP.sub (ws' := [(k9, .inr (1, [.ref tc, .int (nI z), .int nu, .int ki, .int ce, .int lo])), (tc, .inl (cI, 16, .inl ft))]) [0, 1] rfl
  have hDc_2 := hD.sub (ws' := [(k9, .inr (1, [.ref tc, .int (nI z), .int nu, .int ki, .int ce, .int lo])), (tc, .inl (cI, 16, .inl ft))]) [0, 1] (by decide) rfl
  have hFc_2 := va_free (wc := [(k9, .inr (1, [.ref tc, .int (nI z), .int nu, .int ki, .int ce, .int lo])), (tc, .inl (cI, 16, .inl ft))]) hD hS hA [0, 1] rfl
  refine va_calli (va_runV (As := [.int r_1, .int 5]) (rest := []) ⟨hx, hb, hml, hown, hts⟩ (r_X1_begin_5 l dC dI cI cZ cL cJ s.heap.size k9 tc z nu ki ce lo ft r_1 (by omega)) (cwV 2 hts gX1_askAnew_X1_begin rfl rfl rfl (by decide +kernel) ⟨Nat.le_of_ble_eq_true rfl, Nat.le_of_ble_eq_true rfl⟩) ⟨fun a U g mk q => by obtain ⟨q0, q1, qP, qK, qD, qS⟩ := q; exact ⟨q0, q1, qP, va_K.moved (u := U) (U := U.calling g mk a) (Vm.Alike.refl U.vm) qK, qD, stt_same rfl qS⟩, va_recv hK hP (ci := 1) (q0 := 0) rfl rfl, fun U hU hW => ⟨rfl, by rw [hU], by rw [hU]; exact hPc_2, va_K.moved hW.alike hK, hDc_2.weaken (fun _ _ _ _ => trivial), by rw [hU]; exact stt_warm hW (stt_narrow (stt_kept hst hS.2.1) hFc_2)⟩⟩ rfl rfl hl.1 rfl (lv_room (Nat.le_of_ble_eq_true rfl)) dX1_askAnew_7 ⟨Nat.le_of_ble_eq_true rfl, Nat.le_of_ble_eq_true rfl⟩) hS (fun q _ h => hFc_2 q h) hFc_2 (fun r_2 u_2 t_2 H1 locs ht hvm h_2 hB hz1 hk1 hS => ?_)
  obtain ⟨zn_2, ftn_2, hP1, hD1, hF_2_0⟩ := hB
  rw [ht] at hP1
  obtain ⟨hP, hD⟩ := va_join (wr := []) (w1 := [(k9, .inr (1, [.ref tc, .int (nI zn_2), .int nu, .int ki, .int ce, .int lo])), (tc, .inl (cI, 16, .inl ftn_2))]) hP hD [0, 1] [] rfl rfl (by decide) (by decide) hk1 hFc_2 hP1 hD1
  generalize H1 = H at hP hS ⊢
  have hP : va_P (dC, dI) vwCl [(k9, .inr (1, [.ref tc, .int (nI zn_2), .int nu, .int ki, .int ce, .int lo])), (tc, .inl (cI, 16, .inl ftn_2))] H := hP
  have hD : va_D A [(k9, .inr (1, [.ref tc, .int (nI zn_2), .int nu, .int ki, .int ce, .int lo])), (tc, .inl (cI, 16, .inl ftn_2))] := hD
  have hP9 := hP.sub (ws' := [(k9, .inr (1, [.ref tc, .int (nI zn_2), .int nu, .int ki, .int ce, .int lo])), (tc, .inl (cI, 16, .inl ftn_2))]) [0, 1] rfl
  have hD9 := hD.sub (ws' := [(k9, .inr (1, [.ref tc, .int (nI zn_2), .int nu, .int ki, .int ce, .int lo])), (tc, .inl (cI, 16, .inl ftn_2))]) [0, 1] (by decide) rfl
  exact W.iret (v := r_2) hx hb hr (fun t ht hW => ⟨⟨r_2, (), rfl, trivial, ⟨zn_2, ftn_2, by rw [ht]; exact hP9, hD9, (by omega)⟩⟩, hS.F ht⟩) hS.2.2 dX1_askAnew_10
set_option maxHeartbeats 4000000 in
set_option maxRecDepth 100000 in
theorem r_X1_begin_4 (l : Launch) (dC : Nat → ClassId) (dI : Nat → Nat → Nat) (cI cZ cL cJ : ClassId) (sz : Nat) (k9 : Nat) (tc : Nat) (z : Nat) (nu : Int32) (ki : Int32) (ce : Int32) (lo : Int32) (ft : Nat → Int32) (x : Int32) (hz : z ≤ 16) : Met l yX1_begin wsX1_begin ({ frames := 24, cells := 0, slots := 0, locals := 541 }) (va_Pc [.ref k9, .int x, .int 4] (fun U => U.heap.size = sz ∧ va_P (dC, dI) vwCl [(k9, .inr (1, [.ref tc, .int (nI z), .int nu, .int ki, .int ce, .int lo])), (tc, .inl (cI, 16, .inl ft))] U.heap ∧ va_K (dC, dI) vwCl [(cI, .int), (cZ, .boolean), (cL, .object RX3), (cJ, .array .int)] U ∧ va_D (fun _ => True) [(k9, .inr (1, [.ref tc, .int (nI z), .int nu, .int ki, .int ce, .int lo])), (tc, .inl (cI, 16, .inl ft))] ∧ stt (va_A [(k9, .inr (1, [.ref tc, .int (nI z), .int nu, .int ki, .int ce, .int lo])), (tc, .inl (cI, 16, .inl ft))] sz) U U.heap)) (va_Qi (fun r (_ : Unit) => True) (fun (_ : Unit) t => ∃ (zn : Nat) (ftn : Nat → Int32), va_P (dC, dI) vwCl [(k9, .inr (1, [.ref tc, .int (nI zn), .int nu, .int ki, .int ce, .int lo])), (tc, .inl (cI, 16, .inl ftn))] t.heap ∧ va_D (va_A [(k9, .inr (1, [.ref tc, .int (nI z), .int nu, .int ki, .int ce, .int lo])), (tc, .inl (cI, 16, .inl ft))] sz) [(k9, .inr (1, [.ref tc, .int (nI zn), .int nu, .int ki, .int ce, .int lo])), (tc, .inl (cI, 16, .inl ftn))] ∧ zn ≤ 16) (va_A [(k9, .inr (1, [.ref tc, .int (nI z), .int nu, .int ki, .int ce, .int lo])), (tc, .inl (cI, 16, .inl ft))] sz)) 0 0 (va_A [(k9, .inr (1, [.ref tc, .int (nI z), .int nu, .int ki, .int ce, .int lo])), (tc, .inl (cI, 16, .inl ft))] sz) := by
  refine Met.ofW (cc := cX1_begin) (maxL := 4) (ret := (some .int)) (by decide) rfl ?_
  intro p e s m args below meth c s₁ B hml hv
  obtain ⟨rfl, hsz, hP, hK, hD0, hst⟩ := hv
  have hx := B.exec
  have hb := B.bytes
  have hr := B.returns
  have hts := atoms_spec (ws := wsX1_begin) B.pre
  have hown : s.vm.findClass RX1 = some m.cls := findClass_of_methodNamed B.named
  have hlocks := B.notSynchronized
  subst hsz
  have hD := hD0.self (sz := s.heap.size)
  generalize hAe : va_A [(k9, .inr (1, [.ref tc, .int (nI z), .int nu, .int ki, .int ce, .int lo])), (tc, .inl (cI, 16, .inl ft))] s.heap.size = A at hD hst ⊢
  have hA : ∀ q : Nat, s.heap.size ≤ q → A q := fun q h => by rw [← hAe]; exact Or.inr h
  have hS : va_S A s.heap s.heap [] := va_S.rf
  have hP : va_P (dC, dI) vwCl [(k9, .inr (1, [.ref tc, .int (nI z), .int nu, .int ki, .int ce, .int lo])), (tc, .inl (cI, 16, .inl ft))] s.heap := hP
  obtain ⟨⟨tb1, hZ1, hT1⟩, ⟨tb2, hZ2, hT2⟩, ⟨tb3, hZ3, hT3⟩, hNk⟩ := id hst
  have hl := lv_entry ([.ref k9, .int x, .int 4]) (n := 4) (Nat.le_of_ble_eq_true rfl)
  rw [lg_entry_eq]
  generalize (lg_sl ([.ref k9, .int x, .int 4]) ++ List.replicate (4 - (lg_sl ([.ref k9, .int x, .int 4])).length) Slot.unset).toArray = ls at hl ⊢
  have hl : lv_has ls 4 [(0, .ref k9), (1, .int x), (2, .int 4)] := hl
  refine lv_iload_n hx hb dX1_begin_0 rfl (lv_at hl 2 rfl) ?_
  refine lv_bipush (v := 16) hx hb dX1_begin_1 (by decide) ?_
  refine lv_icmp_lt (tgt := 8) hx hb dX1_begin_3 (by decide) (fun _ => ?_) (fun c_ => absurd (by decide) c_)
  refine lv_aload_n hx hb dX1_begin_8 rfl (lv_at hl 0 rfl) ?_
  refine lv_iload_n hx hb dX1_begin_9 rfl (lv_at hl 1 rfl) ?_
  have hPc_2 := hP.sub (ws' := [(k9, .inr (1, [.ref tc, .int (nI z), .int nu, .int ki, .int ce, .int lo])), (tc, .inl (cI, 16, .inl ft))]) [0, 1] rfl
  have hDc_2 := hD.sub (ws' := [(k9, .inr (1, [.ref tc, .int (nI z), .int nu, .int ki, .int ce, .int lo])), (tc, .inl (cI, 16, .inl ft))]) [0, 1] (by decide) rfl
  have hFc_2 := va_free (wc := [(k9, .inr (1, [.ref tc, .int (nI z), .int nu, .int ki, .int ce, .int lo])), (tc, .inl (cI, 16, .inl ft))]) hD hS hA [0, 1] rfl
  refine va_callv (va_runV (As := [.int x]) (rest := []) ⟨hx, hb, hml, hown, hts⟩ (r_X1_leave l dC dI cI cZ cL cJ s.heap.size k9 tc z nu ki ce lo ft x (by omega)) (cwV 1 hts gX1_begin_X1_leave rfl rfl rfl (by decide +kernel) ⟨Nat.le_of_ble_eq_true rfl, Nat.le_of_ble_eq_true rfl⟩) ⟨fun a U g mk q => by obtain ⟨q0, q1, qP, qK, qD⟩ := q; exact ⟨q0, q1, qP, va_K.moved (u := U) (U := U.calling g mk a) (Vm.Alike.refl U.vm) qK, qD⟩, va_recv hK hP (ci := 1) (q0 := 0) rfl rfl, fun U hU hW => ⟨rfl, by rw [hU], by rw [hU]; exact hPc_2, va_K.moved hW.alike hK, hDc_2.weaken (fun _ _ _ _ => trivial)⟩⟩ rfl rfl hl.1 rfl (lv_room (Nat.le_of_ble_eq_true rfl)) dX1_begin_10 ⟨Nat.le_of_ble_eq_true rfl, Nat.le_of_ble_eq_true rfl⟩) hS (fun q _ h => hFc_2 q h) hFc_2 (fun u_2 t_2 H1 locs ht hvm h_2 hB hz1 hk1 hS => ?_)
  obtain ⟨zn_2, ftn_2, hP1, hD1, hF_2_0⟩ := hB
  rw [ht] at hP1
  obtain ⟨hP, hD⟩ := va_join (wr := []) (w1 := [(k9, .inr (1, [.ref tc, .int (nI zn_2), .int nu, .int ki, .int ce, .int lo])), (tc, .inl (cI, 16, .inl ftn_2))]) hP hD [0, 1] [] rfl rfl (by decide) (by decide) hk1 hFc_2 hP1 hD1
  generalize H1 = H at hP hS ⊢
  have hP : va_P (dC, dI) vwCl [(k9, .inr (1, [.ref tc, .int (nI zn_2), .int nu, .int ki, .int ce, .int lo])), (tc, .inl (cI, 16, .inl ftn_2))] H := hP
  have hD : va_D A [(k9, .inr (1, [.ref tc, .int (nI zn_2), .int nu, .int ki, .int ce, .int lo])), (tc, .inl (cI, 16, .inl ftn_2))] := hD
  refine lv_iload_n hx hb dX1_begin_13 rfl (lv_at hl 2 rfl) ?_
  refine lv_iconst (v := 1) hx hb dX1_begin_14 (by decide) ?_
  refine lv_iadd hx hb dX1_begin_15 ?_
  refine lv_topi (fun v_3 e_3 => ?_)
  obtain rfl : v_3 = 5 := (e_3).trans (by decide)
  refine lv_istore_n (lv' := [(3, .int 5), (0, .ref k9), (1, .int x), (2, .int 4)]) hx hb dX1_begin_16 rfl hl (by decide) rfl (fun ls hl => ?_)
  refine lv_iload_n hx hb dX1_begin_17 rfl (lv_at hl 2 rfl) ?_
  by_cases k_4 : x = 10
  · subst k_4
    refine lv_tableIn (off := 74) (tgt := 92) hx hb dX1_begin_18 (by decide) (by decide) (by decide) (by decide) ?_
    refine lv_aload_n hx hb dX1_begin_92 rfl (lv_at hl 1 rfl) ?_
    refine va_get (D := (dC, dI)) (ci := 1) (v := .int lo) (C := RX1) (T := TX1) (N := 6) hx hb hts i_X1_begin_X1 hown hK hP 0 rfl rfl 5 (by decide) (hts (.fieldLink RX1 39 "MillTalk$Asks" "loud" "I") (by decide +kernel)) (fun _ h9 => h9) rfl dX1_begin_93 ?_
    have hP9 := hP.sub (ws' := [(k9, .inr (1, [.ref tc, .int (nI zn_2), .int nu, .int ki, .int ce, .int lo])), (tc, .inl (cI, 16, .inl ftn_2))]) [0, 1] rfl
    have hD9 := hD.sub (ws' := [(k9, .inr (1, [.ref tc, .int (nI zn_2), .int nu, .int ki, .int ce, .int lo])), (tc, .inl (cI, 16, .inl ftn_2))]) [0, 1] (by decide) rfl
    exact W.iret (v := lo) hx hb hr (fun t ht hW => ⟨⟨lo, (), rfl, trivial, ⟨zn_2, ftn_2, by rw [ht]; exact hP9, hD9, (by omega)⟩⟩, hS.F ht⟩) hS.2.2 dX1_begin_96
  by_cases k_5 : x = 11
  · subst k_5
    refine lv_tableIn (off := 79) (tgt := 97) hx hb dX1_begin_18 (by decide) (by decide) (by decide) (by decide) ?_
    refine lv_aload_n hx hb dX1_begin_97 rfl (lv_at hl 1 rfl) ?_
    refine lv_bipush (v := 10) hx hb dX1_begin_98 (by decide) ?_
    refine lv_iload_n hx hb dX1_begin_100 rfl (lv_at hl 0 rfl) ?_
    have hPc_6 := hP.sub (ws' := [(k9, .inr (1, [.ref tc, .int (nI zn_2), .int nu, .int ki, .int ce, .int lo])), (tc, .inl (cI, 16, .inl ftn_2))]) [0, 1] rfl
    have hDc_6 := hD.sub (ws' := [(k9, .inr (1, [.ref tc, .int (nI zn_2), .int nu, .int ki, .int ce, .int lo])), (tc, .inl (cI, 16, .inl ftn_2))]) [0, 1] (by decide) rfl
    have hFc_6 := va_free (wc := [(k9, .inr (1, [.ref tc, .int (nI zn_2), .int nu, .int ki, .int ce, .int lo])), (tc, .inl (cI, 16, .inl ftn_2))]) hD hS hA [0, 1] rfl
    refine va_calli (va_runV (As := [.int 10, .int 5]) (rest := []) ⟨hx, hb, hml, hown, hts⟩ (r_X1_begin_5 l dC dI cI cZ cL cJ H.size k9 tc zn_2 nu ki ce lo ftn_2 10 (by omega)) (cwV 2 hts gX1_begin_X1_begin rfl rfl rfl (by decide +kernel) ⟨Nat.le_of_ble_eq_true rfl, Nat.le_of_ble_eq_true rfl⟩) ⟨fun a U g mk q => by obtain ⟨q0, q1, qP, qK, qD, qS⟩ := q; exact ⟨q0, q1, qP, va_K.moved (u := U) (U := U.calling g mk a) (Vm.Alike.refl U.vm) qK, qD, stt_same rfl qS⟩, va_recv hK hP (ci := 1) (q0 := 0) rfl rfl, fun U hU hW => ⟨rfl, by rw [hU], by rw [hU]; exact hPc_6, va_K.moved hW.alike hK, hDc_6.weaken (fun _ _ _ _ => trivial), by rw [hU]; exact stt_warm hW (stt_narrow (stt_kept hst hS.2.1) hFc_6)⟩⟩ rfl rfl hl.1 rfl (lv_room (Nat.le_of_ble_eq_true rfl)) dX1_begin_101 ⟨Nat.le_of_ble_eq_true rfl, Nat.le_of_ble_eq_true rfl⟩) hS (fun q _ h => hFc_6 q h) hFc_6 (fun r_6 u_6 t_6 H1 locs ht hvm h_6 hB hz1 hk1 hS => ?_)
    obtain ⟨zn_6, ftn_6, hP1, hD1, hF_6_0⟩ := hB
    rw [ht] at hP1
    obtain ⟨hP, hD⟩ := va_join (wr := []) (w1 := [(k9, .inr (1, [.ref tc, .int (nI zn_6), .int nu, .int ki, .int ce, .int lo])), (tc, .inl (cI, 16, .inl ftn_6))]) hP hD [0, 1] [] rfl rfl (by decide) (by decide) hk1 hFc_6 hP1 hD1
    generalize H1 = H at hP hS ⊢
    have hP : va_P (dC, dI) vwCl [(k9, .inr (1, [.ref tc, .int (nI zn_6), .int nu, .int ki, .int ce, .int lo])), (tc, .inl (cI, 16, .inl ftn_6))] H := hP
    have hD : va_D A [(k9, .inr (1, [.ref tc, .int (nI zn_6), .int nu, .int ki, .int ce, .int lo])), (tc, .inl (cI, 16, .inl ftn_6))] := hD
    refine lv_aload_n hx hb dX1_begin_104 rfl (lv_at hl 1 rfl) ?_
    refine lv_iconst (v := 1) hx hb dX1_begin_105 (by decide) ?_
    refine lv_iload_n hx hb dX1_begin_106 rfl (lv_at hl 0 rfl) ?_
    have hPc_7 := hP.sub (ws' := [(k9, .inr (1, [.ref tc, .int (nI zn_6), .int nu, .int ki, .int ce, .int lo])), (tc, .inl (cI, 16, .inl ftn_6))]) [0, 1] rfl
    have hDc_7 := hD.sub (ws' := [(k9, .inr (1, [.ref tc, .int (nI zn_6), .int nu, .int ki, .int ce, .int lo])), (tc, .inl (cI, 16, .inl ftn_6))]) [0, 1] (by decide) rfl
    have hFc_7 := va_free (wc := [(k9, .inr (1, [.ref tc, .int (nI zn_6), .int nu, .int ki, .int ce, .int lo])), (tc, .inl (cI, 16, .inl ftn_6))]) hD hS hA [0, 1] rfl
    refine va_calli (va_runV (As := [.int 1, .int 5]) (rest := [.int r_6]) ⟨hx, hb, hml, hown, hts⟩ (r_X1_askAnew_5 l dC dI cI cZ cL cJ H.size k9 tc zn_6 nu ki ce lo ftn_6 1 (by omega)) (cwV 2 hts gX1_begin_X1_askAnew rfl rfl rfl (by decide +kernel) ⟨Nat.le_of_ble_eq_true rfl, Nat.le_of_ble_eq_true rfl⟩) ⟨fun a U g mk q => by obtain ⟨q0, q1, qP, qK, qD, qS⟩ := q; exact ⟨q0, q1, qP, va_K.moved (u := U) (U := U.calling g mk a) (Vm.Alike.refl U.vm) qK, qD, stt_same rfl qS⟩, va_recv hK hP (ci := 1) (q0 := 0) rfl rfl, fun U hU hW => ⟨rfl, by rw [hU], by rw [hU]; exact hPc_7, va_K.moved hW.alike hK, hDc_7.weaken (fun _ _ _ _ => trivial), by rw [hU]; exact stt_warm hW (stt_narrow (stt_kept hst hS.2.1) hFc_7)⟩⟩ rfl rfl hl.1 rfl (lv_room (Nat.le_of_ble_eq_true rfl)) dX1_begin_107 ⟨Nat.le_of_ble_eq_true rfl, Nat.le_of_ble_eq_true rfl⟩) hS (fun q _ h => hFc_7 q h) hFc_7 (fun r_7 u_7 t_7 H1 locs ht hvm h_7 hB hz1 hk1 hS => ?_)
    obtain ⟨zn_7, ftn_7, hP1, hD1, hF_7_0⟩ := hB
    rw [ht] at hP1
    obtain ⟨hP, hD⟩ := va_join (wr := []) (w1 := [(k9, .inr (1, [.ref tc, .int (nI zn_7), .int nu, .int ki, .int ce, .int lo])), (tc, .inl (cI, 16, .inl ftn_7))]) hP hD [0, 1] [] rfl rfl (by decide) (by decide) hk1 hFc_7 hP1 hD1
    generalize H1 = H at hP hS ⊢
    have hP : va_P (dC, dI) vwCl [(k9, .inr (1, [.ref tc, .int (nI zn_7), .int nu, .int ki, .int ce, .int lo])), (tc, .inl (cI, 16, .inl ftn_7))] H := hP
    have hD : va_D A [(k9, .inr (1, [.ref tc, .int (nI zn_7), .int nu, .int ki, .int ce, .int lo])), (tc, .inl (cI, 16, .inl ftn_7))] := hD
    refine lv_iadd hx hb dX1_begin_110 ?_
    refine lv_topi (fun v_8 e_8 => ?_)
    have hP9 := hP.sub (ws' := [(k9, .inr (1, [.ref tc, .int (nI zn_7), .int nu, .int ki, .int ce, .int lo])), (tc, .inl (cI, 16, .inl ftn_7))]) [0, 1] rfl
    have hD9 := hD.sub (ws' := [(k9, .inr (1, [.ref tc, .int (nI zn_7), .int nu, .int ki, .int ce, .int lo])), (tc, .inl (cI, 16, .inl ftn_7))]) [0, 1] (by decide) rfl
    exact W.iret (v := v_8) hx hb hr (fun t ht hW => ⟨⟨v_8, (), rfl, trivial, ⟨zn_7, ftn_7, by rw [ht]; exact hP9, hD9, (by omega)⟩⟩, hS.F ht⟩) hS.2.2 dX1_begin_111
  by_cases k_9 : x = 12
  · subst k_9
    refine lv_tableIn (off := 94) (tgt := 112) hx hb dX1_begin_18 (by decide) (by decide) (by decide) (by decide) ?_
    refine lv_aload_n hx hb dX1_begin_112 rfl (lv_at hl 1 rfl) ?_
    refine lv_bipush (v := 11) hx hb dX1_begin_113 (by decide) ?_
    refine lv_iload_n hx hb dX1_begin_115 rfl (lv_at hl 0 rfl) ?_
    have hPc_10 := hP.sub (ws' := [(k9, .inr (1, [.ref tc, .int (nI zn_2), .int nu, .int ki, .int ce, .int lo])), (tc, .inl (cI, 16, .inl ftn_2))]) [0, 1] rfl
    have hDc_10 := hD.sub (ws' := [(k9, .inr (1, [.ref tc, .int (nI zn_2), .int nu, .int ki, .int ce, .int lo])), (tc, .inl (cI, 16, .inl ftn_2))]) [0, 1] (by decide) rfl
    have hFc_10 := va_free (wc := [(k9, .inr (1, [.ref tc, .int (nI zn_2), .int nu, .int ki, .int ce, .int lo])), (tc, .inl (cI, 16, .inl ftn_2))]) hD hS hA [0, 1] rfl
    refine va_calli (va_runV (As := [.int 11, .int 5]) (rest := []) ⟨hx, hb, hml, hown, hts⟩ (r_X1_begin_5 l dC dI cI cZ cL cJ H.size k9 tc zn_2 nu ki ce lo ftn_2 11 (by omega)) (cwV 2 hts gX1_begin_X1_begin rfl rfl rfl (by decide +kernel) ⟨Nat.le_of_ble_eq_true rfl, Nat.le_of_ble_eq_true rfl⟩) ⟨fun a U g mk q => by obtain ⟨q0, q1, qP, qK, qD, qS⟩ := q; exact ⟨q0, q1, qP, va_K.moved (u := U) (U := U.calling g mk a) (Vm.Alike.refl U.vm) qK, qD, stt_same rfl qS⟩, va_recv hK hP (ci := 1) (q0 := 0) rfl rfl, fun U hU hW => ⟨rfl, by rw [hU], by rw [hU]; exact hPc_10, va_K.moved hW.alike hK, hDc_10.weaken (fun _ _ _ _ => trivial), by rw [hU]; exact stt_warm hW (stt_narrow (stt_kept hst hS.2.1) hFc_10)⟩⟩ rfl rfl hl.1 rfl (lv_room (Nat.le_of_ble_eq_true rfl)) dX1_begin_116 ⟨Nat.le_of_ble_eq_true rfl, Nat.le_of_ble_eq_true rfl⟩) hS (fun q _ h => hFc_10 q h) hFc_10 (fun r_10 u_10 t_10 H1 locs ht hvm h_10 hB hz1 hk1 hS => ?_)
    obtain ⟨zn_10, ftn_10, hP1, hD1, hF_10_0⟩ := hB
    rw [ht] at hP1
    obtain ⟨hP, hD⟩ := va_join (wr := []) (w1 := [(k9, .inr (1, [.ref tc, .int (nI zn_10), .int nu, .int ki, .int ce, .int lo])), (tc, .inl (cI, 16, .inl ftn_10))]) hP hD [0, 1] [] rfl rfl (by decide) (by decide) hk1 hFc_10 hP1 hD1
    generalize H1 = H at hP hS ⊢
    have hP : va_P (dC, dI) vwCl [(k9, .inr (1, [.ref tc, .int (nI zn_10), .int nu, .int ki, .int ce, .int lo])), (tc, .inl (cI, 16, .inl ftn_10))] H := hP
    have hD : va_D A [(k9, .inr (1, [.ref tc, .int (nI zn_10), .int nu, .int ki, .int ce, .int lo])), (tc, .inl (cI, 16, .inl ftn_10))] := hD
    refine lv_ineg hx hb dX1_begin_119 ?_
    refine lv_topi (fun v_11 e_11 => ?_)
    have hP9 := hP.sub (ws' := [(k9, .inr (1, [.ref tc, .int (nI zn_10), .int nu, .int ki, .int ce, .int lo])), (tc, .inl (cI, 16, .inl ftn_10))]) [0, 1] rfl
    have hD9 := hD.sub (ws' := [(k9, .inr (1, [.ref tc, .int (nI zn_10), .int nu, .int ki, .int ce, .int lo])), (tc, .inl (cI, 16, .inl ftn_10))]) [0, 1] (by decide) rfl
    exact W.iret (v := v_11) hx hb hr (fun t ht hW => ⟨⟨v_11, (), rfl, trivial, ⟨zn_10, ftn_10, by rw [ht]; exact hP9, hD9, (by omega)⟩⟩, hS.F ht⟩) hS.2.2 dX1_begin_120
  by_cases k_12 : x = 13
  · subst k_12
    refine lv_tableIn (off := 103) (tgt := 121) hx hb dX1_begin_18 (by decide) (by decide) (by decide) (by decide) ?_
    refine lv_aload_n hx hb dX1_begin_121 rfl (lv_at hl 1 rfl) ?_
    refine lv_bipush (v := 10) hx hb dX1_begin_122 (by decide) ?_
    refine lv_iload_n hx hb dX1_begin_124 rfl (lv_at hl 0 rfl) ?_
    have hPc_13 := hP.sub (ws' := [(k9, .inr (1, [.ref tc, .int (nI zn_2), .int nu, .int ki, .int ce, .int lo])), (tc, .inl (cI, 16, .inl ftn_2))]) [0, 1] rfl
    have hDc_13 := hD.sub (ws' := [(k9, .inr (1, [.ref tc, .int (nI zn_2), .int nu, .int ki, .int ce, .int lo])), (tc, .inl (cI, 16, .inl ftn_2))]) [0, 1] (by decide) rfl
    have hFc_13 := va_free (wc := [(k9, .inr (1, [.ref tc, .int (nI zn_2), .int nu, .int ki, .int ce, .int lo])), (tc, .inl (cI, 16, .inl ftn_2))]) hD hS hA [0, 1] rfl
    refine va_calli (va_runV (As := [.int 10, .int 5]) (rest := []) ⟨hx, hb, hml, hown, hts⟩ (r_X1_begin_5 l dC dI cI cZ cL cJ H.size k9 tc zn_2 nu ki ce lo ftn_2 10 (by omega)) (cwV 2 hts gX1_begin_X1_begin rfl rfl rfl (by decide +kernel) ⟨Nat.le_of_ble_eq_true rfl, Nat.le_of_ble_eq_true rfl⟩) ⟨fun a U g mk q => by obtain ⟨q0, q1, qP, qK, qD, qS⟩ := q; exact ⟨q0, q1, qP, va_K.moved (u := U) (U := U.calling g mk a) (Vm.Alike.refl U.vm) qK, qD, stt_same rfl qS⟩, va_recv hK hP (ci := 1) (q0 := 0) rfl rfl, fun U hU hW => ⟨rfl, by rw [hU], by rw [hU]; exact hPc_13, va_K.moved hW.alike hK, hDc_13.weaken (fun _ _ _ _ => trivial), by rw [hU]; exact stt_warm hW (stt_narrow (stt_kept hst hS.2.1) hFc_13)⟩⟩ rfl rfl hl.1 rfl (lv_room (Nat.le_of_ble_eq_true rfl)) dX1_begin_125 ⟨Nat.le_of_ble_eq_true rfl, Nat.le_of_ble_eq_true rfl⟩) hS (fun q _ h => hFc_13 q h) hFc_13 (fun r_13 u_13 t_13 H1 locs ht hvm h_13 hB hz1 hk1 hS => ?_)
    obtain ⟨zn_13, ftn_13, hP1, hD1, hF_13_0⟩ := hB
    rw [ht] at hP1
    obtain ⟨hP, hD⟩ := va_join (wr := []) (w1 := [(k9, .inr (1, [.ref tc, .int (nI zn_13), .int nu, .int ki, .int ce, .int lo])), (tc, .inl (cI, 16, .inl ftn_13))]) hP hD [0, 1] [] rfl rfl (by decide) (by decide) hk1 hFc_13 hP1 hD1
    generalize H1 = H at hP hS ⊢
    have hP : va_P (dC, dI) vwCl [(k9, .inr (1, [.ref tc, .int (nI zn_13), .int nu, .int ki, .int ce, .int lo])), (tc, .inl (cI, 16, .inl ftn_13))] H := hP
    have hD : va_D A [(k9, .inr (1, [.ref tc, .int (nI zn_13), .int nu, .int ki, .int ce, .int lo])), (tc, .inl (cI, 16, .inl ftn_13))] := hD
    refine lv_bipush (v := 100) hx hb dX1_begin_128 (by decide) ?_
    refine lv_isub hx hb dX1_begin_130 ?_
    refine lv_topi (fun v_14 e_14 => ?_)
    have hP9 := hP.sub (ws' := [(k9, .inr (1, [.ref tc, .int (nI zn_13), .int nu, .int ki, .int ce, .int lo])), (tc, .inl (cI, 16, .inl ftn_13))]) [0, 1] rfl
    have hD9 := hD.sub (ws' := [(k9, .inr (1, [.ref tc, .int (nI zn_13), .int nu, .int ki, .int ce, .int lo])), (tc, .inl (cI, 16, .inl ftn_13))]) [0, 1] (by decide) rfl
    exact W.iret (v := v_14) hx hb hr (fun t ht hW => ⟨⟨v_14, (), rfl, trivial, ⟨zn_13, ftn_13, by rw [ht]; exact hP9, hD9, (by omega)⟩⟩, hS.F ht⟩) hS.2.2 dX1_begin_131
  by_cases k_15 : x = 14
  · subst k_15
    refine lv_tableIn (off := 114) (tgt := 132) hx hb dX1_begin_18 (by decide) (by decide) (by decide) (by decide) ?_
    refine lv_aload_n hx hb dX1_begin_132 rfl (lv_at hl 1 rfl) ?_
    refine lv_bipush (v := 13) hx hb dX1_begin_133 (by decide) ?_
    refine lv_iload_n hx hb dX1_begin_135 rfl (lv_at hl 0 rfl) ?_
    have hPc_16 := hP.sub (ws' := [(k9, .inr (1, [.ref tc, .int (nI zn_2), .int nu, .int ki, .int ce, .int lo])), (tc, .inl (cI, 16, .inl ftn_2))]) [0, 1] rfl
    have hDc_16 := hD.sub (ws' := [(k9, .inr (1, [.ref tc, .int (nI zn_2), .int nu, .int ki, .int ce, .int lo])), (tc, .inl (cI, 16, .inl ftn_2))]) [0, 1] (by decide) rfl
    have hFc_16 := va_free (wc := [(k9, .inr (1, [.ref tc, .int (nI zn_2), .int nu, .int ki, .int ce, .int lo])), (tc, .inl (cI, 16, .inl ftn_2))]) hD hS hA [0, 1] rfl
    refine va_calli (va_runV (As := [.int 13, .int 5]) (rest := []) ⟨hx, hb, hml, hown, hts⟩ (r_X1_begin_5 l dC dI cI cZ cL cJ H.size k9 tc zn_2 nu ki ce lo ftn_2 13 (by omega)) (cwV 2 hts gX1_begin_X1_begin rfl rfl rfl (by decide +kernel) ⟨Nat.le_of_ble_eq_true rfl, Nat.le_of_ble_eq_true rfl⟩) ⟨fun a U g mk q => by obtain ⟨q0, q1, qP, qK, qD, qS⟩ := q; exact ⟨q0, q1, qP, va_K.moved (u := U) (U := U.calling g mk a) (Vm.Alike.refl U.vm) qK, qD, stt_same rfl qS⟩, va_recv hK hP (ci := 1) (q0 := 0) rfl rfl, fun U hU hW => ⟨rfl, by rw [hU], by rw [hU]; exact hPc_16, va_K.moved hW.alike hK, hDc_16.weaken (fun _ _ _ _ => trivial), by rw [hU]; exact stt_warm hW (stt_narrow (stt_kept hst hS.2.1) hFc_16)⟩⟩ rfl rfl hl.1 rfl (lv_room (Nat.le_of_ble_eq_true rfl)) dX1_begin_136 ⟨Nat.le_of_ble_eq_true rfl, Nat.le_of_ble_eq_true rfl⟩) hS (fun q _ h => hFc_16 q h) hFc_16 (fun r_16 u_16 t_16 H1 locs ht hvm h_16 hB hz1 hk1 hS => ?_)
    obtain ⟨zn_16, ftn_16, hP1, hD1, hF_16_0⟩ := hB
    rw [ht] at hP1
    obtain ⟨hP, hD⟩ := va_join (wr := []) (w1 := [(k9, .inr (1, [.ref tc, .int (nI zn_16), .int nu, .int ki, .int ce, .int lo])), (tc, .inl (cI, 16, .inl ftn_16))]) hP hD [0, 1] [] rfl rfl (by decide) (by decide) hk1 hFc_16 hP1 hD1
    generalize H1 = H at hP hS ⊢
    have hP : va_P (dC, dI) vwCl [(k9, .inr (1, [.ref tc, .int (nI zn_16), .int nu, .int ki, .int ce, .int lo])), (tc, .inl (cI, 16, .inl ftn_16))] H := hP
    have hD : va_D A [(k9, .inr (1, [.ref tc, .int (nI zn_16), .int nu, .int ki, .int ce, .int lo])), (tc, .inl (cI, 16, .inl ftn_16))] := hD
    refine lv_iconst (v := 2) hx hb dX1_begin_139 (by decide) ?_
    refine lv_imul hx hb dX1_begin_140 ?_
    refine lv_topi (fun v_17 e_17 => ?_)
    have hP9 := hP.sub (ws' := [(k9, .inr (1, [.ref tc, .int (nI zn_16), .int nu, .int ki, .int ce, .int lo])), (tc, .inl (cI, 16, .inl ftn_16))]) [0, 1] rfl
    have hD9 := hD.sub (ws' := [(k9, .inr (1, [.ref tc, .int (nI zn_16), .int nu, .int ki, .int ce, .int lo])), (tc, .inl (cI, 16, .inl ftn_16))]) [0, 1] (by decide) rfl
    exact W.iret (v := v_17) hx hb hr (fun t ht hW => ⟨⟨v_17, (), rfl, trivial, ⟨zn_16, ftn_16, by rw [ht]; exact hP9, hD9, (by omega)⟩⟩, hS.F ht⟩) hS.2.2 dX1_begin_141
  by_cases k_18 : x = 15
  · subst k_18
    refine lv_tableIn (off := 179) (tgt := 197) hx hb dX1_begin_18 (by decide) (by decide) (by decide) (by decide) ?_
    refine lv_iconst (v := 0) hx hb dX1_begin_197 (by decide) ?_
    have hP9 := hP.sub (ws' := [(k9, .inr (1, [.ref tc, .int (nI zn_2), .int nu, .int ki, .int ce, .int lo])), (tc, .inl (cI, 16, .inl ftn_2))]) [0, 1] rfl
    have hD9 := hD.sub (ws' := [(k9, .inr (1, [.ref tc, .int (nI zn_2), .int nu, .int ki, .int ce, .int lo])), (tc, .inl (cI, 16, .inl ftn_2))]) [0, 1] (by decide) rfl
    exact W.iret (v := 0) hx hb hr (fun t ht hW => ⟨⟨0, (), rfl, trivial, ⟨zn_2, ftn_2, by rw [ht]; exact hP9, hD9, (by omega)⟩⟩, hS.F ht⟩) hS.2.2 dX1_begin_198
  by_cases k_19 : x = 16
  · subst k_19
    refine lv_tableIn (off := 179) (tgt := 197) hx hb dX1_begin_18 (by decide) (by decide) (by decide) (by decide) ?_
    refine lv_iconst (v := 0) hx hb dX1_begin_197 (by decide) ?_
    have hP9 := hP.sub (ws' := [(k9, .inr (1, [.ref tc, .int (nI zn_2), .int nu, .int ki, .int ce, .int lo])), (tc, .inl (cI, 16, .inl ftn_2))]) [0, 1] rfl
    have hD9 := hD.sub (ws' := [(k9, .inr (1, [.ref tc, .int (nI zn_2), .int nu, .int ki, .int ce, .int lo])), (tc, .inl (cI, 16, .inl ftn_2))]) [0, 1] (by decide) rfl
    exact W.iret (v := 0) hx hb hr (fun t ht hW => ⟨⟨0, (), rfl, trivial, ⟨zn_2, ftn_2, by rw [ht]; exact hP9, hD9, (by omega)⟩⟩, hS.F ht⟩) hS.2.2 dX1_begin_198
  by_cases k_20 : x = 17
  · subst k_20
    refine lv_tableIn (off := 179) (tgt := 197) hx hb dX1_begin_18 (by decide) (by decide) (by decide) (by decide) ?_
    refine lv_iconst (v := 0) hx hb dX1_begin_197 (by decide) ?_
    have hP9 := hP.sub (ws' := [(k9, .inr (1, [.ref tc, .int (nI zn_2), .int nu, .int ki, .int ce, .int lo])), (tc, .inl (cI, 16, .inl ftn_2))]) [0, 1] rfl
    have hD9 := hD.sub (ws' := [(k9, .inr (1, [.ref tc, .int (nI zn_2), .int nu, .int ki, .int ce, .int lo])), (tc, .inl (cI, 16, .inl ftn_2))]) [0, 1] (by decide) rfl
    exact W.iret (v := 0) hx hb hr (fun t ht hW => ⟨⟨0, (), rfl, trivial, ⟨zn_2, ftn_2, by rw [ht]; exact hP9, hD9, (by omega)⟩⟩, hS.F ht⟩) hS.2.2 dX1_begin_198
  by_cases k_21 : x = 18
  · subst k_21
    refine lv_tableIn (off := 179) (tgt := 197) hx hb dX1_begin_18 (by decide) (by decide) (by decide) (by decide) ?_
    refine lv_iconst (v := 0) hx hb dX1_begin_197 (by decide) ?_
    have hP9 := hP.sub (ws' := [(k9, .inr (1, [.ref tc, .int (nI zn_2), .int nu, .int ki, .int ce, .int lo])), (tc, .inl (cI, 16, .inl ftn_2))]) [0, 1] rfl
    have hD9 := hD.sub (ws' := [(k9, .inr (1, [.ref tc, .int (nI zn_2), .int nu, .int ki, .int ce, .int lo])), (tc, .inl (cI, 16, .inl ftn_2))]) [0, 1] (by decide) rfl
    exact W.iret (v := 0) hx hb hr (fun t ht hW => ⟨⟨0, (), rfl, trivial, ⟨zn_2, ftn_2, by rw [ht]; exact hP9, hD9, (by omega)⟩⟩, hS.F ht⟩) hS.2.2 dX1_begin_198
  by_cases k_22 : x = 19
  · subst k_22
    refine lv_tableIn (off := 179) (tgt := 197) hx hb dX1_begin_18 (by decide) (by decide) (by decide) (by decide) ?_
    refine lv_iconst (v := 0) hx hb dX1_begin_197 (by decide) ?_
    have hP9 := hP.sub (ws' := [(k9, .inr (1, [.ref tc, .int (nI zn_2), .int nu, .int ki, .int ce, .int lo])), (tc, .inl (cI, 16, .inl ftn_2))]) [0, 1] rfl
    have hD9 := hD.sub (ws' := [(k9, .inr (1, [.ref tc, .int (nI zn_2), .int nu, .int ki, .int ce, .int lo])), (tc, .inl (cI, 16, .inl ftn_2))]) [0, 1] (by decide) rfl
    exact W.iret (v := 0) hx hb hr (fun t ht hW => ⟨⟨0, (), rfl, trivial, ⟨zn_2, ftn_2, by rw [ht]; exact hP9, hD9, (by omega)⟩⟩, hS.F ht⟩) hS.2.2 dX1_begin_198
  by_cases k_23 : x = 20
  · subst k_23
    refine lv_tableIn (off := 124) (tgt := 142) hx hb dX1_begin_18 (by decide) (by decide) (by decide) (by decide) ?_
    refine lv_aload_n hx hb dX1_begin_142 rfl (lv_at hl 1 rfl) ?_
    refine va_get (D := (dC, dI)) (ci := 1) (v := .int nu) (C := RX1) (T := TX1) (N := 6) hx hb hts i_X1_begin_X1 hown hK hP 0 rfl rfl 2 (by decide) (hts (.fieldLink RX1 19 "MillTalk$Asks" "number" "I") (by decide +kernel)) (fun _ h9 => h9) rfl dX1_begin_143 ?_
    have hP9 := hP.sub (ws' := [(k9, .inr (1, [.ref tc, .int (nI zn_2), .int nu, .int ki, .int ce, .int lo])), (tc, .inl (cI, 16, .inl ftn_2))]) [0, 1] rfl
    have hD9 := hD.sub (ws' := [(k9, .inr (1, [.ref tc, .int (nI zn_2), .int nu, .int ki, .int ce, .int lo])), (tc, .inl (cI, 16, .inl ftn_2))]) [0, 1] (by decide) rfl
    exact W.iret (v := nu) hx hb hr (fun t ht hW => ⟨⟨nu, (), rfl, trivial, ⟨zn_2, ftn_2, by rw [ht]; exact hP9, hD9, (by omega)⟩⟩, hS.F ht⟩) hS.2.2 dX1_begin_146
  by_cases k_24 : x = 21
  · subst k_24
    refine lv_tableIn (off := 129) (tgt := 147) hx hb dX1_begin_18 (by decide) (by decide) (by decide) (by decide) ?_
    refine lv_aload_n hx hb dX1_begin_147 rfl (lv_at hl 1 rfl) ?_
    refine lv_bipush (v := 20) hx hb dX1_begin_148 (by decide) ?_
    refine lv_iload_n hx hb dX1_begin_150 rfl (lv_at hl 0 rfl) ?_
    have hPc_25 := hP.sub (ws' := [(k9, .inr (1, [.ref tc, .int (nI zn_2), .int nu, .int ki, .int ce, .int lo])), (tc, .inl (cI, 16, .inl ftn_2))]) [0, 1] rfl
    have hDc_25 := hD.sub (ws' := [(k9, .inr (1, [.ref tc, .int (nI zn_2), .int nu, .int ki, .int ce, .int lo])), (tc, .inl (cI, 16, .inl ftn_2))]) [0, 1] (by decide) rfl
    have hFc_25 := va_free (wc := [(k9, .inr (1, [.ref tc, .int (nI zn_2), .int nu, .int ki, .int ce, .int lo])), (tc, .inl (cI, 16, .inl ftn_2))]) hD hS hA [0, 1] rfl
    refine va_calli (va_runV (As := [.int 20, .int 5]) (rest := []) ⟨hx, hb, hml, hown, hts⟩ (r_X1_begin_5 l dC dI cI cZ cL cJ H.size k9 tc zn_2 nu ki ce lo ftn_2 20 (by omega)) (cwV 2 hts gX1_begin_X1_begin rfl rfl rfl (by decide +kernel) ⟨Nat.le_of_ble_eq_true rfl, Nat.le_of_ble_eq_true rfl⟩) ⟨fun a U g mk q => by obtain ⟨q0, q1, qP, qK, qD, qS⟩ := q; exact ⟨q0, q1, qP, va_K.moved (u := U) (U := U.calling g mk a) (Vm.Alike.refl U.vm) qK, qD, stt_same rfl qS⟩, va_recv hK hP (ci := 1) (q0 := 0) rfl rfl, fun U hU hW => ⟨rfl, by rw [hU], by rw [hU]; exact hPc_25, va_K.moved hW.alike hK, hDc_25.weaken (fun _ _ _ _ => trivial), by rw [hU]; exact stt_warm hW (stt_narrow (stt_kept hst hS.2.1) hFc_25)⟩⟩ rfl rfl hl.1 rfl (lv_room (Nat.le_of_ble_eq_true rfl)) dX1_begin_151 ⟨Nat.le_of_ble_eq_true rfl, Nat.le_of_ble_eq_true rfl⟩) hS (fun q _ h => hFc_25 q h) hFc_25 (fun r_25 u_25 t_25 H1 locs ht hvm h_25 hB hz1 hk1 hS => ?_)
    obtain ⟨zn_25, ftn_25, hP1, hD1, hF_25_0⟩ := hB
    rw [ht] at hP1
    obtain ⟨hP, hD⟩ := va_join (wr := []) (w1 := [(k9, .inr (1, [.ref tc, .int (nI zn_25), .int nu, .int ki, .int ce, .int lo])), (tc, .inl (cI, 16, .inl ftn_25))]) hP hD [0, 1] [] rfl rfl (by decide) (by decide) hk1 hFc_25 hP1 hD1
    generalize H1 = H at hP hS ⊢
    have hP : va_P (dC, dI) vwCl [(k9, .inr (1, [.ref tc, .int (nI zn_25), .int nu, .int ki, .int ce, .int lo])), (tc, .inl (cI, 16, .inl ftn_25))] H := hP
    have hD : va_D A [(k9, .inr (1, [.ref tc, .int (nI zn_25), .int nu, .int ki, .int ce, .int lo])), (tc, .inl (cI, 16, .inl ftn_25))] := hD
    refine lv_aload_n hx hb dX1_begin_154 rfl (lv_at hl 1 rfl) ?_
    refine va_get (D := (dC, dI)) (ci := 1) (v := .int ce) (C := RX1) (T := TX1) (N := 6) hx hb hts i_X1_begin_X1 hown hK hP 0 rfl rfl 4 (by decide) (hts (.fieldLink RX1 33 "MillTalk$Asks" "cell" "I") (by decide +kernel)) (fun _ h9 => h9) rfl dX1_begin_155 ?_
    refine lv_iadd hx hb dX1_begin_158 ?_
    refine lv_topi (fun v_26 e_26 => ?_)
    have hP9 := hP.sub (ws' := [(k9, .inr (1, [.ref tc, .int (nI zn_25), .int nu, .int ki, .int ce, .int lo])), (tc, .inl (cI, 16, .inl ftn_25))]) [0, 1] rfl
    have hD9 := hD.sub (ws' := [(k9, .inr (1, [.ref tc, .int (nI zn_25), .int nu, .int ki, .int ce, .int lo])), (tc, .inl (cI, 16, .inl ftn_25))]) [0, 1] (by decide) rfl
    exact W.iret (v := v_26) hx hb hr (fun t ht hW => ⟨⟨v_26, (), rfl, trivial, ⟨zn_25, ftn_25, by rw [ht]; exact hP9, hD9, (by omega)⟩⟩, hS.F ht⟩) hS.2.2 dX1_begin_159
  by_cases k_27 : x = 22
  · subst k_27
    refine lv_tableIn (off := 142) (tgt := 160) hx hb dX1_begin_18 (by decide) (by decide) (by decide) (by decide) ?_
    refine lv_aload_n hx hb dX1_begin_160 rfl (lv_at hl 1 rfl) ?_
    refine lv_bipush (v := 21) hx hb dX1_begin_161 (by decide) ?_
    refine lv_iload_n hx hb dX1_begin_163 rfl (lv_at hl 0 rfl) ?_
    have hPc_28 := hP.sub (ws' := [(k9, .inr (1, [.ref tc, .int (nI zn_2), .int nu, .int ki, .int ce, .int lo])), (tc, .inl (cI, 16, .inl ftn_2))]) [0, 1] rfl
    have hDc_28 := hD.sub (ws' := [(k9, .inr (1, [.ref tc, .int (nI zn_2), .int nu, .int ki, .int ce, .int lo])), (tc, .inl (cI, 16, .inl ftn_2))]) [0, 1] (by decide) rfl
    have hFc_28 := va_free (wc := [(k9, .inr (1, [.ref tc, .int (nI zn_2), .int nu, .int ki, .int ce, .int lo])), (tc, .inl (cI, 16, .inl ftn_2))]) hD hS hA [0, 1] rfl
    refine va_calli (va_runV (As := [.int 21, .int 5]) (rest := []) ⟨hx, hb, hml, hown, hts⟩ (r_X1_begin_5 l dC dI cI cZ cL cJ H.size k9 tc zn_2 nu ki ce lo ftn_2 21 (by omega)) (cwV 2 hts gX1_begin_X1_begin rfl rfl rfl (by decide +kernel) ⟨Nat.le_of_ble_eq_true rfl, Nat.le_of_ble_eq_true rfl⟩) ⟨fun a U g mk q => by obtain ⟨q0, q1, qP, qK, qD, qS⟩ := q; exact ⟨q0, q1, qP, va_K.moved (u := U) (U := U.calling g mk a) (Vm.Alike.refl U.vm) qK, qD, stt_same rfl qS⟩, va_recv hK hP (ci := 1) (q0 := 0) rfl rfl, fun U hU hW => ⟨rfl, by rw [hU], by rw [hU]; exact hPc_28, va_K.moved hW.alike hK, hDc_28.weaken (fun _ _ _ _ => trivial), by rw [hU]; exact stt_warm hW (stt_narrow (stt_kept hst hS.2.1) hFc_28)⟩⟩ rfl rfl hl.1 rfl (lv_room (Nat.le_of_ble_eq_true rfl)) dX1_begin_164 ⟨Nat.le_of_ble_eq_true rfl, Nat.le_of_ble_eq_true rfl⟩) hS (fun q _ h => hFc_28 q h) hFc_28 (fun r_28 u_28 t_28 H1 locs ht hvm h_28 hB hz1 hk1 hS => ?_)
    obtain ⟨zn_28, ftn_28, hP1, hD1, hF_28_0⟩ := hB
    rw [ht] at hP1
    obtain ⟨hP, hD⟩ := va_join (wr := []) (w1 := [(k9, .inr (1, [.ref tc, .int (nI zn_28), .int nu, .int ki, .int ce, .int lo])), (tc, .inl (cI, 16, .inl ftn_28))]) hP hD [0, 1] [] rfl rfl (by decide) (by decide) hk1 hFc_28 hP1 hD1
    generalize H1 = H at hP hS ⊢
    have hP : va_P (dC, dI) vwCl [(k9, .inr (1, [.ref tc, .int (nI zn_28), .int nu, .int ki, .int ce, .int lo])), (tc, .inl (cI, 16, .inl ftn_28))] H := hP
    have hD : va_D A [(k9, .inr (1, [.ref tc, .int (nI zn_28), .int nu, .int ki, .int ce, .int lo])), (tc, .inl (cI, 16, .inl ftn_28))] := hD
    refine lv_sipush (v := 1000) hx hb dX1_begin_167 (by decide) ?_
    refine lv_isub hx hb dX1_begin_170 ?_
    refine lv_topi (fun v_29 e_29 => ?_)
    have hP9 := hP.sub (ws' := [(k9, .inr (1, [.ref tc, .int (nI zn_28), .int nu, .int ki, .int ce, .int lo])), (tc, .inl (cI, 16, .inl ftn_28))]) [0, 1] rfl
    have hD9 := hD.sub (ws' := [(k9, .inr (1, [.ref tc, .int (nI zn_28), .int nu, .int ki, .int ce, .int lo])), (tc, .inl (cI, 16, .inl ftn_28))]) [0, 1] (by decide) rfl
    exact W.iret (v := v_29) hx hb hr (fun t ht hW => ⟨⟨v_29, (), rfl, trivial, ⟨zn_28, ftn_28, by rw [ht]; exact hP9, hD9, (by omega)⟩⟩, hS.F ht⟩) hS.2.2 dX1_begin_171
  by_cases k_30 : x = 23
  · subst k_30
    refine lv_tableIn (off := 154) (tgt := 172) hx hb dX1_begin_18 (by decide) (by decide) (by decide) (by decide) ?_
    refine lv_aload_n hx hb dX1_begin_172 rfl (lv_at hl 1 rfl) ?_
    refine lv_bipush (v := 20) hx hb dX1_begin_173 (by decide) ?_
    refine lv_iload_n hx hb dX1_begin_175 rfl (lv_at hl 0 rfl) ?_
    have hPc_31 := hP.sub (ws' := [(k9, .inr (1, [.ref tc, .int (nI zn_2), .int nu, .int ki, .int ce, .int lo])), (tc, .inl (cI, 16, .inl ftn_2))]) [0, 1] rfl
    have hDc_31 := hD.sub (ws' := [(k9, .inr (1, [.ref tc, .int (nI zn_2), .int nu, .int ki, .int ce, .int lo])), (tc, .inl (cI, 16, .inl ftn_2))]) [0, 1] (by decide) rfl
    have hFc_31 := va_free (wc := [(k9, .inr (1, [.ref tc, .int (nI zn_2), .int nu, .int ki, .int ce, .int lo])), (tc, .inl (cI, 16, .inl ftn_2))]) hD hS hA [0, 1] rfl
    refine va_calli (va_runV (As := [.int 20, .int 5]) (rest := []) ⟨hx, hb, hml, hown, hts⟩ (r_X1_begin_5 l dC dI cI cZ cL cJ H.size k9 tc zn_2 nu ki ce lo ftn_2 20 (by omega)) (cwV 2 hts gX1_begin_X1_begin rfl rfl rfl (by decide +kernel) ⟨Nat.le_of_ble_eq_true rfl, Nat.le_of_ble_eq_true rfl⟩) ⟨fun a U g mk q => by obtain ⟨q0, q1, qP, qK, qD, qS⟩ := q; exact ⟨q0, q1, qP, va_K.moved (u := U) (U := U.calling g mk a) (Vm.Alike.refl U.vm) qK, qD, stt_same rfl qS⟩, va_recv hK hP (ci := 1) (q0 := 0) rfl rfl, fun U hU hW => ⟨rfl, by rw [hU], by rw [hU]; exact hPc_31, va_K.moved hW.alike hK, hDc_31.weaken (fun _ _ _ _ => trivial), by rw [hU]; exact stt_warm hW (stt_narrow (stt_kept hst hS.2.1) hFc_31)⟩⟩ rfl rfl hl.1 rfl (lv_room (Nat.le_of_ble_eq_true rfl)) dX1_begin_176 ⟨Nat.le_of_ble_eq_true rfl, Nat.le_of_ble_eq_true rfl⟩) hS (fun q _ h => hFc_31 q h) hFc_31 (fun r_31 u_31 t_31 H1 locs ht hvm h_31 hB hz1 hk1 hS => ?_)
    obtain ⟨zn_31, ftn_31, hP1, hD1, hF_31_0⟩ := hB
    rw [ht] at hP1
    obtain ⟨hP, hD⟩ := va_join (wr := []) (w1 := [(k9, .inr (1, [.ref tc, .int (nI zn_31), .int nu, .int ki, .int ce, .int lo])), (tc, .inl (cI, 16, .inl ftn_31))]) hP hD [0, 1] [] rfl rfl (by decide) (by decide) hk1 hFc_31 hP1 hD1
    generalize H1 = H at hP hS ⊢
    have hP : va_P (dC, dI) vwCl [(k9, .inr (1, [.ref tc, .int (nI zn_31), .int nu, .int ki, .int ce, .int lo])), (tc, .inl (cI, 16, .inl ftn_31))] H := hP
    have hD : va_D A [(k9, .inr (1, [.ref tc, .int (nI zn_31), .int nu, .int ki, .int ce, .int lo])), (tc, .inl (cI, 16, .inl ftn_31))] := hD
    refine lv_aload_n hx hb dX1_begin_179 rfl (lv_at hl 1 rfl) ?_
    refine lv_iconst (v := 0) hx hb dX1_begin_180 (by decide) ?_
    refine lv_iload_n hx hb dX1_begin_181 rfl (lv_at hl 0 rfl) ?_
    have hPc_32 := hP.sub (ws' := [(k9, .inr (1, [.ref tc, .int (nI zn_31), .int nu, .int ki, .int ce, .int lo])), (tc, .inl (cI, 16, .inl ftn_31))]) [0, 1] rfl
    have hDc_32 := hD.sub (ws' := [(k9, .inr (1, [.ref tc, .int (nI zn_31), .int nu, .int ki, .int ce, .int lo])), (tc, .inl (cI, 16, .inl ftn_31))]) [0, 1] (by decide) rfl
    have hFc_32 := va_free (wc := [(k9, .inr (1, [.ref tc, .int (nI zn_31), .int nu, .int ki, .int ce, .int lo])), (tc, .inl (cI, 16, .inl ftn_31))]) hD hS hA [0, 1] rfl
    refine va_calli (va_runV (As := [.int 0, .int 5]) (rest := [.int r_31]) ⟨hx, hb, hml, hown, hts⟩ (r_X1_askAnew_5 l dC dI cI cZ cL cJ H.size k9 tc zn_31 nu ki ce lo ftn_31 0 (by omega)) (cwV 2 hts gX1_begin_X1_askAnew rfl rfl rfl (by decide +kernel) ⟨Nat.le_of_ble_eq_true rfl, Nat.le_of_ble_eq_true rfl⟩) ⟨fun a U g mk q => by obtain ⟨q0, q1, qP, qK, qD, qS⟩ := q; exact ⟨q0, q1, qP, va_K.moved (u := U) (U := U.calling g mk a) (Vm.Alike.refl U.vm) qK, qD, stt_same rfl qS⟩, va_recv hK hP (ci := 1) (q0 := 0) rfl rfl, fun U hU hW => ⟨rfl, by rw [hU], by rw [hU]; exact hPc_32, va_K.moved hW.alike hK, hDc_32.weaken (fun _ _ _ _ => trivial), by rw [hU]; exact stt_warm hW (stt_narrow (stt_kept hst hS.2.1) hFc_32)⟩⟩ rfl rfl hl.1 rfl (lv_room (Nat.le_of_ble_eq_true rfl)) dX1_begin_182 ⟨Nat.le_of_ble_eq_true rfl, Nat.le_of_ble_eq_true rfl⟩) hS (fun q _ h => hFc_32 q h) hFc_32 (fun r_32 u_32 t_32 H1 locs ht hvm h_32 hB hz1 hk1 hS => ?_)
    obtain ⟨zn_32, ftn_32, hP1, hD1, hF_32_0⟩ := hB
    rw [ht] at hP1
    obtain ⟨hP, hD⟩ := va_join (wr := []) (w1 := [(k9, .inr (1, [.ref tc, .int (nI zn_32), .int nu, .int ki, .int ce, .int lo])), (tc, .inl (cI, 16, .inl ftn_32))]) hP hD [0, 1] [] rfl rfl (by decide) (by decide) hk1 hFc_32 hP1 hD1
    generalize H1 = H at hP hS ⊢
    have hP : va_P (dC, dI) vwCl [(k9, .inr (1, [.ref tc, .int (nI zn_32), .int nu, .int ki, .int ce, .int lo])), (tc, .inl (cI, 16, .inl ftn_32))] H := hP
    have hD : va_D A [(k9, .inr (1, [.ref tc, .int (nI zn_32), .int nu, .int ki, .int ce, .int lo])), (tc, .inl (cI, 16, .inl ftn_32))] := hD
    refine lv_isub hx hb dX1_begin_185 ?_
    refine lv_topi (fun v_33 e_33 => ?_)
    have hP9 := hP.sub (ws' := [(k9, .inr (1, [.ref tc, .int (nI zn_32), .int nu, .int ki, .int ce, .int lo])), (tc, .inl (cI, 16, .inl ftn_32))]) [0, 1] rfl
    have hD9 := hD.sub (ws' := [(k9, .inr (1, [.ref tc, .int (nI zn_32), .int nu, .int ki, .int ce, .int lo])), (tc, .inl (cI, 16, .inl ftn_32))]) [0, 1] (by decide) rfl
    exact W.iret (v := v_33) hx hb hr (fun t ht hW => ⟨⟨v_33, (), rfl, trivial, ⟨zn_32, ftn_32, by rw [ht]; exact hP9, hD9, (by omega)⟩⟩, hS.F ht⟩) hS.2.2 dX1_begin_186
  by_cases k_34 : x = 24
  · subst k_34
    refine lv_tableIn (off := 169) (tgt := 187) hx hb dX1_begin_18 (by decide) (by decide) (by decide) (by decide) ?_
    refine lv_aload_n hx hb dX1_begin_187 rfl (lv_at hl 1 rfl) ?_
    refine lv_bipush (v := 21) hx hb dX1_begin_188 (by decide) ?_
    refine lv_iload_n hx hb dX1_begin_190 rfl (lv_at hl 0 rfl) ?_
    have hPc_35 := hP.sub (ws' := [(k9, .inr (1, [.ref tc, .int (nI zn_2), .int nu, .int ki, .int ce, .int lo])), (tc, .inl (cI, 16, .inl ftn_2))]) [0, 1] rfl
    have hDc_35 := hD.sub (ws' := [(k9, .inr (1, [.ref tc, .int (nI zn_2), .int nu, .int ki, .int ce, .int lo])), (tc, .inl (cI, 16, .inl ftn_2))]) [0, 1] (by decide) rfl
    have hFc_35 := va_free (wc := [(k9, .inr (1, [.ref tc, .int (nI zn_2), .int nu, .int ki, .int ce, .int lo])), (tc, .inl (cI, 16, .inl ftn_2))]) hD hS hA [0, 1] rfl
    refine va_calli (va_runV (As := [.int 21, .int 5]) (rest := []) ⟨hx, hb, hml, hown, hts⟩ (r_X1_begin_5 l dC dI cI cZ cL cJ H.size k9 tc zn_2 nu ki ce lo ftn_2 21 (by omega)) (cwV 2 hts gX1_begin_X1_begin rfl rfl rfl (by decide +kernel) ⟨Nat.le_of_ble_eq_true rfl, Nat.le_of_ble_eq_true rfl⟩) ⟨fun a U g mk q => by obtain ⟨q0, q1, qP, qK, qD, qS⟩ := q; exact ⟨q0, q1, qP, va_K.moved (u := U) (U := U.calling g mk a) (Vm.Alike.refl U.vm) qK, qD, stt_same rfl qS⟩, va_recv hK hP (ci := 1) (q0 := 0) rfl rfl, fun U hU hW => ⟨rfl, by rw [hU], by rw [hU]; exact hPc_35, va_K.moved hW.alike hK, hDc_35.weaken (fun _ _ _ _ => trivial), by rw [hU]; exact stt_warm hW (stt_narrow (stt_kept hst hS.2.1) hFc_35)⟩⟩ rfl rfl hl.1 rfl (lv_room (Nat.le_of_ble_eq_true rfl)) dX1_begin_191 ⟨Nat.le_of_ble_eq_true rfl, Nat.le_of_ble_eq_true rfl⟩) hS (fun q _ h => hFc_35 q h) hFc_35 (fun r_35 u_35 t_35 H1 locs ht hvm h_35 hB hz1 hk1 hS => ?_)
    obtain ⟨zn_35, ftn_35, hP1, hD1, hF_35_0⟩ := hB
    rw [ht] at hP1
    obtain ⟨hP, hD⟩ := va_join (wr := []) (w1 := [(k9, .inr (1, [.ref tc, .int (nI zn_35), .int nu, .int ki, .int ce, .int lo])), (tc, .inl (cI, 16, .inl ftn_35))]) hP hD [0, 1] [] rfl rfl (by decide) (by decide) hk1 hFc_35 hP1 hD1
    generalize H1 = H at hP hS ⊢
    have hP : va_P (dC, dI) vwCl [(k9, .inr (1, [.ref tc, .int (nI zn_35), .int nu, .int ki, .int ce, .int lo])), (tc, .inl (cI, 16, .inl ftn_35))] H := hP
    have hD : va_D A [(k9, .inr (1, [.ref tc, .int (nI zn_35), .int nu, .int ki, .int ce, .int lo])), (tc, .inl (cI, 16, .inl ftn_35))] := hD
    refine lv_iconst (v := 2) hx hb dX1_begin_194 (by decide) ?_
    refine lv_imul hx hb dX1_begin_195 ?_
    refine lv_topi (fun v_36 e_36 => ?_)
    have hP9 := hP.sub (ws' := [(k9, .inr (1, [.ref tc, .int (nI zn_35), .int nu, .int ki, .int ce, .int lo])), (tc, .inl (cI, 16, .inl ftn_35))]) [0, 1] rfl
    have hD9 := hD.sub (ws' := [(k9, .inr (1, [.ref tc, .int (nI zn_35), .int nu, .int ki, .int ce, .int lo])), (tc, .inl (cI, 16, .inl ftn_35))]) [0, 1] (by decide) rfl
    exact W.iret (v := v_36) hx hb hr (fun t ht hW => ⟨⟨v_36, (), rfl, trivial, ⟨zn_35, ftn_35, by rw [ht]; exact hP9, hD9, (by omega)⟩⟩, hS.F ht⟩) hS.2.2 dX1_begin_196
  have kT_4 := lv_neT k_4 (show (10 : Int32).toInt = 10 from rfl)
  have kT_5 := lv_neT k_5 (show (11 : Int32).toInt = 11 from rfl)
  have kT_9 := lv_neT k_9 (show (12 : Int32).toInt = 12 from rfl)
  have kT_12 := lv_neT k_12 (show (13 : Int32).toInt = 13 from rfl)
  have kT_15 := lv_neT k_15 (show (14 : Int32).toInt = 14 from rfl)
  have kT_18 := lv_neT k_18 (show (15 : Int32).toInt = 15 from rfl)
  have kT_19 := lv_neT k_19 (show (16 : Int32).toInt = 16 from rfl)
  have kT_20 := lv_neT k_20 (show (17 : Int32).toInt = 17 from rfl)
  have kT_21 := lv_neT k_21 (show (18 : Int32).toInt = 18 from rfl)
  have kT_22 := lv_neT k_22 (show (19 : Int32).toInt = 19 from rfl)
  have kT_23 := lv_neT k_23 (show (20 : Int32).toInt = 20 from rfl)
  have kT_24 := lv_neT k_24 (show (21 : Int32).toInt = 21 from rfl)
  have kT_27 := lv_neT k_27 (show (22 : Int32).toInt = 22 from rfl)
  have kT_30 := lv_neT k_30 (show (23 : Int32).toInt = 23 from rfl)
  have kT_34 := lv_neT k_34 (show (24 : Int32).toInt = 24 from rfl)
  refine lv_tableOut (tgt := 197) hx hb dX1_begin_18 (by omega) (by decide) ?_
  refine lv_iconst (v := 0) hx hb dX1_begin_197 (by decide) ?_
  have hP9 := hP.sub (ws' := [(k9, .inr (1, [.ref tc, .int (nI zn_2), .int nu, .int ki, .int ce, .int lo])), (tc, .inl (cI, 16, .inl ftn_2))]) [0, 1] rfl
  have hD9 := hD.sub (ws' := [(k9, .inr (1, [.ref tc, .int (nI zn_2), .int nu, .int ki, .int ce, .int lo])), (tc, .inl (cI, 16, .inl ftn_2))]) [0, 1] (by decide) rfl
  exact W.iret (v := 0) hx hb hr (fun t ht hW => ⟨⟨0, (), rfl, trivial, ⟨zn_2, ftn_2, by rw [ht]; exact hP9, hD9, (by omega)⟩⟩, hS.F ht⟩) hS.2.2 dX1_begin_198
set_option maxHeartbeats 4000000 in
set_option maxRecDepth 100000 in
theorem r_X1_askAnew_4 (l : Launch) (dC : Nat → ClassId) (dI : Nat → Nat → Nat) (cI cZ cL cJ : ClassId) (sz : Nat) (k9 : Nat) (tc : Nat) (z : Nat) (nu : Int32) (ki : Int32) (ce : Int32) (lo : Int32) (ft : Nat → Int32) (x : Int32) (hz : z ≤ 16) : Met l yX1_askAnew wsX1_askAnew ({ frames := 25, cells := 0, slots := 0, locals := 564 }) (va_Pc [.ref k9, .int x, .int 4] (fun U => U.heap.size = sz ∧ va_P (dC, dI) vwCl [(k9, .inr (1, [.ref tc, .int (nI z), .int nu, .int ki, .int ce, .int lo])), (tc, .inl (cI, 16, .inl ft))] U.heap ∧ va_K (dC, dI) vwCl [(cI, .int), (cZ, .boolean), (cL, .object RX3), (cJ, .array .int)] U ∧ va_D (fun _ => True) [(k9, .inr (1, [.ref tc, .int (nI z), .int nu, .int ki, .int ce, .int lo])), (tc, .inl (cI, 16, .inl ft))] ∧ stt (va_A [(k9, .inr (1, [.ref tc, .int (nI z), .int nu, .int ki, .int ce, .int lo])), (tc, .inl (cI, 16, .inl ft))] sz) U U.heap)) (va_Qi (fun r (_ : Unit) => True) (fun (_ : Unit) t => ∃ (zn : Nat) (ftn : Nat → Int32), va_P (dC, dI) vwCl [(k9, .inr (1, [.ref tc, .int (nI zn), .int nu, .int ki, .int ce, .int lo])), (tc, .inl (cI, 16, .inl ftn))] t.heap ∧ va_D (va_A [(k9, .inr (1, [.ref tc, .int (nI z), .int nu, .int ki, .int ce, .int lo])), (tc, .inl (cI, 16, .inl ft))] sz) [(k9, .inr (1, [.ref tc, .int (nI zn), .int nu, .int ki, .int ce, .int lo])), (tc, .inl (cI, 16, .inl ftn))] ∧ zn ≤ 16) (va_A [(k9, .inr (1, [.ref tc, .int (nI z), .int nu, .int ki, .int ce, .int lo])), (tc, .inl (cI, 16, .inl ft))] sz)) 0 0 (va_A [(k9, .inr (1, [.ref tc, .int (nI z), .int nu, .int ki, .int ce, .int lo])), (tc, .inl (cI, 16, .inl ft))] sz) := by
  refine Met.ofW (cc := cX1_askAnew) (maxL := 3) (ret := (some .int)) (by decide) rfl ?_
  intro p e s m args below meth c s₁ B hml hv
  obtain ⟨rfl, hsz, hP, hK, hD0, hst⟩ := hv
  have hx := B.exec
  have hb := B.bytes
  have hr := B.returns
  have hts := atoms_spec (ws := wsX1_askAnew) B.pre
  have hown : s.vm.findClass RX1 = some m.cls := findClass_of_methodNamed B.named
  have hlocks := B.notSynchronized
  subst hsz
  have hD := hD0.self (sz := s.heap.size)
  generalize hAe : va_A [(k9, .inr (1, [.ref tc, .int (nI z), .int nu, .int ki, .int ce, .int lo])), (tc, .inl (cI, 16, .inl ft))] s.heap.size = A at hD hst ⊢
  have hA : ∀ q : Nat, s.heap.size ≤ q → A q := fun q h => by rw [← hAe]; exact Or.inr h
  have hS : va_S A s.heap s.heap [] := va_S.rf
  have hP : va_P (dC, dI) vwCl [(k9, .inr (1, [.ref tc, .int (nI z), .int nu, .int ki, .int ce, .int lo])), (tc, .inl (cI, 16, .inl ft))] s.heap := hP
  obtain ⟨⟨tb1, hZ1, hT1⟩, ⟨tb2, hZ2, hT2⟩, ⟨tb3, hZ3, hT3⟩, hNk⟩ := id hst
  have hl := lv_entry ([.ref k9, .int x, .int 4]) (n := 3) (Nat.le_of_ble_eq_true rfl)
  rw [lg_entry_eq]
  generalize (lg_sl ([.ref k9, .int x, .int 4]) ++ List.replicate (3 - (lg_sl ([.ref k9, .int x, .int 4])).length) Slot.unset).toArray = ls at hl ⊢
  have hl : lv_has ls 3 [(0, .ref k9), (1, .int x), (2, .int 4)] := hl
  refine lv_aload_n hx hb dX1_askAnew_0 rfl (lv_at hl 0 rfl) ?_
  refine lv_aload_n hx hb dX1_askAnew_1 rfl (lv_at hl 0 rfl) ?_
  refine lv_iload_n hx hb dX1_askAnew_2 rfl (lv_at hl 1 rfl) ?_
  have hPc_1 := hP.sub (ws' := [(k9, .inr (1, [.ref tc, .int (nI z), .int nu, .int ki, .int ce, .int lo]))]) [0] rfl
  refine vp_callSi (W.runV (As := [.int x]) (rest := [.ref k9]) ⟨hx, hb, hml, hown, hts⟩ (r_X1_bodyFor l dC dI cI cZ cL cJ k9 tc z nu ki ce lo x ) (cwV 1 hts gX1_askAnew_X1_bodyFor rfl rfl rfl (by decide +kernel) ⟨Nat.le_of_ble_eq_true rfl, Nat.le_of_ble_eq_true rfl⟩) ⟨fun a U g mk q => by obtain ⟨q0, qP, qK, qS⟩ := q; exact ⟨q0, qP, va_K.moved (u := U) (U := U.calling g mk a) (Vm.Alike.refl U.vm) qK, stt_same rfl qS⟩, va_recv hK hP (ci := 1) (q0 := 0) rfl rfl, fun U hU hW => ⟨rfl, by rw [hU]; exact hPc_1, va_K.moved hW.alike hK, by rw [hU]; exact stt_warm hW (stt_narrow (stt_kept hst hS.2.1) (fun _ h => h.elim))⟩⟩ rfl rfl hl.1 rfl (lv_room (Nat.le_of_ble_eq_true rfl)) dX1_askAnew_3 ⟨Nat.le_of_ble_eq_true rfl, Nat.le_of_ble_eq_true rfl⟩) (fun r_1 h_1 => ?_)
  refine lv_iload_n hx hb dX1_askAnew_6 rfl (lv_at hl 2 rfl) ?_
  have hPc_2 := hP.sub (ws' := [(k9, .inr (1, [.ref tc, .int (nI z), .int nu, .int ki, .int ce, .int lo])), (tc, .inl (cI, 16, .inl ft))]) [0, 1] rfl
  have hDc_2 := hD.sub (ws' := [(k9, .inr (1, [.ref tc, .int (nI z), .int nu, .int ki, .int ce, .int lo])), (tc, .inl (cI, 16, .inl ft))]) [0, 1] (by decide) rfl
  have hFc_2 := va_free (wc := [(k9, .inr (1, [.ref tc, .int (nI z), .int nu, .int ki, .int ce, .int lo])), (tc, .inl (cI, 16, .inl ft))]) hD hS hA [0, 1] rfl
  refine va_calli (va_runV (As := [.int r_1, .int 4]) (rest := []) ⟨hx, hb, hml, hown, hts⟩ (r_X1_begin_4 l dC dI cI cZ cL cJ s.heap.size k9 tc z nu ki ce lo ft r_1 (by omega)) (cwV 2 hts gX1_askAnew_X1_begin rfl rfl rfl (by decide +kernel) ⟨Nat.le_of_ble_eq_true rfl, Nat.le_of_ble_eq_true rfl⟩) ⟨fun a U g mk q => by obtain ⟨q0, q1, qP, qK, qD, qS⟩ := q; exact ⟨q0, q1, qP, va_K.moved (u := U) (U := U.calling g mk a) (Vm.Alike.refl U.vm) qK, qD, stt_same rfl qS⟩, va_recv hK hP (ci := 1) (q0 := 0) rfl rfl, fun U hU hW => ⟨rfl, by rw [hU], by rw [hU]; exact hPc_2, va_K.moved hW.alike hK, hDc_2.weaken (fun _ _ _ _ => trivial), by rw [hU]; exact stt_warm hW (stt_narrow (stt_kept hst hS.2.1) hFc_2)⟩⟩ rfl rfl hl.1 rfl (lv_room (Nat.le_of_ble_eq_true rfl)) dX1_askAnew_7 ⟨Nat.le_of_ble_eq_true rfl, Nat.le_of_ble_eq_true rfl⟩) hS (fun q _ h => hFc_2 q h) hFc_2 (fun r_2 u_2 t_2 H1 locs ht hvm h_2 hB hz1 hk1 hS => ?_)
  obtain ⟨zn_2, ftn_2, hP1, hD1, hF_2_0⟩ := hB
  rw [ht] at hP1
  obtain ⟨hP, hD⟩ := va_join (wr := []) (w1 := [(k9, .inr (1, [.ref tc, .int (nI zn_2), .int nu, .int ki, .int ce, .int lo])), (tc, .inl (cI, 16, .inl ftn_2))]) hP hD [0, 1] [] rfl rfl (by decide) (by decide) hk1 hFc_2 hP1 hD1
  generalize H1 = H at hP hS ⊢
  have hP : va_P (dC, dI) vwCl [(k9, .inr (1, [.ref tc, .int (nI zn_2), .int nu, .int ki, .int ce, .int lo])), (tc, .inl (cI, 16, .inl ftn_2))] H := hP
  have hD : va_D A [(k9, .inr (1, [.ref tc, .int (nI zn_2), .int nu, .int ki, .int ce, .int lo])), (tc, .inl (cI, 16, .inl ftn_2))] := hD
  have hP9 := hP.sub (ws' := [(k9, .inr (1, [.ref tc, .int (nI zn_2), .int nu, .int ki, .int ce, .int lo])), (tc, .inl (cI, 16, .inl ftn_2))]) [0, 1] rfl
  have hD9 := hD.sub (ws' := [(k9, .inr (1, [.ref tc, .int (nI zn_2), .int nu, .int ki, .int ce, .int lo])), (tc, .inl (cI, 16, .inl ftn_2))]) [0, 1] (by decide) rfl
  exact W.iret (v := r_2) hx hb hr (fun t ht hW => ⟨⟨r_2, (), rfl, trivial, ⟨zn_2, ftn_2, by rw [ht]; exact hP9, hD9, (by omega)⟩⟩, hS.F ht⟩) hS.2.2 dX1_askAnew_10
set_option maxHeartbeats 4000000 in
set_option maxRecDepth 100000 in
theorem r_X1_begin_3 (l : Launch) (dC : Nat → ClassId) (dI : Nat → Nat → Nat) (cI cZ cL cJ : ClassId) (sz : Nat) (k9 : Nat) (tc : Nat) (z : Nat) (nu : Int32) (ki : Int32) (ce : Int32) (lo : Int32) (ft : Nat → Int32) (x : Int32) (hz : z ≤ 16) : Met l yX1_begin wsX1_begin ({ frames := 26, cells := 0, slots := 0, locals := 586 }) (va_Pc [.ref k9, .int x, .int 3] (fun U => U.heap.size = sz ∧ va_P (dC, dI) vwCl [(k9, .inr (1, [.ref tc, .int (nI z), .int nu, .int ki, .int ce, .int lo])), (tc, .inl (cI, 16, .inl ft))] U.heap ∧ va_K (dC, dI) vwCl [(cI, .int), (cZ, .boolean), (cL, .object RX3), (cJ, .array .int)] U ∧ va_D (fun _ => True) [(k9, .inr (1, [.ref tc, .int (nI z), .int nu, .int ki, .int ce, .int lo])), (tc, .inl (cI, 16, .inl ft))] ∧ stt (va_A [(k9, .inr (1, [.ref tc, .int (nI z), .int nu, .int ki, .int ce, .int lo])), (tc, .inl (cI, 16, .inl ft))] sz) U U.heap)) (va_Qi (fun r (_ : Unit) => True) (fun (_ : Unit) t => ∃ (zn : Nat) (ftn : Nat → Int32), va_P (dC, dI) vwCl [(k9, .inr (1, [.ref tc, .int (nI zn), .int nu, .int ki, .int ce, .int lo])), (tc, .inl (cI, 16, .inl ftn))] t.heap ∧ va_D (va_A [(k9, .inr (1, [.ref tc, .int (nI z), .int nu, .int ki, .int ce, .int lo])), (tc, .inl (cI, 16, .inl ft))] sz) [(k9, .inr (1, [.ref tc, .int (nI zn), .int nu, .int ki, .int ce, .int lo])), (tc, .inl (cI, 16, .inl ftn))] ∧ zn ≤ 16) (va_A [(k9, .inr (1, [.ref tc, .int (nI z), .int nu, .int ki, .int ce, .int lo])), (tc, .inl (cI, 16, .inl ft))] sz)) 0 0 (va_A [(k9, .inr (1, [.ref tc, .int (nI z), .int nu, .int ki, .int ce, .int lo])), (tc, .inl (cI, 16, .inl ft))] sz) := by
  refine Met.ofW (cc := cX1_begin) (maxL := 4) (ret := (some .int)) (by decide) rfl ?_
  intro p e s m args below meth c s₁ B hml hv
  obtain ⟨rfl, hsz, hP, hK, hD0, hst⟩ := hv
  have hx := B.exec
  have hb := B.bytes
  have hr := B.returns
  have hts := atoms_spec (ws := wsX1_begin) B.pre
  have hown : s.vm.findClass RX1 = some m.cls := findClass_of_methodNamed B.named
  have hlocks := B.notSynchronized
  subst hsz
  have hD := hD0.self (sz := s.heap.size)
  generalize hAe : va_A [(k9, .inr (1, [.ref tc, .int (nI z), .int nu, .int ki, .int ce, .int lo])), (tc, .inl (cI, 16, .inl ft))] s.heap.size = A at hD hst ⊢
  have hA : ∀ q : Nat, s.heap.size ≤ q → A q := fun q h => by rw [← hAe]; exact Or.inr h
  have hS : va_S A s.heap s.heap [] := va_S.rf
  have hP : va_P (dC, dI) vwCl [(k9, .inr (1, [.ref tc, .int (nI z), .int nu, .int ki, .int ce, .int lo])), (tc, .inl (cI, 16, .inl ft))] s.heap := hP
  obtain ⟨⟨tb1, hZ1, hT1⟩, ⟨tb2, hZ2, hT2⟩, ⟨tb3, hZ3, hT3⟩, hNk⟩ := id hst
  have hl := lv_entry ([.ref k9, .int x, .int 3]) (n := 4) (Nat.le_of_ble_eq_true rfl)
  rw [lg_entry_eq]
  generalize (lg_sl ([.ref k9, .int x, .int 3]) ++ List.replicate (4 - (lg_sl ([.ref k9, .int x, .int 3])).length) Slot.unset).toArray = ls at hl ⊢
  have hl : lv_has ls 4 [(0, .ref k9), (1, .int x), (2, .int 3)] := hl
  refine lv_iload_n hx hb dX1_begin_0 rfl (lv_at hl 2 rfl) ?_
  refine lv_bipush (v := 16) hx hb dX1_begin_1 (by decide) ?_
  refine lv_icmp_lt (tgt := 8) hx hb dX1_begin_3 (by decide) (fun _ => ?_) (fun c_ => absurd (by decide) c_)
  refine lv_aload_n hx hb dX1_begin_8 rfl (lv_at hl 0 rfl) ?_
  refine lv_iload_n hx hb dX1_begin_9 rfl (lv_at hl 1 rfl) ?_
  have hPc_2 := hP.sub (ws' := [(k9, .inr (1, [.ref tc, .int (nI z), .int nu, .int ki, .int ce, .int lo])), (tc, .inl (cI, 16, .inl ft))]) [0, 1] rfl
  have hDc_2 := hD.sub (ws' := [(k9, .inr (1, [.ref tc, .int (nI z), .int nu, .int ki, .int ce, .int lo])), (tc, .inl (cI, 16, .inl ft))]) [0, 1] (by decide) rfl
  have hFc_2 := va_free (wc := [(k9, .inr (1, [.ref tc, .int (nI z), .int nu, .int ki, .int ce, .int lo])), (tc, .inl (cI, 16, .inl ft))]) hD hS hA [0, 1] rfl
  refine va_callv (va_runV (As := [.int x]) (rest := []) ⟨hx, hb, hml, hown, hts⟩ (r_X1_leave l dC dI cI cZ cL cJ s.heap.size k9 tc z nu ki ce lo ft x (by omega)) (cwV 1 hts gX1_begin_X1_leave rfl rfl rfl (by decide +kernel) ⟨Nat.le_of_ble_eq_true rfl, Nat.le_of_ble_eq_true rfl⟩) ⟨fun a U g mk q => by obtain ⟨q0, q1, qP, qK, qD⟩ := q; exact ⟨q0, q1, qP, va_K.moved (u := U) (U := U.calling g mk a) (Vm.Alike.refl U.vm) qK, qD⟩, va_recv hK hP (ci := 1) (q0 := 0) rfl rfl, fun U hU hW => ⟨rfl, by rw [hU], by rw [hU]; exact hPc_2, va_K.moved hW.alike hK, hDc_2.weaken (fun _ _ _ _ => trivial)⟩⟩ rfl rfl hl.1 rfl (lv_room (Nat.le_of_ble_eq_true rfl)) dX1_begin_10 ⟨Nat.le_of_ble_eq_true rfl, Nat.le_of_ble_eq_true rfl⟩) hS (fun q _ h => hFc_2 q h) hFc_2 (fun u_2 t_2 H1 locs ht hvm h_2 hB hz1 hk1 hS => ?_)
  obtain ⟨zn_2, ftn_2, hP1, hD1, hF_2_0⟩ := hB
  rw [ht] at hP1
  obtain ⟨hP, hD⟩ := va_join (wr := []) (w1 := [(k9, .inr (1, [.ref tc, .int (nI zn_2), .int nu, .int ki, .int ce, .int lo])), (tc, .inl (cI, 16, .inl ftn_2))]) hP hD [0, 1] [] rfl rfl (by decide) (by decide) hk1 hFc_2 hP1 hD1
  generalize H1 = H at hP hS ⊢
  have hP : va_P (dC, dI) vwCl [(k9, .inr (1, [.ref tc, .int (nI zn_2), .int nu, .int ki, .int ce, .int lo])), (tc, .inl (cI, 16, .inl ftn_2))] H := hP
  have hD : va_D A [(k9, .inr (1, [.ref tc, .int (nI zn_2), .int nu, .int ki, .int ce, .int lo])), (tc, .inl (cI, 16, .inl ftn_2))] := hD
  refine lv_iload_n hx hb dX1_begin_13 rfl (lv_at hl 2 rfl) ?_
  refine lv_iconst (v := 1) hx hb dX1_begin_14 (by decide) ?_
  refine lv_iadd hx hb dX1_begin_15 ?_
  refine lv_topi (fun v_3 e_3 => ?_)
  obtain rfl : v_3 = 4 := (e_3).trans (by decide)
  refine lv_istore_n (lv' := [(3, .int 4), (0, .ref k9), (1, .int x), (2, .int 3)]) hx hb dX1_begin_16 rfl hl (by decide) rfl (fun ls hl => ?_)
  refine lv_iload_n hx hb dX1_begin_17 rfl (lv_at hl 2 rfl) ?_
  by_cases k_4 : x = 10
  · subst k_4
    refine lv_tableIn (off := 74) (tgt := 92) hx hb dX1_begin_18 (by decide) (by decide) (by decide) (by decide) ?_
    refine lv_aload_n hx hb dX1_begin_92 rfl (lv_at hl 1 rfl) ?_
    refine va_get (D := (dC, dI)) (ci := 1) (v := .int lo) (C := RX1) (T := TX1) (N := 6) hx hb hts i_X1_begin_X1 hown hK hP 0 rfl rfl 5 (by decide) (hts (.fieldLink RX1 39 "MillTalk$Asks" "loud" "I") (by decide +kernel)) (fun _ h9 => h9) rfl dX1_begin_93 ?_
    have hP9 := hP.sub (ws' := [(k9, .inr (1, [.ref tc, .int (nI zn_2), .int nu, .int ki, .int ce, .int lo])), (tc, .inl (cI, 16, .inl ftn_2))]) [0, 1] rfl
    have hD9 := hD.sub (ws' := [(k9, .inr (1, [.ref tc, .int (nI zn_2), .int nu, .int ki, .int ce, .int lo])), (tc, .inl (cI, 16, .inl ftn_2))]) [0, 1] (by decide) rfl
    exact W.iret (v := lo) hx hb hr (fun t ht hW => ⟨⟨lo, (), rfl, trivial, ⟨zn_2, ftn_2, by rw [ht]; exact hP9, hD9, (by omega)⟩⟩, hS.F ht⟩) hS.2.2 dX1_begin_96
  by_cases k_5 : x = 11
  · subst k_5
    refine lv_tableIn (off := 79) (tgt := 97) hx hb dX1_begin_18 (by decide) (by decide) (by decide) (by decide) ?_
    refine lv_aload_n hx hb dX1_begin_97 rfl (lv_at hl 1 rfl) ?_
    refine lv_bipush (v := 10) hx hb dX1_begin_98 (by decide) ?_
    refine lv_iload_n hx hb dX1_begin_100 rfl (lv_at hl 0 rfl) ?_
    have hPc_6 := hP.sub (ws' := [(k9, .inr (1, [.ref tc, .int (nI zn_2), .int nu, .int ki, .int ce, .int lo])), (tc, .inl (cI, 16, .inl ftn_2))]) [0, 1] rfl
    have hDc_6 := hD.sub (ws' := [(k9, .inr (1, [.ref tc, .int (nI zn_2), .int nu, .int ki, .int ce, .int lo])), (tc, .inl (cI, 16, .inl ftn_2))]) [0, 1] (by decide) rfl
    have hFc_6 := va_free (wc := [(k9, .inr (1, [.ref tc, .int (nI zn_2), .int nu, .int ki, .int ce, .int lo])), (tc, .inl (cI, 16, .inl ftn_2))]) hD hS hA [0, 1] rfl
    refine va_calli (va_runV (As := [.int 10, .int 4]) (rest := []) ⟨hx, hb, hml, hown, hts⟩ (r_X1_begin_4 l dC dI cI cZ cL cJ H.size k9 tc zn_2 nu ki ce lo ftn_2 10 (by omega)) (cwV 2 hts gX1_begin_X1_begin rfl rfl rfl (by decide +kernel) ⟨Nat.le_of_ble_eq_true rfl, Nat.le_of_ble_eq_true rfl⟩) ⟨fun a U g mk q => by obtain ⟨q0, q1, qP, qK, qD, qS⟩ := q; exact ⟨q0, q1, qP, va_K.moved (u := U) (U := U.calling g mk a) (Vm.Alike.refl U.vm) qK, qD, stt_same rfl qS⟩, va_recv hK hP (ci := 1) (q0 := 0) rfl rfl, fun U hU hW => ⟨rfl, by rw [hU], by rw [hU]; exact hPc_6, va_K.moved hW.alike hK, hDc_6.weaken (fun _ _ _ _ => trivial), by rw [hU]; exact stt_warm hW (stt_narrow (stt_kept hst hS.2.1) hFc_6)⟩⟩ rfl rfl hl.1 rfl (lv_room (Nat.le_of_ble_eq_true rfl)) dX1_begin_101 ⟨Nat.le_of_ble_eq_true rfl, Nat.le_of_ble_eq_true rfl⟩) hS (fun q _ h => hFc_6 q h) hFc_6 (fun r_6 u_6 t_6 H1 locs ht hvm h_6 hB hz1 hk1 hS => ?_)
    obtain ⟨zn_6, ftn_6, hP1, hD1, hF_6_0⟩ := hB
    rw [ht] at hP1
    obtain ⟨hP, hD⟩ := va_join (wr := []) (w1 := [(k9, .inr (1, [.ref tc, .int (nI zn_6), .int nu, .int ki, .int ce, .int lo])), (tc, .inl (cI, 16, .inl ftn_6))]) hP hD [0, 1] [] rfl rfl (by decide) (by decide) hk1 hFc_6 hP1 hD1
    generalize H1 = H at hP hS ⊢
    have hP : va_P (dC, dI) vwCl [(k9, .inr (1, [.ref tc, .int (nI zn_6), .int nu, .int ki, .int ce, .int lo])), (tc, .inl (cI, 16, .inl ftn_6))] H := hP
    have hD : va_D A [(k9, .inr (1, [.ref tc, .int (nI zn_6), .int nu, .int ki, .int ce, .int lo])), (tc, .inl (cI, 16, .inl ftn_6))] := hD
    refine lv_aload_n hx hb dX1_begin_104 rfl (lv_at hl 1 rfl) ?_
    refine lv_iconst (v := 1) hx hb dX1_begin_105 (by decide) ?_
    refine lv_iload_n hx hb dX1_begin_106 rfl (lv_at hl 0 rfl) ?_
    have hPc_7 := hP.sub (ws' := [(k9, .inr (1, [.ref tc, .int (nI zn_6), .int nu, .int ki, .int ce, .int lo])), (tc, .inl (cI, 16, .inl ftn_6))]) [0, 1] rfl
    have hDc_7 := hD.sub (ws' := [(k9, .inr (1, [.ref tc, .int (nI zn_6), .int nu, .int ki, .int ce, .int lo])), (tc, .inl (cI, 16, .inl ftn_6))]) [0, 1] (by decide) rfl
    have hFc_7 := va_free (wc := [(k9, .inr (1, [.ref tc, .int (nI zn_6), .int nu, .int ki, .int ce, .int lo])), (tc, .inl (cI, 16, .inl ftn_6))]) hD hS hA [0, 1] rfl
    refine va_calli (va_runV (As := [.int 1, .int 4]) (rest := [.int r_6]) ⟨hx, hb, hml, hown, hts⟩ (r_X1_askAnew_4 l dC dI cI cZ cL cJ H.size k9 tc zn_6 nu ki ce lo ftn_6 1 (by omega)) (cwV 2 hts gX1_begin_X1_askAnew rfl rfl rfl (by decide +kernel) ⟨Nat.le_of_ble_eq_true rfl, Nat.le_of_ble_eq_true rfl⟩) ⟨fun a U g mk q => by obtain ⟨q0, q1, qP, qK, qD, qS⟩ := q; exact ⟨q0, q1, qP, va_K.moved (u := U) (U := U.calling g mk a) (Vm.Alike.refl U.vm) qK, qD, stt_same rfl qS⟩, va_recv hK hP (ci := 1) (q0 := 0) rfl rfl, fun U hU hW => ⟨rfl, by rw [hU], by rw [hU]; exact hPc_7, va_K.moved hW.alike hK, hDc_7.weaken (fun _ _ _ _ => trivial), by rw [hU]; exact stt_warm hW (stt_narrow (stt_kept hst hS.2.1) hFc_7)⟩⟩ rfl rfl hl.1 rfl (lv_room (Nat.le_of_ble_eq_true rfl)) dX1_begin_107 ⟨Nat.le_of_ble_eq_true rfl, Nat.le_of_ble_eq_true rfl⟩) hS (fun q _ h => hFc_7 q h) hFc_7 (fun r_7 u_7 t_7 H1 locs ht hvm h_7 hB hz1 hk1 hS => ?_)
    obtain ⟨zn_7, ftn_7, hP1, hD1, hF_7_0⟩ := hB
    rw [ht] at hP1
    obtain ⟨hP, hD⟩ := va_join (wr := []) (w1 := [(k9, .inr (1, [.ref tc, .int (nI zn_7), .int nu, .int ki, .int ce, .int lo])), (tc, .inl (cI, 16, .inl ftn_7))]) hP hD [0, 1] [] rfl rfl (by decide) (by decide) hk1 hFc_7 hP1 hD1
    generalize H1 = H at hP hS ⊢
    have hP : va_P (dC, dI) vwCl [(k9, .inr (1, [.ref tc, .int (nI zn_7), .int nu, .int ki, .int ce, .int lo])), (tc, .inl (cI, 16, .inl ftn_7))] H := hP
    have hD : va_D A [(k9, .inr (1, [.ref tc, .int (nI zn_7), .int nu, .int ki, .int ce, .int lo])), (tc, .inl (cI, 16, .inl ftn_7))] := hD
    refine lv_iadd hx hb dX1_begin_110 ?_
    refine lv_topi (fun v_8 e_8 => ?_)
    have hP9 := hP.sub (ws' := [(k9, .inr (1, [.ref tc, .int (nI zn_7), .int nu, .int ki, .int ce, .int lo])), (tc, .inl (cI, 16, .inl ftn_7))]) [0, 1] rfl
    have hD9 := hD.sub (ws' := [(k9, .inr (1, [.ref tc, .int (nI zn_7), .int nu, .int ki, .int ce, .int lo])), (tc, .inl (cI, 16, .inl ftn_7))]) [0, 1] (by decide) rfl
    exact W.iret (v := v_8) hx hb hr (fun t ht hW => ⟨⟨v_8, (), rfl, trivial, ⟨zn_7, ftn_7, by rw [ht]; exact hP9, hD9, (by omega)⟩⟩, hS.F ht⟩) hS.2.2 dX1_begin_111
  by_cases k_9 : x = 12
  · subst k_9
    refine lv_tableIn (off := 94) (tgt := 112) hx hb dX1_begin_18 (by decide) (by decide) (by decide) (by decide) ?_
    refine lv_aload_n hx hb dX1_begin_112 rfl (lv_at hl 1 rfl) ?_
    refine lv_bipush (v := 11) hx hb dX1_begin_113 (by decide) ?_
    refine lv_iload_n hx hb dX1_begin_115 rfl (lv_at hl 0 rfl) ?_
    have hPc_10 := hP.sub (ws' := [(k9, .inr (1, [.ref tc, .int (nI zn_2), .int nu, .int ki, .int ce, .int lo])), (tc, .inl (cI, 16, .inl ftn_2))]) [0, 1] rfl
    have hDc_10 := hD.sub (ws' := [(k9, .inr (1, [.ref tc, .int (nI zn_2), .int nu, .int ki, .int ce, .int lo])), (tc, .inl (cI, 16, .inl ftn_2))]) [0, 1] (by decide) rfl
    have hFc_10 := va_free (wc := [(k9, .inr (1, [.ref tc, .int (nI zn_2), .int nu, .int ki, .int ce, .int lo])), (tc, .inl (cI, 16, .inl ftn_2))]) hD hS hA [0, 1] rfl
    refine va_calli (va_runV (As := [.int 11, .int 4]) (rest := []) ⟨hx, hb, hml, hown, hts⟩ (r_X1_begin_4 l dC dI cI cZ cL cJ H.size k9 tc zn_2 nu ki ce lo ftn_2 11 (by omega)) (cwV 2 hts gX1_begin_X1_begin rfl rfl rfl (by decide +kernel) ⟨Nat.le_of_ble_eq_true rfl, Nat.le_of_ble_eq_true rfl⟩) ⟨fun a U g mk q => by obtain ⟨q0, q1, qP, qK, qD, qS⟩ := q; exact ⟨q0, q1, qP, va_K.moved (u := U) (U := U.calling g mk a) (Vm.Alike.refl U.vm) qK, qD, stt_same rfl qS⟩, va_recv hK hP (ci := 1) (q0 := 0) rfl rfl, fun U hU hW => ⟨rfl, by rw [hU], by rw [hU]; exact hPc_10, va_K.moved hW.alike hK, hDc_10.weaken (fun _ _ _ _ => trivial), by rw [hU]; exact stt_warm hW (stt_narrow (stt_kept hst hS.2.1) hFc_10)⟩⟩ rfl rfl hl.1 rfl (lv_room (Nat.le_of_ble_eq_true rfl)) dX1_begin_116 ⟨Nat.le_of_ble_eq_true rfl, Nat.le_of_ble_eq_true rfl⟩) hS (fun q _ h => hFc_10 q h) hFc_10 (fun r_10 u_10 t_10 H1 locs ht hvm h_10 hB hz1 hk1 hS => ?_)
    obtain ⟨zn_10, ftn_10, hP1, hD1, hF_10_0⟩ := hB
    rw [ht] at hP1
    obtain ⟨hP, hD⟩ := va_join (wr := []) (w1 := [(k9, .inr (1, [.ref tc, .int (nI zn_10), .int nu, .int ki, .int ce, .int lo])), (tc, .inl (cI, 16, .inl ftn_10))]) hP hD [0, 1] [] rfl rfl (by decide) (by decide) hk1 hFc_10 hP1 hD1
    generalize H1 = H at hP hS ⊢
    have hP : va_P (dC, dI) vwCl [(k9, .inr (1, [.ref tc, .int (nI zn_10), .int nu, .int ki, .int ce, .int lo])), (tc, .inl (cI, 16, .inl ftn_10))] H := hP
    have hD : va_D A [(k9, .inr (1, [.ref tc, .int (nI zn_10), .int nu, .int ki, .int ce, .int lo])), (tc, .inl (cI, 16, .inl ftn_10))] := hD
    refine lv_ineg hx hb dX1_begin_119 ?_
    refine lv_topi (fun v_11 e_11 => ?_)
    have hP9 := hP.sub (ws' := [(k9, .inr (1, [.ref tc, .int (nI zn_10), .int nu, .int ki, .int ce, .int lo])), (tc, .inl (cI, 16, .inl ftn_10))]) [0, 1] rfl
    have hD9 := hD.sub (ws' := [(k9, .inr (1, [.ref tc, .int (nI zn_10), .int nu, .int ki, .int ce, .int lo])), (tc, .inl (cI, 16, .inl ftn_10))]) [0, 1] (by decide) rfl
    exact W.iret (v := v_11) hx hb hr (fun t ht hW => ⟨⟨v_11, (), rfl, trivial, ⟨zn_10, ftn_10, by rw [ht]; exact hP9, hD9, (by omega)⟩⟩, hS.F ht⟩) hS.2.2 dX1_begin_120
  by_cases k_12 : x = 13
  · subst k_12
    refine lv_tableIn (off := 103) (tgt := 121) hx hb dX1_begin_18 (by decide) (by decide) (by decide) (by decide) ?_
    refine lv_aload_n hx hb dX1_begin_121 rfl (lv_at hl 1 rfl) ?_
    refine lv_bipush (v := 10) hx hb dX1_begin_122 (by decide) ?_
    refine lv_iload_n hx hb dX1_begin_124 rfl (lv_at hl 0 rfl) ?_
    have hPc_13 := hP.sub (ws' := [(k9, .inr (1, [.ref tc, .int (nI zn_2), .int nu, .int ki, .int ce, .int lo])), (tc, .inl (cI, 16, .inl ftn_2))]) [0, 1] rfl
    have hDc_13 := hD.sub (ws' := [(k9, .inr (1, [.ref tc, .int (nI zn_2), .int nu, .int ki, .int ce, .int lo])), (tc, .inl (cI, 16, .inl ftn_2))]) [0, 1] (by decide) rfl
    have hFc_13 := va_free (wc := [(k9, .inr (1, [.ref tc, .int (nI zn_2), .int nu, .int ki, .int ce, .int lo])), (tc, .inl (cI, 16, .inl ftn_2))]) hD hS hA [0, 1] rfl
    refine va_calli (va_runV (As := [.int 10, .int 4]) (rest := []) ⟨hx, hb, hml, hown, hts⟩ (r_X1_begin_4 l dC dI cI cZ cL cJ H.size k9 tc zn_2 nu ki ce lo ftn_2 10 (by omega)) (cwV 2 hts gX1_begin_X1_begin rfl rfl rfl (by decide +kernel) ⟨Nat.le_of_ble_eq_true rfl, Nat.le_of_ble_eq_true rfl⟩) ⟨fun a U g mk q => by obtain ⟨q0, q1, qP, qK, qD, qS⟩ := q; exact ⟨q0, q1, qP, va_K.moved (u := U) (U := U.calling g mk a) (Vm.Alike.refl U.vm) qK, qD, stt_same rfl qS⟩, va_recv hK hP (ci := 1) (q0 := 0) rfl rfl, fun U hU hW => ⟨rfl, by rw [hU], by rw [hU]; exact hPc_13, va_K.moved hW.alike hK, hDc_13.weaken (fun _ _ _ _ => trivial), by rw [hU]; exact stt_warm hW (stt_narrow (stt_kept hst hS.2.1) hFc_13)⟩⟩ rfl rfl hl.1 rfl (lv_room (Nat.le_of_ble_eq_true rfl)) dX1_begin_125 ⟨Nat.le_of_ble_eq_true rfl, Nat.le_of_ble_eq_true rfl⟩) hS (fun q _ h => hFc_13 q h) hFc_13 (fun r_13 u_13 t_13 H1 locs ht hvm h_13 hB hz1 hk1 hS => ?_)
    obtain ⟨zn_13, ftn_13, hP1, hD1, hF_13_0⟩ := hB
    rw [ht] at hP1
    obtain ⟨hP, hD⟩ := va_join (wr := []) (w1 := [(k9, .inr (1, [.ref tc, .int (nI zn_13), .int nu, .int ki, .int ce, .int lo])), (tc, .inl (cI, 16, .inl ftn_13))]) hP hD [0, 1] [] rfl rfl (by decide) (by decide) hk1 hFc_13 hP1 hD1
    generalize H1 = H at hP hS ⊢
    have hP : va_P (dC, dI) vwCl [(k9, .inr (1, [.ref tc, .int (nI zn_13), .int nu, .int ki, .int ce, .int lo])), (tc, .inl (cI, 16, .inl ftn_13))] H := hP
    have hD : va_D A [(k9, .inr (1, [.ref tc, .int (nI zn_13), .int nu, .int ki, .int ce, .int lo])), (tc, .inl (cI, 16, .inl ftn_13))] := hD
    refine lv_bipush (v := 100) hx hb dX1_begin_128 (by decide) ?_
    refine lv_isub hx hb dX1_begin_130 ?_
    refine lv_topi (fun v_14 e_14 => ?_)
    have hP9 := hP.sub (ws' := [(k9, .inr (1, [.ref tc, .int (nI zn_13), .int nu, .int ki, .int ce, .int lo])), (tc, .inl (cI, 16, .inl ftn_13))]) [0, 1] rfl
    have hD9 := hD.sub (ws' := [(k9, .inr (1, [.ref tc, .int (nI zn_13), .int nu, .int ki, .int ce, .int lo])), (tc, .inl (cI, 16, .inl ftn_13))]) [0, 1] (by decide) rfl
    exact W.iret (v := v_14) hx hb hr (fun t ht hW => ⟨⟨v_14, (), rfl, trivial, ⟨zn_13, ftn_13, by rw [ht]; exact hP9, hD9, (by omega)⟩⟩, hS.F ht⟩) hS.2.2 dX1_begin_131
  by_cases k_15 : x = 14
  · subst k_15
    refine lv_tableIn (off := 114) (tgt := 132) hx hb dX1_begin_18 (by decide) (by decide) (by decide) (by decide) ?_
    refine lv_aload_n hx hb dX1_begin_132 rfl (lv_at hl 1 rfl) ?_
    refine lv_bipush (v := 13) hx hb dX1_begin_133 (by decide) ?_
    refine lv_iload_n hx hb dX1_begin_135 rfl (lv_at hl 0 rfl) ?_
    have hPc_16 := hP.sub (ws' := [(k9, .inr (1, [.ref tc, .int (nI zn_2), .int nu, .int ki, .int ce, .int lo])), (tc, .inl (cI, 16, .inl ftn_2))]) [0, 1] rfl
    have hDc_16 := hD.sub (ws' := [(k9, .inr (1, [.ref tc, .int (nI zn_2), .int nu, .int ki, .int ce, .int lo])), (tc, .inl (cI, 16, .inl ftn_2))]) [0, 1] (by decide) rfl
    have hFc_16 := va_free (wc := [(k9, .inr (1, [.ref tc, .int (nI zn_2), .int nu, .int ki, .int ce, .int lo])), (tc, .inl (cI, 16, .inl ftn_2))]) hD hS hA [0, 1] rfl
    refine va_calli (va_runV (As := [.int 13, .int 4]) (rest := []) ⟨hx, hb, hml, hown, hts⟩ (r_X1_begin_4 l dC dI cI cZ cL cJ H.size k9 tc zn_2 nu ki ce lo ftn_2 13 (by omega)) (cwV 2 hts gX1_begin_X1_begin rfl rfl rfl (by decide +kernel) ⟨Nat.le_of_ble_eq_true rfl, Nat.le_of_ble_eq_true rfl⟩) ⟨fun a U g mk q => by obtain ⟨q0, q1, qP, qK, qD, qS⟩ := q; exact ⟨q0, q1, qP, va_K.moved (u := U) (U := U.calling g mk a) (Vm.Alike.refl U.vm) qK, qD, stt_same rfl qS⟩, va_recv hK hP (ci := 1) (q0 := 0) rfl rfl, fun U hU hW => ⟨rfl, by rw [hU], by rw [hU]; exact hPc_16, va_K.moved hW.alike hK, hDc_16.weaken (fun _ _ _ _ => trivial), by rw [hU]; exact stt_warm hW (stt_narrow (stt_kept hst hS.2.1) hFc_16)⟩⟩ rfl rfl hl.1 rfl (lv_room (Nat.le_of_ble_eq_true rfl)) dX1_begin_136 ⟨Nat.le_of_ble_eq_true rfl, Nat.le_of_ble_eq_true rfl⟩) hS (fun q _ h => hFc_16 q h) hFc_16 (fun r_16 u_16 t_16 H1 locs ht hvm h_16 hB hz1 hk1 hS => ?_)
    obtain ⟨zn_16, ftn_16, hP1, hD1, hF_16_0⟩ := hB
    rw [ht] at hP1
    obtain ⟨hP, hD⟩ := va_join (wr := []) (w1 := [(k9, .inr (1, [.ref tc, .int (nI zn_16), .int nu, .int ki, .int ce, .int lo])), (tc, .inl (cI, 16, .inl ftn_16))]) hP hD [0, 1] [] rfl rfl (by decide) (by decide) hk1 hFc_16 hP1 hD1
    generalize H1 = H at hP hS ⊢
    have hP : va_P (dC, dI) vwCl [(k9, .inr (1, [.ref tc, .int (nI zn_16), .int nu, .int ki, .int ce, .int lo])), (tc, .inl (cI, 16, .inl ftn_16))] H := hP
    have hD : va_D A [(k9, .inr (1, [.ref tc, .int (nI zn_16), .int nu, .int ki, .int ce, .int lo])), (tc, .inl (cI, 16, .inl ftn_16))] := hD
    refine lv_iconst (v := 2) hx hb dX1_begin_139 (by decide) ?_
    refine lv_imul hx hb dX1_begin_140 ?_
    refine lv_topi (fun v_17 e_17 => ?_)
    have hP9 := hP.sub (ws' := [(k9, .inr (1, [.ref tc, .int (nI zn_16), .int nu, .int ki, .int ce, .int lo])), (tc, .inl (cI, 16, .inl ftn_16))]) [0, 1] rfl
    have hD9 := hD.sub (ws' := [(k9, .inr (1, [.ref tc, .int (nI zn_16), .int nu, .int ki, .int ce, .int lo])), (tc, .inl (cI, 16, .inl ftn_16))]) [0, 1] (by decide) rfl
    exact W.iret (v := v_17) hx hb hr (fun t ht hW => ⟨⟨v_17, (), rfl, trivial, ⟨zn_16, ftn_16, by rw [ht]; exact hP9, hD9, (by omega)⟩⟩, hS.F ht⟩) hS.2.2 dX1_begin_141
  by_cases k_18 : x = 15
  · subst k_18
    refine lv_tableIn (off := 179) (tgt := 197) hx hb dX1_begin_18 (by decide) (by decide) (by decide) (by decide) ?_
    refine lv_iconst (v := 0) hx hb dX1_begin_197 (by decide) ?_
    have hP9 := hP.sub (ws' := [(k9, .inr (1, [.ref tc, .int (nI zn_2), .int nu, .int ki, .int ce, .int lo])), (tc, .inl (cI, 16, .inl ftn_2))]) [0, 1] rfl
    have hD9 := hD.sub (ws' := [(k9, .inr (1, [.ref tc, .int (nI zn_2), .int nu, .int ki, .int ce, .int lo])), (tc, .inl (cI, 16, .inl ftn_2))]) [0, 1] (by decide) rfl
    exact W.iret (v := 0) hx hb hr (fun t ht hW => ⟨⟨0, (), rfl, trivial, ⟨zn_2, ftn_2, by rw [ht]; exact hP9, hD9, (by omega)⟩⟩, hS.F ht⟩) hS.2.2 dX1_begin_198
  by_cases k_19 : x = 16
  · subst k_19
    refine lv_tableIn (off := 179) (tgt := 197) hx hb dX1_begin_18 (by decide) (by decide) (by decide) (by decide) ?_
    refine lv_iconst (v := 0) hx hb dX1_begin_197 (by decide) ?_
    have hP9 := hP.sub (ws' := [(k9, .inr (1, [.ref tc, .int (nI zn_2), .int nu, .int ki, .int ce, .int lo])), (tc, .inl (cI, 16, .inl ftn_2))]) [0, 1] rfl
    have hD9 := hD.sub (ws' := [(k9, .inr (1, [.ref tc, .int (nI zn_2), .int nu, .int ki, .int ce, .int lo])), (tc, .inl (cI, 16, .inl ftn_2))]) [0, 1] (by decide) rfl
    exact W.iret (v := 0) hx hb hr (fun t ht hW => ⟨⟨0, (), rfl, trivial, ⟨zn_2, ftn_2, by rw [ht]; exact hP9, hD9, (by omega)⟩⟩, hS.F ht⟩) hS.2.2 dX1_begin_198
  by_cases k_20 : x = 17
  · subst k_20
    refine lv_tableIn (off := 179) (tgt := 197) hx hb dX1_begin_18 (by decide) (by decide) (by decide) (by decide) ?_
    refine lv_iconst (v := 0) hx hb dX1_begin_197 (by decide) ?_
    have hP9 := hP.sub (ws' := [(k9, .inr (1, [.ref tc, .int (nI zn_2), .int nu, .int ki, .int ce, .int lo])), (tc, .inl (cI, 16, .inl ftn_2))]) [0, 1] rfl
    have hD9 := hD.sub (ws' := [(k9, .inr (1, [.ref tc, .int (nI zn_2), .int nu, .int ki, .int ce, .int lo])), (tc, .inl (cI, 16, .inl ftn_2))]) [0, 1] (by decide) rfl
    exact W.iret (v := 0) hx hb hr (fun t ht hW => ⟨⟨0, (), rfl, trivial, ⟨zn_2, ftn_2, by rw [ht]; exact hP9, hD9, (by omega)⟩⟩, hS.F ht⟩) hS.2.2 dX1_begin_198
  by_cases k_21 : x = 18
  · subst k_21
    refine lv_tableIn (off := 179) (tgt := 197) hx hb dX1_begin_18 (by decide) (by decide) (by decide) (by decide) ?_
    refine lv_iconst (v := 0) hx hb dX1_begin_197 (by decide) ?_
    have hP9 := hP.sub (ws' := [(k9, .inr (1, [.ref tc, .int (nI zn_2), .int nu, .int ki, .int ce, .int lo])), (tc, .inl (cI, 16, .inl ftn_2))]) [0, 1] rfl
    have hD9 := hD.sub (ws' := [(k9, .inr (1, [.ref tc, .int (nI zn_2), .int nu, .int ki, .int ce, .int lo])), (tc, .inl (cI, 16, .inl ftn_2))]) [0, 1] (by decide) rfl
    exact W.iret (v := 0) hx hb hr (fun t ht hW => ⟨⟨0, (), rfl, trivial, ⟨zn_2, ftn_2, by rw [ht]; exact hP9, hD9, (by omega)⟩⟩, hS.F ht⟩) hS.2.2 dX1_begin_198
  by_cases k_22 : x = 19
  · subst k_22
    refine lv_tableIn (off := 179) (tgt := 197) hx hb dX1_begin_18 (by decide) (by decide) (by decide) (by decide) ?_
    refine lv_iconst (v := 0) hx hb dX1_begin_197 (by decide) ?_
    have hP9 := hP.sub (ws' := [(k9, .inr (1, [.ref tc, .int (nI zn_2), .int nu, .int ki, .int ce, .int lo])), (tc, .inl (cI, 16, .inl ftn_2))]) [0, 1] rfl
    have hD9 := hD.sub (ws' := [(k9, .inr (1, [.ref tc, .int (nI zn_2), .int nu, .int ki, .int ce, .int lo])), (tc, .inl (cI, 16, .inl ftn_2))]) [0, 1] (by decide) rfl
    exact W.iret (v := 0) hx hb hr (fun t ht hW => ⟨⟨0, (), rfl, trivial, ⟨zn_2, ftn_2, by rw [ht]; exact hP9, hD9, (by omega)⟩⟩, hS.F ht⟩) hS.2.2 dX1_begin_198
  by_cases k_23 : x = 20
  · subst k_23
    refine lv_tableIn (off := 124) (tgt := 142) hx hb dX1_begin_18 (by decide) (by decide) (by decide) (by decide) ?_
    refine lv_aload_n hx hb dX1_begin_142 rfl (lv_at hl 1 rfl) ?_
    refine va_get (D := (dC, dI)) (ci := 1) (v := .int nu) (C := RX1) (T := TX1) (N := 6) hx hb hts i_X1_begin_X1 hown hK hP 0 rfl rfl 2 (by decide) (hts (.fieldLink RX1 19 "MillTalk$Asks" "number" "I") (by decide +kernel)) (fun _ h9 => h9) rfl dX1_begin_143 ?_
    have hP9 := hP.sub (ws' := [(k9, .inr (1, [.ref tc, .int (nI zn_2), .int nu, .int ki, .int ce, .int lo])), (tc, .inl (cI, 16, .inl ftn_2))]) [0, 1] rfl
    have hD9 := hD.sub (ws' := [(k9, .inr (1, [.ref tc, .int (nI zn_2), .int nu, .int ki, .int ce, .int lo])), (tc, .inl (cI, 16, .inl ftn_2))]) [0, 1] (by decide) rfl
    exact W.iret (v := nu) hx hb hr (fun t ht hW => ⟨⟨nu, (), rfl, trivial, ⟨zn_2, ftn_2, by rw [ht]; exact hP9, hD9, (by omega)⟩⟩, hS.F ht⟩) hS.2.2 dX1_begin_146
  by_cases k_24 : x = 21
  · subst k_24
    refine lv_tableIn (off := 129) (tgt := 147) hx hb dX1_begin_18 (by decide) (by decide) (by decide) (by decide) ?_
    refine lv_aload_n hx hb dX1_begin_147 rfl (lv_at hl 1 rfl) ?_
    refine lv_bipush (v := 20) hx hb dX1_begin_148 (by decide) ?_
    refine lv_iload_n hx hb dX1_begin_150 rfl (lv_at hl 0 rfl) ?_
    have hPc_25 := hP.sub (ws' := [(k9, .inr (1, [.ref tc, .int (nI zn_2), .int nu, .int ki, .int ce, .int lo])), (tc, .inl (cI, 16, .inl ftn_2))]) [0, 1] rfl
    have hDc_25 := hD.sub (ws' := [(k9, .inr (1, [.ref tc, .int (nI zn_2), .int nu, .int ki, .int ce, .int lo])), (tc, .inl (cI, 16, .inl ftn_2))]) [0, 1] (by decide) rfl
    have hFc_25 := va_free (wc := [(k9, .inr (1, [.ref tc, .int (nI zn_2), .int nu, .int ki, .int ce, .int lo])), (tc, .inl (cI, 16, .inl ftn_2))]) hD hS hA [0, 1] rfl
    refine va_calli (va_runV (As := [.int 20, .int 4]) (rest := []) ⟨hx, hb, hml, hown, hts⟩ (r_X1_begin_4 l dC dI cI cZ cL cJ H.size k9 tc zn_2 nu ki ce lo ftn_2 20 (by omega)) (cwV 2 hts gX1_begin_X1_begin rfl rfl rfl (by decide +kernel) ⟨Nat.le_of_ble_eq_true rfl, Nat.le_of_ble_eq_true rfl⟩) ⟨fun a U g mk q => by obtain ⟨q0, q1, qP, qK, qD, qS⟩ := q; exact ⟨q0, q1, qP, va_K.moved (u := U) (U := U.calling g mk a) (Vm.Alike.refl U.vm) qK, qD, stt_same rfl qS⟩, va_recv hK hP (ci := 1) (q0 := 0) rfl rfl, fun U hU hW => ⟨rfl, by rw [hU], by rw [hU]; exact hPc_25, va_K.moved hW.alike hK, hDc_25.weaken (fun _ _ _ _ => trivial), by rw [hU]; exact stt_warm hW (stt_narrow (stt_kept hst hS.2.1) hFc_25)⟩⟩ rfl rfl hl.1 rfl (lv_room (Nat.le_of_ble_eq_true rfl)) dX1_begin_151 ⟨Nat.le_of_ble_eq_true rfl, Nat.le_of_ble_eq_true rfl⟩) hS (fun q _ h => hFc_25 q h) hFc_25 (fun r_25 u_25 t_25 H1 locs ht hvm h_25 hB hz1 hk1 hS => ?_)
    obtain ⟨zn_25, ftn_25, hP1, hD1, hF_25_0⟩ := hB
    rw [ht] at hP1
    obtain ⟨hP, hD⟩ := va_join (wr := []) (w1 := [(k9, .inr (1, [.ref tc, .int (nI zn_25), .int nu, .int ki, .int ce, .int lo])), (tc, .inl (cI, 16, .inl ftn_25))]) hP hD [0, 1] [] rfl rfl (by decide) (by decide) hk1 hFc_25 hP1 hD1
    generalize H1 = H at hP hS ⊢
    have hP : va_P (dC, dI) vwCl [(k9, .inr (1, [.ref tc, .int (nI zn_25), .int nu, .int ki, .int ce, .int lo])), (tc, .inl (cI, 16, .inl ftn_25))] H := hP
    have hD : va_D A [(k9, .inr (1, [.ref tc, .int (nI zn_25), .int nu, .int ki, .int ce, .int lo])), (tc, .inl (cI, 16, .inl ftn_25))] := hD
    refine lv_aload_n hx hb dX1_begin_154 rfl (lv_at hl 1 rfl) ?_
    refine va_get (D := (dC, dI)) (ci := 1) (v := .int ce) (C := RX1) (T := TX1) (N := 6) hx hb hts i_X1_begin_X1 hown hK hP 0 rfl rfl 4 (by decide) (hts (.fieldLink RX1 33 "MillTalk$Asks" "cell" "I") (by decide +kernel)) (fun _ h9 => h9) rfl dX1_begin_155 ?_
    refine lv_iadd hx hb dX1_begin_158 ?_
    refine lv_topi (fun v_26 e_26 => ?_)
    have hP9 := hP.sub (ws' := [(k9, .inr (1, [.ref tc, .int (nI zn_25), .int nu, .int ki, .int ce, .int lo])), (tc, .inl (cI, 16, .inl ftn_25))]) [0, 1] rfl
    have hD9 := hD.sub (ws' := [(k9, .inr (1, [.ref tc, .int (nI zn_25), .int nu, .int ki, .int ce, .int lo])), (tc, .inl (cI, 16, .inl ftn_25))]) [0, 1] (by decide) rfl
    exact W.iret (v := v_26) hx hb hr (fun t ht hW => ⟨⟨v_26, (), rfl, trivial, ⟨zn_25, ftn_25, by rw [ht]; exact hP9, hD9, (by omega)⟩⟩, hS.F ht⟩) hS.2.2 dX1_begin_159
  by_cases k_27 : x = 22
  · subst k_27
    refine lv_tableIn (off := 142) (tgt := 160) hx hb dX1_begin_18 (by decide) (by decide) (by decide) (by decide) ?_
    refine lv_aload_n hx hb dX1_begin_160 rfl (lv_at hl 1 rfl) ?_
    refine lv_bipush (v := 21) hx hb dX1_begin_161 (by decide) ?_
    refine lv_iload_n hx hb dX1_begin_163 rfl (lv_at hl 0 rfl) ?_
    have hPc_28 := hP.sub (ws' := [(k9, .inr (1, [.ref tc, .int (nI zn_2), .int nu, .int ki, .int ce, .int lo])), (tc, .inl (cI, 16, .inl ftn_2))]) [0, 1] rfl
    have hDc_28 := hD.sub (ws' := [(k9, .inr (1, [.ref tc, .int (nI zn_2), .int nu, .int ki, .int ce, .int lo])), (tc, .inl (cI, 16, .inl ftn_2))]) [0, 1] (by decide) rfl
    have hFc_28 := va_free (wc := [(k9, .inr (1, [.ref tc, .int (nI zn_2), .int nu, .int ki, .int ce, .int lo])), (tc, .inl (cI, 16, .inl ftn_2))]) hD hS hA [0, 1] rfl
    refine va_calli (va_runV (As := [.int 21, .int 4]) (rest := []) ⟨hx, hb, hml, hown, hts⟩ (r_X1_begin_4 l dC dI cI cZ cL cJ H.size k9 tc zn_2 nu ki ce lo ftn_2 21 (by omega)) (cwV 2 hts gX1_begin_X1_begin rfl rfl rfl (by decide +kernel) ⟨Nat.le_of_ble_eq_true rfl, Nat.le_of_ble_eq_true rfl⟩) ⟨fun a U g mk q => by obtain ⟨q0, q1, qP, qK, qD, qS⟩ := q; exact ⟨q0, q1, qP, va_K.moved (u := U) (U := U.calling g mk a) (Vm.Alike.refl U.vm) qK, qD, stt_same rfl qS⟩, va_recv hK hP (ci := 1) (q0 := 0) rfl rfl, fun U hU hW => ⟨rfl, by rw [hU], by rw [hU]; exact hPc_28, va_K.moved hW.alike hK, hDc_28.weaken (fun _ _ _ _ => trivial), by rw [hU]; exact stt_warm hW (stt_narrow (stt_kept hst hS.2.1) hFc_28)⟩⟩ rfl rfl hl.1 rfl (lv_room (Nat.le_of_ble_eq_true rfl)) dX1_begin_164 ⟨Nat.le_of_ble_eq_true rfl, Nat.le_of_ble_eq_true rfl⟩) hS (fun q _ h => hFc_28 q h) hFc_28 (fun r_28 u_28 t_28 H1 locs ht hvm h_28 hB hz1 hk1 hS => ?_)
    obtain ⟨zn_28, ftn_28, hP1, hD1, hF_28_0⟩ := hB
    rw [ht] at hP1
    obtain ⟨hP, hD⟩ := va_join (wr := []) (w1 := [(k9, .inr (1, [.ref tc, .int (nI zn_28), .int nu, .int ki, .int ce, .int lo])), (tc, .inl (cI, 16, .inl ftn_28))]) hP hD [0, 1] [] rfl rfl (by decide) (by decide) hk1 hFc_28 hP1 hD1
    generalize H1 = H at hP hS ⊢
    have hP : va_P (dC, dI) vwCl [(k9, .inr (1, [.ref tc, .int (nI zn_28), .int nu, .int ki, .int ce, .int lo])), (tc, .inl (cI, 16, .inl ftn_28))] H := hP
    have hD : va_D A [(k9, .inr (1, [.ref tc, .int (nI zn_28), .int nu, .int ki, .int ce, .int lo])), (tc, .inl (cI, 16, .inl ftn_28))] := hD
    refine lv_sipush (v := 1000) hx hb dX1_begin_167 (by decide) ?_
    refine lv_isub hx hb dX1_begin_170 ?_
    refine lv_topi (fun v_29 e_29 => ?_)
    have hP9 := hP.sub (ws' := [(k9, .inr (1, [.ref tc, .int (nI zn_28), .int nu, .int ki, .int ce, .int lo])), (tc, .inl (cI, 16, .inl ftn_28))]) [0, 1] rfl
    have hD9 := hD.sub (ws' := [(k9, .inr (1, [.ref tc, .int (nI zn_28), .int nu, .int ki, .int ce, .int lo])), (tc, .inl (cI, 16, .inl ftn_28))]) [0, 1] (by decide) rfl
    exact W.iret (v := v_29) hx hb hr (fun t ht hW => ⟨⟨v_29, (), rfl, trivial, ⟨zn_28, ftn_28, by rw [ht]; exact hP9, hD9, (by omega)⟩⟩, hS.F ht⟩) hS.2.2 dX1_begin_171
  by_cases k_30 : x = 23
  · subst k_30
    refine lv_tableIn (off := 154) (tgt := 172) hx hb dX1_begin_18 (by decide) (by decide) (by decide) (by decide) ?_
    refine lv_aload_n hx hb dX1_begin_172 rfl (lv_at hl 1 rfl) ?_
    refine lv_bipush (v := 20) hx hb dX1_begin_173 (by decide) ?_
    refine lv_iload_n hx hb dX1_begin_175 rfl (lv_at hl 0 rfl) ?_
    have hPc_31 := hP.sub (ws' := [(k9, .inr (1, [.ref tc, .int (nI zn_2), .int nu, .int ki, .int ce, .int lo])), (tc, .inl (cI, 16, .inl ftn_2))]) [0, 1] rfl
    have hDc_31 := hD.sub (ws' := [(k9, .inr (1, [.ref tc, .int (nI zn_2), .int nu, .int ki, .int ce, .int lo])), (tc, .inl (cI, 16, .inl ftn_2))]) [0, 1] (by decide) rfl
    have hFc_31 := va_free (wc := [(k9, .inr (1, [.ref tc, .int (nI zn_2), .int nu, .int ki, .int ce, .int lo])), (tc, .inl (cI, 16, .inl ftn_2))]) hD hS hA [0, 1] rfl
    refine va_calli (va_runV (As := [.int 20, .int 4]) (rest := []) ⟨hx, hb, hml, hown, hts⟩ (r_X1_begin_4 l dC dI cI cZ cL cJ H.size k9 tc zn_2 nu ki ce lo ftn_2 20 (by omega)) (cwV 2 hts gX1_begin_X1_begin rfl rfl rfl (by decide +kernel) ⟨Nat.le_of_ble_eq_true rfl, Nat.le_of_ble_eq_true rfl⟩) ⟨fun a U g mk q => by obtain ⟨q0, q1, qP, qK, qD, qS⟩ := q; exact ⟨q0, q1, qP, va_K.moved (u := U) (U := U.calling g mk a) (Vm.Alike.refl U.vm) qK, qD, stt_same rfl qS⟩, va_recv hK hP (ci := 1) (q0 := 0) rfl rfl, fun U hU hW => ⟨rfl, by rw [hU], by rw [hU]; exact hPc_31, va_K.moved hW.alike hK, hDc_31.weaken (fun _ _ _ _ => trivial), by rw [hU]; exact stt_warm hW (stt_narrow (stt_kept hst hS.2.1) hFc_31)⟩⟩ rfl rfl hl.1 rfl (lv_room (Nat.le_of_ble_eq_true rfl)) dX1_begin_176 ⟨Nat.le_of_ble_eq_true rfl, Nat.le_of_ble_eq_true rfl⟩) hS (fun q _ h => hFc_31 q h) hFc_31 (fun r_31 u_31 t_31 H1 locs ht hvm h_31 hB hz1 hk1 hS => ?_)
    obtain ⟨zn_31, ftn_31, hP1, hD1, hF_31_0⟩ := hB
    rw [ht] at hP1
    obtain ⟨hP, hD⟩ := va_join (wr := []) (w1 := [(k9, .inr (1, [.ref tc, .int (nI zn_31), .int nu, .int ki, .int ce, .int lo])), (tc, .inl (cI, 16, .inl ftn_31))]) hP hD [0, 1] [] rfl rfl (by decide) (by decide) hk1 hFc_31 hP1 hD1
    generalize H1 = H at hP hS ⊢
    have hP : va_P (dC, dI) vwCl [(k9, .inr (1, [.ref tc, .int (nI zn_31), .int nu, .int ki, .int ce, .int lo])), (tc, .inl (cI, 16, .inl ftn_31))] H := hP
    have hD : va_D A [(k9, .inr (1, [.ref tc, .int (nI zn_31), .int nu, .int ki, .int ce, .int lo])), (tc, .inl (cI, 16, .inl ftn_31))] := hD
    refine lv_aload_n hx hb dX1_begin_179 rfl (lv_at hl 1 rfl) ?_
    refine lv_iconst (v := 0) hx hb dX1_begin_180 (by decide) ?_
    refine lv_iload_n hx hb dX1_begin_181 rfl (lv_at hl 0 rfl) ?_
    have hPc_32 := hP.sub (ws' := [(k9, .inr (1, [.ref tc, .int (nI zn_31), .int nu, .int ki, .int ce, .int lo])), (tc, .inl (cI, 16, .inl ftn_31))]) [0, 1] rfl
    have hDc_32 := hD.sub (ws' := [(k9, .inr (1, [.ref tc, .int (nI zn_31), .int nu, .int ki, .int ce, .int lo])), (tc, .inl (cI, 16, .inl ftn_31))]) [0, 1] (by decide) rfl
    have hFc_32 := va_free (wc := [(k9, .inr (1, [.ref tc, .int (nI zn_31), .int nu, .int ki, .int ce, .int lo])), (tc, .inl (cI, 16, .inl ftn_31))]) hD hS hA [0, 1] rfl
    refine va_calli (va_runV (As := [.int 0, .int 4]) (rest := [.int r_31]) ⟨hx, hb, hml, hown, hts⟩ (r_X1_askAnew_4 l dC dI cI cZ cL cJ H.size k9 tc zn_31 nu ki ce lo ftn_31 0 (by omega)) (cwV 2 hts gX1_begin_X1_askAnew rfl rfl rfl (by decide +kernel) ⟨Nat.le_of_ble_eq_true rfl, Nat.le_of_ble_eq_true rfl⟩) ⟨fun a U g mk q => by obtain ⟨q0, q1, qP, qK, qD, qS⟩ := q; exact ⟨q0, q1, qP, va_K.moved (u := U) (U := U.calling g mk a) (Vm.Alike.refl U.vm) qK, qD, stt_same rfl qS⟩, va_recv hK hP (ci := 1) (q0 := 0) rfl rfl, fun U hU hW => ⟨rfl, by rw [hU], by rw [hU]; exact hPc_32, va_K.moved hW.alike hK, hDc_32.weaken (fun _ _ _ _ => trivial), by rw [hU]; exact stt_warm hW (stt_narrow (stt_kept hst hS.2.1) hFc_32)⟩⟩ rfl rfl hl.1 rfl (lv_room (Nat.le_of_ble_eq_true rfl)) dX1_begin_182 ⟨Nat.le_of_ble_eq_true rfl, Nat.le_of_ble_eq_true rfl⟩) hS (fun q _ h => hFc_32 q h) hFc_32 (fun r_32 u_32 t_32 H1 locs ht hvm h_32 hB hz1 hk1 hS => ?_)
    obtain ⟨zn_32, ftn_32, hP1, hD1, hF_32_0⟩ := hB
    rw [ht] at hP1
    obtain ⟨hP, hD⟩ := va_join (wr := []) (w1 := [(k9, .inr (1, [.ref tc, .int (nI zn_32), .int nu, .int ki, .int ce, .int lo])), (tc, .inl (cI, 16, .inl ftn_32))]) hP hD [0, 1] [] rfl rfl (by decide) (by decide) hk1 hFc_32 hP1 hD1
    generalize H1 = H at hP hS ⊢
    have hP : va_P (dC, dI) vwCl [(k9, .inr (1, [.ref tc, .int (nI zn_32), .int nu, .int ki, .int ce, .int lo])), (tc, .inl (cI, 16, .inl ftn_32))] H := hP
    have hD : va_D A [(k9, .inr (1, [.ref tc, .int (nI zn_32), .int nu, .int ki, .int ce, .int lo])), (tc, .inl (cI, 16, .inl ftn_32))] := hD
    refine lv_isub hx hb dX1_begin_185 ?_
    refine lv_topi (fun v_33 e_33 => ?_)
    have hP9 := hP.sub (ws' := [(k9, .inr (1, [.ref tc, .int (nI zn_32), .int nu, .int ki, .int ce, .int lo])), (tc, .inl (cI, 16, .inl ftn_32))]) [0, 1] rfl
    have hD9 := hD.sub (ws' := [(k9, .inr (1, [.ref tc, .int (nI zn_32), .int nu, .int ki, .int ce, .int lo])), (tc, .inl (cI, 16, .inl ftn_32))]) [0, 1] (by decide) rfl
    exact W.iret (v := v_33) hx hb hr (fun t ht hW => ⟨⟨v_33, (), rfl, trivial, ⟨zn_32, ftn_32, by rw [ht]; exact hP9, hD9, (by omega)⟩⟩, hS.F ht⟩) hS.2.2 dX1_begin_186
  by_cases k_34 : x = 24
  · subst k_34
    refine lv_tableIn (off := 169) (tgt := 187) hx hb dX1_begin_18 (by decide) (by decide) (by decide) (by decide) ?_
    refine lv_aload_n hx hb dX1_begin_187 rfl (lv_at hl 1 rfl) ?_
    refine lv_bipush (v := 21) hx hb dX1_begin_188 (by decide) ?_
    refine lv_iload_n hx hb dX1_begin_190 rfl (lv_at hl 0 rfl) ?_
    have hPc_35 := hP.sub (ws' := [(k9, .inr (1, [.ref tc, .int (nI zn_2), .int nu, .int ki, .int ce, .int lo])), (tc, .inl (cI, 16, .inl ftn_2))]) [0, 1] rfl
    have hDc_35 := hD.sub (ws' := [(k9, .inr (1, [.ref tc, .int (nI zn_2), .int nu, .int ki, .int ce, .int lo])), (tc, .inl (cI, 16, .inl ftn_2))]) [0, 1] (by decide) rfl
    have hFc_35 := va_free (wc := [(k9, .inr (1, [.ref tc, .int (nI zn_2), .int nu, .int ki, .int ce, .int lo])), (tc, .inl (cI, 16, .inl ftn_2))]) hD hS hA [0, 1] rfl
    refine va_calli (va_runV (As := [.int 21, .int 4]) (rest := []) ⟨hx, hb, hml, hown, hts⟩ (r_X1_begin_4 l dC dI cI cZ cL cJ H.size k9 tc zn_2 nu ki ce lo ftn_2 21 (by omega)) (cwV 2 hts gX1_begin_X1_begin rfl rfl rfl (by decide +kernel) ⟨Nat.le_of_ble_eq_true rfl, Nat.le_of_ble_eq_true rfl⟩) ⟨fun a U g mk q => by obtain ⟨q0, q1, qP, qK, qD, qS⟩ := q; exact ⟨q0, q1, qP, va_K.moved (u := U) (U := U.calling g mk a) (Vm.Alike.refl U.vm) qK, qD, stt_same rfl qS⟩, va_recv hK hP (ci := 1) (q0 := 0) rfl rfl, fun U hU hW => ⟨rfl, by rw [hU], by rw [hU]; exact hPc_35, va_K.moved hW.alike hK, hDc_35.weaken (fun _ _ _ _ => trivial), by rw [hU]; exact stt_warm hW (stt_narrow (stt_kept hst hS.2.1) hFc_35)⟩⟩ rfl rfl hl.1 rfl (lv_room (Nat.le_of_ble_eq_true rfl)) dX1_begin_191 ⟨Nat.le_of_ble_eq_true rfl, Nat.le_of_ble_eq_true rfl⟩) hS (fun q _ h => hFc_35 q h) hFc_35 (fun r_35 u_35 t_35 H1 locs ht hvm h_35 hB hz1 hk1 hS => ?_)
    obtain ⟨zn_35, ftn_35, hP1, hD1, hF_35_0⟩ := hB
    rw [ht] at hP1
    obtain ⟨hP, hD⟩ := va_join (wr := []) (w1 := [(k9, .inr (1, [.ref tc, .int (nI zn_35), .int nu, .int ki, .int ce, .int lo])), (tc, .inl (cI, 16, .inl ftn_35))]) hP hD [0, 1] [] rfl rfl (by decide) (by decide) hk1 hFc_35 hP1 hD1
    generalize H1 = H at hP hS ⊢
    have hP : va_P (dC, dI) vwCl [(k9, .inr (1, [.ref tc, .int (nI zn_35), .int nu, .int ki, .int ce, .int lo])), (tc, .inl (cI, 16, .inl ftn_35))] H := hP
    have hD : va_D A [(k9, .inr (1, [.ref tc, .int (nI zn_35), .int nu, .int ki, .int ce, .int lo])), (tc, .inl (cI, 16, .inl ftn_35))] := hD
    refine lv_iconst (v := 2) hx hb dX1_begin_194 (by decide) ?_
    refine lv_imul hx hb dX1_begin_195 ?_
    refine lv_topi (fun v_36 e_36 => ?_)
    have hP9 := hP.sub (ws' := [(k9, .inr (1, [.ref tc, .int (nI zn_35), .int nu, .int ki, .int ce, .int lo])), (tc, .inl (cI, 16, .inl ftn_35))]) [0, 1] rfl
    have hD9 := hD.sub (ws' := [(k9, .inr (1, [.ref tc, .int (nI zn_35), .int nu, .int ki, .int ce, .int lo])), (tc, .inl (cI, 16, .inl ftn_35))]) [0, 1] (by decide) rfl
    exact W.iret (v := v_36) hx hb hr (fun t ht hW => ⟨⟨v_36, (), rfl, trivial, ⟨zn_35, ftn_35, by rw [ht]; exact hP9, hD9, (by omega)⟩⟩, hS.F ht⟩) hS.2.2 dX1_begin_196
  have kT_4 := lv_neT k_4 (show (10 : Int32).toInt = 10 from rfl)
  have kT_5 := lv_neT k_5 (show (11 : Int32).toInt = 11 from rfl)
  have kT_9 := lv_neT k_9 (show (12 : Int32).toInt = 12 from rfl)
  have kT_12 := lv_neT k_12 (show (13 : Int32).toInt = 13 from rfl)
  have kT_15 := lv_neT k_15 (show (14 : Int32).toInt = 14 from rfl)
  have kT_18 := lv_neT k_18 (show (15 : Int32).toInt = 15 from rfl)
  have kT_19 := lv_neT k_19 (show (16 : Int32).toInt = 16 from rfl)
  have kT_20 := lv_neT k_20 (show (17 : Int32).toInt = 17 from rfl)
  have kT_21 := lv_neT k_21 (show (18 : Int32).toInt = 18 from rfl)
  have kT_22 := lv_neT k_22 (show (19 : Int32).toInt = 19 from rfl)
  have kT_23 := lv_neT k_23 (show (20 : Int32).toInt = 20 from rfl)
  have kT_24 := lv_neT k_24 (show (21 : Int32).toInt = 21 from rfl)
  have kT_27 := lv_neT k_27 (show (22 : Int32).toInt = 22 from rfl)
  have kT_30 := lv_neT k_30 (show (23 : Int32).toInt = 23 from rfl)
  have kT_34 := lv_neT k_34 (show (24 : Int32).toInt = 24 from rfl)
  refine lv_tableOut (tgt := 197) hx hb dX1_begin_18 (by omega) (by decide) ?_
  refine lv_iconst (v := 0) hx hb dX1_begin_197 (by decide) ?_
  have hP9 := hP.sub (ws' := [(k9, .inr (1, [.ref tc, .int (nI zn_2), .int nu, .int ki, .int ce, .int lo])), (tc, .inl (cI, 16, .inl ftn_2))]) [0, 1] rfl
  have hD9 := hD.sub (ws' := [(k9, .inr (1, [.ref tc, .int (nI zn_2), .int nu, .int ki, .int ce, .int lo])), (tc, .inl (cI, 16, .inl ftn_2))]) [0, 1] (by decide) rfl
  exact W.iret (v := 0) hx hb hr (fun t ht hW => ⟨⟨0, (), rfl, trivial, ⟨zn_2, ftn_2, by rw [ht]; exact hP9, hD9, (by omega)⟩⟩, hS.F ht⟩) hS.2.2 dX1_begin_198
set_option maxHeartbeats 4000000 in
set_option maxRecDepth 100000 in
theorem r_X1_askAnew_3 (l : Launch) (dC : Nat → ClassId) (dI : Nat → Nat → Nat) (cI cZ cL cJ : ClassId) (sz : Nat) (k9 : Nat) (tc : Nat) (z : Nat) (nu : Int32) (ki : Int32) (ce : Int32) (lo : Int32) (ft : Nat → Int32) (x : Int32) (hz : z ≤ 16) : Met l yX1_askAnew wsX1_askAnew ({ frames := 27, cells := 0, slots := 0, locals := 609 }) (va_Pc [.ref k9, .int x, .int 3] (fun U => U.heap.size = sz ∧ va_P (dC, dI) vwCl [(k9, .inr (1, [.ref tc, .int (nI z), .int nu, .int ki, .int ce, .int lo])), (tc, .inl (cI, 16, .inl ft))] U.heap ∧ va_K (dC, dI) vwCl [(cI, .int), (cZ, .boolean), (cL, .object RX3), (cJ, .array .int)] U ∧ va_D (fun _ => True) [(k9, .inr (1, [.ref tc, .int (nI z), .int nu, .int ki, .int ce, .int lo])), (tc, .inl (cI, 16, .inl ft))] ∧ stt (va_A [(k9, .inr (1, [.ref tc, .int (nI z), .int nu, .int ki, .int ce, .int lo])), (tc, .inl (cI, 16, .inl ft))] sz) U U.heap)) (va_Qi (fun r (_ : Unit) => True) (fun (_ : Unit) t => ∃ (zn : Nat) (ftn : Nat → Int32), va_P (dC, dI) vwCl [(k9, .inr (1, [.ref tc, .int (nI zn), .int nu, .int ki, .int ce, .int lo])), (tc, .inl (cI, 16, .inl ftn))] t.heap ∧ va_D (va_A [(k9, .inr (1, [.ref tc, .int (nI z), .int nu, .int ki, .int ce, .int lo])), (tc, .inl (cI, 16, .inl ft))] sz) [(k9, .inr (1, [.ref tc, .int (nI zn), .int nu, .int ki, .int ce, .int lo])), (tc, .inl (cI, 16, .inl ftn))] ∧ zn ≤ 16) (va_A [(k9, .inr (1, [.ref tc, .int (nI z), .int nu, .int ki, .int ce, .int lo])), (tc, .inl (cI, 16, .inl ft))] sz)) 0 0 (va_A [(k9, .inr (1, [.ref tc, .int (nI z), .int nu, .int ki, .int ce, .int lo])), (tc, .inl (cI, 16, .inl ft))] sz) := by
  refine Met.ofW (cc := cX1_askAnew) (maxL := 3) (ret := (some .int)) (by decide) rfl ?_
  intro p e s m args below meth c s₁ B hml hv
  obtain ⟨rfl, hsz, hP, hK, hD0, hst⟩ := hv
  have hx := B.exec
  have hb := B.bytes
  have hr := B.returns
  have hts := atoms_spec (ws := wsX1_askAnew) B.pre
  have hown : s.vm.findClass RX1 = some m.cls := findClass_of_methodNamed B.named
  have hlocks := B.notSynchronized
  subst hsz
  have hD := hD0.self (sz := s.heap.size)
  generalize hAe : va_A [(k9, .inr (1, [.ref tc, .int (nI z), .int nu, .int ki, .int ce, .int lo])), (tc, .inl (cI, 16, .inl ft))] s.heap.size = A at hD hst ⊢
  have hA : ∀ q : Nat, s.heap.size ≤ q → A q := fun q h => by rw [← hAe]; exact Or.inr h
  have hS : va_S A s.heap s.heap [] := va_S.rf
  have hP : va_P (dC, dI) vwCl [(k9, .inr (1, [.ref tc, .int (nI z), .int nu, .int ki, .int ce, .int lo])), (tc, .inl (cI, 16, .inl ft))] s.heap := hP
  obtain ⟨⟨tb1, hZ1, hT1⟩, ⟨tb2, hZ2, hT2⟩, ⟨tb3, hZ3, hT3⟩, hNk⟩ := id hst
  have hl := lv_entry ([.ref k9, .int x, .int 3]) (n := 3) (Nat.le_of_ble_eq_true rfl)
  rw [lg_entry_eq]
  generalize (lg_sl ([.ref k9, .int x, .int 3]) ++ List.replicate (3 - (lg_sl ([.ref k9, .int x, .int 3])).length) Slot.unset).toArray = ls at hl ⊢
  have hl : lv_has ls 3 [(0, .ref k9), (1, .int x), (2, .int 3)] := hl
  refine lv_aload_n hx hb dX1_askAnew_0 rfl (lv_at hl 0 rfl) ?_
  refine lv_aload_n hx hb dX1_askAnew_1 rfl (lv_at hl 0 rfl) ?_
  refine lv_iload_n hx hb dX1_askAnew_2 rfl (lv_at hl 1 rfl) ?_
  have hPc_1 := hP.sub (ws' := [(k9, .inr (1, [.ref tc, .int (nI z), .int nu, .int ki, .int ce, .int lo]))]) [0] rfl
  refine vp_callSi (W.runV (As := [.int x]) (rest := [.ref k9]) ⟨hx, hb, hml, hown, hts⟩ (r_X1_bodyFor l dC dI cI cZ cL cJ k9 tc z nu ki ce lo x ) (cwV 1 hts gX1_askAnew_X1_bodyFor rfl rfl rfl (by decide +kernel) ⟨Nat.le_of_ble_eq_true rfl, Nat.le_of_ble_eq_true rfl⟩) ⟨fun a U g mk q => by obtain ⟨q0, qP, qK, qS⟩ := q; exact ⟨q0, qP, va_K.moved (u := U) (U := U.calling g mk a) (Vm.Alike.refl U.vm) qK, stt_same rfl qS⟩, va_recv hK hP (ci := 1) (q0 := 0) rfl rfl, fun U hU hW => ⟨rfl, by rw [hU]; exact hPc_1, va_K.moved hW.alike hK, by rw [hU]; exact stt_warm hW (stt_narrow (stt_kept hst hS.2.1) (fun _ h => h.elim))⟩⟩ rfl rfl hl.1 rfl (lv_room (Nat.le_of_ble_eq_true rfl)) dX1_askAnew_3 ⟨Nat.le_of_ble_eq_true rfl, Nat.le_of_ble_eq_true rfl⟩) (fun r_1 h_1 => ?_)
  refine lv_iload_n hx hb dX1_askAnew_6 rfl (lv_at hl 2 rfl) ?_
  have hPc_2 := hP.sub (ws' := [(k9, .inr (1, [.ref tc, .int (nI z), .int nu, .int ki, .int ce, .int lo])), (tc, .inl (cI, 16, .inl ft))]) [0, 1] rfl
  have hDc_2 := hD.sub (ws' := [(k9, .inr (1, [.ref tc, .int (nI z), .int nu, .int ki, .int ce, .int lo])), (tc, .inl (cI, 16, .inl ft))]) [0, 1] (by decide) rfl
  have hFc_2 := va_free (wc := [(k9, .inr (1, [.ref tc, .int (nI z), .int nu, .int ki, .int ce, .int lo])), (tc, .inl (cI, 16, .inl ft))]) hD hS hA [0, 1] rfl
  refine va_calli (va_runV (As := [.int r_1, .int 3]) (rest := []) ⟨hx, hb, hml, hown, hts⟩ (r_X1_begin_3 l dC dI cI cZ cL cJ s.heap.size k9 tc z nu ki ce lo ft r_1 (by omega)) (cwV 2 hts gX1_askAnew_X1_begin rfl rfl rfl (by decide +kernel) ⟨Nat.le_of_ble_eq_true rfl, Nat.le_of_ble_eq_true rfl⟩) ⟨fun a U g mk q => by obtain ⟨q0, q1, qP, qK, qD, qS⟩ := q; exact ⟨q0, q1, qP, va_K.moved (u := U) (U := U.calling g mk a) (Vm.Alike.refl U.vm) qK, qD, stt_same rfl qS⟩, va_recv hK hP (ci := 1) (q0 := 0) rfl rfl, fun U hU hW => ⟨rfl, by rw [hU], by rw [hU]; exact hPc_2, va_K.moved hW.alike hK, hDc_2.weaken (fun _ _ _ _ => trivial), by rw [hU]; exact stt_warm hW (stt_narrow (stt_kept hst hS.2.1) hFc_2)⟩⟩ rfl rfl hl.1 rfl (lv_room (Nat.le_of_ble_eq_true rfl)) dX1_askAnew_7 ⟨Nat.le_of_ble_eq_true rfl, Nat.le_of_ble_eq_true rfl⟩) hS (fun q _ h => hFc_2 q h) hFc_2 (fun r_2 u_2 t_2 H1 locs ht hvm h_2 hB hz1 hk1 hS => ?_)
  obtain ⟨zn_2, ftn_2, hP1, hD1, hF_2_0⟩ := hB
  rw [ht] at hP1
  obtain ⟨hP, hD⟩ := va_join (wr := []) (w1 := [(k9, .inr (1, [.ref tc, .int (nI zn_2), .int nu, .int ki, .int ce, .int lo])), (tc, .inl (cI, 16, .inl ftn_2))]) hP hD [0, 1] [] rfl rfl (by decide) (by decide) hk1 hFc_2 hP1 hD1
  generalize H1 = H at hP hS ⊢
  have hP : va_P (dC, dI) vwCl [(k9, .inr (1, [.ref tc, .int (nI zn_2), .int nu, .int ki, .int ce, .int lo])), (tc, .inl (cI, 16, .inl ftn_2))] H := hP
  have hD : va_D A [(k9, .inr (1, [.ref tc, .int (nI zn_2), .int nu, .int ki, .int ce, .int lo])), (tc, .inl (cI, 16, .inl ftn_2))] := hD
  have hP9 := hP.sub (ws' := [(k9, .inr (1, [.ref tc, .int (nI zn_2), .int nu, .int ki, .int ce, .int lo])), (tc, .inl (cI, 16, .inl ftn_2))]) [0, 1] rfl
  have hD9 := hD.sub (ws' := [(k9, .inr (1, [.ref tc, .int (nI zn_2), .int nu, .int ki, .int ce, .int lo])), (tc, .inl (cI, 16, .inl ftn_2))]) [0, 1] (by decide) rfl
  exact W.iret (v := r_2) hx hb hr (fun t ht hW => ⟨⟨r_2, (), rfl, trivial, ⟨zn_2, ftn_2, by rw [ht]; exact hP9, hD9, (by omega)⟩⟩, hS.F ht⟩) hS.2.2 dX1_askAnew_10
set_option maxHeartbeats 4000000 in
set_option maxRecDepth 100000 in
theorem r_X1_begin_2 (l : Launch) (dC : Nat → ClassId) (dI : Nat → Nat → Nat) (cI cZ cL cJ : ClassId) (sz : Nat) (k9 : Nat) (tc : Nat) (z : Nat) (nu : Int32) (ki : Int32) (ce : Int32) (lo : Int32) (ft : Nat → Int32) (x : Int32) (hz : z ≤ 16) : Met l yX1_begin wsX1_begin ({ frames := 28, cells := 0, slots := 0, locals := 631 }) (va_Pc [.ref k9, .int x, .int 2] (fun U => U.heap.size = sz ∧ va_P (dC, dI) vwCl [(k9, .inr (1, [.ref tc, .int (nI z), .int nu, .int ki, .int ce, .int lo])), (tc, .inl (cI, 16, .inl ft))] U.heap ∧ va_K (dC, dI) vwCl [(cI, .int), (cZ, .boolean), (cL, .object RX3), (cJ, .array .int)] U ∧ va_D (fun _ => True) [(k9, .inr (1, [.ref tc, .int (nI z), .int nu, .int ki, .int ce, .int lo])), (tc, .inl (cI, 16, .inl ft))] ∧ stt (va_A [(k9, .inr (1, [.ref tc, .int (nI z), .int nu, .int ki, .int ce, .int lo])), (tc, .inl (cI, 16, .inl ft))] sz) U U.heap)) (va_Qi (fun r (_ : Unit) => True) (fun (_ : Unit) t => ∃ (zn : Nat) (ftn : Nat → Int32), va_P (dC, dI) vwCl [(k9, .inr (1, [.ref tc, .int (nI zn), .int nu, .int ki, .int ce, .int lo])), (tc, .inl (cI, 16, .inl ftn))] t.heap ∧ va_D (va_A [(k9, .inr (1, [.ref tc, .int (nI z), .int nu, .int ki, .int ce, .int lo])), (tc, .inl (cI, 16, .inl ft))] sz) [(k9, .inr (1, [.ref tc, .int (nI zn), .int nu, .int ki, .int ce, .int lo])), (tc, .inl (cI, 16, .inl ftn))] ∧ zn ≤ 16) (va_A [(k9, .inr (1, [.ref tc, .int (nI z), .int nu, .int ki, .int ce, .int lo])), (tc, .inl (cI, 16, .inl ft))] sz)) 0 0 (va_A [(k9, .inr (1, [.ref tc, .int (nI z), .int nu, .int ki, .int ce, .int lo])), (tc, .inl (cI, 16, .inl ft))] sz) := by
  refine Met.ofW (cc := cX1_begin) (maxL := 4) (ret := (some .int)) (by decide) rfl ?_
  intro p e s m args below meth c s₁ B hml hv
  obtain ⟨rfl, hsz, hP, hK, hD0, hst⟩ := hv
  have hx := B.exec
  have hb := B.bytes
  have hr := B.returns
  have hts := atoms_spec (ws := wsX1_begin) B.pre
  have hown : s.vm.findClass RX1 = some m.cls := findClass_of_methodNamed B.named
  have hlocks := B.notSynchronized
  subst hsz
  have hD := hD0.self (sz := s.heap.size)
  generalize hAe : va_A [(k9, .inr (1, [.ref tc, .int (nI z), .int nu, .int ki, .int ce, .int lo])), (tc, .inl (cI, 16, .inl ft))] s.heap.size = A at hD hst ⊢
  have hA : ∀ q : Nat, s.heap.size ≤ q → A q := fun q h => by rw [← hAe]; exact Or.inr h
  have hS : va_S A s.heap s.heap [] := va_S.rf
  have hP : va_P (dC, dI) vwCl [(k9, .inr (1, [.ref tc, .int (nI z), .int nu, .int ki, .int ce, .int lo])), (tc, .inl (cI, 16, .inl ft))] s.heap := hP
  obtain ⟨⟨tb1, hZ1, hT1⟩, ⟨tb2, hZ2, hT2⟩, ⟨tb3, hZ3, hT3⟩, hNk⟩ := id hst
  have hl := lv_entry ([.ref k9, .int x, .int 2]) (n := 4) (Nat.le_of_ble_eq_true rfl)
  rw [lg_entry_eq]
  generalize (lg_sl ([.ref k9, .int x, .int 2]) ++ List.replicate (4 - (lg_sl ([.ref k9, .int x, .int 2])).length) Slot.unset).toArray = ls at hl ⊢
  have hl : lv_has ls 4 [(0, .ref k9), (1, .int x), (2, .int 2)] := hl
  refine lv_iload_n hx hb dX1_begin_0 rfl (lv_at hl 2 rfl) ?_
  refine lv_bipush (v := 16) hx hb dX1_begin_1 (by decide) ?_
  refine lv_icmp_lt (tgt := 8) hx hb dX1_begin_3 (by decide) (fun _ => ?_) (fun c_ => absurd (by decide) c_)
  refine lv_aload_n hx hb dX1_begin_8 rfl (lv_at hl 0 rfl) ?_
  refine lv_iload_n hx hb dX1_begin_9 rfl (lv_at hl 1 rfl) ?_
  have hPc_2 := hP.sub (ws' := [(k9, .inr (1, [.ref tc, .int (nI z), .int nu, .int ki, .int ce, .int lo])), (tc, .inl (cI, 16, .inl ft))]) [0, 1] rfl
  have hDc_2 := hD.sub (ws' := [(k9, .inr (1, [.ref tc, .int (nI z), .int nu, .int ki, .int ce, .int lo])), (tc, .inl (cI, 16, .inl ft))]) [0, 1] (by decide) rfl
  have hFc_2 := va_free (wc := [(k9, .inr (1, [.ref tc, .int (nI z), .int nu, .int ki, .int ce, .int lo])), (tc, .inl (cI, 16, .inl ft))]) hD hS hA [0, 1] rfl
  refine va_callv (va_runV (As := [.int x]) (rest := []) ⟨hx, hb, hml, hown, hts⟩ (r_X1_leave l dC dI cI cZ cL cJ s.heap.size k9 tc z nu ki ce lo ft x (by omega)) (cwV 1 hts gX1_begin_X1_leave rfl rfl rfl (by decide +kernel) ⟨Nat.le_of_ble_eq_true rfl, Nat.le_of_ble_eq_true rfl⟩) ⟨fun a U g mk q => by obtain ⟨q0, q1, qP, qK, qD⟩ := q; exact ⟨q0, q1, qP, va_K.moved (u := U) (U := U.calling g mk a) (Vm.Alike.refl U.vm) qK, qD⟩, va_recv hK hP (ci := 1) (q0 := 0) rfl rfl, fun U hU hW => ⟨rfl, by rw [hU], by rw [hU]; exact hPc_2, va_K.moved hW.alike hK, hDc_2.weaken (fun _ _ _ _ => trivial)⟩⟩ rfl rfl hl.1 rfl (lv_room (Nat.le_of_ble_eq_true rfl)) dX1_begin_10 ⟨Nat.le_of_ble_eq_true rfl, Nat.le_of_ble_eq_true rfl⟩) hS (fun q _ h => hFc_2 q h) hFc_2 (fun u_2 t_2 H1 locs ht hvm h_2 hB hz1 hk1 hS => ?_)
  obtain ⟨zn_2, ftn_2, hP1, hD1, hF_2_0⟩ := hB
  rw [ht] at hP1
  obtain ⟨hP, hD⟩ := va_join (wr := []) (w1 := [(k9, .inr (1, [.ref tc, .int (nI zn_2), .int nu, .int ki, .int ce, .int lo])), (tc, .inl (cI, 16, .inl ftn_2))]) hP hD [0, 1] [] rfl rfl (by decide) (by decide) hk1 hFc_2 hP1 hD1
  generalize H1 = H at hP hS ⊢
  have hP : va_P (dC, dI) vwCl [(k9, .inr (1, [.ref tc, .int (nI zn_2), .int nu, .int ki, .int ce, .int lo])), (tc, .inl (cI, 16, .inl ftn_2))] H := hP
  have hD : va_D A [(k9, .inr (1, [.ref tc, .int (nI zn_2), .int nu, .int ki, .int ce, .int lo])), (tc, .inl (cI, 16, .inl ftn_2))] := hD
  refine lv_iload_n hx hb dX1_begin_13 rfl (lv_at hl 2 rfl) ?_
  refine lv_iconst (v := 1) hx hb dX1_begin_14 (by decide) ?_
  refine lv_iadd hx hb dX1_begin_15 ?_
  refine lv_topi (fun v_3 e_3 => ?_)
  obtain rfl : v_3 = 3 := (e_3).trans (by decide)
  refine lv_istore_n (lv' := [(3, .int 3), (0, .ref k9), (1, .int x), (2, .int 2)]) hx hb dX1_begin_16 rfl hl (by decide) rfl (fun ls hl => ?_)
  refine lv_iload_n hx hb dX1_begin_17 rfl (lv_at hl 2 rfl) ?_
  by_cases k_4 : x = 10
  · subst k_4
    refine lv_tableIn (off := 74) (tgt := 92) hx hb dX1_begin_18 (by decide) (by decide) (by decide) (by decide) ?_
    refine lv_aload_n hx hb dX1_begin_92 rfl (lv_at hl 1 rfl) ?_
    refine va_get (D := (dC, dI)) (ci := 1) (v := .int lo) (C := RX1) (T := TX1) (N := 6) hx hb hts i_X1_begin_X1 hown hK hP 0 rfl rfl 5 (by decide) (hts (.fieldLink RX1 39 "MillTalk$Asks" "loud" "I") (by decide +kernel)) (fun _ h9 => h9) rfl dX1_begin_93 ?_
    have hP9 := hP.sub (ws' := [(k9, .inr (1, [.ref tc, .int (nI zn_2), .int nu, .int ki, .int ce, .int lo])), (tc, .inl (cI, 16, .inl ftn_2))]) [0, 1] rfl
    have hD9 := hD.sub (ws' := [(k9, .inr (1, [.ref tc, .int (nI zn_2), .int nu, .int ki, .int ce, .int lo])), (tc, .inl (cI, 16, .inl ftn_2))]) [0, 1] (by decide) rfl
    exact W.iret (v := lo) hx hb hr (fun t ht hW => ⟨⟨lo, (), rfl, trivial, ⟨zn_2, ftn_2, by rw [ht]; exact hP9, hD9, (by omega)⟩⟩, hS.F ht⟩) hS.2.2 dX1_begin_96
  by_cases k_5 : x = 11
  · subst k_5
    refine lv_tableIn (off := 79) (tgt := 97) hx hb dX1_begin_18 (by decide) (by decide) (by decide) (by decide) ?_
    refine lv_aload_n hx hb dX1_begin_97 rfl (lv_at hl 1 rfl) ?_
    refine lv_bipush (v := 10) hx hb dX1_begin_98 (by decide) ?_
    refine lv_iload_n hx hb dX1_begin_100 rfl (lv_at hl 0 rfl) ?_
    have hPc_6 := hP.sub (ws' := [(k9, .inr (1, [.ref tc, .int (nI zn_2), .int nu, .int ki, .int ce, .int lo])), (tc, .inl (cI, 16, .inl ftn_2))]) [0, 1] rfl
    have hDc_6 := hD.sub (ws' := [(k9, .inr (1, [.ref tc, .int (nI zn_2), .int nu, .int ki, .int ce, .int lo])), (tc, .inl (cI, 16, .inl ftn_2))]) [0, 1] (by decide) rfl
    have hFc_6 := va_free (wc := [(k9, .inr (1, [.ref tc, .int (nI zn_2), .int nu, .int ki, .int ce, .int lo])), (tc, .inl (cI, 16, .inl ftn_2))]) hD hS hA [0, 1] rfl
    refine va_calli (va_runV (As := [.int 10, .int 3]) (rest := []) ⟨hx, hb, hml, hown, hts⟩ (r_X1_begin_3 l dC dI cI cZ cL cJ H.size k9 tc zn_2 nu ki ce lo ftn_2 10 (by omega)) (cwV 2 hts gX1_begin_X1_begin rfl rfl rfl (by decide +kernel) ⟨Nat.le_of_ble_eq_true rfl, Nat.le_of_ble_eq_true rfl⟩) ⟨fun a U g mk q => by obtain ⟨q0, q1, qP, qK, qD, qS⟩ := q; exact ⟨q0, q1, qP, va_K.moved (u := U) (U := U.calling g mk a) (Vm.Alike.refl U.vm) qK, qD, stt_same rfl qS⟩, va_recv hK hP (ci := 1) (q0 := 0) rfl rfl, fun U hU hW => ⟨rfl, by rw [hU], by rw [hU]; exact hPc_6, va_K.moved hW.alike hK, hDc_6.weaken (fun _ _ _ _ => trivial), by rw [hU]; exact stt_warm hW (stt_narrow (stt_kept hst hS.2.1) hFc_6)⟩⟩ rfl rfl hl.1 rfl (lv_room (Nat.le_of_ble_eq_true rfl)) dX1_begin_101 ⟨Nat.le_of_ble_eq_true rfl, Nat.le_of_ble_eq_true rfl⟩) hS (fun q _ h => hFc_6 q h) hFc_6 (fun r_6 u_6 t_6 H1 locs ht hvm h_6 hB hz1 hk1 hS => ?_)
    obtain ⟨zn_6, ftn_6, hP1, hD1, hF_6_0⟩ := hB
    rw [ht] at hP1
    obtain ⟨hP, hD⟩ := va_join (wr := []) (w1 := [(k9, .inr (1, [.ref tc, .int (nI zn_6), .int nu, .int ki, .int ce, .int lo])), (tc, .inl (cI, 16, .inl ftn_6))]) hP hD [0, 1] [] rfl rfl (by decide) (by decide) hk1 hFc_6 hP1 hD1
    generalize H1 = H at hP hS ⊢
    have hP : va_P (dC, dI) vwCl [(k9, .inr (1, [.ref tc, .int (nI zn_6), .int nu, .int ki, .int ce, .int lo])), (tc, .inl (cI, 16, .inl ftn_6))] H := hP
    have hD : va_D A [(k9, .inr (1, [.ref tc, .int (nI zn_6), .int nu, .int ki, .int ce, .int lo])), (tc, .inl (cI, 16, .inl ftn_6))] := hD
    refine lv_aload_n hx hb dX1_begin_104 rfl (lv_at hl 1 rfl) ?_
    refine lv_iconst (v := 1) hx hb dX1_begin_105 (by decide) ?_
    refine lv_iload_n hx hb dX1_begin_106 rfl (lv_at hl 0 rfl) ?_
    have hPc_7 := hP.sub (ws' := [(k9, .inr (1, [.ref tc, .int (nI zn_6), .int nu, .int ki, .int ce, .int lo])), (tc, .inl (cI, 16, .inl ftn_6))]) [0, 1] rfl
    have hDc_7 := hD.sub (ws' := [(k9, .inr (1, [.ref tc, .int (nI zn_6), .int nu, .int ki, .int ce, .int lo])), (tc, .inl (cI, 16, .inl ftn_6))]) [0, 1] (by decide) rfl
    have hFc_7 := va_free (wc := [(k9, .inr (1, [.ref tc, .int (nI zn_6), .int nu, .int ki, .int ce, .int lo])), (tc, .inl (cI, 16, .inl ftn_6))]) hD hS hA [0, 1] rfl
    refine va_calli (va_runV (As := [.int 1, .int 3]) (rest := [.int r_6]) ⟨hx, hb, hml, hown, hts⟩ (r_X1_askAnew_3 l dC dI cI cZ cL cJ H.size k9 tc zn_6 nu ki ce lo ftn_6 1 (by omega)) (cwV 2 hts gX1_begin_X1_askAnew rfl rfl rfl (by decide +kernel) ⟨Nat.le_of_ble_eq_true rfl, Nat.le_of_ble_eq_true rfl⟩) ⟨fun a U g mk q => by obtain ⟨q0, q1, qP, qK, qD, qS⟩ := q; exact ⟨q0, q1, qP, va_K.moved (u := U) (U := U.calling g mk a) (Vm.Alike.refl U.vm) qK, qD, stt_same rfl qS⟩, va_recv hK hP (ci := 1) (q0 := 0) rfl rfl, fun U hU hW => ⟨rfl, by rw [hU], by rw [hU]; exact hPc_7, va_K.moved hW.alike hK, hDc_7.weaken (fun _ _ _ _ => trivial), by rw [hU]; exact stt_warm hW (stt_narrow (stt_kept hst hS.2.1) hFc_7)⟩⟩ rfl rfl hl.1 rfl (lv_room (Nat.le_of_ble_eq_true rfl)) dX1_begin_107 ⟨Nat.le_of_ble_eq_true rfl, Nat.le_of_ble_eq_true rfl⟩) hS (fun q _ h => hFc_7 q h) hFc_7 (fun r_7 u_7 t_7 H1 locs ht hvm h_7 hB hz1 hk1 hS => ?_)
    obtain ⟨zn_7, ftn_7, hP1, hD1, hF_7_0⟩ := hB
    rw [ht] at hP1
    obtain ⟨hP, hD⟩ := va_join (wr := []) (w1 := [(k9, .inr (1, [.ref tc, .int (nI zn_7), .int nu, .int ki, .int ce, .int lo])), (tc, .inl (cI, 16, .inl ftn_7))]) hP hD [0, 1] [] rfl rfl (by decide) (by decide) hk1 hFc_7 hP1 hD1
    generalize H1 = H at hP hS ⊢
    have hP : va_P (dC, dI) vwCl [(k9, .inr (1, [.ref tc, .int (nI zn_7), .int nu, .int ki, .int ce, .int lo])), (tc, .inl (cI, 16, .inl ftn_7))] H := hP
    have hD : va_D A [(k9, .inr (1, [.ref tc, .int (nI zn_7), .int nu, .int ki, .int ce, .int lo])), (tc, .inl (cI, 16, .inl ftn_7))] := hD
    refine lv_iadd hx hb dX1_begin_110 ?_
    refine lv_topi (fun v_8 e_8 => ?_)
    have hP9 := hP.sub (ws' := [(k9, .inr (1, [.ref tc, .int (nI zn_7), .int nu, .int ki, .int ce, .int lo])), (tc, .inl (cI, 16, .inl ftn_7))]) [0, 1] rfl
    have hD9 := hD.sub (ws' := [(k9, .inr (1, [.ref tc, .int (nI zn_7), .int nu, .int ki, .int ce, .int lo])), (tc, .inl (cI, 16, .inl ftn_7))]) [0, 1] (by decide) rfl
    exact W.iret (v := v_8) hx hb hr (fun t ht hW => ⟨⟨v_8, (), rfl, trivial, ⟨zn_7, ftn_7, by rw [ht]; exact hP9, hD9, (by omega)⟩⟩, hS.F ht⟩) hS.2.2 dX1_begin_111
  by_cases k_9 : x = 12
  · subst k_9
    refine lv_tableIn (off := 94) (tgt := 112) hx hb dX1_begin_18 (by decide) (by decide) (by decide) (by decide) ?_
    refine lv_aload_n hx hb dX1_begin_112 rfl (lv_at hl 1 rfl) ?_
    refine lv_bipush (v := 11) hx hb dX1_begin_113 (by decide) ?_
    refine lv_iload_n hx hb dX1_begin_115 rfl (lv_at hl 0 rfl) ?_
    have hPc_10 := hP.sub (ws' := [(k9, .inr (1, [.ref tc, .int (nI zn_2), .int nu, .int ki, .int ce, .int lo])), (tc, .inl (cI, 16, .inl ftn_2))]) [0, 1] rfl
    have hDc_10 := hD.sub (ws' := [(k9, .inr (1, [.ref tc, .int (nI zn_2), .int nu, .int ki, .int ce, .int lo])), (tc, .inl (cI, 16, .inl ftn_2))]) [0, 1] (by decide) rfl
    have hFc_10 := va_free (wc := [(k9, .inr (1, [.ref tc, .int (nI zn_2), .int nu, .int ki, .int ce, .int lo])), (tc, .inl (cI, 16, .inl ftn_2))]) hD hS hA [0, 1] rfl
    refine va_calli (va_runV (As := [.int 11, .int 3]) (rest := []) ⟨hx, hb, hml, hown, hts⟩ (r_X1_begin_3 l dC dI cI cZ cL cJ H.size k9 tc zn_2 nu ki ce lo ftn_2 11 (by omega)) (cwV 2 hts gX1_begin_X1_begin rfl rfl rfl (by decide +kernel) ⟨Nat.le_of_ble_eq_true rfl, Nat.le_of_ble_eq_true rfl⟩) ⟨fun a U g mk q => by obtain ⟨q0, q1, qP, qK, qD, qS⟩ := q; exact ⟨q0, q1, qP, va_K.moved (u := U) (U := U.calling g mk a) (Vm.Alike.refl U.vm) qK, qD, stt_same rfl qS⟩, va_recv hK hP (ci := 1) (q0 := 0) rfl rfl, fun U hU hW => ⟨rfl, by rw [hU], by rw [hU]; exact hPc_10, va_K.moved hW.alike hK, hDc_10.weaken (fun _ _ _ _ => trivial), by rw [hU]; exact stt_warm hW (stt_narrow (stt_kept hst hS.2.1) hFc_10)⟩⟩ rfl rfl hl.1 rfl (lv_room (Nat.le_of_ble_eq_true rfl)) dX1_begin_116 ⟨Nat.le_of_ble_eq_true rfl, Nat.le_of_ble_eq_true rfl⟩) hS (fun q _ h => hFc_10 q h) hFc_10 (fun r_10 u_10 t_10 H1 locs ht hvm h_10 hB hz1 hk1 hS => ?_)
    obtain ⟨zn_10, ftn_10, hP1, hD1, hF_10_0⟩ := hB
    rw [ht] at hP1
    obtain ⟨hP, hD⟩ := va_join (wr := []) (w1 := [(k9, .inr (1, [.ref tc, .int (nI zn_10), .int nu, .int ki, .int ce, .int lo])), (tc, .inl (cI, 16, .inl ftn_10))]) hP hD [0, 1] [] rfl rfl (by decide) (by decide) hk1 hFc_10 hP1 hD1
    generalize H1 = H at hP hS ⊢
    have hP : va_P (dC, dI) vwCl [(k9, .inr (1, [.ref tc, .int (nI zn_10), .int nu, .int ki, .int ce, .int lo])), (tc, .inl (cI, 16, .inl ftn_10))] H := hP
    have hD : va_D A [(k9, .inr (1, [.ref tc, .int (nI zn_10), .int nu, .int ki, .int ce, .int lo])), (tc, .inl (cI, 16, .inl ftn_10))] := hD
    refine lv_ineg hx hb dX1_begin_119 ?_
    refine lv_topi (fun v_11 e_11 => ?_)
    have hP9 := hP.sub (ws' := [(k9, .inr (1, [.ref tc, .int (nI zn_10), .int nu, .int ki, .int ce, .int lo])), (tc, .inl (cI, 16, .inl ftn_10))]) [0, 1] rfl
    have hD9 := hD.sub (ws' := [(k9, .inr (1, [.ref tc, .int (nI zn_10), .int nu, .int ki, .int ce, .int lo])), (tc, .inl (cI, 16, .inl ftn_10))]) [0, 1] (by decide) rfl
    exact W.iret (v := v_11) hx hb hr (fun t ht hW => ⟨⟨v_11, (), rfl, trivial, ⟨zn_10, ftn_10, by rw [ht]; exact hP9, hD9, (by omega)⟩⟩, hS.F ht⟩) hS.2.2 dX1_begin_120
  by_cases k_12 : x = 13
  · subst k_12
    refine lv_tableIn (off := 103) (tgt := 121) hx hb dX1_begin_18 (by decide) (by decide) (by decide) (by decide) ?_
    refine lv_aload_n hx hb dX1_begin_121 rfl (lv_at hl 1 rfl) ?_
    refine lv_bipush (v := 10) hx hb dX1_begin_122 (by decide) ?_
    refine lv_iload_n hx hb dX1_begin_124 rfl (lv_at hl 0 rfl) ?_
    have hPc_13 := hP.sub (ws' := [(k9, .inr (1, [.ref tc, .int (nI zn_2), .int nu, .int ki, .int ce, .int lo])), (tc, .inl (cI, 16, .inl ftn_2))]) [0, 1] rfl
    have hDc_13 := hD.sub (ws' := [(k9, .inr (1, [.ref tc, .int (nI zn_2), .int nu, .int ki, .int ce, .int lo])), (tc, .inl (cI, 16, .inl ftn_2))]) [0, 1] (by decide) rfl
    have hFc_13 := va_free (wc := [(k9, .inr (1, [.ref tc, .int (nI zn_2), .int nu, .int ki, .int ce, .int lo])), (tc, .inl (cI, 16, .inl ftn_2))]) hD hS hA [0, 1] rfl
    refine va_calli (va_runV (As := [.int 10, .int 3]) (rest := []) ⟨hx, hb, hml, hown, hts⟩ (r_X1_begin_3 l dC dI cI cZ cL cJ H.size k9 tc zn_2 nu ki ce lo ftn_2 10 (by omega)) (cwV 2 hts gX1_begin_X1_begin rfl rfl rfl (by decide +kernel) ⟨Nat.le_of_ble_eq_true rfl, Nat.le_of_ble_eq_true rfl⟩) ⟨fun a U g mk q => by obtain ⟨q0, q1, qP, qK, qD, qS⟩ := q; exact ⟨q0, q1, qP, va_K.moved (u := U) (U := U.calling g mk a) (Vm.Alike.refl U.vm) qK, qD, stt_same rfl qS⟩, va_recv hK hP (ci := 1) (q0 := 0) rfl rfl, fun U hU hW => ⟨rfl, by rw [hU], by rw [hU]; exact hPc_13, va_K.moved hW.alike hK, hDc_13.weaken (fun _ _ _ _ => trivial), by rw [hU]; exact stt_warm hW (stt_narrow (stt_kept hst hS.2.1) hFc_13)⟩⟩ rfl rfl hl.1 rfl (lv_room (Nat.le_of_ble_eq_true rfl)) dX1_begin_125 ⟨Nat.le_of_ble_eq_true rfl, Nat.le_of_ble_eq_true rfl⟩) hS (fun q _ h => hFc_13 q h) hFc_13 (fun r_13 u_13 t_13 H1 locs ht hvm h_13 hB hz1 hk1 hS => ?_)
    obtain ⟨zn_13, ftn_13, hP1, hD1, hF_13_0⟩ := hB
    rw [ht] at hP1
    obtain ⟨hP, hD⟩ := va_join (wr := []) (w1 := [(k9, .inr (1, [.ref tc, .int (nI zn_13), .int nu, .int ki, .int ce, .int lo])), (tc, .inl (cI, 16, .inl ftn_13))]) hP hD [0, 1] [] rfl rfl (by decide) (by decide) hk1 hFc_13 hP1 hD1
    generalize H1 = H at hP hS ⊢
    have hP : va_P (dC, dI) vwCl [(k9, .inr (1, [.ref tc, .int (nI zn_13), .int nu, .int ki, .int ce, .int lo])), (tc, .inl (cI, 16, .inl ftn_13))] H := hP
    have hD : va_D A [(k9, .inr (1, [.ref tc, .int (nI zn_13), .int nu, .int ki, .int ce, .int lo])), (tc, .inl (cI, 16, .inl ftn_13))] := hD
    refine lv_bipush (v := 100) hx hb dX1_begin_128 (by decide) ?_
    refine lv_isub hx hb dX1_begin_130 ?_
    refine lv_topi (fun v_14 e_14 => ?_)
    have hP9 := hP.sub (ws' := [(k9, .inr (1, [.ref tc, .int (nI zn_13), .int nu, .int ki, .int ce, .int lo])), (tc, .inl (cI, 16, .inl ftn_13))]) [0, 1] rfl
    have hD9 := hD.sub (ws' := [(k9, .inr (1, [.ref tc, .int (nI zn_13), .int nu, .int ki, .int ce, .int lo])), (tc, .inl (cI, 16, .inl ftn_13))]) [0, 1] (by decide) rfl
    exact W.iret (v := v_14) hx hb hr (fun t ht hW => ⟨⟨v_14, (), rfl, trivial, ⟨zn_13, ftn_13, by rw [ht]; exact hP9, hD9, (by omega)⟩⟩, hS.F ht⟩) hS.2.2 dX1_begin_131
  by_cases k_15 : x = 14
  · subst k_15
    refine lv_tableIn (off := 114) (tgt := 132) hx hb dX1_begin_18 (by decide) (by decide) (by decide) (by decide) ?_
    refine lv_aload_n hx hb dX1_begin_132 rfl (lv_at hl 1 rfl) ?_
    refine lv_bipush (v := 13) hx hb dX1_begin_133 (by decide) ?_
    refine lv_iload_n hx hb dX1_begin_135 rfl (lv_at hl 0 rfl) ?_
    have hPc_16 := hP.sub (ws' := [(k9, .inr (1, [.ref tc, .int (nI zn_2), .int nu, .int ki, .int ce, .int lo])), (tc, .inl (cI, 16, .inl ftn_2))]) [0, 1] rfl
    have hDc_16 := hD.sub (ws' := [(k9, .inr (1, [.ref tc, .int (nI zn_2), .int nu, .int ki, .int ce, .int lo])), (tc, .inl (cI, 16, .inl ftn_2))]) [0, 1] (by decide) rfl
    have hFc_16 := va_free (wc := [(k9, .inr (1, [.ref tc, .int (nI zn_2), .int nu, .int ki, .int ce, .int lo])), (tc, .inl (cI, 16, .inl ftn_2))]) hD hS hA [0, 1] rfl
    refine va_calli (va_runV (As := [.int 13, .int 3]) (rest := []) ⟨hx, hb, hml, hown, hts⟩ (r_X1_begin_3 l dC dI cI cZ cL cJ H.size k9 tc zn_2 nu ki ce lo ftn_2 13 (by omega)) (cwV 2 hts gX1_begin_X1_begin rfl rfl rfl (by decide +kernel) ⟨Nat.le_of_ble_eq_true rfl, Nat.le_of_ble_eq_true rfl⟩) ⟨fun a U g mk q => by obtain ⟨q0, q1, qP, qK, qD, qS⟩ := q; exact ⟨q0, q1, qP, va_K.moved (u := U) (U := U.calling g mk a) (Vm.Alike.refl U.vm) qK, qD, stt_same rfl qS⟩, va_recv hK hP (ci := 1) (q0 := 0) rfl rfl, fun U hU hW => ⟨rfl, by rw [hU], by rw [hU]; exact hPc_16, va_K.moved hW.alike hK, hDc_16.weaken (fun _ _ _ _ => trivial), by rw [hU]; exact stt_warm hW (stt_narrow (stt_kept hst hS.2.1) hFc_16)⟩⟩ rfl rfl hl.1 rfl (lv_room (Nat.le_of_ble_eq_true rfl)) dX1_begin_136 ⟨Nat.le_of_ble_eq_true rfl, Nat.le_of_ble_eq_true rfl⟩) hS (fun q _ h => hFc_16 q h) hFc_16 (fun r_16 u_16 t_16 H1 locs ht hvm h_16 hB hz1 hk1 hS => ?_)
    obtain ⟨zn_16, ftn_16, hP1, hD1, hF_16_0⟩ := hB
    rw [ht] at hP1
    obtain ⟨hP, hD⟩ := va_join (wr := []) (w1 := [(k9, .inr (1, [.ref tc, .int (nI zn_16), .int nu, .int ki, .int ce, .int lo])), (tc, .inl (cI, 16, .inl ftn_16))]) hP hD [0, 1] [] rfl rfl (by decide) (by decide) hk1 hFc_16 hP1 hD1
    generalize H1 = H at hP hS ⊢
    have hP : va_P (dC, dI) vwCl [(k9, .inr (1, [.ref tc, .int (nI zn_16), .int nu, .int ki, .int ce, .int lo])), (tc, .inl (cI, 16, .inl ftn_16))] H := hP
    have hD : va_D A [(k9, .inr (1, [.ref tc, .int (nI zn_16), .int nu, .int ki, .int ce, .int lo])), (tc, .inl (cI, 16, .inl ftn_16))] := hD
    refine lv_iconst (v := 2) hx hb dX1_begin_139 (by decide) ?_
    refine lv_imul hx hb dX1_begin_140 ?_
    refine lv_topi (fun v_17 e_17 => ?_)
    have hP9 := hP.sub (ws' := [(k9, .inr (1, [.ref tc, .int (nI zn_16), .int nu, .int ki, .int ce, .int lo])), (tc, .inl (cI, 16, .inl ftn_16))]) [0, 1] rfl
    have hD9 := hD.sub (ws' := [(k9, .inr (1, [.ref tc, .int (nI zn_16), .int nu, .int ki, .int ce, .int lo])), (tc, .inl (cI, 16, .inl ftn_16))]) [0, 1] (by decide) rfl
    exact W.iret (v := v_17) hx hb hr (fun t ht hW => ⟨⟨v_17, (), rfl, trivial, ⟨zn_16, ftn_16, by rw [ht]; exact hP9, hD9, (by omega)⟩⟩, hS.F ht⟩) hS.2.2 dX1_begin_141
  by_cases k_18 : x = 15
  · subst k_18
    refine lv_tableIn (off := 179) (tgt := 197) hx hb dX1_begin_18 (by decide) (by decide) (by decide) (by decide) ?_
    refine lv_iconst (v := 0) hx hb dX1_begin_197 (by decide) ?_
    have hP9 := hP.sub (ws' := [(k9, .inr (1, [.ref tc, .int (nI zn_2), .int nu, .int ki, .int ce, .int lo])), (tc, .inl (cI, 16, .inl ftn_2))]) [0, 1] rfl
    have hD9 := hD.sub (ws' := [(k9, .inr (1, [.ref tc, .int (nI zn_2), .int nu, .int ki, .int ce, .int lo])), (tc, .inl (cI, 16, .inl ftn_2))]) [0, 1] (by decide) rfl
    exact W.iret (v := 0) hx hb hr (fun t ht hW => ⟨⟨0, (), rfl, trivial, ⟨zn_2, ftn_2, by rw [ht]; exact hP9, hD9, (by omega)⟩⟩, hS.F ht⟩) hS.2.2 dX1_begin_198
  by_cases k_19 : x = 16
  · subst k_19
    refine lv_tableIn (off := 179) (tgt := 197) hx hb dX1_begin_18 (by decide) (by decide) (by decide) (by decide) ?_
    refine lv_iconst (v := 0) hx hb dX1_begin_197 (by decide) ?_
    have hP9 := hP.sub (ws' := [(k9, .inr (1, [.ref tc, .int (nI zn_2), .int nu, .int ki, .int ce, .int lo])), (tc, .inl (cI, 16, .inl ftn_2))]) [0, 1] rfl
    have hD9 := hD.sub (ws' := [(k9, .inr (1, [.ref tc, .int (nI zn_2), .int nu, .int ki, .int ce, .int lo])), (tc, .inl (cI, 16, .inl ftn_2))]) [0, 1] (by decide) rfl
    exact W.iret (v := 0) hx hb hr (fun t ht hW => ⟨⟨0, (), rfl, trivial, ⟨zn_2, ftn_2, by rw [ht]; exact hP9, hD9, (by omega)⟩⟩, hS.F ht⟩) hS.2.2 dX1_begin_198
  by_cases k_20 : x = 17
  · subst k_20
    refine lv_tableIn (off := 179) (tgt := 197) hx hb dX1_begin_18 (by decide) (by decide) (by decide) (by decide) ?_
    refine lv_iconst (v := 0) hx hb dX1_begin_197 (by decide) ?_
    have hP9 := hP.sub (ws' := [(k9, .inr (1, [.ref tc, .int (nI zn_2), .int nu, .int ki, .int ce, .int lo])), (tc, .inl (cI, 16, .inl ftn_2))]) [0, 1] rfl
    have hD9 := hD.sub (ws' := [(k9, .inr (1, [.ref tc, .int (nI zn_2), .int nu, .int ki, .int ce, .int lo])), (tc, .inl (cI, 16, .inl ftn_2))]) [0, 1] (by decide) rfl
    exact W.iret (v := 0) hx hb hr (fun t ht hW => ⟨⟨0, (), rfl, trivial, ⟨zn_2, ftn_2, by rw [ht]; exact hP9, hD9, (by omega)⟩⟩, hS.F ht⟩) hS.2.2 dX1_begin_198
  by_cases k_21 : x = 18
  · subst k_21
    refine lv_tableIn (off := 179) (tgt := 197) hx hb dX1_begin_18 (by decide) (by decide) (by decide) (by decide) ?_
    refine lv_iconst (v := 0) hx hb dX1_begin_197 (by decide) ?_
    have hP9 := hP.sub (ws' := [(k9, .inr (1, [.ref tc, .int (nI zn_2), .int nu, .int ki, .int ce, .int lo])), (tc, .inl (cI, 16, .inl ftn_2))]) [0, 1] rfl
    have hD9 := hD.sub (ws' := [(k9, .inr (1, [.ref tc, .int (nI zn_2), .int nu, .int ki, .int ce, .int lo])), (tc, .inl (cI, 16, .inl ftn_2))]) [0, 1] (by decide) rfl
    exact W.iret (v := 0) hx hb hr (fun t ht hW => ⟨⟨0, (), rfl, trivial, ⟨zn_2, ftn_2, by rw [ht]; exact hP9, hD9, (by omega)⟩⟩, hS.F ht⟩) hS.2.2 dX1_begin_198
  by_cases k_22 : x = 19
  · subst k_22
    refine lv_tableIn (off := 179) (tgt := 197) hx hb dX1_begin_18 (by decide) (by decide) (by decide) (by decide) ?_
    refine lv_iconst (v := 0) hx hb dX1_begin_197 (by decide) ?_
    have hP9 := hP.sub (ws' := [(k9, .inr (1, [.ref tc, .int (nI zn_2), .int nu, .int ki, .int ce, .int lo])), (tc, .inl (cI, 16, .inl ftn_2))]) [0, 1] rfl
    have hD9 := hD.sub (ws' := [(k9, .inr (1, [.ref tc, .int (nI zn_2), .int nu, .int ki, .int ce, .int lo])), (tc, .inl (cI, 16, .inl ftn_2))]) [0, 1] (by decide) rfl
    exact W.iret (v := 0) hx hb hr (fun t ht hW => ⟨⟨0, (), rfl, trivial, ⟨zn_2, ftn_2, by rw [ht]; exact hP9, hD9, (by omega)⟩⟩, hS.F ht⟩) hS.2.2 dX1_begin_198
  by_cases k_23 : x = 20
  · subst k_23
    refine lv_tableIn (off := 124) (tgt := 142) hx hb dX1_begin_18 (by decide) (by decide) (by decide) (by decide) ?_
    refine lv_aload_n hx hb dX1_begin_142 rfl (lv_at hl 1 rfl) ?_
    refine va_get (D := (dC, dI)) (ci := 1) (v := .int nu) (C := RX1) (T := TX1) (N := 6) hx hb hts i_X1_begin_X1 hown hK hP 0 rfl rfl 2 (by decide) (hts (.fieldLink RX1 19 "MillTalk$Asks" "number" "I") (by decide +kernel)) (fun _ h9 => h9) rfl dX1_begin_143 ?_
    have hP9 := hP.sub (ws' := [(k9, .inr (1, [.ref tc, .int (nI zn_2), .int nu, .int ki, .int ce, .int lo])), (tc, .inl (cI, 16, .inl ftn_2))]) [0, 1] rfl
    have hD9 := hD.sub (ws' := [(k9, .inr (1, [.ref tc, .int (nI zn_2), .int nu, .int ki, .int ce, .int lo])), (tc, .inl (cI, 16, .inl ftn_2))]) [0, 1] (by decide) rfl
    exact W.iret (v := nu) hx hb hr (fun t ht hW => ⟨⟨nu, (), rfl, trivial, ⟨zn_2, ftn_2, by rw [ht]; exact hP9, hD9, (by omega)⟩⟩, hS.F ht⟩) hS.2.2 dX1_begin_146
  by_cases k_24 : x = 21
  · subst k_24
    refine lv_tableIn (off := 129) (tgt := 147) hx hb dX1_begin_18 (by decide) (by decide) (by decide) (by decide) ?_
    refine lv_aload_n hx hb dX1_begin_147 rfl (lv_at hl 1 rfl) ?_
    refine lv_bipush (v := 20) hx hb dX1_begin_148 (by decide) ?_
    refine lv_iload_n hx hb dX1_begin_150 rfl (lv_at hl 0 rfl) ?_
    have hPc_25 := hP.sub (ws' := [(k9, .inr (1, [.ref tc, .int (nI zn_2), .int nu, .int ki, .int ce, .int lo])), (tc, .inl (cI, 16, .inl ftn_2))]) [0, 1] rfl
    have hDc_25 := hD.sub (ws' := [(k9, .inr (1, [.ref tc, .int (nI zn_2), .int nu, .int ki, .int ce, .int lo])), (tc, .inl (cI, 16, .inl ftn_2))]) [0, 1] (by decide) rfl
    have hFc_25 := va_free (wc := [(k9, .inr (1, [.ref tc, .int (nI zn_2), .int nu, .int ki, .int ce, .int lo])), (tc, .inl (cI, 16, .inl ftn_2))]) hD hS hA [0, 1] rfl
    refine va_calli (va_runV (As := [.int 20, .int 3]) (rest := []) ⟨hx, hb, hml, hown, hts⟩ (r_X1_begin_3 l dC dI cI cZ cL cJ H.size k9 tc zn_2 nu ki ce lo ftn_2 20 (by omega)) (cwV 2 hts gX1_begin_X1_begin rfl rfl rfl (by decide +kernel) ⟨Nat.le_of_ble_eq_true rfl, Nat.le_of_ble_eq_true rfl⟩) ⟨fun a U g mk q => by obtain ⟨q0, q1, qP, qK, qD, qS⟩ := q; exact ⟨q0, q1, qP, va_K.moved (u := U) (U := U.calling g mk a) (Vm.Alike.refl U.vm) qK, qD, stt_same rfl qS⟩, va_recv hK hP (ci := 1) (q0 := 0) rfl rfl, fun U hU hW => ⟨rfl, by rw [hU], by rw [hU]; exact hPc_25, va_K.moved hW.alike hK, hDc_25.weaken (fun _ _ _ _ => trivial), by rw [hU]; exact stt_warm hW (stt_narrow (stt_kept hst hS.2.1) hFc_25)⟩⟩ rfl rfl hl.1 rfl (lv_room (Nat.le_of_ble_eq_true rfl)) dX1_begin_151 ⟨Nat.le_of_ble_eq_true rfl, Nat.le_of_ble_eq_true rfl⟩) hS (fun q _ h => hFc_25 q h) hFc_25 (fun r_25 u_25 t_25 H1 locs ht hvm h_25 hB hz1 hk1 hS => ?_)
    obtain ⟨zn_25, ftn_25, hP1, hD1, hF_25_0⟩ := hB
    rw [ht] at hP1
    obtain ⟨hP, hD⟩ := va_join (wr := []) (w1 := [(k9, .inr (1, [.ref tc, .int (nI zn_25), .int nu, .int ki, .int ce, .int lo])), (tc, .inl (cI, 16, .inl ftn_25))]) hP hD [0, 1] [] rfl rfl (by decide) (by decide) hk1 hFc_25 hP1 hD1
    generalize H1 = H at hP hS ⊢
    have hP : va_P (dC, dI) vwCl [(k9, .inr (1, [.ref tc, .int (nI zn_25), .int nu, .int ki, .int ce, .int lo])), (tc, .inl (cI, 16, .inl ftn_25))] H := hP
    have hD : va_D A [(k9, .inr (1, [.ref tc, .int (nI zn_25), .int nu, .int ki, .int ce, .int lo])), (tc, .inl (cI, 16, .inl ftn_25))] := hD
    refine lv_aload_n hx hb dX1_begin_154 rfl (lv_at hl 1 rfl) ?_
    refine va_get (D := (dC, dI)) (ci := 1) (v := .int ce) (C := RX1) (T := TX1) (N := 6) hx hb hts i_X1_begin_X1 hown hK hP 0 rfl rfl 4 (by decide) (hts (.fieldLink RX1 33 "MillTalk$Asks" "cell" "I") (by decide +kernel)) (fun _ h9 => h9) rfl dX1_begin_155 ?_
    refine lv_iadd hx hb dX1_begin_158 ?_
    refine lv_topi (fun v_26 e_26 => ?_)
    have hP9 := hP.sub (ws' := [(k9, .inr (1, [.ref tc, .int (nI zn_25), .int nu, .int ki, .int ce, .int lo])), (tc, .inl (cI, 16, .inl ftn_25))]) [0, 1] rfl
    have hD9 := hD.sub (ws' := [(k9, .inr (1, [.ref tc, .int (nI zn_25), .int nu, .int ki, .int ce, .int lo])), (tc, .inl (cI, 16, .inl ftn_25))]) [0, 1] (by decide) rfl
    exact W.iret (v := v_26) hx hb hr (fun t ht hW => ⟨⟨v_26, (), rfl, trivial, ⟨zn_25, ftn_25, by rw [ht]; exact hP9, hD9, (by omega)⟩⟩, hS.F ht⟩) hS.2.2 dX1_begin_159
  by_cases k_27 : x = 22
  · subst k_27
    refine lv_tableIn (off := 142) (tgt := 160) hx hb dX1_begin_18 (by decide) (by decide) (by decide) (by decide) ?_
    refine lv_aload_n hx hb dX1_begin_160 rfl (lv_at hl 1 rfl) ?_
    refine lv_bipush (v := 21) hx hb dX1_begin_161 (by decide) ?_
    refine lv_iload_n hx hb dX1_begin_163 rfl (lv_at hl 0 rfl) ?_
    have hPc_28 := hP.sub (ws' := [(k9, .inr (1, [.ref tc, .int (nI zn_2), .int nu, .int ki, .int ce, .int lo])), (tc, .inl (cI, 16, .inl ftn_2))]) [0, 1] rfl
    have hDc_28 := hD.sub (ws' := [(k9, .inr (1, [.ref tc, .int (nI zn_2), .int nu, .int ki, .int ce, .int lo])), (tc, .inl (cI, 16, .inl ftn_2))]) [0, 1] (by decide) rfl
    have hFc_28 := va_free (wc := [(k9, .inr (1, [.ref tc, .int (nI zn_2), .int nu, .int ki, .int ce, .int lo])), (tc, .inl (cI, 16, .inl ftn_2))]) hD hS hA [0, 1] rfl
    refine va_calli (va_runV (As := [.int 21, .int 3]) (rest := []) ⟨hx, hb, hml, hown, hts⟩ (r_X1_begin_3 l dC dI cI cZ cL cJ H.size k9 tc zn_2 nu ki ce lo ftn_2 21 (by omega)) (cwV 2 hts gX1_begin_X1_begin rfl rfl rfl (by decide +kernel) ⟨Nat.le_of_ble_eq_true rfl, Nat.le_of_ble_eq_true rfl⟩) ⟨fun a U g mk q => by obtain ⟨q0, q1, qP, qK, qD, qS⟩ := q; exact ⟨q0, q1, qP, va_K.moved (u := U) (U := U.calling g mk a) (Vm.Alike.refl U.vm) qK, qD, stt_same rfl qS⟩, va_recv hK hP (ci := 1) (q0 := 0) rfl rfl, fun U hU hW => ⟨rfl, by rw [hU], by rw [hU]; exact hPc_28, va_K.moved hW.alike hK, hDc_28.weaken (fun _ _ _ _ => trivial), by rw [hU]; exact stt_warm hW (stt_narrow (stt_kept hst hS.2.1) hFc_28)⟩⟩ rfl rfl hl.1 rfl (lv_room (Nat.le_of_ble_eq_true rfl)) dX1_begin_164 ⟨Nat.le_of_ble_eq_true rfl, Nat.le_of_ble_eq_true rfl⟩) hS (fun q _ h => hFc_28 q h) hFc_28 (fun r_28 u_28 t_28 H1 locs ht hvm h_28 hB hz1 hk1 hS => ?_)
    obtain ⟨zn_28, ftn_28, hP1, hD1, hF_28_0⟩ := hB
    rw [ht] at hP1
    obtain ⟨hP, hD⟩ := va_join (wr := []) (w1 := [(k9, .inr (1, [.ref tc, .int (nI zn_28), .int nu, .int ki, .int ce, .int lo])), (tc, .inl (cI, 16, .inl ftn_28))]) hP hD [0, 1] [] rfl rfl (by decide) (by decide) hk1 hFc_28 hP1 hD1
    generalize H1 = H at hP hS ⊢
    have hP : va_P (dC, dI) vwCl [(k9, .inr (1, [.ref tc, .int (nI zn_28), .int nu, .int ki, .int ce, .int lo])), (tc, .inl (cI, 16, .inl ftn_28))] H := hP
    have hD : va_D A [(k9, .inr (1, [.ref tc, .int (nI zn_28), .int nu, .int ki, .int ce, .int lo])), (tc, .inl (cI, 16, .inl ftn_28))] := hD
    refine lv_sipush (v := 1000) hx hb dX1_begin_167 (by decide) ?_
    refine lv_isub hx hb dX1_begin_170 ?_
    refine lv_topi (fun v_29 e_29 => ?_)
    have hP9 := hP.sub (ws' := [(k9, .inr (1, [.ref tc, .int (nI zn_28), .int nu, .int ki, .int ce, .int lo])), (tc, .inl (cI, 16, .inl ftn_28))]) [0, 1] rfl
    have hD9 := hD.sub (ws' := [(k9, .inr (1, [.ref tc, .int (nI zn_28), .int nu, .int ki, .int ce, .int lo])), (tc, .inl (cI, 16, .inl ftn_28))]) [0, 1] (by decide) rfl
    exact W.iret (v := v_29) hx hb hr (fun t ht hW => ⟨⟨v_29, (), rfl, trivial, ⟨zn_28, ftn_28, by rw [ht]; exact hP9, hD9, (by omega)⟩⟩, hS.F ht⟩) hS.2.2 dX1_begin_171
  by_cases k_30 : x = 23
  · subst k_30
    refine lv_tableIn (off := 154) (tgt := 172) hx hb dX1_begin_18 (by decide) (by decide) (by decide) (by decide) ?_
    refine lv_aload_n hx hb dX1_begin_172 rfl (lv_at hl 1 rfl) ?_
    refine lv_bipush (v := 20) hx hb dX1_begin_173 (by decide) ?_
    refine lv_iload_n hx hb dX1_begin_175 rfl (lv_at hl 0 rfl) ?_
    have hPc_31 := hP.sub (ws' := [(k9, .inr (1, [.ref tc, .int (nI zn_2), .int nu, .int ki, .int ce, .int lo])), (tc, .inl (cI, 16, .inl ftn_2))]) [0, 1] rfl
    have hDc_31 := hD.sub (ws' := [(k9, .inr (1, [.ref tc, .int (nI zn_2), .int nu, .int ki, .int ce, .int lo])), (tc, .inl (cI, 16, .inl ftn_2))]) [0, 1] (by decide) rfl
    have hFc_31 := va_free (wc := [(k9, .inr (1, [.ref tc, .int (nI zn_2), .int nu, .int ki, .int ce, .int lo])), (tc, .inl (cI, 16, .inl ftn_2))]) hD hS hA [0, 1] rfl
    refine va_calli (va_runV (As := [.int 20, .int 3]) (rest := []) ⟨hx, hb, hml, hown, hts⟩ (r_X1_begin_3 l dC dI cI cZ cL cJ H.size k9 tc zn_2 nu ki ce lo ftn_2 20 (by omega)) (cwV 2 hts gX1_begin_X1_begin rfl rfl rfl (by decide +kernel) ⟨Nat.le_of_ble_eq_true rfl, Nat.le_of_ble_eq_true rfl⟩) ⟨fun a U g mk q => by obtain ⟨q0, q1, qP, qK, qD, qS⟩ := q; exact ⟨q0, q1, qP, va_K.moved (u := U) (U := U.calling g mk a) (Vm.Alike.refl U.vm) qK, qD, stt_same rfl qS⟩, va_recv hK hP (ci := 1) (q0 := 0) rfl rfl, fun U hU hW => ⟨rfl, by rw [hU], by rw [hU]; exact hPc_31, va_K.moved hW.alike hK, hDc_31.weaken (fun _ _ _ _ => trivial), by rw [hU]; exact stt_warm hW (stt_narrow (stt_kept hst hS.2.1) hFc_31)⟩⟩ rfl rfl hl.1 rfl (lv_room (Nat.le_of_ble_eq_true rfl)) dX1_begin_176 ⟨Nat.le_of_ble_eq_true rfl, Nat.le_of_ble_eq_true rfl⟩) hS (fun q _ h => hFc_31 q h) hFc_31 (fun r_31 u_31 t_31 H1 locs ht hvm h_31 hB hz1 hk1 hS => ?_)
    obtain ⟨zn_31, ftn_31, hP1, hD1, hF_31_0⟩ := hB
    rw [ht] at hP1
    obtain ⟨hP, hD⟩ := va_join (wr := []) (w1 := [(k9, .inr (1, [.ref tc, .int (nI zn_31), .int nu, .int ki, .int ce, .int lo])), (tc, .inl (cI, 16, .inl ftn_31))]) hP hD [0, 1] [] rfl rfl (by decide) (by decide) hk1 hFc_31 hP1 hD1
    generalize H1 = H at hP hS ⊢
    have hP : va_P (dC, dI) vwCl [(k9, .inr (1, [.ref tc, .int (nI zn_31), .int nu, .int ki, .int ce, .int lo])), (tc, .inl (cI, 16, .inl ftn_31))] H := hP
    have hD : va_D A [(k9, .inr (1, [.ref tc, .int (nI zn_31), .int nu, .int ki, .int ce, .int lo])), (tc, .inl (cI, 16, .inl ftn_31))] := hD
    refine lv_aload_n hx hb dX1_begin_179 rfl (lv_at hl 1 rfl) ?_
    refine lv_iconst (v := 0) hx hb dX1_begin_180 (by decide) ?_
    refine lv_iload_n hx hb dX1_begin_181 rfl (lv_at hl 0 rfl) ?_
    have hPc_32 := hP.sub (ws' := [(k9, .inr (1, [.ref tc, .int (nI zn_31), .int nu, .int ki, .int ce, .int lo])), (tc, .inl (cI, 16, .inl ftn_31))]) [0, 1] rfl
    have hDc_32 := hD.sub (ws' := [(k9, .inr (1, [.ref tc, .int (nI zn_31), .int nu, .int ki, .int ce, .int lo])), (tc, .inl (cI, 16, .inl ftn_31))]) [0, 1] (by decide) rfl
    have hFc_32 := va_free (wc := [(k9, .inr (1, [.ref tc, .int (nI zn_31), .int nu, .int ki, .int ce, .int lo])), (tc, .inl (cI, 16, .inl ftn_31))]) hD hS hA [0, 1] rfl
    refine va_calli (va_runV (As := [.int 0, .int 3]) (rest := [.int r_31]) ⟨hx, hb, hml, hown, hts⟩ (r_X1_askAnew_3 l dC dI cI cZ cL cJ H.size k9 tc zn_31 nu ki ce lo ftn_31 0 (by omega)) (cwV 2 hts gX1_begin_X1_askAnew rfl rfl rfl (by decide +kernel) ⟨Nat.le_of_ble_eq_true rfl, Nat.le_of_ble_eq_true rfl⟩) ⟨fun a U g mk q => by obtain ⟨q0, q1, qP, qK, qD, qS⟩ := q; exact ⟨q0, q1, qP, va_K.moved (u := U) (U := U.calling g mk a) (Vm.Alike.refl U.vm) qK, qD, stt_same rfl qS⟩, va_recv hK hP (ci := 1) (q0 := 0) rfl rfl, fun U hU hW => ⟨rfl, by rw [hU], by rw [hU]; exact hPc_32, va_K.moved hW.alike hK, hDc_32.weaken (fun _ _ _ _ => trivial), by rw [hU]; exact stt_warm hW (stt_narrow (stt_kept hst hS.2.1) hFc_32)⟩⟩ rfl rfl hl.1 rfl (lv_room (Nat.le_of_ble_eq_true rfl)) dX1_begin_182 ⟨Nat.le_of_ble_eq_true rfl, Nat.le_of_ble_eq_true rfl⟩) hS (fun q _ h => hFc_32 q h) hFc_32 (fun r_32 u_32 t_32 H1 locs ht hvm h_32 hB hz1 hk1 hS => ?_)
    obtain ⟨zn_32, ftn_32, hP1, hD1, hF_32_0⟩ := hB
    rw [ht] at hP1
    obtain ⟨hP, hD⟩ := va_join (wr := []) (w1 := [(k9, .inr (1, [.ref tc, .int (nI zn_32), .int nu, .int ki, .int ce, .int lo])), (tc, .inl (cI, 16, .inl ftn_32))]) hP hD [0, 1] [] rfl rfl (by decide) (by decide) hk1 hFc_32 hP1 hD1
    generalize H1 = H at hP hS ⊢
    have hP : va_P (dC, dI) vwCl [(k9, .inr (1, [.ref tc, .int (nI zn_32), .int nu, .int ki, .int ce, .int lo])), (tc, .inl (cI, 16, .inl ftn_32))] H := hP
    have hD : va_D A [(k9, .inr (1, [.ref tc, .int (nI zn_32), .int nu, .int ki, .int ce, .int lo])), (tc, .inl (cI, 16, .inl ftn_32))] := hD
    refine lv_isub hx hb dX1_begin_185 ?_
    refine lv_topi (fun v_33 e_33 => ?_)
    have hP9 := hP.sub (ws' := [(k9, .inr (1, [.ref tc, .int (nI zn_32), .int nu, .int ki, .int ce, .int lo])), (tc, .inl (cI, 16, .inl ftn_32))]) [0, 1] rfl
    have hD9 := hD.sub (ws' := [(k9, .inr (1, [.ref tc, .int (nI zn_32), .int nu, .int ki, .int ce, .int lo])), (tc, .inl (cI, 16, .inl ftn_32))]) [0, 1] (by decide) rfl
    exact W.iret (v := v_33) hx hb hr (fun t ht hW => ⟨⟨v_33, (), rfl, trivial, ⟨zn_32, ftn_32, by rw [ht]; exact hP9, hD9, (by omega)⟩⟩, hS.F ht⟩) hS.2.2 dX1_begin_186
  by_cases k_34 : x = 24
  · subst k_34
    refine lv_tableIn (off := 169) (tgt := 187) hx hb dX1_begin_18 (by decide) (by decide) (by decide) (by decide) ?_
    refine lv_aload_n hx hb dX1_begin_187 rfl (lv_at hl 1 rfl) ?_
    refine lv_bipush (v := 21) hx hb dX1_begin_188 (by decide) ?_
    refine lv_iload_n hx hb dX1_begin_190 rfl (lv_at hl 0 rfl) ?_
    have hPc_35 := hP.sub (ws' := [(k9, .inr (1, [.ref tc, .int (nI zn_2), .int nu, .int ki, .int ce, .int lo])), (tc, .inl (cI, 16, .inl ftn_2))]) [0, 1] rfl
    have hDc_35 := hD.sub (ws' := [(k9, .inr (1, [.ref tc, .int (nI zn_2), .int nu, .int ki, .int ce, .int lo])), (tc, .inl (cI, 16, .inl ftn_2))]) [0, 1] (by decide) rfl
    have hFc_35 := va_free (wc := [(k9, .inr (1, [.ref tc, .int (nI zn_2), .int nu, .int ki, .int ce, .int lo])), (tc, .inl (cI, 16, .inl ftn_2))]) hD hS hA [0, 1] rfl
    refine va_calli (va_runV (As := [.int 21, .int 3]) (rest := []) ⟨hx, hb, hml, hown, hts⟩ (r_X1_begin_3 l dC dI cI cZ cL cJ H.size k9 tc zn_2 nu ki ce lo ftn_2 21 (by omega)) (cwV 2 hts gX1_begin_X1_begin rfl rfl rfl (by decide +kernel) ⟨Nat.le_of_ble_eq_true rfl, Nat.le_of_ble_eq_true rfl⟩) ⟨fun a U g mk q => by obtain ⟨q0, q1, qP, qK, qD, qS⟩ := q; exact ⟨q0, q1, qP, va_K.moved (u := U) (U := U.calling g mk a) (Vm.Alike.refl U.vm) qK, qD, stt_same rfl qS⟩, va_recv hK hP (ci := 1) (q0 := 0) rfl rfl, fun U hU hW => ⟨rfl, by rw [hU], by rw [hU]; exact hPc_35, va_K.moved hW.alike hK, hDc_35.weaken (fun _ _ _ _ => trivial), by rw [hU]; exact stt_warm hW (stt_narrow (stt_kept hst hS.2.1) hFc_35)⟩⟩ rfl rfl hl.1 rfl (lv_room (Nat.le_of_ble_eq_true rfl)) dX1_begin_191 ⟨Nat.le_of_ble_eq_true rfl, Nat.le_of_ble_eq_true rfl⟩) hS (fun q _ h => hFc_35 q h) hFc_35 (fun r_35 u_35 t_35 H1 locs ht hvm h_35 hB hz1 hk1 hS => ?_)
    obtain ⟨zn_35, ftn_35, hP1, hD1, hF_35_0⟩ := hB
    rw [ht] at hP1
    obtain ⟨hP, hD⟩ := va_join (wr := []) (w1 := [(k9, .inr (1, [.ref tc, .int (nI zn_35), .int nu, .int ki, .int ce, .int lo])), (tc, .inl (cI, 16, .inl ftn_35))]) hP hD [0, 1] [] rfl rfl (by decide) (by decide) hk1 hFc_35 hP1 hD1
    generalize H1 = H at hP hS ⊢
    have hP : va_P (dC, dI) vwCl [(k9, .inr (1, [.ref tc, .int (nI zn_35), .int nu, .int ki, .int ce, .int lo])), (tc, .inl (cI, 16, .inl ftn_35))] H := hP
    have hD : va_D A [(k9, .inr (1, [.ref tc, .int (nI zn_35), .int nu, .int ki, .int ce, .int lo])), (tc, .inl (cI, 16, .inl ftn_35))] := hD
    refine lv_iconst (v := 2) hx hb dX1_begin_194 (by decide) ?_
    refine lv_imul hx hb dX1_begin_195 ?_
    refine lv_topi (fun v_36 e_36 => ?_)
    have hP9 := hP.sub (ws' := [(k9, .inr (1, [.ref tc, .int (nI zn_35), .int nu, .int ki, .int ce, .int lo])), (tc, .inl (cI, 16, .inl ftn_35))]) [0, 1] rfl
    have hD9 := hD.sub (ws' := [(k9, .inr (1, [.ref tc, .int (nI zn_35), .int nu, .int ki, .int ce, .int lo])), (tc, .inl (cI, 16, .inl ftn_35))]) [0, 1] (by decide) rfl
    exact W.iret (v := v_36) hx hb hr (fun t ht hW => ⟨⟨v_36, (), rfl, trivial, ⟨zn_35, ftn_35, by rw [ht]; exact hP9, hD9, (by omega)⟩⟩, hS.F ht⟩) hS.2.2 dX1_begin_196
  have kT_4 := lv_neT k_4 (show (10 : Int32).toInt = 10 from rfl)
  have kT_5 := lv_neT k_5 (show (11 : Int32).toInt = 11 from rfl)
  have kT_9 := lv_neT k_9 (show (12 : Int32).toInt = 12 from rfl)
  have kT_12 := lv_neT k_12 (show (13 : Int32).toInt = 13 from rfl)
  have kT_15 := lv_neT k_15 (show (14 : Int32).toInt = 14 from rfl)
  have kT_18 := lv_neT k_18 (show (15 : Int32).toInt = 15 from rfl)
  have kT_19 := lv_neT k_19 (show (16 : Int32).toInt = 16 from rfl)
  have kT_20 := lv_neT k_20 (show (17 : Int32).toInt = 17 from rfl)
  have kT_21 := lv_neT k_21 (show (18 : Int32).toInt = 18 from rfl)
  have kT_22 := lv_neT k_22 (show (19 : Int32).toInt = 19 from rfl)
  have kT_23 := lv_neT k_23 (show (20 : Int32).toInt = 20 from rfl)
  have kT_24 := lv_neT k_24 (show (21 : Int32).toInt = 21 from rfl)
  have kT_27 := lv_neT k_27 (show (22 : Int32).toInt = 22 from rfl)
  have kT_30 := lv_neT k_30 (show (23 : Int32).toInt = 23 from rfl)
  have kT_34 := lv_neT k_34 (show (24 : Int32).toInt = 24 from rfl)
  refine lv_tableOut (tgt := 197) hx hb dX1_begin_18 (by omega) (by decide) ?_
  refine lv_iconst (v := 0) hx hb dX1_begin_197 (by decide) ?_
  have hP9 := hP.sub (ws' := [(k9, .inr (1, [.ref tc, .int (nI zn_2), .int nu, .int ki, .int ce, .int lo])), (tc, .inl (cI, 16, .inl ftn_2))]) [0, 1] rfl
  have hD9 := hD.sub (ws' := [(k9, .inr (1, [.ref tc, .int (nI zn_2), .int nu, .int ki, .int ce, .int lo])), (tc, .inl (cI, 16, .inl ftn_2))]) [0, 1] (by decide) rfl
  exact W.iret (v := 0) hx hb hr (fun t ht hW => ⟨⟨0, (), rfl, trivial, ⟨zn_2, ftn_2, by rw [ht]; exact hP9, hD9, (by omega)⟩⟩, hS.F ht⟩) hS.2.2 dX1_begin_198
set_option maxHeartbeats 4000000 in
set_option maxRecDepth 100000 in
theorem r_X1_askAnew_2 (l : Launch) (dC : Nat → ClassId) (dI : Nat → Nat → Nat) (cI cZ cL cJ : ClassId) (sz : Nat) (k9 : Nat) (tc : Nat) (z : Nat) (nu : Int32) (ki : Int32) (ce : Int32) (lo : Int32) (ft : Nat → Int32) (x : Int32) (hz : z ≤ 16) : Met l yX1_askAnew wsX1_askAnew ({ frames := 29, cells := 0, slots := 0, locals := 654 }) (va_Pc [.ref k9, .int x, .int 2] (fun U => U.heap.size = sz ∧ va_P (dC, dI) vwCl [(k9, .inr (1, [.ref tc, .int (nI z), .int nu, .int ki, .int ce, .int lo])), (tc, .inl (cI, 16, .inl ft))] U.heap ∧ va_K (dC, dI) vwCl [(cI, .int), (cZ, .boolean), (cL, .object RX3), (cJ, .array .int)] U ∧ va_D (fun _ => True) [(k9, .inr (1, [.ref tc, .int (nI z), .int nu, .int ki, .int ce, .int lo])), (tc, .inl (cI, 16, .inl ft))] ∧ stt (va_A [(k9, .inr (1, [.ref tc, .int (nI z), .int nu, .int ki, .int ce, .int lo])), (tc, .inl (cI, 16, .inl ft))] sz) U U.heap)) (va_Qi (fun r (_ : Unit) => True) (fun (_ : Unit) t => ∃ (zn : Nat) (ftn : Nat → Int32), va_P (dC, dI) vwCl [(k9, .inr (1, [.ref tc, .int (nI zn), .int nu, .int ki, .int ce, .int lo])), (tc, .inl (cI, 16, .inl ftn))] t.heap ∧ va_D (va_A [(k9, .inr (1, [.ref tc, .int (nI z), .int nu, .int ki, .int ce, .int lo])), (tc, .inl (cI, 16, .inl ft))] sz) [(k9, .inr (1, [.ref tc, .int (nI zn), .int nu, .int ki, .int ce, .int lo])), (tc, .inl (cI, 16, .inl ftn))] ∧ zn ≤ 16) (va_A [(k9, .inr (1, [.ref tc, .int (nI z), .int nu, .int ki, .int ce, .int lo])), (tc, .inl (cI, 16, .inl ft))] sz)) 0 0 (va_A [(k9, .inr (1, [.ref tc, .int (nI z), .int nu, .int ki, .int ce, .int lo])), (tc, .inl (cI, 16, .inl ft))] sz) := by
  refine Met.ofW (cc := cX1_askAnew) (maxL := 3) (ret := (some .int)) (by decide) rfl ?_
  intro p e s m args below meth c s₁ B hml hv
  obtain ⟨rfl, hsz, hP, hK, hD0, hst⟩ := hv
  have hx := B.exec
  have hb := B.bytes
  have hr := B.returns
  have hts := atoms_spec (ws := wsX1_askAnew) B.pre
  have hown : s.vm.findClass RX1 = some m.cls := findClass_of_methodNamed B.named
  have hlocks := B.notSynchronized
  subst hsz
  have hD := hD0.self (sz := s.heap.size)
  generalize hAe : va_A [(k9, .inr (1, [.ref tc, .int (nI z), .int nu, .int ki, .int ce, .int lo])), (tc, .inl (cI, 16, .inl ft))] s.heap.size = A at hD hst ⊢
  have hA : ∀ q : Nat, s.heap.size ≤ q → A q := fun q h => by rw [← hAe]; exact Or.inr h
  have hS : va_S A s.heap s.heap [] := va_S.rf
  have hP : va_P (dC, dI) vwCl [(k9, .inr (1, [.ref tc, .int (nI z), .int nu, .int ki, .int ce, .int lo])), (tc, .inl (cI, 16, .inl ft))] s.heap := hP
  obtain ⟨⟨tb1, hZ1, hT1⟩, ⟨tb2, hZ2, hT2⟩, ⟨tb3, hZ3, hT3⟩, hNk⟩ := id hst
  have hl := lv_entry ([.ref k9, .int x, .int 2]) (n := 3) (Nat.le_of_ble_eq_true rfl)
  rw [lg_entry_eq]
  generalize (lg_sl ([.ref k9, .int x, .int 2]) ++ List.replicate (3 - (lg_sl ([.ref k9, .int x, .int 2])).length) Slot.unset).toArray = ls at hl ⊢
  have hl : lv_has ls 3 [(0, .ref k9), (1, .int x), (2, .int 2)] := hl
  refine lv_aload_n hx hb dX1_askAnew_0 rfl (lv_at hl 0 rfl) ?_
  refine lv_aload_n hx hb dX1_askAnew_1 rfl (lv_at hl 0 rfl) ?_
  refine lv_iload_n hx hb dX1_askAnew_2 rfl (lv_at hl 1 rfl) ?_
  have hPc_1 := hP.sub (ws' := [(k9, .inr (1, [.ref tc, .int (nI z), .int nu, .int ki, .int ce, .int lo]))]) [0] rfl
  refine vp_callSi (W.runV (As := [.int x]) (rest := [.ref k9]) ⟨hx, hb, hml, hown, hts⟩ (r_X1_bodyFor l dC dI cI cZ cL cJ k9 tc z nu ki ce lo x ) (cwV 1 hts gX1_askAnew_X1_bodyFor rfl rfl rfl (by decide +kernel) ⟨Nat.le_of_ble_eq_true rfl, Nat.le_of_ble_eq_true rfl⟩) ⟨fun a U g mk q => by obtain ⟨q0, qP, qK, qS⟩ := q; exact ⟨q0, qP, va_K.moved (u := U) (U := U.calling g mk a) (Vm.Alike.refl U.vm) qK, stt_same rfl qS⟩, va_recv hK hP (ci := 1) (q0 := 0) rfl rfl, fun U hU hW => ⟨rfl, by rw [hU]; exact hPc_1, va_K.moved hW.alike hK, by rw [hU]; exact stt_warm hW (stt_narrow (stt_kept hst hS.2.1) (fun _ h => h.elim))⟩⟩ rfl rfl hl.1 rfl (lv_room (Nat.le_of_ble_eq_true rfl)) dX1_askAnew_3 ⟨Nat.le_of_ble_eq_true rfl, Nat.le_of_ble_eq_true rfl⟩) (fun r_1 h_1 => ?_)
  refine lv_iload_n hx hb dX1_askAnew_6 rfl (lv_at hl 2 rfl) ?_
  have hPc_2 := hP.sub (ws' := [(k9, .inr (1, [.ref tc, .int (nI z), .int nu, .int ki, .int ce, .int lo])), (tc, .inl (cI, 16, .inl ft))]) [0, 1] rfl
  have hDc_2 := hD.sub (ws' := [(k9, .inr (1, [.ref tc, .int (nI z), .int nu, .int ki, .int ce, .int lo])), (tc, .inl (cI, 16, .inl ft))]) [0, 1] (by decide) rfl
  have hFc_2 := va_free (wc := [(k9, .inr (1, [.ref tc, .int (nI z), .int nu, .int ki, .int ce, .int lo])), (tc, .inl (cI, 16, .inl ft))]) hD hS hA [0, 1] rfl
  refine va_calli (va_runV (As := [.int r_1, .int 2]) (rest := []) ⟨hx, hb, hml, hown, hts⟩ (r_X1_begin_2 l dC dI cI cZ cL cJ s.heap.size k9 tc z nu ki ce lo ft r_1 (by omega)) (cwV 2 hts gX1_askAnew_X1_begin rfl rfl rfl (by decide +kernel) ⟨Nat.le_of_ble_eq_true rfl, Nat.le_of_ble_eq_true rfl⟩) ⟨fun a U g mk q => by obtain ⟨q0, q1, qP, qK, qD, qS⟩ := q; exact ⟨q0, q1, qP, va_K.moved (u := U) (U := U.calling g mk a) (Vm.Alike.refl U.vm) qK, qD, stt_same rfl qS⟩, va_recv hK hP (ci := 1) (q0 := 0) rfl rfl, fun U hU hW => ⟨rfl, by rw [hU], by rw [hU]; exact hPc_2, va_K.moved hW.alike hK, hDc_2.weaken (fun _ _ _ _ => trivial), by rw [hU]; exact stt_warm hW (stt_narrow (stt_kept hst hS.2.1) hFc_2)⟩⟩ rfl rfl hl.1 rfl (lv_room (Nat.le_of_ble_eq_true rfl)) dX1_askAnew_7 ⟨Nat.le_of_ble_eq_true rfl, Nat.le_of_ble_eq_true rfl⟩) hS (fun q _ h => hFc_2 q h) hFc_2 (fun r_2 u_2 t_2 H1 locs ht hvm h_2 hB hz1 hk1 hS => ?_)
  obtain ⟨zn_2, ftn_2, hP1, hD1, hF_2_0⟩ := hB
  rw [ht] at hP1
  obtain ⟨hP, hD⟩ := va_join (wr := []) (w1 := [(k9, .inr (1, [.ref tc, .int (nI zn_2), .int nu, .int ki, .int ce, .int lo])), (tc, .inl (cI, 16, .inl ftn_2))]) hP hD [0, 1] [] rfl rfl (by decide) (by decide) hk1 hFc_2 hP1 hD1
  generalize H1 = H at hP hS ⊢
  have hP : va_P (dC, dI) vwCl [(k9, .inr (1, [.ref tc, .int (nI zn_2), .int nu, .int ki, .int ce, .int lo])), (tc, .inl (cI, 16, .inl ftn_2))] H := hP
  have hD : va_D A [(k9, .inr (1, [.ref tc, .int (nI zn_2), .int nu, .int ki, .int ce, .int lo])), (tc, .inl (cI, 16, .inl ftn_2))] := hD
  have hP9 := hP.sub (ws' := [(k9, .inr (1, [.ref tc, .int (nI zn_2), .int nu, .int ki, .int ce, .int lo])), (tc, .inl (cI, 16, .inl ftn_2))]) [0, 1] rfl
  have hD9 := hD.sub (ws' := [(k9, .inr (1, [.ref tc, .int (nI zn_2), .int nu, .int ki, .int ce, .int lo])), (tc, .inl (cI, 16, .inl ftn_2))]) [0, 1] (by decide) rfl
  exact W.iret (v := r_2) hx hb hr (fun t ht hW => ⟨⟨r_2, (), rfl, trivial, ⟨zn_2, ftn_2, by rw [ht]; exact hP9, hD9, (by omega)⟩⟩, hS.F ht⟩) hS.2.2 dX1_askAnew_10
set_option maxHeartbeats 4000000 in
set_option maxRecDepth 100000 in
theorem r_X1_begin_1 (l : Launch) (dC : Nat → ClassId) (dI : Nat → Nat → Nat) (cI cZ cL cJ : ClassId) (sz : Nat) (k9 : Nat) (tc : Nat) (z : Nat) (nu : Int32) (ki : Int32) (ce : Int32) (lo : Int32) (ft : Nat → Int32) (x : Int32) (hz : z ≤ 16) : Met l yX1_begin wsX1_begin ({ frames := 30, cells := 0, slots := 0, locals := 676 }) (va_Pc [.ref k9, .int x, .int 1] (fun U => U.heap.size = sz ∧ va_P (dC, dI) vwCl [(k9, .inr (1, [.ref tc, .int (nI z), .int nu, .int ki, .int ce, .int lo])), (tc, .inl (cI, 16, .inl ft))] U.heap ∧ va_K (dC, dI) vwCl [(cI, .int), (cZ, .boolean), (cL, .object RX3), (cJ, .array .int)] U ∧ va_D (fun _ => True) [(k9, .inr (1, [.ref tc, .int (nI z), .int nu, .int ki, .int ce, .int lo])), (tc, .inl (cI, 16, .inl ft))] ∧ stt (va_A [(k9, .inr (1, [.ref tc, .int (nI z), .int nu, .int ki, .int ce, .int lo])), (tc, .inl (cI, 16, .inl ft))] sz) U U.heap)) (va_Qi (fun r (_ : Unit) => True) (fun (_ : Unit) t => ∃ (zn : Nat) (ftn : Nat → Int32), va_P (dC, dI) vwCl [(k9, .inr (1, [.ref tc, .int (nI zn), .int nu, .int ki, .int ce, .int lo])), (tc, .inl (cI, 16, .inl ftn))] t.heap ∧ va_D (va_A [(k9, .inr (1, [.ref tc, .int (nI z), .int nu, .int ki, .int ce, .int lo])), (tc, .inl (cI, 16, .inl ft))] sz) [(k9, .inr (1, [.ref tc, .int (nI zn), .int nu, .int ki, .int ce, .int lo])), (tc, .inl (cI, 16, .inl ftn))] ∧ zn ≤ 16) (va_A [(k9, .inr (1, [.ref tc, .int (nI z), .int nu, .int ki, .int ce, .int lo])), (tc, .inl (cI, 16, .inl ft))] sz)) 0 0 (va_A [(k9, .inr (1, [.ref tc, .int (nI z), .int nu, .int ki, .int ce, .int lo])), (tc, .inl (cI, 16, .inl ft))] sz) := by
  refine Met.ofW (cc := cX1_begin) (maxL := 4) (ret := (some .int)) (by decide) rfl ?_
  intro p e s m args below meth c s₁ B hml hv
  obtain ⟨rfl, hsz, hP, hK, hD0, hst⟩ := hv
  have hx := B.exec
  have hb := B.bytes
  have hr := B.returns
  have hts := atoms_spec (ws := wsX1_begin) B.pre
  have hown : s.vm.findClass RX1 = some m.cls := findClass_of_methodNamed B.named
  have hlocks := B.notSynchronized
  subst hsz
  have hD := hD0.self (sz := s.heap.size)
  generalize hAe : va_A [(k9, .inr (1, [.ref tc, .int (nI z), .int nu, .int ki, .int ce, .int lo])), (tc, .inl (cI, 16, .inl ft))] s.heap.size = A at hD hst ⊢
  have hA : ∀ q : Nat, s.heap.size ≤ q → A q := fun q h => by rw [← hAe]; exact Or.inr h
  have hS : va_S A s.heap s.heap [] := va_S.rf
  have hP : va_P (dC, dI) vwCl [(k9, .inr (1, [.ref tc, .int (nI z), .int nu, .int ki, .int ce, .int lo])), (tc, .inl (cI, 16, .inl ft))] s.heap := hP
  obtain ⟨⟨tb1, hZ1, hT1⟩, ⟨tb2, hZ2, hT2⟩, ⟨tb3, hZ3, hT3⟩, hNk⟩ := id hst
  have hl := lv_entry ([.ref k9, .int x, .int 1]) (n := 4) (Nat.le_of_ble_eq_true rfl)
  rw [lg_entry_eq]
  generalize (lg_sl ([.ref k9, .int x, .int 1]) ++ List.replicate (4 - (lg_sl ([.ref k9, .int x, .int 1])).length) Slot.unset).toArray = ls at hl ⊢
  have hl : lv_has ls 4 [(0, .ref k9), (1, .int x), (2, .int 1)] := hl
  refine lv_iload_n hx hb dX1_begin_0 rfl (lv_at hl 2 rfl) ?_
  refine lv_bipush (v := 16) hx hb dX1_begin_1 (by decide) ?_
  refine lv_icmp_lt (tgt := 8) hx hb dX1_begin_3 (by decide) (fun _ => ?_) (fun c_ => absurd (by decide) c_)
  refine lv_aload_n hx hb dX1_begin_8 rfl (lv_at hl 0 rfl) ?_
  refine lv_iload_n hx hb dX1_begin_9 rfl (lv_at hl 1 rfl) ?_
  have hPc_2 := hP.sub (ws' := [(k9, .inr (1, [.ref tc, .int (nI z), .int nu, .int ki, .int ce, .int lo])), (tc, .inl (cI, 16, .inl ft))]) [0, 1] rfl
  have hDc_2 := hD.sub (ws' := [(k9, .inr (1, [.ref tc, .int (nI z), .int nu, .int ki, .int ce, .int lo])), (tc, .inl (cI, 16, .inl ft))]) [0, 1] (by decide) rfl
  have hFc_2 := va_free (wc := [(k9, .inr (1, [.ref tc, .int (nI z), .int nu, .int ki, .int ce, .int lo])), (tc, .inl (cI, 16, .inl ft))]) hD hS hA [0, 1] rfl
  refine va_callv (va_runV (As := [.int x]) (rest := []) ⟨hx, hb, hml, hown, hts⟩ (r_X1_leave l dC dI cI cZ cL cJ s.heap.size k9 tc z nu ki ce lo ft x (by omega)) (cwV 1 hts gX1_begin_X1_leave rfl rfl rfl (by decide +kernel) ⟨Nat.le_of_ble_eq_true rfl, Nat.le_of_ble_eq_true rfl⟩) ⟨fun a U g mk q => by obtain ⟨q0, q1, qP, qK, qD⟩ := q; exact ⟨q0, q1, qP, va_K.moved (u := U) (U := U.calling g mk a) (Vm.Alike.refl U.vm) qK, qD⟩, va_recv hK hP (ci := 1) (q0 := 0) rfl rfl, fun U hU hW => ⟨rfl, by rw [hU], by rw [hU]; exact hPc_2, va_K.moved hW.alike hK, hDc_2.weaken (fun _ _ _ _ => trivial)⟩⟩ rfl rfl hl.1 rfl (lv_room (Nat.le_of_ble_eq_true rfl)) dX1_begin_10 ⟨Nat.le_of_ble_eq_true rfl, Nat.le_of_ble_eq_true rfl⟩) hS (fun q _ h => hFc_2 q h) hFc_2 (fun u_2 t_2 H1 locs ht hvm h_2 hB hz1 hk1 hS => ?_)
  obtain ⟨zn_2, ftn_2, hP1, hD1, hF_2_0⟩ := hB
  rw [ht] at hP1
  obtain ⟨hP, hD⟩ := va_join (wr := []) (w1 := [(k9, .inr (1, [.ref tc, .int (nI zn_2), .int nu, .int ki, .int ce, .int lo])), (tc, .inl (cI, 16, .inl ftn_2))]) hP hD [0, 1] [] rfl rfl (by decide) (by decide) hk1 hFc_2 hP1 hD1
  generalize H1 = H at hP hS ⊢
  have hP : va_P (dC, dI) vwCl [(k9, .inr (1, [.ref tc, .int (nI zn_2), .int nu, .int ki, .int ce, .int lo])), (tc, .inl (cI, 16, .inl ftn_2))] H := hP
  have hD : va_D A [(k9, .inr (1, [.ref tc, .int (nI zn_2), .int nu, .int ki, .int ce, .int lo])), (tc, .inl (cI, 16, .inl ftn_2))] := hD
  refine lv_iload_n hx hb dX1_begin_13 rfl (lv_at hl 2 rfl) ?_
  refine lv_iconst (v := 1) hx hb dX1_begin_14 (by decide) ?_
  refine lv_iadd hx hb dX1_begin_15 ?_
  refine lv_topi (fun v_3 e_3 => ?_)
  obtain rfl : v_3 = 2 := (e_3).trans (by decide)
  refine lv_istore_n (lv' := [(3, .int 2), (0, .ref k9), (1, .int x), (2, .int 1)]) hx hb dX1_begin_16 rfl hl (by decide) rfl (fun ls hl => ?_)
  refine lv_iload_n hx hb dX1_begin_17 rfl (lv_at hl 2 rfl) ?_
  by_cases k_4 : x = 10
  · subst k_4
    refine lv_tableIn (off := 74) (tgt := 92) hx hb dX1_begin_18 (by decide) (by decide) (by decide) (by decide) ?_
    refine lv_aload_n hx hb dX1_begin_92 rfl (lv_at hl 1 rfl) ?_
    refine va_get (D := (dC, dI)) (ci := 1) (v := .int lo) (C := RX1) (T := TX1) (N := 6) hx hb hts i_X1_begin_X1 hown hK hP 0 rfl rfl 5 (by decide) (hts (.fieldLink RX1 39 "MillTalk$Asks" "loud" "I") (by decide +kernel)) (fun _ h9 => h9) rfl dX1_begin_93 ?_
    have hP9 := hP.sub (ws' := [(k9, .inr (1, [.ref tc, .int (nI zn_2), .int nu, .int ki, .int ce, .int lo])), (tc, .inl (cI, 16, .inl ftn_2))]) [0, 1] rfl
    have hD9 := hD.sub (ws' := [(k9, .inr (1, [.ref tc, .int (nI zn_2), .int nu, .int ki, .int ce, .int lo])), (tc, .inl (cI, 16, .inl ftn_2))]) [0, 1] (by decide) rfl
    exact W.iret (v := lo) hx hb hr (fun t ht hW => ⟨⟨lo, (), rfl, trivial, ⟨zn_2, ftn_2, by rw [ht]; exact hP9, hD9, (by omega)⟩⟩, hS.F ht⟩) hS.2.2 dX1_begin_96
  by_cases k_5 : x = 11
  · subst k_5
    refine lv_tableIn (off := 79) (tgt := 97) hx hb dX1_begin_18 (by decide) (by decide) (by decide) (by decide) ?_
    refine lv_aload_n hx hb dX1_begin_97 rfl (lv_at hl 1 rfl) ?_
    refine lv_bipush (v := 10) hx hb dX1_begin_98 (by decide) ?_
    refine lv_iload_n hx hb dX1_begin_100 rfl (lv_at hl 0 rfl) ?_
    have hPc_6 := hP.sub (ws' := [(k9, .inr (1, [.ref tc, .int (nI zn_2), .int nu, .int ki, .int ce, .int lo])), (tc, .inl (cI, 16, .inl ftn_2))]) [0, 1] rfl
    have hDc_6 := hD.sub (ws' := [(k9, .inr (1, [.ref tc, .int (nI zn_2), .int nu, .int ki, .int ce, .int lo])), (tc, .inl (cI, 16, .inl ftn_2))]) [0, 1] (by decide) rfl
    have hFc_6 := va_free (wc := [(k9, .inr (1, [.ref tc, .int (nI zn_2), .int nu, .int ki, .int ce, .int lo])), (tc, .inl (cI, 16, .inl ftn_2))]) hD hS hA [0, 1] rfl
    refine va_calli (va_runV (As := [.int 10, .int 2]) (rest := []) ⟨hx, hb, hml, hown, hts⟩ (r_X1_begin_2 l dC dI cI cZ cL cJ H.size k9 tc zn_2 nu ki ce lo ftn_2 10 (by omega)) (cwV 2 hts gX1_begin_X1_begin rfl rfl rfl (by decide +kernel) ⟨Nat.le_of_ble_eq_true rfl, Nat.le_of_ble_eq_true rfl⟩) ⟨fun a U g mk q => by obtain ⟨q0, q1, qP, qK, qD, qS⟩ := q; exact ⟨q0, q1, qP, va_K.moved (u := U) (U := U.calling g mk a) (Vm.Alike.refl U.vm) qK, qD, stt_same rfl qS⟩, va_recv hK hP (ci := 1) (q0 := 0) rfl rfl, fun U hU hW => ⟨rfl, by rw [hU], by rw [hU]; exact hPc_6, va_K.moved hW.alike hK, hDc_6.weaken (fun _ _ _ _ => trivial), by rw [hU]; exact stt_warm hW (stt_narrow (stt_kept hst hS.2.1) hFc_6)⟩⟩ rfl rfl hl.1 rfl (lv_room (Nat.le_of_ble_eq_true rfl)) dX1_begin_101 ⟨Nat.le_of_ble_eq_true rfl, Nat.le_of_ble_eq_true rfl⟩) hS (fun q _ h => hFc_6 q h) hFc_6 (fun r_6 u_6 t_6 H1 locs ht hvm h_6 hB hz1 hk1 hS => ?_)
    obtain ⟨zn_6, ftn_6, hP1, hD1, hF_6_0⟩ := hB
    rw [ht] at hP1
    obtain ⟨hP, hD⟩ := va_join (wr := []) (w1 := [(k9, .inr (1, [.ref tc, .int (nI zn_6), .int nu, .int ki, .int ce, .int lo])), (tc, .inl (cI, 16, .inl ftn_6))]) hP hD [0, 1] [] rfl rfl (by decide) (by decide) hk1 hFc_6 hP1 hD1
    generalize H1 = H at hP hS ⊢
    have hP : va_P (dC, dI) vwCl [(k9, .inr (1, [.ref tc, .int (nI zn_6), .int nu, .int ki, .int ce, .int lo])), (tc, .inl (cI, 16, .inl ftn_6))] H := hP
    have hD : va_D A [(k9, .inr (1, [.ref tc, .int (nI zn_6), .int nu, .int ki, .int ce, .int lo])), (tc, .inl (cI, 16, .inl ftn_6))] := hD
    refine lv_aload_n hx hb dX1_begin_104 rfl (lv_at hl 1 rfl) ?_
    refine lv_iconst (v := 1) hx hb dX1_begin_105 (by decide) ?_
    refine lv_iload_n hx hb dX1_begin_106 rfl (lv_at hl 0 rfl) ?_
    have hPc_7 := hP.sub (ws' := [(k9, .inr (1, [.ref tc, .int (nI zn_6), .int nu, .int ki, .int ce, .int lo])), (tc, .inl (cI, 16, .inl ftn_6))]) [0, 1] rfl
    have hDc_7 := hD.sub (ws' := [(k9, .inr (1, [.ref tc, .int (nI zn_6), .int nu, .int ki, .int ce, .int lo])), (tc, .inl (cI, 16, .inl ftn_6))]) [0, 1] (by decide) rfl
    have hFc_7 := va_free (wc := [(k9, .inr (1, [.ref tc, .int (nI zn_6), .int nu, .int ki, .int ce, .int lo])), (tc, .inl (cI, 16, .inl ftn_6))]) hD hS hA [0, 1] rfl
    refine va_calli (va_runV (As := [.int 1, .int 2]) (rest := [.int r_6]) ⟨hx, hb, hml, hown, hts⟩ (r_X1_askAnew_2 l dC dI cI cZ cL cJ H.size k9 tc zn_6 nu ki ce lo ftn_6 1 (by omega)) (cwV 2 hts gX1_begin_X1_askAnew rfl rfl rfl (by decide +kernel) ⟨Nat.le_of_ble_eq_true rfl, Nat.le_of_ble_eq_true rfl⟩) ⟨fun a U g mk q => by obtain ⟨q0, q1, qP, qK, qD, qS⟩ := q; exact ⟨q0, q1, qP, va_K.moved (u := U) (U := U.calling g mk a) (Vm.Alike.refl U.vm) qK, qD, stt_same rfl qS⟩, va_recv hK hP (ci := 1) (q0 := 0) rfl rfl, fun U hU hW => ⟨rfl, by rw [hU], by rw [hU]; exact hPc_7, va_K.moved hW.alike hK, hDc_7.weaken (fun _ _ _ _ => trivial), by rw [hU]; exact stt_warm hW (stt_narrow (stt_kept hst hS.2.1) hFc_7)⟩⟩ rfl rfl hl.1 rfl (lv_room (Nat.le_of_ble_eq_true rfl)) dX1_begin_107 ⟨Nat.le_of_ble_eq_true rfl, Nat.le_of_ble_eq_true rfl⟩) hS (fun q _ h => hFc_7 q h) hFc_7 (fun r_7 u_7 t_7 H1 locs ht hvm h_7 hB hz1 hk1 hS => ?_)
    obtain ⟨zn_7, ftn_7, hP1, hD1, hF_7_0⟩ := hB
    rw [ht] at hP1
    obtain ⟨hP, hD⟩ := va_join (wr := []) (w1 := [(k9, .inr (1, [.ref tc, .int (nI zn_7), .int nu, .int ki, .int ce, .int lo])), (tc, .inl (cI, 16, .inl ftn_7))]) hP hD [0, 1] [] rfl rfl (by decide) (by decide) hk1 hFc_7 hP1 hD1
    generalize H1 = H at hP hS ⊢
    have hP : va_P (dC, dI) vwCl [(k9, .inr (1, [.ref tc, .int (nI zn_7), .int nu, .int ki, .int ce, .int lo])), (tc, .inl (cI, 16, .inl ftn_7))] H := hP
    have hD : va_D A [(k9, .inr (1, [.ref tc, .int (nI zn_7), .int nu, .int ki, .int ce, .int lo])), (tc, .inl (cI, 16, .inl ftn_7))] := hD
    refine lv_iadd hx hb dX1_begin_110 ?_
    refine lv_topi (fun v_8 e_8 => ?_)
    have hP9 := hP.sub (ws' := [(k9, .inr (1, [.ref tc, .int (nI zn_7), .int nu, .int ki, .int ce, .int lo])), (tc, .inl (cI, 16, .inl ftn_7))]) [0, 1] rfl
    have hD9 := hD.sub (ws' := [(k9, .inr (1, [.ref tc, .int (nI zn_7), .int nu, .int ki, .int ce, .int lo])), (tc, .inl (cI, 16, .inl ftn_7))]) [0, 1] (by decide) rfl
    exact W.iret (v := v_8) hx hb hr (fun t ht hW => ⟨⟨v_8, (), rfl, trivial, ⟨zn_7, ftn_7, by rw [ht]; exact hP9, hD9, (by omega)⟩⟩, hS.F ht⟩) hS.2.2 dX1_begin_111
  by_cases k_9 : x = 12
  · subst k_9
    refine lv_tableIn (off := 94) (tgt := 112) hx hb dX1_begin_18 (by decide) (by decide) (by decide) (by decide) ?_
    refine lv_aload_n hx hb dX1_begin_112 rfl (lv_at hl 1 rfl) ?_
    refine lv_bipush (v := 11) hx hb dX1_begin_113 (by decide) ?_
    refine lv_iload_n hx hb dX1_begin_115 rfl (lv_at hl 0 rfl) ?_
    have hPc_10 := hP.sub (ws' := [(k9, .inr (1, [.ref tc, .int (nI zn_2), .int nu, .int ki, .int ce, .int lo])), (tc, .inl (cI, 16, .inl ftn_2))]) [0, 1] rfl
    have hDc_10 := hD.sub (ws' := [(k9, .inr (1, [.ref tc, .int (nI zn_2), .int nu, .int ki, .int ce, .int lo])), (tc, .inl (cI, 16, .inl ftn_2))]) [0, 1] (by decide) rfl
    have hFc_10 := va_free (wc := [(k9, .inr (1, [.ref tc, .int (nI zn_2), .int nu, .int ki, .int ce, .int lo])), (tc, .inl (cI, 16, .inl ftn_2))]) hD hS hA [0, 1] rfl
    refine va_calli (va_runV (As := [.int 11, .int 2]) (rest := []) ⟨hx, hb, hml, hown, hts⟩ (r_X1_begin_2 l dC dI cI cZ cL cJ H.size k9 tc zn_2 nu ki ce lo ftn_2 11 (by omega)) (cwV 2 hts gX1_begin_X1_begin rfl rfl rfl (by decide +kernel) ⟨Nat.le_of_ble_eq_true rfl, Nat.le_of_ble_eq_true rfl⟩) ⟨fun a U g mk q => by obtain ⟨q0, q1, qP, qK, qD, qS⟩ := q; exact ⟨q0, q1, qP, va_K.moved (u := U) (U := U.calling g mk a) (Vm.Alike.refl U.vm) qK, qD, stt_same rfl qS⟩, va_recv hK hP (ci := 1) (q0 := 0) rfl rfl, fun U hU hW => ⟨rfl, by rw [hU], by rw [hU]; exact hPc_10, va_K.moved hW.alike hK, hDc_10.weaken (fun _ _ _ _ => trivial), by rw [hU]; exact stt_warm hW (stt_narrow (stt_kept hst hS.2.1) hFc_10)⟩⟩ rfl rfl hl.1 rfl (lv_room (Nat.le_of_ble_eq_true rfl)) dX1_begin_116 ⟨Nat.le_of_ble_eq_true rfl, Nat.le_of_ble_eq_true rfl⟩) hS (fun q _ h => hFc_10 q h) hFc_10 (fun r_10 u_10 t_10 H1 locs ht hvm h_10 hB hz1 hk1 hS => ?_)
    obtain ⟨zn_10, ftn_10, hP1, hD1, hF_10_0⟩ := hB
    rw [ht] at hP1
    obtain ⟨hP, hD⟩ := va_join (wr := []) (w1 := [(k9, .inr (1, [.ref tc, .int (nI zn_10), .int nu, .int ki, .int ce, .int lo])), (tc, .inl (cI, 16, .inl ftn_10))]) hP hD [0, 1] [] rfl rfl (by decide) (by decide) hk1 hFc_10 hP1 hD1
    generalize H1 = H at hP hS ⊢
    have hP : va_P (dC, dI) vwCl [(k9, .inr (1, [.ref tc, .int (nI zn_10), .int nu, .int ki, .int ce, .int lo])), (tc, .inl (cI, 16, .inl ftn_10))] H := hP
    have hD : va_D A [(k9, .inr (1, [.ref tc, .int (nI zn_10), .int nu, .int ki, .int ce, .int lo])), (tc, .inl (cI, 16, .inl ftn_10))] := hD
    refine lv_ineg hx hb dX1_begin_119 ?_
    refine lv_topi (fun v_11 e_11 => ?_)
    have hP9 := hP.sub (ws' := [(k9, .inr (1, [.ref tc, .int (nI zn_10), .int nu, .int ki, .int ce, .int lo])), (tc, .inl (cI, 16, .inl ftn_10))]) [0, 1] rfl
    have hD9 := hD.sub (ws' := [(k9, .inr (1, [.ref tc, .int (nI zn_10), .int nu, .int ki, .int ce, .int lo])), (tc, .inl (cI, 16, .inl ftn_10))]) [0, 1] (by decide) rfl
    exact W.iret (v := v_11) hx hb hr (fun t ht hW => ⟨⟨v_11, (), rfl, trivial, ⟨zn_10, ftn_10, by rw [ht]; exact hP9, hD9, (by omega)⟩⟩, hS.F ht⟩) hS.2.2 dX1_begin_120
  by_cases k_12 : x = 13
  · subst k_12
    refine lv_tableIn (off := 103) (tgt := 121) hx hb dX1_begin_18 (by decide) (by decide) (by decide) (by decide) ?_
    refine lv_aload_n hx hb dX1_begin_121 rfl (lv_at hl 1 rfl) ?_
    refine lv_bipush (v := 10) hx hb dX1_begin_122 (by decide) ?_
    refine lv_iload_n hx hb dX1_begin_124 rfl (lv_at hl 0 rfl) ?_
    have hPc_13 := hP.sub (ws' := [(k9, .inr (1, [.ref tc, .int (nI zn_2), .int nu, .int ki, .int ce, .int lo])), (tc, .inl (cI, 16, .inl ftn_2))]) [0, 1] rfl
    have hDc_13 := hD.sub (ws' := [(k9, .inr (1, [.ref tc, .int (nI zn_2), .int nu, .int ki, .int ce, .int lo])), (tc, .inl (cI, 16, .inl ftn_2))]) [0, 1] (by decide) rfl
    have hFc_13 := va_free (wc := [(k9, .inr (1, [.ref tc, .int (nI zn_2), .int nu, .int ki, .int ce, .int lo])), (tc, .inl (cI, 16, .inl ftn_2))]) hD hS hA [0, 1] rfl
    refine va_calli (va_runV (As := [.int 10, .int 2]) (rest := []) ⟨hx, hb, hml, hown, hts⟩ (r_X1_begin_2 l dC dI cI cZ cL cJ H.size k9 tc zn_2 nu ki ce lo ftn_2 10 (by omega)) (cwV 2 hts gX1_begin_X1_begin rfl rfl rfl (by decide +kernel) ⟨Nat.le_of_ble_eq_true rfl, Nat.le_of_ble_eq_true rfl⟩) ⟨fun a U g mk q => by obtain ⟨q0, q1, qP, qK, qD, qS⟩ := q; exact ⟨q0, q1, qP, va_K.moved (u := U) (U := U.calling g mk a) (Vm.Alike.refl U.vm) qK, qD, stt_same rfl qS⟩, va_recv hK hP (ci := 1) (q0 := 0) rfl rfl, fun U hU hW => ⟨rfl, by rw [hU], by rw [hU]; exact hPc_13, va_K.moved hW.alike hK, hDc_13.weaken (fun _ _ _ _ => trivial), by rw [hU]; exact stt_warm hW (stt_narrow (stt_kept hst hS.2.1) hFc_13)⟩⟩ rfl rfl hl.1 rfl (lv_room (Nat.le_of_ble_eq_true rfl)) dX1_begin_125 ⟨Nat.le_of_ble_eq_true rfl, Nat.le_of_ble_eq_true rfl⟩) hS (fun q _ h => hFc_13 q h) hFc_13 (fun r_13 u_13 t_13 H1 locs ht hvm h_13 hB hz1 hk1 hS => ?_)
    obtain ⟨zn_13, ftn_13, hP1, hD1, hF_13_0⟩ := hB
    rw [ht] at hP1
    obtain ⟨hP, hD⟩ := va_join (wr := []) (w1 := [(k9, .inr (1, [.ref tc, .int (nI zn_13), .int nu, .int ki, .int ce, .int lo])), (tc, .inl (cI, 16, .inl ftn_13))]) hP hD [0, 1] [] rfl rfl (by decide) (by decide) hk1 hFc_13 hP1 hD1
    generalize H1 = H at hP hS ⊢
    have hP : va_P (dC, dI) vwCl [(k9, .inr (1, [.ref tc, .int (nI zn_13), .int nu, .int ki, .int ce, .int lo])), (tc, .inl (cI, 16, .inl ftn_13))] H := hP
    have hD : va_D A [(k9, .inr (1, [.ref tc, .int (nI zn_13), .int nu, .int ki, .int ce, .int lo])), (tc, .inl (cI, 16, .inl ftn_13))] := hD
    refine lv_bipush (v := 100) hx hb dX1_begin_128 (by decide) ?_
    refine lv_isub hx hb dX1_begin_130 ?_
    refine lv_topi (fun v_14 e_14 => ?_)
    have hP9 := hP.sub (ws' := [(k9, .inr (1, [.ref tc, .int (nI zn_13), .int nu, .int ki, .int ce, .int lo])), (tc, .inl (cI, 16, .inl ftn_13))]) [0, 1] rfl
    have hD9 := hD.sub (ws' := [(k9, .inr (1, [.ref tc, .int (nI zn_13), .int nu, .int ki, .int ce, .int lo])), (tc, .inl (cI, 16, .inl ftn_13))]) [0, 1] (by decide) rfl
    exact W.iret (v := v_14) hx hb hr (fun t ht hW => ⟨⟨v_14, (), rfl, trivial, ⟨zn_13, ftn_13, by rw [ht]; exact hP9, hD9, (by omega)⟩⟩, hS.F ht⟩) hS.2.2 dX1_begin_131
  by_cases k_15 : x = 14
  · subst k_15
    refine lv_tableIn (off := 114) (tgt := 132) hx hb dX1_begin_18 (by decide) (by decide) (by decide) (by decide) ?_
    refine lv_aload_n hx hb dX1_begin_132 rfl (lv_at hl 1 rfl) ?_
    refine lv_bipush (v := 13) hx hb dX1_begin_133 (by decide) ?_
    refine lv_iload_n hx hb dX1_begin_135 rfl (lv_at hl 0 rfl) ?_
    have hPc_16 := hP.sub (ws' := [(k9, .inr (1, [.ref tc, .int (nI zn_2), .int nu, .int ki, .int ce, .int lo])), (tc, .inl (cI, 16, .inl ftn_2))]) [0, 1] rfl
    have hDc_16 := hD.sub (ws' := [(k9, .inr (1, [.ref tc, .int (nI zn_2), .int nu, .int ki, .int ce, .int lo])), (tc, .inl (cI, 16, .inl ftn_2))]) [0, 1] (by decide) rfl
    have hFc_16 := va_free (wc := [(k9, .inr (1, [.ref tc, .int (nI zn_2), .int nu, .int ki, .int ce, .int lo])), (tc, .inl (cI, 16, .inl ftn_2))]) hD hS hA [0, 1] rfl
    refine va_calli (va_runV (As := [.int 13, .int 2]) (rest := []) ⟨hx, hb, hml, hown, hts⟩ (r_X1_begin_2 l dC dI cI cZ cL cJ H.size k9 tc zn_2 nu ki ce lo ftn_2 13 (by omega)) (cwV 2 hts gX1_begin_X1_begin rfl rfl rfl (by decide +kernel) ⟨Nat.le_of_ble_eq_true rfl, Nat.le_of_ble_eq_true rfl⟩) ⟨fun a U g mk q => by obtain ⟨q0, q1, qP, qK, qD, qS⟩ := q; exact ⟨q0, q1, qP, va_K.moved (u := U) (U := U.calling g mk a) (Vm.Alike.refl U.vm) qK, qD, stt_same rfl qS⟩, va_recv hK hP (ci := 1) (q0 := 0) rfl rfl, fun U hU hW => ⟨rfl, by rw [hU], by rw [hU]; exact hPc_16, va_K.moved hW.alike hK, hDc_16.weaken (fun _ _ _ _ => trivial), by rw [hU]; exact stt_warm hW (stt_narrow (stt_kept hst hS.2.1) hFc_16)⟩⟩ rfl rfl hl.1 rfl (lv_room (Nat.le_of_ble_eq_true rfl)) dX1_begin_136 ⟨Nat.le_of_ble_eq_true rfl, Nat.le_of_ble_eq_true rfl⟩) hS (fun q _ h => hFc_16 q h) hFc_16 (fun r_16 u_16 t_16 H1 locs ht hvm h_16 hB hz1 hk1 hS => ?_)
    obtain ⟨zn_16, ftn_16, hP1, hD1, hF_16_0⟩ := hB
    rw [ht] at hP1
    obtain ⟨hP, hD⟩ := va_join (wr := []) (w1 := [(k9, .inr (1, [.ref tc, .int (nI zn_16), .int nu, .int ki, .int ce, .int lo])), (tc, .inl (cI, 16, .inl ftn_16))]) hP hD [0, 1] [] rfl rfl (by decide) (by decide) hk1 hFc_16 hP1 hD1
    generalize H1 = H at hP hS ⊢
    have hP : va_P (dC, dI) vwCl [(k9, .inr (1, [.ref tc, .int (nI zn_16), .int nu, .int ki, .int ce, .int lo])), (tc, .inl (cI, 16, .inl ftn_16))] H := hP
    have hD : va_D A [(k9, .inr (1, [.ref tc, .int (nI zn_16), .int nu, .int ki, .int ce, .int lo])), (tc, .inl (cI, 16, .inl ftn_16))] := hD
    refine lv_iconst (v := 2) hx hb dX1_begin_139 (by decide) ?_
    refine lv_imul hx hb dX1_begin_140 ?_
    refine lv_topi (fun v_17 e_17 => ?_)
    have hP9 := hP.sub (ws' := [(k9, .inr (1, [.ref tc, .int (nI zn_16), .int nu, .int ki, .int ce, .int lo])), (tc, .inl (cI, 16, .inl ftn_16))]) [0, 1] rfl
    have hD9 := hD.sub (ws' := [(k9, .inr (1, [.ref tc, .int (nI zn_16), .int nu, .int ki, .int ce, .int lo])), (tc, .inl (cI, 16, .inl ftn_16))]) [0, 1] (by decide) rfl
    exact W.iret (v := v_17) hx hb hr (fun t ht hW => ⟨⟨v_17, (), rfl, trivial, ⟨zn_16, ftn_16, by rw [ht]; exact hP9, hD9, (by omega)⟩⟩, hS.F ht⟩) hS.2.2 dX1_begin_141
  by_cases k_18 : x = 15
  · subst k_18
    refine lv_tableIn (off := 179) (tgt := 197) hx hb dX1_begin_18 (by decide) (by decide) (by decide) (by decide) ?_
    refine lv_iconst (v := 0) hx hb dX1_begin_197 (by decide) ?_
    have hP9 := hP.sub (ws' := [(k9, .inr (1, [.ref tc, .int (nI zn_2), .int nu, .int ki, .int ce, .int lo])), (tc, .inl (cI, 16, .inl ftn_2))]) [0, 1] rfl
    have hD9 := hD.sub (ws' := [(k9, .inr (1, [.ref tc, .int (nI zn_2), .int nu, .int ki, .int ce, .int lo])), (tc, .inl (cI, 16, .inl ftn_2))]) [0, 1] (by decide) rfl
    exact W.iret (v := 0) hx hb hr (fun t ht hW => ⟨⟨0, (), rfl, trivial, ⟨zn_2, ftn_2, by rw [ht]; exact hP9, hD9, (by omega)⟩⟩, hS.F ht⟩) hS.2.2 dX1_begin_198
  by_cases k_19 : x = 16
  · subst k_19
    refine lv_tableIn (off := 179) (tgt := 197) hx hb dX1_begin_18 (by decide) (by decide) (by decide) (by decide) ?_
    refine lv_iconst (v := 0) hx hb dX1_begin_197 (by decide) ?_
    have hP9 := hP.sub (ws' := [(k9, .inr (1, [.ref tc, .int (nI zn_2), .int nu, .int ki, .int ce, .int lo])), (tc, .inl (cI, 16, .inl ftn_2))]) [0, 1] rfl
    have hD9 := hD.sub (ws' := [(k9, .inr (1, [.ref tc, .int (nI zn_2), .int nu, .int ki, .int ce, .int lo])), (tc, .inl (cI, 16, .inl ftn_2))]) [0, 1] (by decide) rfl
    exact W.iret (v := 0) hx hb hr (fun t ht hW => ⟨⟨0, (), rfl, trivial, ⟨zn_2, ftn_2, by rw [ht]; exact hP9, hD9, (by omega)⟩⟩, hS.F ht⟩) hS.2.2 dX1_begin_198
  by_cases k_20 : x = 17
  · subst k_20
    refine lv_tableIn (off := 179) (tgt := 197) hx hb dX1_begin_18 (by decide) (by decide) (by decide) (by decide) ?_
    refine lv_iconst (v := 0) hx hb dX1_begin_197 (by decide) ?_
    have hP9 := hP.sub (ws' := [(k9, .inr (1, [.ref tc, .int (nI zn_2), .int nu, .int ki, .int ce, .int lo])), (tc, .inl (cI, 16, .inl ftn_2))]) [0, 1] rfl
    have hD9 := hD.sub (ws' := [(k9, .inr (1, [.ref tc, .int (nI zn_2), .int nu, .int ki, .int ce, .int lo])), (tc, .inl (cI, 16, .inl ftn_2))]) [0, 1] (by decide) rfl
    exact W.iret (v := 0) hx hb hr (fun t ht hW => ⟨⟨0, (), rfl, trivial, ⟨zn_2, ftn_2, by rw [ht]; exact hP9, hD9, (by omega)⟩⟩, hS.F ht⟩) hS.2.2 dX1_begin_198
  by_cases k_21 : x = 18
  · subst k_21
    refine lv_tableIn (off := 179) (tgt := 197) hx hb dX1_begin_18 (by decide) (by decide) (by decide) (by decide) ?_
    refine lv_iconst (v := 0) hx hb dX1_begin_197 (by decide) ?_
    have hP9 := hP.sub (ws' := [(k9, .inr (1, [.ref tc, .int (nI zn_2), .int nu, .int ki, .int ce, .int lo])), (tc, .inl (cI, 16, .inl ftn_2))]) [0, 1] rfl
    have hD9 := hD.sub (ws' := [(k9, .inr (1, [.ref tc, .int (nI zn_2), .int nu, .int ki, .int ce, .int lo])), (tc, .inl (cI, 16, .inl ftn_2))]) [0, 1] (by decide) rfl
    exact W.iret (v := 0) hx hb hr (fun t ht hW => ⟨⟨0, (), rfl, trivial, ⟨zn_2, ftn_2, by rw [ht]; exact hP9, hD9, (by omega)⟩⟩, hS.F ht⟩) hS.2.2 dX1_begin_198
  by_cases k_22 : x = 19
  · subst k_22
    refine lv_tableIn (off := 179) (tgt := 197) hx hb dX1_begin_18 (by decide) (by decide) (by decide) (by decide) ?_
    refine lv_iconst (v := 0) hx hb dX1_begin_197 (by decide) ?_
    have hP9 := hP.sub (ws' := [(k9, .inr (1, [.ref tc, .int (nI zn_2), .int nu, .int ki, .int ce, .int lo])), (tc, .inl (cI, 16, .inl ftn_2))]) [0, 1] rfl
    have hD9 := hD.sub (ws' := [(k9, .inr (1, [.ref tc, .int (nI zn_2), .int nu, .int ki, .int ce, .int lo])), (tc, .inl (cI, 16, .inl ftn_2))]) [0, 1] (by decide) rfl
    exact W.iret (v := 0) hx hb hr (fun t ht hW => ⟨⟨0, (), rfl, trivial, ⟨zn_2, ftn_2, by rw [ht]; exact hP9, hD9, (by omega)⟩⟩, hS.F ht⟩) hS.2.2 dX1_begin_198
  by_cases k_23 : x = 20
  · subst k_23
    refine lv_tableIn (off := 124) (tgt := 142) hx hb dX1_begin_18 (by decide) (by decide) (by decide) (by decide) ?_
    refine lv_aload_n hx hb dX1_begin_142 rfl (lv_at hl 1 rfl) ?_
    refine va_get (D := (dC, dI)) (ci := 1) (v := .int nu) (C := RX1) (T := TX1) (N := 6) hx hb hts i_X1_begin_X1 hown hK hP 0 rfl rfl 2 (by decide) (hts (.fieldLink RX1 19 "MillTalk$Asks" "number" "I") (by decide +kernel)) (fun _ h9 => h9) rfl dX1_begin_143 ?_
    have hP9 := hP.sub (ws' := [(k9, .inr (1, [.ref tc, .int (nI zn_2), .int nu, .int ki, .int ce, .int lo])), (tc, .inl (cI, 16, .inl ftn_2))]) [0, 1] rfl
    have hD9 := hD.sub (ws' := [(k9, .inr (1, [.ref tc, .int (nI zn_2), .int nu, .int ki, .int ce, .int lo])), (tc, .inl (cI, 16, .inl ftn_2))]) [0, 1] (by decide) rfl
    exact W.iret (v := nu) hx hb hr (fun t ht hW => ⟨⟨nu, (), rfl, trivial, ⟨zn_2, ftn_2, by rw [ht]; exact hP9, hD9, (by omega)⟩⟩, hS.F ht⟩) hS.2.2 dX1_begin_146
  by_cases k_24 : x = 21
  · subst k_24
    refine lv_tableIn (off := 129) (tgt := 147) hx hb dX1_begin_18 (by decide) (by decide) (by decide) (by decide) ?_
    refine lv_aload_n hx hb dX1_begin_147 rfl (lv_at hl 1 rfl) ?_
    refine lv_bipush (v := 20) hx hb dX1_begin_148 (by decide) ?_
    refine lv_iload_n hx hb dX1_begin_150 rfl (lv_at hl 0 rfl) ?_
    have hPc_25 := hP.sub (ws' := [(k9, .inr (1, [.ref tc, .int (nI zn_2), .int nu, .int ki, .int ce, .int lo])), (tc, .inl (cI, 16, .inl ftn_2))]) [0, 1] rfl
    have hDc_25 := hD.sub (ws' := [(k9, .inr (1, [.ref tc, .int (nI zn_2), .int nu, .int ki, .int ce, .int lo])), (tc, .inl (cI, 16, .inl ftn_2))]) [0, 1] (by decide) rfl
    have hFc_25 := va_free (wc := [(k9, .inr (1, [.ref tc, .int (nI zn_2), .int nu, .int ki, .int ce, .int lo])), (tc, .inl (cI, 16, .inl ftn_2))]) hD hS hA [0, 1] rfl
    refine va_calli (va_runV (As := [.int 20, .int 2]) (rest := []) ⟨hx, hb, hml, hown, hts⟩ (r_X1_begin_2 l dC dI cI cZ cL cJ H.size k9 tc zn_2 nu ki ce lo ftn_2 20 (by omega)) (cwV 2 hts gX1_begin_X1_begin rfl rfl rfl (by decide +kernel) ⟨Nat.le_of_ble_eq_true rfl, Nat.le_of_ble_eq_true rfl⟩) ⟨fun a U g mk q => by obtain ⟨q0, q1, qP, qK, qD, qS⟩ := q; exact ⟨q0, q1, qP, va_K.moved (u := U) (U := U.calling g mk a) (Vm.Alike.refl U.vm) qK, qD, stt_same rfl qS⟩, va_recv hK hP (ci := 1) (q0 := 0) rfl rfl, fun U hU hW => ⟨rfl, by rw [hU], by rw [hU]; exact hPc_25, va_K.moved hW.alike hK, hDc_25.weaken (fun _ _ _ _ => trivial), by rw [hU]; exact stt_warm hW (stt_narrow (stt_kept hst hS.2.1) hFc_25)⟩⟩ rfl rfl hl.1 rfl (lv_room (Nat.le_of_ble_eq_true rfl)) dX1_begin_151 ⟨Nat.le_of_ble_eq_true rfl, Nat.le_of_ble_eq_true rfl⟩) hS (fun q _ h => hFc_25 q h) hFc_25 (fun r_25 u_25 t_25 H1 locs ht hvm h_25 hB hz1 hk1 hS => ?_)
    obtain ⟨zn_25, ftn_25, hP1, hD1, hF_25_0⟩ := hB
    rw [ht] at hP1
    obtain ⟨hP, hD⟩ := va_join (wr := []) (w1 := [(k9, .inr (1, [.ref tc, .int (nI zn_25), .int nu, .int ki, .int ce, .int lo])), (tc, .inl (cI, 16, .inl ftn_25))]) hP hD [0, 1] [] rfl rfl (by decide) (by decide) hk1 hFc_25 hP1 hD1
    generalize H1 = H at hP hS ⊢
    have hP : va_P (dC, dI) vwCl [(k9, .inr (1, [.ref tc, .int (nI zn_25), .int nu, .int ki, .int ce, .int lo])), (tc, .inl (cI, 16, .inl ftn_25))] H := hP
    have hD : va_D A [(k9, .inr (1, [.ref tc, .int (nI zn_25), .int nu, .int ki, .int ce, .int lo])), (tc, .inl (cI, 16, .inl ftn_25))] := hD
    refine lv_aload_n hx hb dX1_begin_154 rfl (lv_at hl 1 rfl) ?_
    refine va_get (D := (dC, dI)) (ci := 1) (v := .int ce) (C := RX1) (T := TX1) (N := 6) hx hb hts i_X1_begin_X1 hown hK hP 0 rfl rfl 4 (by decide) (hts (.fieldLink RX1 33 "MillTalk$Asks" "cell" "I") (by decide +kernel)) (fun _ h9 => h9) rfl dX1_begin_155 ?_
    refine lv_iadd hx hb dX1_begin_158 ?_
    refine lv_topi (fun v_26 e_26 => ?_)
    have hP9 := hP.sub (ws' := [(k9, .inr (1, [.ref tc, .int (nI zn_25), .int nu, .int ki, .int ce, .int lo])), (tc, .inl (cI, 16, .inl ftn_25))]) [0, 1] rfl
    have hD9 := hD.sub (ws' := [(k9, .inr (1, [.ref tc, .int (nI zn_25), .int nu, .int ki, .int ce, .int lo])), (tc, .inl (cI, 16, .inl ftn_25))]) [0, 1] (by decide) rfl
    exact W.iret (v := v_26) hx hb hr (fun t ht hW => ⟨⟨v_26, (), rfl, trivial, ⟨zn_25, ftn_25, by rw [ht]; exact hP9, hD9, (by omega)⟩⟩, hS.F ht⟩) hS.2.2 dX1_begin_159
  by_cases k_27 : x = 22
  · subst k_27
    refine lv_tableIn (off := 142) (tgt := 160) hx hb dX1_begin_18 (by decide) (by decide) (by decide) (by decide) ?_
    refine lv_aload_n hx hb dX1_begin_160 rfl (lv_at hl 1 rfl) ?_
    refine lv_bipush (v := 21) hx hb dX1_begin_161 (by decide) ?_
    refine lv_iload_n hx hb dX1_begin_163 rfl (lv_at hl 0 rfl) ?_
    have hPc_28 := hP.sub (ws' := [(k9, .inr (1, [.ref tc, .int (nI zn_2), .int nu, .int ki, .int ce, .int lo])), (tc, .inl (cI, 16, .inl ftn_2))]) [0, 1] rfl
    have hDc_28 := hD.sub (ws' := [(k9, .inr (1, [.ref tc, .int (nI zn_2), .int nu, .int ki, .int ce, .int lo])), (tc, .inl (cI, 16, .inl ftn_2))]) [0, 1] (by decide) rfl
    have hFc_28 := va_free (wc := [(k9, .inr (1, [.ref tc, .int (nI zn_2), .int nu, .int ki, .int ce, .int lo])), (tc, .inl (cI, 16, .inl ftn_2))]) hD hS hA [0, 1] rfl
    refine va_calli (va_runV (As := [.int 21, .int 2]) (rest := []) ⟨hx, hb, hml, hown, hts⟩ (r_X1_begin_2 l dC dI cI cZ cL cJ H.size k9 tc zn_2 nu ki ce lo ftn_2 21 (by omega)) (cwV 2 hts gX1_begin_X1_begin rfl rfl rfl (by decide +kernel) ⟨Nat.le_of_ble_eq_true rfl, Nat.le_of_ble_eq_true rfl⟩) ⟨fun a U g mk q => by obtain ⟨q0, q1, qP, qK, qD, qS⟩ := q; exact ⟨q0, q1, qP, va_K.moved (u := U) (U := U.calling g mk a) (Vm.Alike.refl U.vm) qK, qD, stt_same rfl qS⟩, va_recv hK hP (ci := 1) (q0 := 0) rfl rfl, fun U hU hW => ⟨rfl, by rw [hU], by rw [hU]; exact hPc_28, va_K.moved hW.alike hK, hDc_28.weaken (fun _ _ _ _ => trivial), by rw [hU]; exact stt_warm hW (stt_narrow (stt_kept hst hS.2.1) hFc_28)⟩⟩ rfl rfl hl.1 rfl (lv_room (Nat.le_of_ble_eq_true rfl)) dX1_begin_164 ⟨Nat.le_of_ble_eq_true rfl, Nat.le_of_ble_eq_true rfl⟩) hS (fun q _ h => hFc_28 q h) hFc_28 (fun r_28 u_28 t_28 H1 locs ht hvm h_28 hB hz1 hk1 hS => ?_)
    obtain ⟨zn_28, ftn_28, hP1, hD1, hF_28_0⟩ := hB
    rw [ht] at hP1
    obtain ⟨hP, hD⟩ := va_join (wr := []) (w1 := [(k9, .inr (1, [.ref tc, .int (nI zn_28), .int nu, .int ki, .int ce, .int lo])), (tc, .inl (cI, 16, .inl ftn_28))]) hP hD [0, 1] [] rfl rfl (by decide) (by decide) hk1 hFc_28 hP1 hD1
    generalize H1 = H at hP hS ⊢
    have hP : va_P (dC, dI) vwCl [(k9, .inr (1, [.ref tc, .int (nI zn_28), .int nu, .int ki, .int ce, .int lo])), (tc, .inl (cI, 16, .inl ftn_28))] H := hP
    have hD : va_D A [(k9, .inr (1, [.ref tc, .int (nI zn_28), .int nu, .int ki, .int ce, .int lo])), (tc, .inl (cI, 16, .inl ftn_28))] := hD
    refine lv_sipush (v := 1000) hx hb dX1_begin_167 (by decide) ?_
    refine lv_isub hx hb dX1_begin_170 ?_
    refine lv_topi (fun v_29 e_29 => ?_)
    have hP9 := hP.sub (ws' := [(k9, .inr (1, [.ref tc, .int (nI zn_28), .int nu, .int ki, .int ce, .int lo])), (tc, .inl (cI, 16, .inl ftn_28))]) [0, 1] rfl
    have hD9 := hD.sub (ws' := [(k9, .inr (1, [.ref tc, .int (nI zn_28), .int nu, .int ki, .int ce, .int lo])), (tc, .inl (cI, 16, .inl ftn_28))]) [0, 1] (by decide) rfl
    exact W.iret (v := v_29) hx hb hr (fun t ht hW => ⟨⟨v_29, (), rfl, trivial, ⟨zn_28, ftn_28, by rw [ht]; exact hP9, hD9, (by omega)⟩⟩, hS.F ht⟩) hS.2.2 dX1_begin_171
  by_cases k_30 : x = 23
  · subst k_30
    refine lv_tableIn (off := 154) (tgt := 172) hx hb dX1_begin_18 (by decide) (by decide) (by decide) (by decide) ?_
    refine lv_aload_n hx hb dX1_begin_172 rfl (lv_at hl 1 rfl) ?_
    refine lv_bipush (v := 20) hx hb dX1_begin_173 (by decide) ?_
    refine lv_iload_n hx hb dX1_begin_175 rfl (lv_at hl 0 rfl) ?_
    have hPc_31 := hP.sub (ws' := [(k9, .inr (1, [.ref tc, .int (nI zn_2), .int nu, .int ki, .int ce, .int lo])), (tc, .inl (cI, 16, .inl ftn_2))]) [0, 1] rfl
    have hDc_31 := hD.sub (ws' := [(k9, .inr (1, [.ref tc, .int (nI zn_2), .int nu, .int ki, .int ce, .int lo])), (tc, .inl (cI, 16, .inl ftn_2))]) [0, 1] (by decide) rfl
    have hFc_31 := va_free (wc := [(k9, .inr (1, [.ref tc, .int (nI zn_2), .int nu, .int ki, .int ce, .int lo])), (tc, .inl (cI, 16, .inl ftn_2))]) hD hS hA [0, 1] rfl
    refine va_calli (va_runV (As := [.int 20, .int 2]) (rest := []) ⟨hx, hb, hml, hown, hts⟩ (r_X1_begin_2 l dC dI cI cZ cL cJ H.size k9 tc zn_2 nu ki ce lo ftn_2 20 (by omega)) (cwV 2 hts gX1_begin_X1_begin rfl rfl rfl (by decide +kernel) ⟨Nat.le_of_ble_eq_true rfl, Nat.le_of_ble_eq_true rfl⟩) ⟨fun a U g mk q => by obtain ⟨q0, q1, qP, qK, qD, qS⟩ := q; exact ⟨q0, q1, qP, va_K.moved (u := U) (U := U.calling g mk a) (Vm.Alike.refl U.vm) qK, qD, stt_same rfl qS⟩, va_recv hK hP (ci := 1) (q0 := 0) rfl rfl, fun U hU hW => ⟨rfl, by rw [hU], by rw [hU]; exact hPc_31, va_K.moved hW.alike hK, hDc_31.weaken (fun _ _ _ _ => trivial), by rw [hU]; exact stt_warm hW (stt_narrow (stt_kept hst hS.2.1) hFc_31)⟩⟩ rfl rfl hl.1 rfl (lv_room (Nat.le_of_ble_eq_true rfl)) dX1_begin_176 ⟨Nat.le_of_ble_eq_true rfl, Nat.le_of_ble_eq_true rfl⟩) hS (fun q _ h => hFc_31 q h) hFc_31 (fun r_31 u_31 t_31 H1 locs ht hvm h_31 hB hz1 hk1 hS => ?_)
    obtain ⟨zn_31, ftn_31, hP1, hD1, hF_31_0⟩ := hB
    rw [ht] at hP1
    obtain ⟨hP, hD⟩ := va_join (wr := []) (w1 := [(k9, .inr (1, [.ref tc, .int (nI zn_31), .int nu, .int ki, .int ce, .int lo])), (tc, .inl (cI, 16, .inl ftn_31))]) hP hD [0, 1] [] rfl rfl (by decide) (by decide) hk1 hFc_31 hP1 hD1
    generalize H1 = H at hP hS ⊢
    have hP : va_P (dC, dI) vwCl [(k9, .inr (1, [.ref tc, .int (nI zn_31), .int nu, .int ki, .int ce, .int lo])), (tc, .inl (cI, 16, .inl ftn_31))] H := hP
    have hD : va_D A [(k9, .inr (1, [.ref tc, .int (nI zn_31), .int nu, .int ki, .int ce, .int lo])), (tc, .inl (cI, 16, .inl ftn_31))] := hD
    refine lv_aload_n hx hb dX1_begin_179 rfl (lv_at hl 1 rfl) ?_
    refine lv_iconst (v := 0) hx hb dX1_begin_180 (by decide) ?_
    refine lv_iload_n hx hb dX1_begin_181 rfl (lv_at hl 0 rfl) ?_
    have hPc_32 := hP.sub (ws' := [(k9, .inr (1, [.ref tc, .int (nI zn_31), .int nu, .int ki, .int ce, .int lo])), (tc, .inl (cI, 16, .inl ftn_31))]) [0, 1] rfl
    have hDc_32 := hD.sub (ws' := [(k9, .inr (1, [.ref tc, .int (nI zn_31), .int nu, .int ki, .int ce, .int lo])), (tc, .inl (cI, 16, .inl ftn_31))]) [0, 1] (by decide) rfl
    have hFc_32 := va_free (wc := [(k9, .inr (1, [.ref tc, .int (nI zn_31), .int nu, .int ki, .int ce, .int lo])), (tc, .inl (cI, 16, .inl ftn_31))]) hD hS hA [0, 1] rfl
    refine va_calli (va_runV (As := [.int 0, .int 2]) (rest := [.int r_31]) ⟨hx, hb, hml, hown, hts⟩ (r_X1_askAnew_2 l dC dI cI cZ cL cJ H.size k9 tc zn_31 nu ki ce lo ftn_31 0 (by omega)) (cwV 2 hts gX1_begin_X1_askAnew rfl rfl rfl (by decide +kernel) ⟨Nat.le_of_ble_eq_true rfl, Nat.le_of_ble_eq_true rfl⟩) ⟨fun a U g mk q => by obtain ⟨q0, q1, qP, qK, qD, qS⟩ := q; exact ⟨q0, q1, qP, va_K.moved (u := U) (U := U.calling g mk a) (Vm.Alike.refl U.vm) qK, qD, stt_same rfl qS⟩, va_recv hK hP (ci := 1) (q0 := 0) rfl rfl, fun U hU hW => ⟨rfl, by rw [hU], by rw [hU]; exact hPc_32, va_K.moved hW.alike hK, hDc_32.weaken (fun _ _ _ _ => trivial), by rw [hU]; exact stt_warm hW (stt_narrow (stt_kept hst hS.2.1) hFc_32)⟩⟩ rfl rfl hl.1 rfl (lv_room (Nat.le_of_ble_eq_true rfl)) dX1_begin_182 ⟨Nat.le_of_ble_eq_true rfl, Nat.le_of_ble_eq_true rfl⟩) hS (fun q _ h => hFc_32 q h) hFc_32 (fun r_32 u_32 t_32 H1 locs ht hvm h_32 hB hz1 hk1 hS => ?_)
    obtain ⟨zn_32, ftn_32, hP1, hD1, hF_32_0⟩ := hB
    rw [ht] at hP1
    obtain ⟨hP, hD⟩ := va_join (wr := []) (w1 := [(k9, .inr (1, [.ref tc, .int (nI zn_32), .int nu, .int ki, .int ce, .int lo])), (tc, .inl (cI, 16, .inl ftn_32))]) hP hD [0, 1] [] rfl rfl (by decide) (by decide) hk1 hFc_32 hP1 hD1
    generalize H1 = H at hP hS ⊢
    have hP : va_P (dC, dI) vwCl [(k9, .inr (1, [.ref tc, .int (nI zn_32), .int nu, .int ki, .int ce, .int lo])), (tc, .inl (cI, 16, .inl ftn_32))] H := hP
    have hD : va_D A [(k9, .inr (1, [.ref tc, .int (nI zn_32), .int nu, .int ki, .int ce, .int lo])), (tc, .inl (cI, 16, .inl ftn_32))] := hD
    refine lv_isub hx hb dX1_begin_185 ?_
    refine lv_topi (fun v_33 e_33 => ?_)
    have hP9 := hP.sub (ws' := [(k9, .inr (1, [.ref tc, .int (nI zn_32), .int nu, .int ki, .int ce, .int lo])), (tc, .inl (cI, 16, .inl ftn_32))]) [0, 1] rfl
    have hD9 := hD.sub (ws' := [(k9, .inr (1, [.ref tc, .int (nI zn_32), .int nu, .int ki, .int ce, .int lo])), (tc, .inl (cI, 16, .inl ftn_32))]) [0, 1] (by decide) rfl
    exact W.iret (v := v_33) hx hb hr (fun t ht hW => ⟨⟨v_33, (), rfl, trivial, ⟨zn_32, ftn_32, by rw [ht]; exact hP9, hD9, (by omega)⟩⟩, hS.F ht⟩) hS.2.2 dX1_begin_186
  by_cases k_34 : x = 24
  · subst k_34
    refine lv_tableIn (off := 169) (tgt := 187) hx hb dX1_begin_18 (by decide) (by decide) (by decide) (by decide) ?_
    refine lv_aload_n hx hb dX1_begin_187 rfl (lv_at hl 1 rfl) ?_
    refine lv_bipush (v := 21) hx hb dX1_begin_188 (by decide) ?_
    refine lv_iload_n hx hb dX1_begin_190 rfl (lv_at hl 0 rfl) ?_
    have hPc_35 := hP.sub (ws' := [(k9, .inr (1, [.ref tc, .int (nI zn_2), .int nu, .int ki, .int ce, .int lo])), (tc, .inl (cI, 16, .inl ftn_2))]) [0, 1] rfl
    have hDc_35 := hD.sub (ws' := [(k9, .inr (1, [.ref tc, .int (nI zn_2), .int nu, .int ki, .int ce, .int lo])), (tc, .inl (cI, 16, .inl ftn_2))]) [0, 1] (by decide) rfl
    have hFc_35 := va_free (wc := [(k9, .inr (1, [.ref tc, .int (nI zn_2), .int nu, .int ki, .int ce, .int lo])), (tc, .inl (cI, 16, .inl ftn_2))]) hD hS hA [0, 1] rfl
    refine va_calli (va_runV (As := [.int 21, .int 2]) (rest := []) ⟨hx, hb, hml, hown, hts⟩ (r_X1_begin_2 l dC dI cI cZ cL cJ H.size k9 tc zn_2 nu ki ce lo ftn_2 21 (by omega)) (cwV 2 hts gX1_begin_X1_begin rfl rfl rfl (by decide +kernel) ⟨Nat.le_of_ble_eq_true rfl, Nat.le_of_ble_eq_true rfl⟩) ⟨fun a U g mk q => by obtain ⟨q0, q1, qP, qK, qD, qS⟩ := q; exact ⟨q0, q1, qP, va_K.moved (u := U) (U := U.calling g mk a) (Vm.Alike.refl U.vm) qK, qD, stt_same rfl qS⟩, va_recv hK hP (ci := 1) (q0 := 0) rfl rfl, fun U hU hW => ⟨rfl, by rw [hU], by rw [hU]; exact hPc_35, va_K.moved hW.alike hK, hDc_35.weaken (fun _ _ _ _ => trivial), by rw [hU]; exact stt_warm hW (stt_narrow (stt_kept hst hS.2.1) hFc_35)⟩⟩ rfl rfl hl.1 rfl (lv_room (Nat.le_of_ble_eq_true rfl)) dX1_begin_191 ⟨Nat.le_of_ble_eq_true rfl, Nat.le_of_ble_eq_true rfl⟩) hS (fun q _ h => hFc_35 q h) hFc_35 (fun r_35 u_35 t_35 H1 locs ht hvm h_35 hB hz1 hk1 hS => ?_)
    obtain ⟨zn_35, ftn_35, hP1, hD1, hF_35_0⟩ := hB
    rw [ht] at hP1
    obtain ⟨hP, hD⟩ := va_join (wr := []) (w1 := [(k9, .inr (1, [.ref tc, .int (nI zn_35), .int nu, .int ki, .int ce, .int lo])), (tc, .inl (cI, 16, .inl ftn_35))]) hP hD [0, 1] [] rfl rfl (by decide) (by decide) hk1 hFc_35 hP1 hD1
    generalize H1 = H at hP hS ⊢
    have hP : va_P (dC, dI) vwCl [(k9, .inr (1, [.ref tc, .int (nI zn_35), .int nu, .int ki, .int ce, .int lo])), (tc, .inl (cI, 16, .inl ftn_35))] H := hP
    have hD : va_D A [(k9, .inr (1, [.ref tc, .int (nI zn_35), .int nu, .int ki, .int ce, .int lo])), (tc, .inl (cI, 16, .inl ftn_35))] := hD
    refine lv_iconst (v := 2) hx hb dX1_begin_194 (by decide) ?_
    refine lv_imul hx hb dX1_begin_195 ?_
    refine lv_topi (fun v_36 e_36 => ?_)
    have hP9 := hP.sub (ws' := [(k9, .inr (1, [.ref tc, .int (nI zn_35), .int nu, .int ki, .int ce, .int lo])), (tc, .inl (cI, 16, .inl ftn_35))]) [0, 1] rfl
    have hD9 := hD.sub (ws' := [(k9, .inr (1, [.ref tc, .int (nI zn_35), .int nu, .int ki, .int ce, .int lo])), (tc, .inl (cI, 16, .inl ftn_35))]) [0, 1] (by decide) rfl
    exact W.iret (v := v_36) hx hb hr (fun t ht hW => ⟨⟨v_36, (), rfl, trivial, ⟨zn_35, ftn_35, by rw [ht]; exact hP9, hD9, (by omega)⟩⟩, hS.F ht⟩) hS.2.2 dX1_begin_196
  have kT_4 := lv_neT k_4 (show (10 : Int32).toInt = 10 from rfl)
  have kT_5 := lv_neT k_5 (show (11 : Int32).toInt = 11 from rfl)
  have kT_9 := lv_neT k_9 (show (12 : Int32).toInt = 12 from rfl)
  have kT_12 := lv_neT k_12 (show (13 : Int32).toInt = 13 from rfl)
  have kT_15 := lv_neT k_15 (show (14 : Int32).toInt = 14 from rfl)
  have kT_18 := lv_neT k_18 (show (15 : Int32).toInt = 15 from rfl)
  have kT_19 := lv_neT k_19 (show (16 : Int32).toInt = 16 from rfl)
  have kT_20 := lv_neT k_20 (show (17 : Int32).toInt = 17 from rfl)
  have kT_21 := lv_neT k_21 (show (18 : Int32).toInt = 18 from rfl)
  have kT_22 := lv_neT k_22 (show (19 : Int32).toInt = 19 from rfl)
  have kT_23 := lv_neT k_23 (show (20 : Int32).toInt = 20 from rfl)
  have kT_24 := lv_neT k_24 (show (21 : Int32).toInt = 21 from rfl)
  have kT_27 := lv_neT k_27 (show (22 : Int32).toInt = 22 from rfl)
  have kT_30 := lv_neT k_30 (show (23 : Int32).toInt = 23 from rfl)
  have kT_34 := lv_neT k_34 (show (24 : Int32).toInt = 24 from rfl)
  refine lv_tableOut (tgt := 197) hx hb dX1_begin_18 (by omega) (by decide) ?_
  refine lv_iconst (v := 0) hx hb dX1_begin_197 (by decide) ?_
  have hP9 := hP.sub (ws' := [(k9, .inr (1, [.ref tc, .int (nI zn_2), .int nu, .int ki, .int ce, .int lo])), (tc, .inl (cI, 16, .inl ftn_2))]) [0, 1] rfl
  have hD9 := hD.sub (ws' := [(k9, .inr (1, [.ref tc, .int (nI zn_2), .int nu, .int ki, .int ce, .int lo])), (tc, .inl (cI, 16, .inl ftn_2))]) [0, 1] (by decide) rfl
  exact W.iret (v := 0) hx hb hr (fun t ht hW => ⟨⟨0, (), rfl, trivial, ⟨zn_2, ftn_2, by rw [ht]; exact hP9, hD9, (by omega)⟩⟩, hS.F ht⟩) hS.2.2 dX1_begin_198
set_option maxHeartbeats 4000000 in
set_option maxRecDepth 100000 in
theorem r_X1_askAnew_1 (l : Launch) (dC : Nat → ClassId) (dI : Nat → Nat → Nat) (cI cZ cL cJ : ClassId) (sz : Nat) (k9 : Nat) (tc : Nat) (z : Nat) (nu : Int32) (ki : Int32) (ce : Int32) (lo : Int32) (ft : Nat → Int32) (x : Int32) (hz : z ≤ 16) : Met l yX1_askAnew wsX1_askAnew ({ frames := 31, cells := 0, slots := 0, locals := 699 }) (va_Pc [.ref k9, .int x, .int 1] (fun U => U.heap.size = sz ∧ va_P (dC, dI) vwCl [(k9, .inr (1, [.ref tc, .int (nI z), .int nu, .int ki, .int ce, .int lo])), (tc, .inl (cI, 16, .inl ft))] U.heap ∧ va_K (dC, dI) vwCl [(cI, .int), (cZ, .boolean), (cL, .object RX3), (cJ, .array .int)] U ∧ va_D (fun _ => True) [(k9, .inr (1, [.ref tc, .int (nI z), .int nu, .int ki, .int ce, .int lo])), (tc, .inl (cI, 16, .inl ft))] ∧ stt (va_A [(k9, .inr (1, [.ref tc, .int (nI z), .int nu, .int ki, .int ce, .int lo])), (tc, .inl (cI, 16, .inl ft))] sz) U U.heap)) (va_Qi (fun r (_ : Unit) => True) (fun (_ : Unit) t => ∃ (zn : Nat) (ftn : Nat → Int32), va_P (dC, dI) vwCl [(k9, .inr (1, [.ref tc, .int (nI zn), .int nu, .int ki, .int ce, .int lo])), (tc, .inl (cI, 16, .inl ftn))] t.heap ∧ va_D (va_A [(k9, .inr (1, [.ref tc, .int (nI z), .int nu, .int ki, .int ce, .int lo])), (tc, .inl (cI, 16, .inl ft))] sz) [(k9, .inr (1, [.ref tc, .int (nI zn), .int nu, .int ki, .int ce, .int lo])), (tc, .inl (cI, 16, .inl ftn))] ∧ zn ≤ 16) (va_A [(k9, .inr (1, [.ref tc, .int (nI z), .int nu, .int ki, .int ce, .int lo])), (tc, .inl (cI, 16, .inl ft))] sz)) 0 0 (va_A [(k9, .inr (1, [.ref tc, .int (nI z), .int nu, .int ki, .int ce, .int lo])), (tc, .inl (cI, 16, .inl ft))] sz) := by
  refine Met.ofW (cc := cX1_askAnew) (maxL := 3) (ret := (some .int)) (by decide) rfl ?_
  intro p e s m args below meth c s₁ B hml hv
  obtain ⟨rfl, hsz, hP, hK, hD0, hst⟩ := hv
  have hx := B.exec
  have hb := B.bytes
  have hr := B.returns
  have hts := atoms_spec (ws := wsX1_askAnew) B.pre
  have hown : s.vm.findClass RX1 = some m.cls := findClass_of_methodNamed B.named
  have hlocks := B.notSynchronized
  subst hsz
  have hD := hD0.self (sz := s.heap.size)
  generalize hAe : va_A [(k9, .inr (1, [.ref tc, .int (nI z), .int nu, .int ki, .int ce, .int lo])), (tc, .inl (cI, 16, .inl ft))] s.heap.size = A at hD hst ⊢
  have hA : ∀ q : Nat, s.heap.size ≤ q → A q := fun q h => by rw [← hAe]; exact Or.inr h
  have hS : va_S A s.heap s.heap [] := va_S.rf
  have hP : va_P (dC, dI) vwCl [(k9, .inr (1, [.ref tc, .int (nI z), .int nu, .int ki, .int ce, .int lo])), (tc, .inl (cI, 16, .inl ft))] s.heap := hP
  obtain ⟨⟨tb1, hZ1, hT1⟩, ⟨tb2, hZ2, hT2⟩, ⟨tb3, hZ3, hT3⟩, hNk⟩ := id hst
  have hl := lv_entry ([.ref k9, .int x, .int 1]) (n := 3) (Nat.le_of_ble_eq_true rfl)
  rw [lg_entry_eq]
  generalize (lg_sl ([.ref k9, .int x, .int 1]) ++ List.replicate (3 - (lg_sl ([.ref k9, .int x, .int 1])).length) Slot.unset).toArray = ls at hl ⊢
  have hl : lv_has ls 3 [(0, .ref k9), (1, .int x), (2, .int 1)] := hl
  refine lv_aload_n hx hb dX1_askAnew_0 rfl (lv_at hl 0 rfl) ?_
  refine lv_aload_n hx hb dX1_askAnew_1 rfl (lv_at hl 0 rfl) ?_
  refine lv_iload_n hx hb dX1_askAnew_2 rfl (lv_at hl 1 rfl) ?_
  have hPc_1 := hP.sub (ws' := [(k9, .inr (1, [.ref tc, .int (nI z), .int nu, .int ki, .int ce, .int lo]))]) [0] rfl
  refine vp_callSi (W.runV (As := [.int x]) (rest := [.ref k9]) ⟨hx, hb, hml, hown, hts⟩ (r_X1_bodyFor l dC dI cI cZ cL cJ k9 tc z nu ki ce lo x ) (cwV 1 hts gX1_askAnew_X1_bodyFor rfl rfl rfl (by decide +kernel) ⟨Nat.le_of_ble_eq_true rfl, Nat.le_of_ble_eq_true rfl⟩) ⟨fun a U g mk q => by obtain ⟨q0, qP, qK, qS⟩ := q; exact ⟨q0, qP, va_K.moved (u := U) (U := U.calling g mk a) (Vm.Alike.refl U.vm) qK, stt_same rfl qS⟩, va_recv hK hP (ci := 1) (q0 := 0) rfl rfl, fun U hU hW => ⟨rfl, by rw [hU]; exact hPc_1, va_K.moved hW.alike hK, by rw [hU]; exact stt_warm hW (stt_narrow (stt_kept hst hS.2.1) (fun _ h => h.elim))⟩⟩ rfl rfl hl.1 rfl (lv_room (Nat.le_of_ble_eq_true rfl)) dX1_askAnew_3 ⟨Nat.le_of_ble_eq_true rfl, Nat.le_of_ble_eq_true rfl⟩) (fun r_1 h_1 => ?_)
  refine lv_iload_n hx hb dX1_askAnew_6 rfl (lv_at hl 2 rfl) ?_
  have hPc_2 := hP.sub (ws' := [(k9, .inr (1, [.ref tc, .int (nI z), .int nu, .int ki, .int ce, .int lo])), (tc, .inl (cI, 16, .inl ft))]) [0, 1] rfl
  have hDc_2 := hD.sub (ws' := [(k9, .inr (1, [.ref tc, .int (nI z), .int nu, .int ki, .int ce, .int lo])), (tc, .inl (cI, 16, .inl ft))]) [0, 1] (by decide) rfl
  have hFc_2 := va_free (wc := [(k9, .inr (1, [.ref tc, .int (nI z), .int nu, .int ki, .int ce, .int lo])), (tc, .inl (cI, 16, .inl ft))]) hD hS hA [0, 1] rfl
  refine va_calli (va_runV (As := [.int r_1, .int 1]) (rest := []) ⟨hx, hb, hml, hown, hts⟩ (r_X1_begin_1 l dC dI cI cZ cL cJ s.heap.size k9 tc z nu ki ce lo ft r_1 (by omega)) (cwV 2 hts gX1_askAnew_X1_begin rfl rfl rfl (by decide +kernel) ⟨Nat.le_of_ble_eq_true rfl, Nat.le_of_ble_eq_true rfl⟩) ⟨fun a U g mk q => by obtain ⟨q0, q1, qP, qK, qD, qS⟩ := q; exact ⟨q0, q1, qP, va_K.moved (u := U) (U := U.calling g mk a) (Vm.Alike.refl U.vm) qK, qD, stt_same rfl qS⟩, va_recv hK hP (ci := 1) (q0 := 0) rfl rfl, fun U hU hW => ⟨rfl, by rw [hU], by rw [hU]; exact hPc_2, va_K.moved hW.alike hK, hDc_2.weaken (fun _ _ _ _ => trivial), by rw [hU]; exact stt_warm hW (stt_narrow (stt_kept hst hS.2.1) hFc_2)⟩⟩ rfl rfl hl.1 rfl (lv_room (Nat.le_of_ble_eq_true rfl)) dX1_askAnew_7 ⟨Nat.le_of_ble_eq_true rfl, Nat.le_of_ble_eq_true rfl⟩) hS (fun q _ h => hFc_2 q h) hFc_2 (fun r_2 u_2 t_2 H1 locs ht hvm h_2 hB hz1 hk1 hS => ?_)
  obtain ⟨zn_2, ftn_2, hP1, hD1, hF_2_0⟩ := hB
  rw [ht] at hP1
  obtain ⟨hP, hD⟩ := va_join (wr := []) (w1 := [(k9, .inr (1, [.ref tc, .int (nI zn_2), .int nu, .int ki, .int ce, .int lo])), (tc, .inl (cI, 16, .inl ftn_2))]) hP hD [0, 1] [] rfl rfl (by decide) (by decide) hk1 hFc_2 hP1 hD1
  generalize H1 = H at hP hS ⊢
  have hP : va_P (dC, dI) vwCl [(k9, .inr (1, [.ref tc, .int (nI zn_2), .int nu, .int ki, .int ce, .int lo])), (tc, .inl (cI, 16, .inl ftn_2))] H := hP
  have hD : va_D A [(k9, .inr (1, [.ref tc, .int (nI zn_2), .int nu, .int ki, .int ce, .int lo])), (tc, .inl (cI, 16, .inl ftn_2))] := hD
  have hP9 := hP.sub (ws' := [(k9, .inr (1, [.ref tc, .int (nI zn_2), .int nu, .int ki, .int ce, .int lo])), (tc, .inl (cI, 16, .inl ftn_2))]) [0, 1] rfl
  have hD9 := hD.sub (ws' := [(k9, .inr (1, [.ref tc, .int (nI zn_2), .int nu, .int ki, .int ce, .int lo])), (tc, .inl (cI, 16, .inl ftn_2))]) [0, 1] (by decide) rfl
  exact W.iret (v := r_2) hx hb hr (fun t ht hW => ⟨⟨r_2, (), rfl, trivial, ⟨zn_2, ftn_2, by rw [ht]; exact hP9, hD9, (by omega)⟩⟩, hS.F ht⟩) hS.2.2 dX1_askAnew_10
set_option maxHeartbeats 4000000 in
set_option maxRecDepth 100000 in
theorem r_X1_begin_0 (l : Launch) (dC : Nat → ClassId) (dI : Nat → Nat → Nat) (cI cZ cL cJ : ClassId) (sz : Nat) (k9 : Nat) (tc : Nat) (z : Nat) (nu : Int32) (ki : Int32) (ce : Int32) (lo : Int32) (ft : Nat → Int32) (x : Int32) (hz : z ≤ 16) : Met l yX1_begin wsX1_begin ({ frames := 32, cells := 0, slots := 0, locals := 721 }) (va_Pc [.ref k9, .int x, .int 0] (fun U => U.heap.size = sz ∧ va_P (dC, dI) vwCl [(k9, .inr (1, [.ref tc, .int (nI z), .int nu, .int ki, .int ce, .int lo])), (tc, .inl (cI, 16, .inl ft))] U.heap ∧ va_K (dC, dI) vwCl [(cI, .int), (cZ, .boolean), (cL, .object RX3), (cJ, .array .int)] U ∧ va_D (fun _ => True) [(k9, .inr (1, [.ref tc, .int (nI z), .int nu, .int ki, .int ce, .int lo])), (tc, .inl (cI, 16, .inl ft))] ∧ stt (va_A [(k9, .inr (1, [.ref tc, .int (nI z), .int nu, .int ki, .int ce, .int lo])), (tc, .inl (cI, 16, .inl ft))] sz) U U.heap)) (va_Qi (fun r (_ : Unit) => True) (fun (_ : Unit) t => ∃ (zn : Nat) (ftn : Nat → Int32), va_P (dC, dI) vwCl [(k9, .inr (1, [.ref tc, .int (nI zn), .int nu, .int ki, .int ce, .int lo])), (tc, .inl (cI, 16, .inl ftn))] t.heap ∧ va_D (va_A [(k9, .inr (1, [.ref tc, .int (nI z), .int nu, .int ki, .int ce, .int lo])), (tc, .inl (cI, 16, .inl ft))] sz) [(k9, .inr (1, [.ref tc, .int (nI zn), .int nu, .int ki, .int ce, .int lo])), (tc, .inl (cI, 16, .inl ftn))] ∧ zn ≤ 16) (va_A [(k9, .inr (1, [.ref tc, .int (nI z), .int nu, .int ki, .int ce, .int lo])), (tc, .inl (cI, 16, .inl ft))] sz)) 0 0 (va_A [(k9, .inr (1, [.ref tc, .int (nI z), .int nu, .int ki, .int ce, .int lo])), (tc, .inl (cI, 16, .inl ft))] sz) := by
  refine Met.ofW (cc := cX1_begin) (maxL := 4) (ret := (some .int)) (by decide) rfl ?_
  intro p e s m args below meth c s₁ B hml hv
  obtain ⟨rfl, hsz, hP, hK, hD0, hst⟩ := hv
  have hx := B.exec
  have hb := B.bytes
  have hr := B.returns
  have hts := atoms_spec (ws := wsX1_begin) B.pre
  have hown : s.vm.findClass RX1 = some m.cls := findClass_of_methodNamed B.named
  have hlocks := B.notSynchronized
  subst hsz
  have hD := hD0.self (sz := s.heap.size)
  generalize hAe : va_A [(k9, .inr (1, [.ref tc, .int (nI z), .int nu, .int ki, .int ce, .int lo])), (tc, .inl (cI, 16, .inl ft))] s.heap.size = A at hD hst ⊢
  have hA : ∀ q : Nat, s.heap.size ≤ q → A q := fun q h => by rw [← hAe]; exact Or.inr h
  have hS : va_S A s.heap s.heap [] := va_S.rf
  have hP : va_P (dC, dI) vwCl [(k9, .inr (1, [.ref tc, .int (nI z), .int nu, .int ki, .int ce, .int lo])), (tc, .inl (cI, 16, .inl ft))] s.heap := hP
  obtain ⟨⟨tb1, hZ1, hT1⟩, ⟨tb2, hZ2, hT2⟩, ⟨tb3, hZ3, hT3⟩, hNk⟩ := id hst
  have hl := lv_entry ([.ref k9, .int x, .int 0]) (n := 4) (Nat.le_of_ble_eq_true rfl)
  rw [lg_entry_eq]
  generalize (lg_sl ([.ref k9, .int x, .int 0]) ++ List.replicate (4 - (lg_sl ([.ref k9, .int x, .int 0])).length) Slot.unset).toArray = ls at hl ⊢
  have hl : lv_has ls 4 [(0, .ref k9), (1, .int x), (2, .int 0)] := hl
  refine lv_iload_n hx hb dX1_begin_0 rfl (lv_at hl 2 rfl) ?_
  refine lv_bipush (v := 16) hx hb dX1_begin_1 (by decide) ?_
  refine lv_icmp_lt (tgt := 8) hx hb dX1_begin_3 (by decide) (fun _ => ?_) (fun c_ => absurd (by decide) c_)
  refine lv_aload_n hx hb dX1_begin_8 rfl (lv_at hl 0 rfl) ?_
  refine lv_iload_n hx hb dX1_begin_9 rfl (lv_at hl 1 rfl) ?_
  have hPc_2 := hP.sub (ws' := [(k9, .inr (1, [.ref tc, .int (nI z), .int nu, .int ki, .int ce, .int lo])), (tc, .inl (cI, 16, .inl ft))]) [0, 1] rfl
  have hDc_2 := hD.sub (ws' := [(k9, .inr (1, [.ref tc, .int (nI z), .int nu, .int ki, .int ce, .int lo])), (tc, .inl (cI, 16, .inl ft))]) [0, 1] (by decide) rfl
  have hFc_2 := va_free (wc := [(k9, .inr (1, [.ref tc, .int (nI z), .int nu, .int ki, .int ce, .int lo])), (tc, .inl (cI, 16, .inl ft))]) hD hS hA [0, 1] rfl
  refine va_callv (va_runV (As := [.int x]) (rest := []) ⟨hx, hb, hml, hown, hts⟩ (r_X1_leave l dC dI cI cZ cL cJ s.heap.size k9 tc z nu ki ce lo ft x (by omega)) (cwV 1 hts gX1_begin_X1_leave rfl rfl rfl (by decide +kernel) ⟨Nat.le_of_ble_eq_true rfl, Nat.le_of_ble_eq_true rfl⟩) ⟨fun a U g mk q => by obtain ⟨q0, q1, qP, qK, qD⟩ := q; exact ⟨q0, q1, qP, va_K.moved (u := U) (U := U.calling g mk a) (Vm.Alike.refl U.vm) qK, qD⟩, va_recv hK hP (ci := 1) (q0 := 0) rfl rfl, fun U hU hW => ⟨rfl, by rw [hU], by rw [hU]; exact hPc_2, va_K.moved hW.alike hK, hDc_2.weaken (fun _ _ _ _ => trivial)⟩⟩ rfl rfl hl.1 rfl (lv_room (Nat.le_of_ble_eq_true rfl)) dX1_begin_10 ⟨Nat.le_of_ble_eq_true rfl, Nat.le_of_ble_eq_true rfl⟩) hS (fun q _ h => hFc_2 q h) hFc_2 (fun u_2 t_2 H1 locs ht hvm h_2 hB hz1 hk1 hS => ?_)
  obtain ⟨zn_2, ftn_2, hP1, hD1, hF_2_0⟩ := hB
  rw [ht] at hP1
  obtain ⟨hP, hD⟩ := va_join (wr := []) (w1 := [(k9, .inr (1, [.ref tc, .int (nI zn_2), .int nu, .int ki, .int ce, .int lo])), (tc, .inl (cI, 16, .inl ftn_2))]) hP hD [0, 1] [] rfl rfl (by decide) (by decide) hk1 hFc_2 hP1 hD1
  generalize H1 = H at hP hS ⊢
  have hP : va_P (dC, dI) vwCl [(k9, .inr (1, [.ref tc, .int (nI zn_2), .int nu, .int ki, .int ce, .int lo])), (tc, .inl (cI, 16, .inl ftn_2))] H := hP
  have hD : va_D A [(k9, .inr (1, [.ref tc, .int (nI zn_2), .int nu, .int ki, .int ce, .int lo])), (tc, .inl (cI, 16, .inl ftn_2))] := hD
  refine lv_iload_n hx hb dX1_begin_13 rfl (lv_at hl 2 rfl) ?_
  refine lv_iconst (v := 1) hx hb dX1_begin_14 (by decide) ?_
  refine lv_iadd hx hb dX1_begin_15 ?_
  refine lv_topi (fun v_3 e_3 => ?_)
  obtain rfl : v_3 = 1 := (e_3).trans (by decide)
  refine lv_istore_n (lv' := [(3, .int 1), (0, .ref k9), (1, .int x), (2, .int 0)]) hx hb dX1_begin_16 rfl hl (by decide) rfl (fun ls hl => ?_)
  refine lv_iload_n hx hb dX1_begin_17 rfl (lv_at hl 2 rfl) ?_
  by_cases k_4 : x = 10
  · subst k_4
    refine lv_tableIn (off := 74) (tgt := 92) hx hb dX1_begin_18 (by decide) (by decide) (by decide) (by decide) ?_
    refine lv_aload_n hx hb dX1_begin_92 rfl (lv_at hl 1 rfl) ?_
    refine va_get (D := (dC, dI)) (ci := 1) (v := .int lo) (C := RX1) (T := TX1) (N := 6) hx hb hts i_X1_begin_X1 hown hK hP 0 rfl rfl 5 (by decide) (hts (.fieldLink RX1 39 "MillTalk$Asks" "loud" "I") (by decide +kernel)) (fun _ h9 => h9) rfl dX1_begin_93 ?_
    have hP9 := hP.sub (ws' := [(k9, .inr (1, [.ref tc, .int (nI zn_2), .int nu, .int ki, .int ce, .int lo])), (tc, .inl (cI, 16, .inl ftn_2))]) [0, 1] rfl
    have hD9 := hD.sub (ws' := [(k9, .inr (1, [.ref tc, .int (nI zn_2), .int nu, .int ki, .int ce, .int lo])), (tc, .inl (cI, 16, .inl ftn_2))]) [0, 1] (by decide) rfl
    exact W.iret (v := lo) hx hb hr (fun t ht hW => ⟨⟨lo, (), rfl, trivial, ⟨zn_2, ftn_2, by rw [ht]; exact hP9, hD9, (by omega)⟩⟩, hS.F ht⟩) hS.2.2 dX1_begin_96
  by_cases k_5 : x = 11
  · subst k_5
    refine lv_tableIn (off := 79) (tgt := 97) hx hb dX1_begin_18 (by decide) (by decide) (by decide) (by decide) ?_
    refine lv_aload_n hx hb dX1_begin_97 rfl (lv_at hl 1 rfl) ?_
    refine lv_bipush (v := 10) hx hb dX1_begin_98 (by decide) ?_
    refine lv_iload_n hx hb dX1_begin_100 rfl (lv_at hl 0 rfl) ?_
    have hPc_6 := hP.sub (ws' := [(k9, .inr (1, [.ref tc, .int (nI zn_2), .int nu, .int ki, .int ce, .int lo])), (tc, .inl (cI, 16, .inl ftn_2))]) [0, 1] rfl
    have hDc_6 := hD.sub (ws' := [(k9, .inr (1, [.ref tc, .int (nI zn_2), .int nu, .int ki, .int ce, .int lo])), (tc, .inl (cI, 16, .inl ftn_2))]) [0, 1] (by decide) rfl
    have hFc_6 := va_free (wc := [(k9, .inr (1, [.ref tc, .int (nI zn_2), .int nu, .int ki, .int ce, .int lo])), (tc, .inl (cI, 16, .inl ftn_2))]) hD hS hA [0, 1] rfl
    refine va_calli (va_runV (As := [.int 10, .int 1]) (rest := []) ⟨hx, hb, hml, hown, hts⟩ (r_X1_begin_1 l dC dI cI cZ cL cJ H.size k9 tc zn_2 nu ki ce lo ftn_2 10 (by omega)) (cwV 2 hts gX1_begin_X1_begin rfl rfl rfl (by decide +kernel) ⟨Nat.le_of_ble_eq_true rfl, Nat.le_of_ble_eq_true rfl⟩) ⟨fun a U g mk q => by obtain ⟨q0, q1, qP, qK, qD, qS⟩ := q; exact ⟨q0, q1, qP, va_K.moved (u := U) (U := U.calling g mk a) (Vm.Alike.refl U.vm) qK, qD, stt_same rfl qS⟩, va_recv hK hP (ci := 1) (q0 := 0) rfl rfl, fun U hU hW => ⟨rfl, by rw [hU], by rw [hU]; exact hPc_6, va_K.moved hW.alike hK, hDc_6.weaken (fun _ _ _ _ => trivial), by rw [hU]; exact stt_warm hW (stt_narrow (stt_kept hst hS.2.1) hFc_6)⟩⟩ rfl rfl hl.1 rfl (lv_room (Nat.le_of_ble_eq_true rfl)) dX1_begin_101 ⟨Nat.le_of_ble_eq_true rfl, Nat.le_of_ble_eq_true rfl⟩) hS (fun q _ h => hFc_6 q h) hFc_6 (fun r_6 u_6 t_6 H1 locs ht hvm h_6 hB hz1 hk1 hS => ?_)
    obtain ⟨zn_6, ftn_6, hP1, hD1, hF_6_0⟩ := hB
    rw [ht] at hP1
    obtain ⟨hP, hD⟩ := va_join (wr := []) (w1 := [(k9, .inr (1, [.ref tc, .int (nI zn_6), .int nu, .int ki, .int ce, .int lo])), (tc, .inl (cI, 16, .inl ftn_6))]) hP hD [0, 1] [] rfl rfl (by decide) (by decide) hk1 hFc_6 hP1 hD1
    generalize H1 = H at hP hS ⊢
    have hP : va_P (dC, dI) vwCl [(k9, .inr (1, [.ref tc, .int (nI zn_6), .int nu, .int ki, .int ce, .int lo])), (tc, .inl (cI, 16, .inl ftn_6))] H := hP
    have hD : va_D A [(k9, .inr (1, [.ref tc, .int (nI zn_6), .int nu, .int ki, .int ce, .int lo])), (tc, .inl (cI, 16, .inl ftn_6))] := hD
    refine lv_aload_n hx hb dX1_begin_104 rfl (lv_at hl 1 rfl) ?_
    refine lv_iconst (v := 1) hx hb dX1_begin_105 (by decide) ?_
    refine lv_iload_n hx hb dX1_begin_106 rfl (lv_at hl 0 rfl) ?_
    have hPc_7 := hP.sub (ws' := [(k9, .inr (1, [.ref tc, .int (nI zn_6), .int nu, .int ki, .int ce, .int lo])), (tc, .inl (cI, 16, .inl ftn_6))]) [0, 1] rfl
    have hDc_7 := hD.sub (ws' := [(k9, .inr (1, [.ref tc, .int (nI zn_6), .int nu, .int ki, .int ce, .int lo])), (tc, .inl (cI, 16, .inl ftn_6))]) [0, 1] (by decide) rfl
    have hFc_7 := va_free (wc := [(k9, .inr (1, [.ref tc, .int (nI zn_6), .int nu, .int ki, .int ce, .int lo])), (tc, .inl (cI, 16, .inl ftn_6))]) hD hS hA [0, 1] rfl
    refine va_calli (va_runV (As := [.int 1, .int 1]) (rest := [.int r_6]) ⟨hx, hb, hml, hown, hts⟩ (r_X1_askAnew_1 l dC dI cI cZ cL cJ H.size k9 tc zn_6 nu ki ce lo ftn_6 1 (by omega)) (cwV 2 hts gX1_begin_X1_askAnew rfl rfl rfl (by decide +kernel) ⟨Nat.le_of_ble_eq_true rfl, Nat.le_of_ble_eq_true rfl⟩) ⟨fun a U g mk q => by obtain ⟨q0, q1, qP, qK, qD, qS⟩ := q; exact ⟨q0, q1, qP, va_K.moved (u := U) (U := U.calling g mk a) (Vm.Alike.refl U.vm) qK, qD, stt_same rfl qS⟩, va_recv hK hP (ci := 1) (q0 := 0) rfl rfl, fun U hU hW => ⟨rfl, by rw [hU], by rw [hU]; exact hPc_7, va_K.moved hW.alike hK, hDc_7.weaken (fun _ _ _ _ => trivial), by rw [hU]; exact stt_warm hW (stt_narrow (stt_kept hst hS.2.1) hFc_7)⟩⟩ rfl rfl hl.1 rfl (lv_room (Nat.le_of_ble_eq_true rfl)) dX1_begin_107 ⟨Nat.le_of_ble_eq_true rfl, Nat.le_of_ble_eq_true rfl⟩) hS (fun q _ h => hFc_7 q h) hFc_7 (fun r_7 u_7 t_7 H1 locs ht hvm h_7 hB hz1 hk1 hS => ?_)
    obtain ⟨zn_7, ftn_7, hP1, hD1, hF_7_0⟩ := hB
    rw [ht] at hP1
    obtain ⟨hP, hD⟩ := va_join (wr := []) (w1 := [(k9, .inr (1, [.ref tc, .int (nI zn_7), .int nu, .int ki, .int ce, .int lo])), (tc, .inl (cI, 16, .inl ftn_7))]) hP hD [0, 1] [] rfl rfl (by decide) (by decide) hk1 hFc_7 hP1 hD1
    generalize H1 = H at hP hS ⊢
    have hP : va_P (dC, dI) vwCl [(k9, .inr (1, [.ref tc, .int (nI zn_7), .int nu, .int ki, .int ce, .int lo])), (tc, .inl (cI, 16, .inl ftn_7))] H := hP
    have hD : va_D A [(k9, .inr (1, [.ref tc, .int (nI zn_7), .int nu, .int ki, .int ce, .int lo])), (tc, .inl (cI, 16, .inl ftn_7))] := hD
    refine lv_iadd hx hb dX1_begin_110 ?_
    refine lv_topi (fun v_8 e_8 => ?_)
    have hP9 := hP.sub (ws' := [(k9, .inr (1, [.ref tc, .int (nI zn_7), .int nu, .int ki, .int ce, .int lo])), (tc, .inl (cI, 16, .inl ftn_7))]) [0, 1] rfl
    have hD9 := hD.sub (ws' := [(k9, .inr (1, [.ref tc, .int (nI zn_7), .int nu, .int ki, .int ce, .int lo])), (tc, .inl (cI, 16, .inl ftn_7))]) [0, 1] (by decide) rfl
    exact W.iret (v := v_8) hx hb hr (fun t ht hW => ⟨⟨v_8, (), rfl, trivial, ⟨zn_7, ftn_7, by rw [ht]; exact hP9, hD9, (by omega)⟩⟩, hS.F ht⟩) hS.2.2 dX1_begin_111
  by_cases k_9 : x = 12
  · subst k_9
    refine lv_tableIn (off := 94) (tgt := 112) hx hb dX1_begin_18 (by decide) (by decide) (by decide) (by decide) ?_
    refine lv_aload_n hx hb dX1_begin_112 rfl (lv_at hl 1 rfl) ?_
    refine lv_bipush (v := 11) hx hb dX1_begin_113 (by decide) ?_
    refine lv_iload_n hx hb dX1_begin_115 rfl (lv_at hl 0 rfl) ?_
    have hPc_10 := hP.sub (ws' := [(k9, .inr (1, [.ref tc, .int (nI zn_2), .int nu, .int ki, .int ce, .int lo])), (tc, .inl (cI, 16, .inl ftn_2))]) [0, 1] rfl
    have hDc_10 := hD.sub (ws' := [(k9, .inr (1, [.ref tc, .int (nI zn_2), .int nu, .int ki, .int ce, .int lo])), (tc, .inl (cI, 16, .inl ftn_2))]) [0, 1] (by decide) rfl
    have hFc_10 := va_free (wc := [(k9, .inr (1, [.ref tc, .int (nI zn_2), .int nu, .int ki, .int ce, .int lo])), (tc, .inl (cI, 16, .inl ftn_2))]) hD hS hA [0, 1] rfl
    refine va_calli (va_runV (As := [.int 11, .int 1]) (rest := []) ⟨hx, hb, hml, hown, hts⟩ (r_X1_begin_1 l dC dI cI cZ cL cJ H.size k9 tc zn_2 nu ki ce lo ftn_2 11 (by omega)) (cwV 2 hts gX1_begin_X1_begin rfl rfl rfl (by decide +kernel) ⟨Nat.le_of_ble_eq_true rfl, Nat.le_of_ble_eq_true rfl⟩) ⟨fun a U g mk q => by obtain ⟨q0, q1, qP, qK, qD, qS⟩ := q; exact ⟨q0, q1, qP, va_K.moved (u := U) (U := U.calling g mk a) (Vm.Alike.refl U.vm) qK, qD, stt_same rfl qS⟩, va_recv hK hP (ci := 1) (q0 := 0) rfl rfl, fun U hU hW => ⟨rfl, by rw [hU], by rw [hU]; exact hPc_10, va_K.moved hW.alike hK, hDc_10.weaken (fun _ _ _ _ => trivial), by rw [hU]; exact stt_warm hW (stt_narrow (stt_kept hst hS.2.1) hFc_10)⟩⟩ rfl rfl hl.1 rfl (lv_room (Nat.le_of_ble_eq_true rfl)) dX1_begin_116 ⟨Nat.le_of_ble_eq_true rfl, Nat.le_of_ble_eq_true rfl⟩) hS (fun q _ h => hFc_10 q h) hFc_10 (fun r_10 u_10 t_10 H1 locs ht hvm h_10 hB hz1 hk1 hS => ?_)
    obtain ⟨zn_10, ftn_10, hP1, hD1, hF_10_0⟩ := hB
    rw [ht] at hP1
    obtain ⟨hP, hD⟩ := va_join (wr := []) (w1 := [(k9, .inr (1, [.ref tc, .int (nI zn_10), .int nu, .int ki, .int ce, .int lo])), (tc, .inl (cI, 16, .inl ftn_10))]) hP hD [0, 1] [] rfl rfl (by decide) (by decide) hk1 hFc_10 hP1 hD1
    generalize H1 = H at hP hS ⊢
    have hP : va_P (dC, dI) vwCl [(k9, .inr (1, [.ref tc, .int (nI zn_10), .int nu, .int ki, .int ce, .int lo])), (tc, .inl (cI, 16, .inl ftn_10))] H := hP
    have hD : va_D A [(k9, .inr (1, [.ref tc, .int (nI zn_10), .int nu, .int ki, .int ce, .int lo])), (tc, .inl (cI, 16, .inl ftn_10))] := hD
    refine lv_ineg hx hb dX1_begin_119 ?_
    refine lv_topi (fun v_11 e_11 => ?_)
    have hP9 := hP.sub (ws' := [(k9, .inr (1, [.ref tc, .int (nI zn_10), .int nu, .int ki, .int ce, .int lo])), (tc, .inl (cI, 16, .inl ftn_10))]) [0, 1] rfl
    have hD9 := hD.sub (ws' := [(k9, .inr (1, [.ref tc, .int (nI zn_10), .int nu, .int ki, .int ce, .int lo])), (tc, .inl (cI, 16, .inl ftn_10))]) [0, 1] (by decide) rfl
    exact W.iret (v := v_11) hx hb hr (fun t ht hW => ⟨⟨v_11, (), rfl, trivial, ⟨zn_10, ftn_10, by rw [ht]; exact hP9, hD9, (by omega)⟩⟩, hS.F ht⟩) hS.2.2 dX1_begin_120
  by_cases k_12 : x = 13
  · subst k_12
    refine lv_tableIn (off := 103) (tgt := 121) hx hb dX1_begin_18 (by decide) (by decide) (by decide) (by decide) ?_
    refine lv_aload_n hx hb dX1_begin_121 rfl (lv_at hl 1 rfl) ?_
    refine lv_bipush (v := 10) hx hb dX1_begin_122 (by decide) ?_
    refine lv_iload_n hx hb dX1_begin_124 rfl (lv_at hl 0 rfl) ?_
    have hPc_13 := hP.sub (ws' := [(k9, .inr (1, [.ref tc, .int (nI zn_2), .int nu, .int ki, .int ce, .int lo])), (tc, .inl (cI, 16, .inl ftn_2))]) [0, 1] rfl
    have hDc_13 := hD.sub (ws' := [(k9, .inr (1, [.ref tc, .int (nI zn_2), .int nu, .int ki, .int ce, .int lo])), (tc, .inl (cI, 16, .inl ftn_2))]) [0, 1] (by decide) rfl
    have hFc_13 := va_free (wc := [(k9, .inr (1, [.ref tc, .int (nI zn_2), .int nu, .int ki, .int ce, .int lo])), (tc, .inl (cI, 16, .inl ftn_2))]) hD hS hA [0, 1] rfl
    refine va_calli (va_runV (As := [.int 10, .int 1]) (rest := []) ⟨hx, hb, hml, hown, hts⟩ (r_X1_begin_1 l dC dI cI cZ cL cJ H.size k9 tc zn_2 nu ki ce lo ftn_2 10 (by omega)) (cwV 2 hts gX1_begin_X1_begin rfl rfl rfl (by decide +kernel) ⟨Nat.le_of_ble_eq_true rfl, Nat.le_of_ble_eq_true rfl⟩) ⟨fun a U g mk q => by obtain ⟨q0, q1, qP, qK, qD, qS⟩ := q; exact ⟨q0, q1, qP, va_K.moved (u := U) (U := U.calling g mk a) (Vm.Alike.refl U.vm) qK, qD, stt_same rfl qS⟩, va_recv hK hP (ci := 1) (q0 := 0) rfl rfl, fun U hU hW => ⟨rfl, by rw [hU], by rw [hU]; exact hPc_13, va_K.moved hW.alike hK, hDc_13.weaken (fun _ _ _ _ => trivial), by rw [hU]; exact stt_warm hW (stt_narrow (stt_kept hst hS.2.1) hFc_13)⟩⟩ rfl rfl hl.1 rfl (lv_room (Nat.le_of_ble_eq_true rfl)) dX1_begin_125 ⟨Nat.le_of_ble_eq_true rfl, Nat.le_of_ble_eq_true rfl⟩) hS (fun q _ h => hFc_13 q h) hFc_13 (fun r_13 u_13 t_13 H1 locs ht hvm h_13 hB hz1 hk1 hS => ?_)
    obtain ⟨zn_13, ftn_13, hP1, hD1, hF_13_0⟩ := hB
    rw [ht] at hP1
    obtain ⟨hP, hD⟩ := va_join (wr := []) (w1 := [(k9, .inr (1, [.ref tc, .int (nI zn_13), .int nu, .int ki, .int ce, .int lo])), (tc, .inl (cI, 16, .inl ftn_13))]) hP hD [0, 1] [] rfl rfl (by decide) (by decide) hk1 hFc_13 hP1 hD1
    generalize H1 = H at hP hS ⊢
    have hP : va_P (dC, dI) vwCl [(k9, .inr (1, [.ref tc, .int (nI zn_13), .int nu, .int ki, .int ce, .int lo])), (tc, .inl (cI, 16, .inl ftn_13))] H := hP
    have hD : va_D A [(k9, .inr (1, [.ref tc, .int (nI zn_13), .int nu, .int ki, .int ce, .int lo])), (tc, .inl (cI, 16, .inl ftn_13))] := hD
    refine lv_bipush (v := 100) hx hb dX1_begin_128 (by decide) ?_
    refine lv_isub hx hb dX1_begin_130 ?_
    refine lv_topi (fun v_14 e_14 => ?_)
    have hP9 := hP.sub (ws' := [(k9, .inr (1, [.ref tc, .int (nI zn_13), .int nu, .int ki, .int ce, .int lo])), (tc, .inl (cI, 16, .inl ftn_13))]) [0, 1] rfl
    have hD9 := hD.sub (ws' := [(k9, .inr (1, [.ref tc, .int (nI zn_13), .int nu, .int ki, .int ce, .int lo])), (tc, .inl (cI, 16, .inl ftn_13))]) [0, 1] (by decide) rfl
    exact W.iret (v := v_14) hx hb hr (fun t ht hW => ⟨⟨v_14, (), rfl, trivial, ⟨zn_13, ftn_13, by rw [ht]; exact hP9, hD9, (by omega)⟩⟩, hS.F ht⟩) hS.2.2 dX1_begin_131
  by_cases k_15 : x = 14
  · subst k_15
    refine lv_tableIn (off := 114) (tgt := 132) hx hb dX1_begin_18 (by decide) (by decide) (by decide) (by decide) ?_
    refine lv_aload_n hx hb dX1_begin_132 rfl (lv_at hl 1 rfl) ?_
    refine lv_bipush (v := 13) hx hb dX1_begin_133 (by decide) ?_
    refine lv_iload_n hx hb dX1_begin_135 rfl (lv_at hl 0 rfl) ?_
    have hPc_16 := hP.sub (ws' := [(k9, .inr (1, [.ref tc, .int (nI zn_2), .int nu, .int ki, .int ce, .int lo])), (tc, .inl (cI, 16, .inl ftn_2))]) [0, 1] rfl
    have hDc_16 := hD.sub (ws' := [(k9, .inr (1, [.ref tc, .int (nI zn_2), .int nu, .int ki, .int ce, .int lo])), (tc, .inl (cI, 16, .inl ftn_2))]) [0, 1] (by decide) rfl
    have hFc_16 := va_free (wc := [(k9, .inr (1, [.ref tc, .int (nI zn_2), .int nu, .int ki, .int ce, .int lo])), (tc, .inl (cI, 16, .inl ftn_2))]) hD hS hA [0, 1] rfl
    refine va_calli (va_runV (As := [.int 13, .int 1]) (rest := []) ⟨hx, hb, hml, hown, hts⟩ (r_X1_begin_1 l dC dI cI cZ cL cJ H.size k9 tc zn_2 nu ki ce lo ftn_2 13 (by omega)) (cwV 2 hts gX1_begin_X1_begin rfl rfl rfl (by decide +kernel) ⟨Nat.le_of_ble_eq_true rfl, Nat.le_of_ble_eq_true rfl⟩) ⟨fun a U g mk q => by obtain ⟨q0, q1, qP, qK, qD, qS⟩ := q; exact ⟨q0, q1, qP, va_K.moved (u := U) (U := U.calling g mk a) (Vm.Alike.refl U.vm) qK, qD, stt_same rfl qS⟩, va_recv hK hP (ci := 1) (q0 := 0) rfl rfl, fun U hU hW => ⟨rfl, by rw [hU], by rw [hU]; exact hPc_16, va_K.moved hW.alike hK, hDc_16.weaken (fun _ _ _ _ => trivial), by rw [hU]; exact stt_warm hW (stt_narrow (stt_kept hst hS.2.1) hFc_16)⟩⟩ rfl rfl hl.1 rfl (lv_room (Nat.le_of_ble_eq_true rfl)) dX1_begin_136 ⟨Nat.le_of_ble_eq_true rfl, Nat.le_of_ble_eq_true rfl⟩) hS (fun q _ h => hFc_16 q h) hFc_16 (fun r_16 u_16 t_16 H1 locs ht hvm h_16 hB hz1 hk1 hS => ?_)
    obtain ⟨zn_16, ftn_16, hP1, hD1, hF_16_0⟩ := hB
    rw [ht] at hP1
    obtain ⟨hP, hD⟩ := va_join (wr := []) (w1 := [(k9, .inr (1, [.ref tc, .int (nI zn_16), .int nu, .int ki, .int ce, .int lo])), (tc, .inl (cI, 16, .inl ftn_16))]) hP hD [0, 1] [] rfl rfl (by decide) (by decide) hk1 hFc_16 hP1 hD1
    generalize H1 = H at hP hS ⊢
    have hP : va_P (dC, dI) vwCl [(k9, .inr (1, [.ref tc, .int (nI zn_16), .int nu, .int ki, .int ce, .int lo])), (tc, .inl (cI, 16, .inl ftn_16))] H := hP
    have hD : va_D A [(k9, .inr (1, [.ref tc, .int (nI zn_16), .int nu, .int ki, .int ce, .int lo])), (tc, .inl (cI, 16, .inl ftn_16))] := hD
    refine lv_iconst (v := 2) hx hb dX1_begin_139 (by decide) ?_
    refine lv_imul hx hb dX1_begin_140 ?_
    refine lv_topi (fun v_17 e_17 => ?_)
    have hP9 := hP.sub (ws' := [(k9, .inr (1, [.ref tc, .int (nI zn_16), .int nu, .int ki, .int ce, .int lo])), (tc, .inl (cI, 16, .inl ftn_16))]) [0, 1] rfl
    have hD9 := hD.sub (ws' := [(k9, .inr (1, [.ref tc, .int (nI zn_16), .int nu, .int ki, .int ce, .int lo])), (tc, .inl (cI, 16, .inl ftn_16))]) [0, 1] (by decide) rfl
    exact W.iret (v := v_17) hx hb hr (fun t ht hW => ⟨⟨v_17, (), rfl, trivial, ⟨zn_16, ftn_16, by rw [ht]; exact hP9, hD9, (by omega)⟩⟩, hS.F ht⟩) hS.2.2 dX1_begin_141
  by_cases k_18 : x = 15
  · subst k_18
    refine lv_tableIn (off := 179) (tgt := 197) hx hb dX1_begin_18 (by decide) (by decide) (by decide) (by decide) ?_
    refine lv_iconst (v := 0) hx hb dX1_begin_197 (by decide) ?_
    have hP9 := hP.sub (ws' := [(k9, .inr (1, [.ref tc, .int (nI zn_2), .int nu, .int ki, .int ce, .int lo])), (tc, .inl (cI, 16, .inl ftn_2))]) [0, 1] rfl
    have hD9 := hD.sub (ws' := [(k9, .inr (1, [.ref tc, .int (nI zn_2), .int nu, .int ki, .int ce, .int lo])), (tc, .inl (cI, 16, .inl ftn_2))]) [0, 1] (by decide) rfl
    exact W.iret (v := 0) hx hb hr (fun t ht hW => ⟨⟨0, (), rfl, trivial, ⟨zn_2, ftn_2, by rw [ht]; exact hP9, hD9, (by omega)⟩⟩, hS.F ht⟩) hS.2.2 dX1_begin_198
  by_cases k_19 : x = 16
  · subst k_19
    refine lv_tableIn (off := 179) (tgt := 197) hx hb dX1_begin_18 (by decide) (by decide) (by decide) (by decide) ?_
    refine lv_iconst (v := 0) hx hb dX1_begin_197 (by decide) ?_
    have hP9 := hP.sub (ws' := [(k9, .inr (1, [.ref tc, .int (nI zn_2), .int nu, .int ki, .int ce, .int lo])), (tc, .inl (cI, 16, .inl ftn_2))]) [0, 1] rfl
    have hD9 := hD.sub (ws' := [(k9, .inr (1, [.ref tc, .int (nI zn_2), .int nu, .int ki, .int ce, .int lo])), (tc, .inl (cI, 16, .inl ftn_2))]) [0, 1] (by decide) rfl
    exact W.iret (v := 0) hx hb hr (fun t ht hW => ⟨⟨0, (), rfl, trivial, ⟨zn_2, ftn_2, by rw [ht]; exact hP9, hD9, (by omega)⟩⟩, hS.F ht⟩) hS.2.2 dX1_begin_198
  by_cases k_20 : x = 17
  · subst k_20
    refine lv_tableIn (off := 179) (tgt := 197) hx hb dX1_begin_18 (by decide) (by decide) (by decide) (by decide) ?_
    refine lv_iconst (v := 0) hx hb dX1_begin_197 (by decide) ?_
    have hP9 := hP.sub (ws' := [(k9, .inr (1, [.ref tc, .int (nI zn_2), .int nu, .int ki, .int ce, .int lo])), (tc, .inl (cI, 16, .inl ftn_2))]) [0, 1] rfl
    have hD9 := hD.sub (ws' := [(k9, .inr (1, [.ref tc, .int (nI zn_2), .int nu, .int ki, .int ce, .int lo])), (tc, .inl (cI, 16, .inl ftn_2))]) [0, 1] (by decide) rfl
    exact W.iret (v := 0) hx hb hr (fun t ht hW => ⟨⟨0, (), rfl, trivial, ⟨zn_2, ftn_2, by rw [ht]; exact hP9, hD9, (by omega)⟩⟩, hS.F ht⟩) hS.2.2 dX1_begin_198
  by_cases k_21 : x = 18
  · subst k_21
    refine lv_tableIn (off := 179) (tgt := 197) hx hb dX1_begin_18 (by decide) (by decide) (by decide) (by decide) ?_
    refine lv_iconst (v := 0) hx hb dX1_begin_197 (by decide) ?_
    have hP9 := hP.sub (ws' := [(k9, .inr (1, [.ref tc, .int (nI zn_2), .int nu, .int ki, .int ce, .int lo])), (tc, .inl (cI, 16, .inl ftn_2))]) [0, 1] rfl
    have hD9 := hD.sub (ws' := [(k9, .inr (1, [.ref tc, .int (nI zn_2), .int nu, .int ki, .int ce, .int lo])), (tc, .inl (cI, 16, .inl ftn_2))]) [0, 1] (by decide) rfl
    exact W.iret (v := 0) hx hb hr (fun t ht hW => ⟨⟨0, (), rfl, trivial, ⟨zn_2, ftn_2, by rw [ht]; exact hP9, hD9, (by omega)⟩⟩, hS.F ht⟩) hS.2.2 dX1_begin_198
  by_cases k_22 : x = 19
  · subst k_22
    refine lv_tableIn (off := 179) (tgt := 197) hx hb dX1_begin_18 (by decide) (by decide) (by decide) (by decide) ?_
    refine lv_iconst (v := 0) hx hb dX1_begin_197 (by decide) ?_
    have hP9 := hP.sub (ws' := [(k9, .inr (1, [.ref tc, .int (nI zn_2), .int nu, .int ki, .int ce, .int lo])), (tc, .inl (cI, 16, .inl ftn_2))]) [0, 1] rfl
    have hD9 := hD.sub (ws' := [(k9, .inr (1, [.ref tc, .int (nI zn_2), .int nu, .int ki, .int ce, .int lo])), (tc, .inl (cI, 16, .inl ftn_2))]) [0, 1] (by decide) rfl
    exact W.iret (v := 0) hx hb hr (fun t ht hW => ⟨⟨0, (), rfl, trivial, ⟨zn_2, ftn_2, by rw [ht]; exact hP9, hD9, (by omega)⟩⟩, hS.F ht⟩) hS.2.2 dX1_begin_198
  by_cases k_23 : x = 20
  · subst k_23
    refine lv_tableIn (off := 124) (tgt := 142) hx hb dX1_begin_18 (by decide) (by decide) (by decide) (by decide) ?_
    refine lv_aload_n hx hb dX1_begin_142 rfl (lv_at hl 1 rfl) ?_
    refine va_get (D := (dC, dI)) (ci := 1) (v := .int nu) (C := RX1) (T := TX1) (N := 6) hx hb hts i_X1_begin_X1 hown hK hP 0 rfl rfl 2 (by decide) (hts (.fieldLink RX1 19 "MillTalk$Asks" "number" "I") (by decide +kernel)) (fun _ h9 => h9) rfl dX1_begin_143 ?_
    have hP9 := hP.sub (ws' := [(k9, .inr (1, [.ref tc, .int (nI zn_2), .int nu, .int ki, .int ce, .int lo])), (tc, .inl (cI, 16, .inl ftn_2))]) [0, 1] rfl
    have hD9 := hD.sub (ws' := [(k9, .inr (1, [.ref tc, .int (nI zn_2), .int nu, .int ki, .int ce, .int lo])), (tc, .inl (cI, 16, .inl ftn_2))]) [0, 1] (by decide) rfl
    exact W.iret (v := nu) hx hb hr (fun t ht hW => ⟨⟨nu, (), rfl, trivial, ⟨zn_2, ftn_2, by rw [ht]; exact hP9, hD9, (by omega)⟩⟩, hS.F ht⟩) hS.2.2 dX1_begin_146
  by_cases k_24 : x = 21
  · subst k_24
    refine lv_tableIn (off := 129) (tgt := 147) hx hb dX1_begin_18 (by decide) (by decide) (by decide) (by decide) ?_
    refine lv_aload_n hx hb dX1_begin_147 rfl (lv_at hl 1 rfl) ?_
    refine lv_bipush (v := 20) hx hb dX1_begin_148 (by decide) ?_
    refine lv_iload_n hx hb dX1_begin_150 rfl (lv_at hl 0 rfl) ?_
    have hPc_25 := hP.sub (ws' := [(k9, .inr (1, [.ref tc, .int (nI zn_2), .int nu, .int ki, .int ce, .int lo])), (tc, .inl (cI, 16, .inl ftn_2))]) [0, 1] rfl
    have hDc_25 := hD.sub (ws' := [(k9, .inr (1, [.ref tc, .int (nI zn_2), .int nu, .int ki, .int ce, .int lo])), (tc, .inl (cI, 16, .inl ftn_2))]) [0, 1] (by decide) rfl
    have hFc_25 := va_free (wc := [(k9, .inr (1, [.ref tc, .int (nI zn_2), .int nu, .int ki, .int ce, .int lo])), (tc, .inl (cI, 16, .inl ftn_2))]) hD hS hA [0, 1] rfl
    refine va_calli (va_runV (As := [.int 20, .int 1]) (rest := []) ⟨hx, hb, hml, hown, hts⟩ (r_X1_begin_1 l dC dI cI cZ cL cJ H.size k9 tc zn_2 nu ki ce lo ftn_2 20 (by omega)) (cwV 2 hts gX1_begin_X1_begin rfl rfl rfl (by decide +kernel) ⟨Nat.le_of_ble_eq_true rfl, Nat.le_of_ble_eq_true rfl⟩) ⟨fun a U g mk q => by obtain ⟨q0, q1, qP, qK, qD, qS⟩ := q; exact ⟨q0, q1, qP, va_K.moved (u := U) (U := U.calling g mk a) (Vm.Alike.refl U.vm) qK, qD, stt_same rfl qS⟩, va_recv hK hP (ci := 1) (q0 := 0) rfl rfl, fun U hU hW => ⟨rfl, by rw [hU], by rw [hU]; exact hPc_25, va_K.moved hW.alike hK, hDc_25.weaken (fun _ _ _ _ => trivial), by rw [hU]; exact stt_warm hW (stt_narrow (stt_kept hst hS.2.1) hFc_25)⟩⟩ rfl rfl hl.1 rfl (lv_room (Nat.le_of_ble_eq_true rfl)) dX1_begin_151 ⟨Nat.le_of_ble_eq_true rfl, Nat.le_of_ble_eq_true rfl⟩) hS (fun q _ h => hFc_25 q h) hFc_25 (fun r_25 u_25 t_25 H1 locs ht hvm h_25 hB hz1 hk1 hS => ?_)
    obtain ⟨zn_25, ftn_25, hP1, hD1, hF_25_0⟩ := hB
    rw [ht] at hP1
    obtain ⟨hP, hD⟩ := va_join (wr := []) (w1 := [(k9, .inr (1, [.ref tc, .int (nI zn_25), .int nu, .int ki, .int ce, .int lo])), (tc, .inl (cI, 16, .inl ftn_25))]) hP hD [0, 1] [] rfl rfl (by decide) (by decide) hk1 hFc_25 hP1 hD1
    generalize H1 = H at hP hS ⊢
    have hP : va_P (dC, dI) vwCl [(k9, .inr (1, [.ref tc, .int (nI zn_25), .int nu, .int ki, .int ce, .int lo])), (tc, .inl (cI, 16, .inl ftn_25))] H := hP
    have hD : va_D A [(k9, .inr (1, [.ref tc, .int (nI zn_25), .int nu, .int ki, .int ce, .int lo])), (tc, .inl (cI, 16, .inl ftn_25))] := hD
    refine lv_aload_n hx hb dX1_begin_154 rfl (lv_at hl 1 rfl) ?_
    refine va_get (D := (dC, dI)) (ci := 1) (v := .int ce) (C := RX1) (T := TX1) (N := 6) hx hb hts i_X1_begin_X1 hown hK hP 0 rfl rfl 4 (by decide) (hts (.fieldLink RX1 33 "MillTalk$Asks" "cell" "I") (by decide +kernel)) (fun _ h9 => h9) rfl dX1_begin_155 ?_
    refine lv_iadd hx hb dX1_begin_158 ?_
    refine lv_topi (fun v_26 e_26 => ?_)
    have hP9 := hP.sub (ws' := [(k9, .inr (1, [.ref tc, .int (nI zn_25), .int nu, .int ki, .int ce, .int lo])), (tc, .inl (cI, 16, .inl ftn_25))]) [0, 1] rfl
    have hD9 := hD.sub (ws' := [(k9, .inr (1, [.ref tc, .int (nI zn_25), .int nu, .int ki, .int ce, .int lo])), (tc, .inl (cI, 16, .inl ftn_25))]) [0, 1] (by decide) rfl
    exact W.iret (v := v_26) hx hb hr (fun t ht hW => ⟨⟨v_26, (), rfl, trivial, ⟨zn_25, ftn_25, by rw [ht]; exact hP9, hD9, (by omega)⟩⟩, hS.F ht⟩) hS.2.2 dX1_begin_159
  by_cases k_27 : x = 22
  · subst k_27
    refine lv_tableIn (off := 142) (tgt := 160) hx hb dX1_begin_18 (by decide) (by decide) (by decide) (by decide) ?_
    refine lv_aload_n hx hb dX1_begin_160 rfl (lv_at hl 1 rfl) ?_
    refine lv_bipush (v := 21) hx hb dX1_begin_161 (by decide) ?_
    refine lv_iload_n hx hb dX1_begin_163 rfl (lv_at hl 0 rfl) ?_
    have hPc_28 := hP.sub (ws' := [(k9, .inr (1, [.ref tc, .int (nI zn_2), .int nu, .int ki, .int ce, .int lo])), (tc, .inl (cI, 16, .inl ftn_2))]) [0, 1] rfl
    have hDc_28 := hD.sub (ws' := [(k9, .inr (1, [.ref tc, .int (nI zn_2), .int nu, .int ki, .int ce, .int lo])), (tc, .inl (cI, 16, .inl ftn_2))]) [0, 1] (by decide) rfl
    have hFc_28 := va_free (wc := [(k9, .inr (1, [.ref tc, .int (nI zn_2), .int nu, .int ki, .int ce, .int lo])), (tc, .inl (cI, 16, .inl ftn_2))]) hD hS hA [0, 1] rfl
    refine va_calli (va_runV (As := [.int 21, .int 1]) (rest := []) ⟨hx, hb, hml, hown, hts⟩ (r_X1_begin_1 l dC dI cI cZ cL cJ H.size k9 tc zn_2 nu ki ce lo ftn_2 21 (by omega)) (cwV 2 hts gX1_begin_X1_begin rfl rfl rfl (by decide +kernel) ⟨Nat.le_of_ble_eq_true rfl, Nat.le_of_ble_eq_true rfl⟩) ⟨fun a U g mk q => by obtain ⟨q0, q1, qP, qK, qD, qS⟩ := q; exact ⟨q0, q1, qP, va_K.moved (u := U) (U := U.calling g mk a) (Vm.Alike.refl U.vm) qK, qD, stt_same rfl qS⟩, va_recv hK hP (ci := 1) (q0 := 0) rfl rfl, fun U hU hW => ⟨rfl, by rw [hU], by rw [hU]; exact hPc_28, va_K.moved hW.alike hK, hDc_28.weaken (fun _ _ _ _ => trivial), by rw [hU]; exact stt_warm hW (stt_narrow (stt_kept hst hS.2.1) hFc_28)⟩⟩ rfl rfl hl.1 rfl (lv_room (Nat.le_of_ble_eq_true rfl)) dX1_begin_164 ⟨Nat.le_of_ble_eq_true rfl, Nat.le_of_ble_eq_true rfl⟩) hS (fun q _ h => hFc_28 q h) hFc_28 (fun r_28 u_28 t_28 H1 locs ht hvm h_28 hB hz1 hk1 hS => ?_)
    obtain ⟨zn_28, ftn_28, hP1, hD1, hF_28_0⟩ := hB
    rw [ht] at hP1
    obtain ⟨hP, hD⟩ := va_join (wr := []) (w1 := [(k9, .inr (1, [.ref tc, .int (nI zn_28), .int nu, .int ki, .int ce, .int lo])), (tc, .inl (cI, 16, .inl ftn_28))]) hP hD [0, 1] [] rfl rfl (by decide) (by decide) hk1 hFc_28 hP1 hD1
    generalize H1 = H at hP hS ⊢
    have hP : va_P (dC, dI) vwCl [(k9, .inr (1, [.ref tc, .int (nI zn_28), .int nu, .int ki, .int ce, .int lo])), (tc, .inl (cI, 16, .inl ftn_28))] H := hP
    have hD : va_D A [(k9, .inr (1, [.ref tc, .int (nI zn_28), .int nu, .int ki, .int ce, .int lo])), (tc, .inl (cI, 16, .inl ftn_28))] := hD
    refine lv_sipush (v := 1000) hx hb dX1_begin_167 (by decide) ?_
    refine lv_isub hx hb dX1_begin_170 ?_
    refine lv_topi (fun v_29 e_29 => ?_)
    have hP9 := hP.sub (ws' := [(k9, .inr (1, [.ref tc, .int (nI zn_28), .int nu, .int ki, .int ce, .int lo])), (tc, .inl (cI, 16, .inl ftn_28))]) [0, 1] rfl
    have hD9 := hD.sub (ws' := [(k9, .inr (1, [.ref tc, .int (nI zn_28), .int nu, .int ki, .int ce, .int lo])), (tc, .inl (cI, 16, .inl ftn_28))]) [0, 1] (by decide) rfl
    exact W.iret (v := v_29) hx hb hr (fun t ht hW => ⟨⟨v_29, (), rfl, trivial, ⟨zn_28, ftn_28, by rw [ht]; exact hP9, hD9, (by omega)⟩⟩, hS.F ht⟩) hS.2.2 dX1_begin_171
  by_cases k_30 : x = 23
  · subst k_30
    refine lv_tableIn (off := 154) (tgt := 172) hx hb dX1_begin_18 (by decide) (by decide) (by decide) (by decide) ?_
    refine lv_aload_n hx hb dX1_begin_172 rfl (lv_at hl 1 rfl) ?_
    refine lv_bipush (v := 20) hx hb dX1_begin_173 (by decide) ?_
    refine lv_iload_n hx hb dX1_begin_175 rfl (lv_at hl 0 rfl) ?_
    have hPc_31 := hP.sub (ws' := [(k9, .inr (1, [.ref tc, .int (nI zn_2), .int nu, .int ki, .int ce, .int lo])), (tc, .inl (cI, 16, .inl ftn_2))]) [0, 1] rfl
    have hDc_31 := hD.sub (ws' := [(k9, .inr (1, [.ref tc, .int (nI zn_2), .int nu, .int ki, .int ce, .int lo])), (tc, .inl (cI, 16, .inl ftn_2))]) [0, 1] (by decide) rfl
    have hFc_31 := va_free (wc := [(k9, .inr (1, [.ref tc, .int (nI zn_2), .int nu, .int ki, .int ce, .int lo])), (tc, .inl (cI, 16, .inl ftn_2))]) hD hS hA [0, 1] rfl
    refine va_calli (va_runV (As := [.int 20, .int 1]) (rest := []) ⟨hx, hb, hml, hown, hts⟩ (r_X1_begin_1 l dC dI cI cZ cL cJ H.size k9 tc zn_2 nu ki ce lo ftn_2 20 (by omega)) (cwV 2 hts gX1_begin_X1_begin rfl rfl rfl (by decide +kernel) ⟨Nat.le_of_ble_eq_true rfl, Nat.le_of_ble_eq_true rfl⟩) ⟨fun a U g mk q => by obtain ⟨q0, q1, qP, qK, qD, qS⟩ := q; exact ⟨q0, q1, qP, va_K.moved (u := U) (U := U.calling g mk a) (Vm.Alike.refl U.vm) qK, qD, stt_same rfl qS⟩, va_recv hK hP (ci := 1) (q0 := 0) rfl rfl, fun U hU hW => ⟨rfl, by rw [hU], by rw [hU]; exact hPc_31, va_K.moved hW.alike hK, hDc_31.weaken (fun _ _ _ _ => trivial), by rw [hU]; exact stt_warm hW (stt_narrow (stt_kept hst hS.2.1) hFc_31)⟩⟩ rfl rfl hl.1 rfl (lv_room (Nat.le_of_ble_eq_true rfl)) dX1_begin_176 ⟨Nat.le_of_ble_eq_true rfl, Nat.le_of_ble_eq_true rfl⟩) hS (fun q _ h => hFc_31 q h) hFc_31 (fun r_31 u_31 t_31 H1 locs ht hvm h_31 hB hz1 hk1 hS => ?_)
    obtain ⟨zn_31, ftn_31, hP1, hD1, hF_31_0⟩ := hB
    rw [ht] at hP1
    obtain ⟨hP, hD⟩ := va_join (wr := []) (w1 := [(k9, .inr (1, [.ref tc, .int (nI zn_31), .int nu, .int ki, .int ce, .int lo])), (tc, .inl (cI, 16, .inl ftn_31))]) hP hD [0, 1] [] rfl rfl (by decide) (by decide) hk1 hFc_31 hP1 hD1
    generalize H1 = H at hP hS ⊢
    have hP : va_P (dC, dI) vwCl [(k9, .inr (1, [.ref tc, .int (nI zn_31), .int nu, .int ki, .int ce, .int lo])), (tc, .inl (cI, 16, .inl ftn_31))] H := hP
    have hD : va_D A [(k9, .inr (1, [.ref tc, .int (nI zn_31), .int nu, .int ki, .int ce, .int lo])), (tc, .inl (cI, 16, .inl ftn_31))] := hD
    refine lv_aload_n hx hb dX1_begin_179 rfl (lv_at hl 1 rfl) ?_
    refine lv_iconst (v := 0) hx hb dX1_begin_180 (by decide) ?_
    refine lv_iload_n hx hb dX1_begin_181 rfl (lv_at hl 0 rfl) ?_
    have hPc_32 := hP.sub (ws' := [(k9, .inr (1, [.ref tc, .int (nI zn_31), .int nu, .int ki, .int ce, .int lo])), (tc, .inl (cI, 16, .inl ftn_31))]) [0, 1] rfl
    have hDc_32 := hD.sub (ws' := [(k9, .inr (1, [.ref tc, .int (nI zn_31), .int nu, .int ki, .int ce, .int lo])), (tc, .inl (cI, 16, .inl ftn_31))]) [0, 1] (by decide) rfl
    have hFc_32 := va_free (wc := [(k9, .inr (1, [.ref tc, .int (nI zn_31), .int nu, .int ki, .int ce, .int lo])), (tc, .inl (cI, 16, .inl ftn_31))]) hD hS hA [0, 1] rfl
    refine va_calli (va_runV (As := [.int 0, .int 1]) (rest := [.int r_31]) ⟨hx, hb, hml, hown, hts⟩ (r_X1_askAnew_1 l dC dI cI cZ cL cJ H.size k9 tc zn_31 nu ki ce lo ftn_31 0 (by omega)) (cwV 2 hts gX1_begin_X1_askAnew rfl rfl rfl (by decide +kernel) ⟨Nat.le_of_ble_eq_true rfl, Nat.le_of_ble_eq_true rfl⟩) ⟨fun a U g mk q => by obtain ⟨q0, q1, qP, qK, qD, qS⟩ := q; exact ⟨q0, q1, qP, va_K.moved (u := U) (U := U.calling g mk a) (Vm.Alike.refl U.vm) qK, qD, stt_same rfl qS⟩, va_recv hK hP (ci := 1) (q0 := 0) rfl rfl, fun U hU hW => ⟨rfl, by rw [hU], by rw [hU]; exact hPc_32, va_K.moved hW.alike hK, hDc_32.weaken (fun _ _ _ _ => trivial), by rw [hU]; exact stt_warm hW (stt_narrow (stt_kept hst hS.2.1) hFc_32)⟩⟩ rfl rfl hl.1 rfl (lv_room (Nat.le_of_ble_eq_true rfl)) dX1_begin_182 ⟨Nat.le_of_ble_eq_true rfl, Nat.le_of_ble_eq_true rfl⟩) hS (fun q _ h => hFc_32 q h) hFc_32 (fun r_32 u_32 t_32 H1 locs ht hvm h_32 hB hz1 hk1 hS => ?_)
    obtain ⟨zn_32, ftn_32, hP1, hD1, hF_32_0⟩ := hB
    rw [ht] at hP1
    obtain ⟨hP, hD⟩ := va_join (wr := []) (w1 := [(k9, .inr (1, [.ref tc, .int (nI zn_32), .int nu, .int ki, .int ce, .int lo])), (tc, .inl (cI, 16, .inl ftn_32))]) hP hD [0, 1] [] rfl rfl (by decide) (by decide) hk1 hFc_32 hP1 hD1
    generalize H1 = H at hP hS ⊢
    have hP : va_P (dC, dI) vwCl [(k9, .inr (1, [.ref tc, .int (nI zn_32), .int nu, .int ki, .int ce, .int lo])), (tc, .inl (cI, 16, .inl ftn_32))] H := hP
    have hD : va_D A [(k9, .inr (1, [.ref tc, .int (nI zn_32), .int nu, .int ki, .int ce, .int lo])), (tc, .inl (cI, 16, .inl ftn_32))] := hD
    refine lv_isub hx hb dX1_begin_185 ?_
    refine lv_topi (fun v_33 e_33 => ?_)
    have hP9 := hP.sub (ws' := [(k9, .inr (1, [.ref tc, .int (nI zn_32), .int nu, .int ki, .int ce, .int lo])), (tc, .inl (cI, 16, .inl ftn_32))]) [0, 1] rfl
    have hD9 := hD.sub (ws' := [(k9, .inr (1, [.ref tc, .int (nI zn_32), .int nu, .int ki, .int ce, .int lo])), (tc, .inl (cI, 16, .inl ftn_32))]) [0, 1] (by decide) rfl
    exact W.iret (v := v_33) hx hb hr (fun t ht hW => ⟨⟨v_33, (), rfl, trivial, ⟨zn_32, ftn_32, by rw [ht]; exact hP9, hD9, (by omega)⟩⟩, hS.F ht⟩) hS.2.2 dX1_begin_186
  by_cases k_34 : x = 24
  · subst k_34
    refine lv_tableIn (off := 169) (tgt := 187) hx hb dX1_begin_18 (by decide) (by decide) (by decide) (by decide) ?_
    refine lv_aload_n hx hb dX1_begin_187 rfl (lv_at hl 1 rfl) ?_
    refine lv_bipush (v := 21) hx hb dX1_begin_188 (by decide) ?_
    refine lv_iload_n hx hb dX1_begin_190 rfl (lv_at hl 0 rfl) ?_
    have hPc_35 := hP.sub (ws' := [(k9, .inr (1, [.ref tc, .int (nI zn_2), .int nu, .int ki, .int ce, .int lo])), (tc, .inl (cI, 16, .inl ftn_2))]) [0, 1] rfl
    have hDc_35 := hD.sub (ws' := [(k9, .inr (1, [.ref tc, .int (nI zn_2), .int nu, .int ki, .int ce, .int lo])), (tc, .inl (cI, 16, .inl ftn_2))]) [0, 1] (by decide) rfl
    have hFc_35 := va_free (wc := [(k9, .inr (1, [.ref tc, .int (nI zn_2), .int nu, .int ki, .int ce, .int lo])), (tc, .inl (cI, 16, .inl ftn_2))]) hD hS hA [0, 1] rfl
    refine va_calli (va_runV (As := [.int 21, .int 1]) (rest := []) ⟨hx, hb, hml, hown, hts⟩ (r_X1_begin_1 l dC dI cI cZ cL cJ H.size k9 tc zn_2 nu ki ce lo ftn_2 21 (by omega)) (cwV 2 hts gX1_begin_X1_begin rfl rfl rfl (by decide +kernel) ⟨Nat.le_of_ble_eq_true rfl, Nat.le_of_ble_eq_true rfl⟩) ⟨fun a U g mk q => by obtain ⟨q0, q1, qP, qK, qD, qS⟩ := q; exact ⟨q0, q1, qP, va_K.moved (u := U) (U := U.calling g mk a) (Vm.Alike.refl U.vm) qK, qD, stt_same rfl qS⟩, va_recv hK hP (ci := 1) (q0 := 0) rfl rfl, fun U hU hW => ⟨rfl, by rw [hU], by rw [hU]; exact hPc_35, va_K.moved hW.alike hK, hDc_35.weaken (fun _ _ _ _ => trivial), by rw [hU]; exact stt_warm hW (stt_narrow (stt_kept hst hS.2.1) hFc_35)⟩⟩ rfl rfl hl.1 rfl (lv_room (Nat.le_of_ble_eq_true rfl)) dX1_begin_191 ⟨Nat.le_of_ble_eq_true rfl, Nat.le_of_ble_eq_true rfl⟩) hS (fun q _ h => hFc_35 q h) hFc_35 (fun r_35 u_35 t_35 H1 locs ht hvm h_35 hB hz1 hk1 hS => ?_)
    obtain ⟨zn_35, ftn_35, hP1, hD1, hF_35_0⟩ := hB
    rw [ht] at hP1
    obtain ⟨hP, hD⟩ := va_join (wr := []) (w1 := [(k9, .inr (1, [.ref tc, .int (nI zn_35), .int nu, .int ki, .int ce, .int lo])), (tc, .inl (cI, 16, .inl ftn_35))]) hP hD [0, 1] [] rfl rfl (by decide) (by decide) hk1 hFc_35 hP1 hD1
    generalize H1 = H at hP hS ⊢
    have hP : va_P (dC, dI) vwCl [(k9, .inr (1, [.ref tc, .int (nI zn_35), .int nu, .int ki, .int ce, .int lo])), (tc, .inl (cI, 16, .inl ftn_35))] H := hP
    have hD : va_D A [(k9, .inr (1, [.ref tc, .int (nI zn_35), .int nu, .int ki, .int ce, .int lo])), (tc, .inl (cI, 16, .inl ftn_35))] := hD
    refine lv_iconst (v := 2) hx hb dX1_begin_194 (by decide) ?_
    refine lv_imul hx hb dX1_begin_195 ?_
    refine lv_topi (fun v_36 e_36 => ?_)
    have hP9 := hP.sub (ws' := [(k9, .inr (1, [.ref tc, .int (nI zn_35), .int nu, .int ki, .int ce, .int lo])), (tc, .inl (cI, 16, .inl ftn_35))]) [0, 1] rfl
    have hD9 := hD.sub (ws' := [(k9, .inr (1, [.ref tc, .int (nI zn_35), .int nu, .int ki, .int ce, .int lo])), (tc, .inl (cI, 16, .inl ftn_35))]) [0, 1] (by decide) rfl
    exact W.iret (v := v_36) hx hb hr (fun t ht hW => ⟨⟨v_36, (), rfl, trivial, ⟨zn_35, ftn_35, by rw [ht]; exact hP9, hD9, (by omega)⟩⟩, hS.F ht⟩) hS.2.2 dX1_begin_196
  have kT_4 := lv_neT k_4 (show (10 : Int32).toInt = 10 from rfl)
  have kT_5 := lv_neT k_5 (show (11 : Int32).toInt = 11 from rfl)
  have kT_9 := lv_neT k_9 (show (12 : Int32).toInt = 12 from rfl)
  have kT_12 := lv_neT k_12 (show (13 : Int32).toInt = 13 from rfl)
  have kT_15 := lv_neT k_15 (show (14 : Int32).toInt = 14 from rfl)
  have kT_18 := lv_neT k_18 (show (15 : Int32).toInt = 15 from rfl)
  have kT_19 := lv_neT k_19 (show (16 : Int32).toInt = 16 from rfl)
  have kT_20 := lv_neT k_20 (show (17 : Int32).toInt = 17 from rfl)
  have kT_21 := lv_neT k_21 (show (18 : Int32).toInt = 18 from rfl)
  have kT_22 := lv_neT k_22 (show (19 : Int32).toInt = 19 from rfl)
  have kT_23 := lv_neT k_23 (show (20 : Int32).toInt = 20 from rfl)
  have kT_24 := lv_neT k_24 (show (21 : Int32).toInt = 21 from rfl)
  have kT_27 := lv_neT k_27 (show (22 : Int32).toInt = 22 from rfl)
  have kT_30 := lv_neT k_30 (show (23 : Int32).toInt = 23 from rfl)
  have kT_34 := lv_neT k_34 (show (24 : Int32).toInt = 24 from rfl)
  refine lv_tableOut (tgt := 197) hx hb dX1_begin_18 (by omega) (by decide) ?_
  refine lv_iconst (v := 0) hx hb dX1_begin_197 (by decide) ?_
  have hP9 := hP.sub (ws' := [(k9, .inr (1, [.ref tc, .int (nI zn_2), .int nu, .int ki, .int ce, .int lo])), (tc, .inl (cI, 16, .inl ftn_2))]) [0, 1] rfl
  have hD9 := hD.sub (ws' := [(k9, .inr (1, [.ref tc, .int (nI zn_2), .int nu, .int ki, .int ce, .int lo])), (tc, .inl (cI, 16, .inl ftn_2))]) [0, 1] (by decide) rfl
  exact W.iret (v := 0) hx hb hr (fun t ht hW => ⟨⟨0, (), rfl, trivial, ⟨zn_2, ftn_2, by rw [ht]; exact hP9, hD9, (by omega)⟩⟩, hS.F ht⟩) hS.2.2 dX1_begin_198
set_option maxHeartbeats 4000000 in
set_option maxRecDepth 100000 in
theorem r_X1_askAnew_0 (l : Launch) (dC : Nat → ClassId) (dI : Nat → Nat → Nat) (cI cZ cL cJ : ClassId) (sz : Nat) (k9 : Nat) (tc : Nat) (z : Nat) (nu : Int32) (ki : Int32) (ce : Int32) (lo : Int32) (ft : Nat → Int32) (x : Int32) (hz : z ≤ 16) : Met l yX1_askAnew wsX1_askAnew ({ frames := 33, cells := 0, slots := 0, locals := 744 }) (va_Pc [.ref k9, .int x, .int 0] (fun U => U.heap.size = sz ∧ va_P (dC, dI) vwCl [(k9, .inr (1, [.ref tc, .int (nI z), .int nu, .int ki, .int ce, .int lo])), (tc, .inl (cI, 16, .inl ft))] U.heap ∧ va_K (dC, dI) vwCl [(cI, .int), (cZ, .boolean), (cL, .object RX3), (cJ, .array .int)] U ∧ va_D (fun _ => True) [(k9, .inr (1, [.ref tc, .int (nI z), .int nu, .int ki, .int ce, .int lo])), (tc, .inl (cI, 16, .inl ft))] ∧ stt (va_A [(k9, .inr (1, [.ref tc, .int (nI z), .int nu, .int ki, .int ce, .int lo])), (tc, .inl (cI, 16, .inl ft))] sz) U U.heap)) (va_Qi (fun r (_ : Unit) => True) (fun (_ : Unit) t => ∃ (zn : Nat) (ftn : Nat → Int32), va_P (dC, dI) vwCl [(k9, .inr (1, [.ref tc, .int (nI zn), .int nu, .int ki, .int ce, .int lo])), (tc, .inl (cI, 16, .inl ftn))] t.heap ∧ va_D (va_A [(k9, .inr (1, [.ref tc, .int (nI z), .int nu, .int ki, .int ce, .int lo])), (tc, .inl (cI, 16, .inl ft))] sz) [(k9, .inr (1, [.ref tc, .int (nI zn), .int nu, .int ki, .int ce, .int lo])), (tc, .inl (cI, 16, .inl ftn))] ∧ zn ≤ 16) (va_A [(k9, .inr (1, [.ref tc, .int (nI z), .int nu, .int ki, .int ce, .int lo])), (tc, .inl (cI, 16, .inl ft))] sz)) 0 0 (va_A [(k9, .inr (1, [.ref tc, .int (nI z), .int nu, .int ki, .int ce, .int lo])), (tc, .inl (cI, 16, .inl ft))] sz) := by
  refine Met.ofW (cc := cX1_askAnew) (maxL := 3) (ret := (some .int)) (by decide) rfl ?_
  intro p e s m args below meth c s₁ B hml hv
  obtain ⟨rfl, hsz, hP, hK, hD0, hst⟩ := hv
  have hx := B.exec
  have hb := B.bytes
  have hr := B.returns
  have hts := atoms_spec (ws := wsX1_askAnew) B.pre
  have hown : s.vm.findClass RX1 = some m.cls := findClass_of_methodNamed B.named
  have hlocks := B.notSynchronized
  subst hsz
  have hD := hD0.self (sz := s.heap.size)
  generalize hAe : va_A [(k9, .inr (1, [.ref tc, .int (nI z), .int nu, .int ki, .int ce, .int lo])), (tc, .inl (cI, 16, .inl ft))] s.heap.size = A at hD hst ⊢
  have hA : ∀ q : Nat, s.heap.size ≤ q → A q := fun q h => by rw [← hAe]; exact Or.inr h
  have hS : va_S A s.heap s.heap [] := va_S.rf
  have hP : va_P (dC, dI) vwCl [(k9, .inr (1, [.ref tc, .int (nI z), .int nu, .int ki, .int ce, .int lo])), (tc, .inl (cI, 16, .inl ft))] s.heap := hP
  obtain ⟨⟨tb1, hZ1, hT1⟩, ⟨tb2, hZ2, hT2⟩, ⟨tb3, hZ3, hT3⟩, hNk⟩ := id hst
  have hl := lv_entry ([.ref k9, .int x, .int 0]) (n := 3) (Nat.le_of_ble_eq_true rfl)
  rw [lg_entry_eq]
  generalize (lg_sl ([.ref k9, .int x, .int 0]) ++ List.replicate (3 - (lg_sl ([.ref k9, .int x, .int 0])).length) Slot.unset).toArray = ls at hl ⊢
  have hl : lv_has ls 3 [(0, .ref k9), (1, .int x), (2, .int 0)] := hl
  refine lv_aload_n hx hb dX1_askAnew_0 rfl (lv_at hl 0 rfl) ?_
  refine lv_aload_n hx hb dX1_askAnew_1 rfl (lv_at hl 0 rfl) ?_
  refine lv_iload_n hx hb dX1_askAnew_2 rfl (lv_at hl 1 rfl) ?_
  have hPc_1 := hP.sub (ws' := [(k9, .inr (1, [.ref tc, .int (nI z), .int nu, .int ki, .int ce, .int lo]))]) [0] rfl
  refine vp_callSi (W.runV (As := [.int x]) (rest := [.ref k9]) ⟨hx, hb, hml, hown, hts⟩ (r_X1_bodyFor l dC dI cI cZ cL cJ k9 tc z nu ki ce lo x ) (cwV 1 hts gX1_askAnew_X1_bodyFor rfl rfl rfl (by decide +kernel) ⟨Nat.le_of_ble_eq_true rfl, Nat.le_of_ble_eq_true rfl⟩) ⟨fun a U g mk q => by obtain ⟨q0, qP, qK, qS⟩ := q; exact ⟨q0, qP, va_K.moved (u := U) (U := U.calling g mk a) (Vm.Alike.refl U.vm) qK, stt_same rfl qS⟩, va_recv hK hP (ci := 1) (q0 := 0) rfl rfl, fun U hU hW => ⟨rfl, by rw [hU]; exact hPc_1, va_K.moved hW.alike hK, by rw [hU]; exact stt_warm hW (stt_narrow (stt_kept hst hS.2.1) (fun _ h => h.elim))⟩⟩ rfl rfl hl.1 rfl (lv_room (Nat.le_of_ble_eq_true rfl)) dX1_askAnew_3 ⟨Nat.le_of_ble_eq_true rfl, Nat.le_of_ble_eq_true rfl⟩) (fun r_1 h_1 => ?_)
  refine lv_iload_n hx hb dX1_askAnew_6 rfl (lv_at hl 2 rfl) ?_
  have hPc_2 := hP.sub (ws' := [(k9, .inr (1, [.ref tc, .int (nI z), .int nu, .int ki, .int ce, .int lo])), (tc, .inl (cI, 16, .inl ft))]) [0, 1] rfl
  have hDc_2 := hD.sub (ws' := [(k9, .inr (1, [.ref tc, .int (nI z), .int nu, .int ki, .int ce, .int lo])), (tc, .inl (cI, 16, .inl ft))]) [0, 1] (by decide) rfl
  have hFc_2 := va_free (wc := [(k9, .inr (1, [.ref tc, .int (nI z), .int nu, .int ki, .int ce, .int lo])), (tc, .inl (cI, 16, .inl ft))]) hD hS hA [0, 1] rfl
  refine va_calli (va_runV (As := [.int r_1, .int 0]) (rest := []) ⟨hx, hb, hml, hown, hts⟩ (r_X1_begin_0 l dC dI cI cZ cL cJ s.heap.size k9 tc z nu ki ce lo ft r_1 (by omega)) (cwV 2 hts gX1_askAnew_X1_begin rfl rfl rfl (by decide +kernel) ⟨Nat.le_of_ble_eq_true rfl, Nat.le_of_ble_eq_true rfl⟩) ⟨fun a U g mk q => by obtain ⟨q0, q1, qP, qK, qD, qS⟩ := q; exact ⟨q0, q1, qP, va_K.moved (u := U) (U := U.calling g mk a) (Vm.Alike.refl U.vm) qK, qD, stt_same rfl qS⟩, va_recv hK hP (ci := 1) (q0 := 0) rfl rfl, fun U hU hW => ⟨rfl, by rw [hU], by rw [hU]; exact hPc_2, va_K.moved hW.alike hK, hDc_2.weaken (fun _ _ _ _ => trivial), by rw [hU]; exact stt_warm hW (stt_narrow (stt_kept hst hS.2.1) hFc_2)⟩⟩ rfl rfl hl.1 rfl (lv_room (Nat.le_of_ble_eq_true rfl)) dX1_askAnew_7 ⟨Nat.le_of_ble_eq_true rfl, Nat.le_of_ble_eq_true rfl⟩) hS (fun q _ h => hFc_2 q h) hFc_2 (fun r_2 u_2 t_2 H1 locs ht hvm h_2 hB hz1 hk1 hS => ?_)
  obtain ⟨zn_2, ftn_2, hP1, hD1, hF_2_0⟩ := hB
  rw [ht] at hP1
  obtain ⟨hP, hD⟩ := va_join (wr := []) (w1 := [(k9, .inr (1, [.ref tc, .int (nI zn_2), .int nu, .int ki, .int ce, .int lo])), (tc, .inl (cI, 16, .inl ftn_2))]) hP hD [0, 1] [] rfl rfl (by decide) (by decide) hk1 hFc_2 hP1 hD1
  generalize H1 = H at hP hS ⊢
  have hP : va_P (dC, dI) vwCl [(k9, .inr (1, [.ref tc, .int (nI zn_2), .int nu, .int ki, .int ce, .int lo])), (tc, .inl (cI, 16, .inl ftn_2))] H := hP
  have hD : va_D A [(k9, .inr (1, [.ref tc, .int (nI zn_2), .int nu, .int ki, .int ce, .int lo])), (tc, .inl (cI, 16, .inl ftn_2))] := hD
  have hP9 := hP.sub (ws' := [(k9, .inr (1, [.ref tc, .int (nI zn_2), .int nu, .int ki, .int ce, .int lo])), (tc, .inl (cI, 16, .inl ftn_2))]) [0, 1] rfl
  have hD9 := hD.sub (ws' := [(k9, .inr (1, [.ref tc, .int (nI zn_2), .int nu, .int ki, .int ce, .int lo])), (tc, .inl (cI, 16, .inl ftn_2))]) [0, 1] (by decide) rfl
  exact W.iret (v := r_2) hx hb hr (fun t ht hW => ⟨⟨r_2, (), rfl, trivial, ⟨zn_2, ftn_2, by rw [ht]; exact hP9, hD9, (by omega)⟩⟩, hS.F ht⟩) hS.2.2 dX1_askAnew_10
set_option maxHeartbeats 4000000 in
set_option maxRecDepth 100000 in
theorem r_X1_answer (l : Launch) (dC : Nat → ClassId) (dI : Nat → Nat → Nat) (cI cZ cL cJ : ClassId) (sz : Nat) (k9 : Nat) (tc : Nat) (z : Nat) (nu : Int32) (ki : Int32) (ce : Int32) (lo : Int32) (ft : Nat → Int32) (h : Nat) (v0 : Int32) (v1 : Int32) (v2 : Int32) (v3 : Int32) (v5 : Int32) (hh : Nat) (ww : Nat) (kk : Nat) (b1 : Nat) (b2 : Nat) (b3 : Nat) (b4 : Nat) (b5 : Nat) (g1 : Nat → Int32) (g2 : Nat → Int32) (g3 : Nat → Int32) (g4 : Nat → Int32) (g5 : Nat → Int32) (i : Nat) (x : Int32) (hz : z ≤ 16) (hhb : hh ≤ 999) (hww : ww ≤ 6) (hkk : kk ≤ 6) (hi : i < 6) : Met l yX1_answer wsX1_answer ({ frames := 34, cells := 0, slots := 0, locals := 766 }) (va_Pc [.ref k9, .ref h, .int (nI i), .int x] (fun U => U.heap.size = sz ∧ va_P (dC, dI) vwCl [(k9, .inr (1, [.ref tc, .int (nI z), .int nu, .int ki, .int ce, .int lo])), (tc, .inl (cI, 16, .inl ft)), (h, .inr (3, [.int v0, .int v1, .int v2, .int v3, .int (nI hh), .int v5, .int (nI ww), .int (nI kk), .ref b1, .ref b2, .ref b3, .ref b4, .ref b5])), (b1, .inl (cI, 6, .inl g1)), (b2, .inl (cI, 6, .inl g2)), (b3, .inl (cI, 6, .inl g3)), (b4, .inl (cI, 6, .inl g4)), (b5, .inl (cI, 6, .inl g5))] U.heap ∧ va_K (dC, dI) vwCl [(cI, .int), (cZ, .boolean), (cL, .object RX3), (cJ, .array .int)] U ∧ va_D (fun _ => True) [(k9, .inr (1, [.ref tc, .int (nI z), .int nu, .int ki, .int ce, .int lo])), (tc, .inl (cI, 16, .inl ft)), (h, .inr (3, [.int v0, .int v1, .int v2, .int v3, .int (nI hh), .int v5, .int (nI ww), .int (nI kk), .ref b1, .ref b2, .ref b3, .ref b4, .ref b5])), (b1, .inl (cI, 6, .inl g1)), (b2, .inl (cI, 6, .inl g2)), (b3, .inl (cI, 6, .inl g3)), (b4, .inl (cI, 6, .inl g4)), (b5, .inl (cI, 6, .inl g5))] ∧ stt (va_A [(k9, .inr (1, [.ref tc, .int (nI z), .int nu, .int ki, .int ce, .int lo])), (tc, .inl (cI, 16, .inl ft)), (h, .inr (3, [.int v0, .int v1, .int v2, .int v3, .int (nI hh), .int v5, .int (nI ww), .int (nI kk), .ref b1, .ref b2, .ref b3, .ref b4, .ref b5])), (b1, .inl (cI, 6, .inl g1)), (b2, .inl (cI, 6, .inl g2)), (b3, .inl (cI, 6, .inl g3)), (b4, .inl (cI, 6, .inl g4)), (b5, .inl (cI, 6, .inl g5))] sz) U U.heap)) (va_Qi (fun r (_ : Unit) => True) (fun (_ : Unit) t => ∃ (zn : Nat) (nun : Int32) (kin : Int32) (cen : Int32) (lon : Int32) (ftn : Nat → Int32), va_P (dC, dI) vwCl [(k9, .inr (1, [.ref tc, .int (nI zn), .int nun, .int kin, .int cen, .int lon])), (tc, .inl (cI, 16, .inl ftn)), (h, .inr (3, [.int v0, .int v1, .int v2, .int v3, .int (nI hh), .int v5, .int (nI ww), .int (nI kk), .ref b1, .ref b2, .ref b3, .ref b4, .ref b5])), (b1, .inl (cI, 6, .inl g1)), (b2, .inl (cI, 6, .inl g2)), (b3, .inl (cI, 6, .inl g3)), (b4, .inl (cI, 6, .inl g4)), (b5, .inl (cI, 6, .inl g5))] t.heap ∧ va_D (va_A [(k9, .inr (1, [.ref tc, .int (nI z), .int nu, .int ki, .int ce, .int lo])), (tc, .inl (cI, 16, .inl ft)), (h, .inr (3, [.int v0, .int v1, .int v2, .int v3, .int (nI hh), .int v5, .int (nI ww), .int (nI kk), .ref b1, .ref b2, .ref b3, .ref b4, .ref b5])), (b1, .inl (cI, 6, .inl g1)), (b2, .inl (cI, 6, .inl g2)), (b3, .inl (cI, 6, .inl g3)), (b4, .inl (cI, 6, .inl g4)), (b5, .inl (cI, 6, .inl g5))] sz) [(k9, .inr (1, [.ref tc, .int (nI zn), .int nun, .int kin, .int cen, .int lon])), (tc, .inl (cI, 16, .inl ftn)), (h, .inr (3, [.int v0, .int v1, .int v2, .int v3, .int (nI hh), .int v5, .int (nI ww), .int (nI kk), .ref b1, .ref b2, .ref b3, .ref b4, .ref b5])), (b1, .inl (cI, 6, .inl g1)), (b2, .inl (cI, 6, .inl g2)), (b3, .inl (cI, 6, .inl g3)), (b4, .inl (cI, 6, .inl g4)), (b5, .inl (cI, 6, .inl g5))] ∧ zn ≤ 16) (va_A [(k9, .inr (1, [.ref tc, .int (nI z), .int nu, .int ki, .int ce, .int lo])), (tc, .inl (cI, 16, .inl ft)), (h, .inr (3, [.int v0, .int v1, .int v2, .int v3, .int (nI hh), .int v5, .int (nI ww), .int (nI kk), .ref b1, .ref b2, .ref b3, .ref b4, .ref b5])), (b1, .inl (cI, 6, .inl g1)), (b2, .inl (cI, 6, .inl g2)), (b3, .inl (cI, 6, .inl g3)), (b4, .inl (cI, 6, .inl g4)), (b5, .inl (cI, 6, .inl g5))] sz)) 0 0 (va_A [(k9, .inr (1, [.ref tc, .int (nI z), .int nu, .int ki, .int ce, .int lo])), (tc, .inl (cI, 16, .inl ft)), (h, .inr (3, [.int v0, .int v1, .int v2, .int v3, .int (nI hh), .int v5, .int (nI ww), .int (nI kk), .ref b1, .ref b2, .ref b3, .ref b4, .ref b5])), (b1, .inl (cI, 6, .inl g1)), (b2, .inl (cI, 6, .inl g2)), (b3, .inl (cI, 6, .inl g3)), (b4, .inl (cI, 6, .inl g4)), (b5, .inl (cI, 6, .inl g5))] sz) := by
  refine Met.ofW (cc := cX1_answer) (maxL := 4) (ret := (some .int)) (by decide) rfl ?_
  intro p e s m args below meth c s₁ B hml hv
  obtain ⟨rfl, hsz, hP, hK, hD0, hst⟩ := hv
  have hx := B.exec
  have hb := B.bytes
  have hr := B.returns
  have hts := atoms_spec (ws := wsX1_answer) B.pre
  have hown : s.vm.findClass RX1 = some m.cls := findClass_of_methodNamed B.named
  have hlocks := B.notSynchronized
  subst hsz
  have hD := hD0.self (sz := s.heap.size)
  generalize hAe : va_A [(k9, .inr (1, [.ref tc, .int (nI z), .int nu, .int ki, .int ce, .int lo])), (tc, .inl (cI, 16, .inl ft)), (h, .inr (3, [.int v0, .int v1, .int v2, .int v3, .int (nI hh), .int v5, .int (nI ww), .int (nI kk), .ref b1, .ref b2, .ref b3, .ref b4, .ref b5])), (b1, .inl (cI, 6, .inl g1)), (b2, .inl (cI, 6, .inl g2)), (b3, .inl (cI, 6, .inl g3)), (b4, .inl (cI, 6, .inl g4)), (b5, .inl (cI, 6, .inl g5))] s.heap.size = A at hD hst ⊢
  have hA : ∀ q : Nat, s.heap.size ≤ q → A q := fun q h => by rw [← hAe]; exact Or.inr h
  have hS : va_S A s.heap s.heap [] := va_S.rf
  have hP : va_P (dC, dI) vwCl [(k9, .inr (1, [.ref tc, .int (nI z), .int nu, .int ki, .int ce, .int lo])), (tc, .inl (cI, 16, .inl ft)), (h, .inr (3, [.int v0, .int v1, .int v2, .int v3, .int (nI hh), .int v5, .int (nI ww), .int (nI kk), .ref b1, .ref b2, .ref b3, .ref b4, .ref b5])), (b1, .inl (cI, 6, .inl g1)), (b2, .inl (cI, 6, .inl g2)), (b3, .inl (cI, 6, .inl g3)), (b4, .inl (cI, 6, .inl g4)), (b5, .inl (cI, 6, .inl g5))] s.heap := hP
  obtain ⟨⟨tb1, hZ1, hT1⟩, ⟨tb2, hZ2, hT2⟩, ⟨tb3, hZ3, hT3⟩, hNk⟩ := id hst
  have hl := lv_entry ([.ref k9, .ref h, .int (nI i), .int x]) (n := 4) (Nat.le_of_ble_eq_true rfl)
  rw [lg_entry_eq]
  generalize (lg_sl ([.ref k9, .ref h, .int (nI i), .int x]) ++ List.replicate (4 - (lg_sl ([.ref k9, .ref h, .int (nI i), .int x])).length) Slot.unset).toArray = ls at hl ⊢
  have hl : lv_has ls 4 [(0, .ref k9), (1, .ref h), (2, .int (nI i)), (3, .int x)] := hl
  refine lv_aload_n hx hb dX1_answer_0 rfl (lv_at hl 0 rfl) ?_
  refine lv_iconst (v := 0) hx hb dX1_answer_1 (by decide) ?_
  refine va_put (D := (dC, dI)) (ci := 1) (v := .int 0) (ty := .int) (C := RX1) (T := TX1) (N := 6) hx hb hts i_X1_answer_X1 tyX1 tyX1_ok nmX1 hown hK hP hD hS 0 rfl rfl 1 (by decide) (hts (.fieldLink RX1 15 "MillTalk$Asks" "traced" "I") (by decide +kernel)) (fun _ h9 => h9) rfl (by decide +kernel) rfl rfl (Nat.le_of_ble_eq_true rfl) dX1_answer_2 (fun H locs hP hD hS => ?_)
  have hP : va_P (dC, dI) vwCl [(k9, .inr (1, [.ref tc, .int 0, .int nu, .int ki, .int ce, .int lo])), (tc, .inl (cI, 16, .inl ft)), (h, .inr (3, [.int v0, .int v1, .int v2, .int v3, .int (nI hh), .int v5, .int (nI ww), .int (nI kk), .ref b1, .ref b2, .ref b3, .ref b4, .ref b5])), (b1, .inl (cI, 6, .inl g1)), (b2, .inl (cI, 6, .inl g2)), (b3, .inl (cI, 6, .inl g3)), (b4, .inl (cI, 6, .inl g4)), (b5, .inl (cI, 6, .inl g5))] H := hP
  have hD : va_D A [(k9, .inr (1, [.ref tc, .int 0, .int nu, .int ki, .int ce, .int lo])), (tc, .inl (cI, 16, .inl ft)), (h, .inr (3, [.int v0, .int v1, .int v2, .int v3, .int (nI hh), .int v5, .int (nI ww), .int (nI kk), .ref b1, .ref b2, .ref b3, .ref b4, .ref b5])), (b1, .inl (cI, 6, .inl g1)), (b2, .inl (cI, 6, .inl g2)), (b3, .inl (cI, 6, .inl g3)), (b4, .inl (cI, 6, .inl g4)), (b5, .inl (cI, 6, .inl g5))] := hD
  refine lv_aload_n hx hb dX1_answer_5 rfl (lv_at hl 0 rfl) ?_
  refine lv_iload_n hx hb dX1_answer_6 rfl (lv_at hl 2 rfl) ?_
  refine va_put (D := (dC, dI)) (ci := 1) (v := .int (nI i)) (ty := .int) (C := RX1) (T := TX1) (N := 6) hx hb hts i_X1_answer_X1 tyX1 tyX1_ok nmX1 hown hK hP hD hS 0 rfl rfl 2 (by decide) (hts (.fieldLink RX1 19 "MillTalk$Asks" "number" "I") (by decide +kernel)) (fun _ h9 => h9) rfl (by decide +kernel) rfl rfl (Nat.le_of_ble_eq_true rfl) dX1_answer_7 (fun H locs hP hD hS => ?_)
  have hP : va_P (dC, dI) vwCl [(k9, .inr (1, [.ref tc, .int 0, .int (nI i), .int ki, .int ce, .int lo])), (tc, .inl (cI, 16, .inl ft)), (h, .inr (3, [.int v0, .int v1, .int v2, .int v3, .int (nI hh), .int v5, .int (nI ww), .int (nI kk), .ref b1, .ref b2, .ref b3, .ref b4, .ref b5])), (b1, .inl (cI, 6, .inl g1)), (b2, .inl (cI, 6, .inl g2)), (b3, .inl (cI, 6, .inl g3)), (b4, .inl (cI, 6, .inl g4)), (b5, .inl (cI, 6, .inl g5))] H := hP
  have hD : va_D A [(k9, .inr (1, [.ref tc, .int 0, .int (nI i), .int ki, .int ce, .int lo])), (tc, .inl (cI, 16, .inl ft)), (h, .inr (3, [.int v0, .int v1, .int v2, .int v3, .int (nI hh), .int v5, .int (nI ww), .int (nI kk), .ref b1, .ref b2, .ref b3, .ref b4, .ref b5])), (b1, .inl (cI, 6, .inl g1)), (b2, .inl (cI, 6, .inl g2)), (b3, .inl (cI, 6, .inl g3)), (b4, .inl (cI, 6, .inl g4)), (b5, .inl (cI, 6, .inl g5))] := hD
  refine lv_aload_n hx hb dX1_answer_10 rfl (lv_at hl 0 rfl) ?_
  refine lv_aload_n hx hb dX1_answer_11 rfl (lv_at hl 1 rfl) ?_
  refine va_get (D := (dC, dI)) (ci := 3) (v := .ref b2) (C := RX3) (T := TX3) (N := 13) hx hb hts i_X1_answer_X3 hown hK hP 2 rfl rfl 9 (by decide) (hts (.fieldLink RX1 22 "MillTalk$Level" "kinds" "[I") (by decide +kernel)) (fun _ h9 => h9) rfl dX1_answer_12 ?_
  refine lv_iload_n hx hb dX1_answer_15 rfl (lv_at hl 2 rfl) ?_
  refine va_iald hx hb hK hP 4 0 rfl rfl (vp_in_nI (by omega) (by omega)) dX1_answer_16 ?_
  refine lv_topi (fun v_1 e_1 => ?_)
  refine va_put (D := (dC, dI)) (ci := 1) (v := .int v_1) (ty := .int) (C := RX1) (T := TX1) (N := 6) hx hb hts i_X1_answer_X1 tyX1 tyX1_ok nmX1 hown hK hP hD hS 0 rfl rfl 3 (by decide) (hts (.fieldLink RX1 27 "MillTalk$Asks" "kind" "I") (by decide +kernel)) (fun _ h9 => h9) rfl (by decide +kernel) rfl rfl (Nat.le_of_ble_eq_true rfl) dX1_answer_17 (fun H locs hP hD hS => ?_)
  have hP : va_P (dC, dI) vwCl [(k9, .inr (1, [.ref tc, .int 0, .int (nI i), .int v_1, .int ce, .int lo])), (tc, .inl (cI, 16, .inl ft)), (h, .inr (3, [.int v0, .int v1, .int v2, .int v3, .int (nI hh), .int v5, .int (nI ww), .int (nI kk), .ref b1, .ref b2, .ref b3, .ref b4, .ref b5])), (b1, .inl (cI, 6, .inl g1)), (b2, .inl (cI, 6, .inl g2)), (b3, .inl (cI, 6, .inl g3)), (b4, .inl (cI, 6, .inl g4)), (b5, .inl (cI, 6, .inl g5))] H := hP
  have hD : va_D A [(k9, .inr (1, [.ref tc, .int 0, .int (nI i), .int v_1, .int ce, .int lo])), (tc, .inl (cI, 16, .inl ft)), (h, .inr (3, [.int v0, .int v1, .int v2, .int v3, .int (nI hh), .int v5, .int (nI ww), .int (nI kk), .ref b1, .ref b2, .ref b3, .ref b4, .ref b5])), (b1, .inl (cI, 6, .inl g1)), (b2, .inl (cI, 6, .inl g2)), (b3, .inl (cI, 6, .inl g3)), (b4, .inl (cI, 6, .inl g4)), (b5, .inl (cI, 6, .inl g5))] := hD
  refine lv_aload_n hx hb dX1_answer_20 rfl (lv_at hl 0 rfl) ?_
  refine lv_aload_n hx hb dX1_answer_21 rfl (lv_at hl 1 rfl) ?_
  refine va_get (D := (dC, dI)) (ci := 3) (v := .ref b3) (C := RX3) (T := TX3) (N := 13) hx hb hts i_X1_answer_X3 hown hK hP 2 rfl rfl 10 (by decide) (hts (.fieldLink RX1 30 "MillTalk$Level" "places" "[I") (by decide +kernel)) (fun _ h9 => h9) rfl dX1_answer_22 ?_
  refine lv_iload_n hx hb dX1_answer_25 rfl (lv_at hl 2 rfl) ?_
  refine va_iald hx hb hK hP 5 0 rfl rfl (vp_in_nI (by omega) (by omega)) dX1_answer_26 ?_
  refine lv_topi (fun v_2 e_2 => ?_)
  refine va_put (D := (dC, dI)) (ci := 1) (v := .int v_2) (ty := .int) (C := RX1) (T := TX1) (N := 6) hx hb hts i_X1_answer_X1 tyX1 tyX1_ok nmX1 hown hK hP hD hS 0 rfl rfl 4 (by decide) (hts (.fieldLink RX1 33 "MillTalk$Asks" "cell" "I") (by decide +kernel)) (fun _ h9 => h9) rfl (by decide +kernel) rfl rfl (Nat.le_of_ble_eq_true rfl) dX1_answer_27 (fun H locs hP hD hS => ?_)
  have hP : va_P (dC, dI) vwCl [(k9, .inr (1, [.ref tc, .int 0, .int (nI i), .int v_1, .int v_2, .int lo])), (tc, .inl (cI, 16, .inl ft)), (h, .inr (3, [.int v0, .int v1, .int v2, .int v3, .int (nI hh), .int v5, .int (nI ww), .int (nI kk), .ref b1, .ref b2, .ref b3, .ref b4, .ref b5])), (b1, .inl (cI, 6, .inl g1)), (b2, .inl (cI, 6, .inl g2)), (b3, .inl (cI, 6, .inl g3)), (b4, .inl (cI, 6, .inl g4)), (b5, .inl (cI, 6, .inl g5))] H := hP
  have hD : va_D A [(k9, .inr (1, [.ref tc, .int 0, .int (nI i), .int v_1, .int v_2, .int lo])), (tc, .inl (cI, 16, .inl ft)), (h, .inr (3, [.int v0, .int v1, .int v2, .int v3, .int (nI hh), .int v5, .int (nI ww), .int (nI kk), .ref b1, .ref b2, .ref b3, .ref b4, .ref b5])), (b1, .inl (cI, 6, .inl g1)), (b2, .inl (cI, 6, .inl g2)), (b3, .inl (cI, 6, .inl g3)), (b4, .inl (cI, 6, .inl g4)), (b5, .inl (cI, 6, .inl g5))] := hD
  refine lv_aload_n hx hb dX1_answer_30 rfl (lv_at hl 0 rfl) ?_
  refine lv_aload_n hx hb dX1_answer_31 rfl (lv_at hl 1 rfl) ?_
  refine va_get (D := (dC, dI)) (ci := 3) (v := .ref b4) (C := RX3) (T := TX3) (N := 13) hx hb hts i_X1_answer_X3 hown hK hP 2 rfl rfl 11 (by decide) (hts (.fieldLink RX1 36 "MillTalk$Level" "louds" "[I") (by decide +kernel)) (fun _ h9 => h9) rfl dX1_answer_32 ?_
  refine lv_iload_n hx hb dX1_answer_35 rfl (lv_at hl 2 rfl) ?_
  refine va_iald hx hb hK hP 6 0 rfl rfl (vp_in_nI (by omega) (by omega)) dX1_answer_36 ?_
  refine lv_topi (fun v_3 e_3 => ?_)
  refine va_put (D := (dC, dI)) (ci := 1) (v := .int v_3) (ty := .int) (C := RX1) (T := TX1) (N := 6) hx hb hts i_X1_answer_X1 tyX1 tyX1_ok nmX1 hown hK hP hD hS 0 rfl rfl 5 (by decide) (hts (.fieldLink RX1 39 "MillTalk$Asks" "loud" "I") (by decide +kernel)) (fun _ h9 => h9) rfl (by decide +kernel) rfl rfl (Nat.le_of_ble_eq_true rfl) dX1_answer_37 (fun H locs hP hD hS => ?_)
  have hP : va_P (dC, dI) vwCl [(k9, .inr (1, [.ref tc, .int 0, .int (nI i), .int v_1, .int v_2, .int v_3])), (tc, .inl (cI, 16, .inl ft)), (h, .inr (3, [.int v0, .int v1, .int v2, .int v3, .int (nI hh), .int v5, .int (nI ww), .int (nI kk), .ref b1, .ref b2, .ref b3, .ref b4, .ref b5])), (b1, .inl (cI, 6, .inl g1)), (b2, .inl (cI, 6, .inl g2)), (b3, .inl (cI, 6, .inl g3)), (b4, .inl (cI, 6, .inl g4)), (b5, .inl (cI, 6, .inl g5))] H := hP
  have hD : va_D A [(k9, .inr (1, [.ref tc, .int 0, .int (nI i), .int v_1, .int v_2, .int v_3])), (tc, .inl (cI, 16, .inl ft)), (h, .inr (3, [.int v0, .int v1, .int v2, .int v3, .int (nI hh), .int v5, .int (nI ww), .int (nI kk), .ref b1, .ref b2, .ref b3, .ref b4, .ref b5])), (b1, .inl (cI, 6, .inl g1)), (b2, .inl (cI, 6, .inl g2)), (b3, .inl (cI, 6, .inl g3)), (b4, .inl (cI, 6, .inl g4)), (b5, .inl (cI, 6, .inl g5))] := hD
  refine lv_aload_n hx hb dX1_answer_40 rfl (lv_at hl 0 rfl) ?_
  refine lv_iload_n hx hb dX1_answer_41 rfl (lv_at hl 3 rfl) ?_
  refine lv_iconst (v := 0) hx hb dX1_answer_42 (by decide) ?_
  have hPc_4 := hP.sub (ws' := [(k9, .inr (1, [.ref tc, .int (nI 0), .int (nI i), .int v_1, .int v_2, .int v_3])), (tc, .inl (cI, 16, .inl ft))]) [0, 1] rfl
  have hDc_4 := hD.sub (ws' := [(k9, .inr (1, [.ref tc, .int (nI 0), .int (nI i), .int v_1, .int v_2, .int v_3])), (tc, .inl (cI, 16, .inl ft))]) [0, 1] (by decide) rfl
  have hFc_4 := va_free (wc := [(k9, .inr (1, [.ref tc, .int (nI 0), .int (nI i), .int v_1, .int v_2, .int v_3])), (tc, .inl (cI, 16, .inl ft))]) hD hS hA [0, 1] rfl
  refine va_calli (va_runV (As := [.int x, .int 0]) (rest := []) ⟨hx, hb, hml, hown, hts⟩ (r_X1_askAnew_0 l dC dI cI cZ cL cJ H.size k9 tc 0 (nI i) v_1 v_2 v_3 ft x (by omega)) (cwV 2 hts gX1_answer_X1_askAnew rfl rfl rfl (by decide +kernel) ⟨Nat.le_of_ble_eq_true rfl, Nat.le_of_ble_eq_true rfl⟩) ⟨fun a U g mk q => by obtain ⟨q0, q1, qP, qK, qD, qS⟩ := q; exact ⟨q0, q1, qP, va_K.moved (u := U) (U := U.calling g mk a) (Vm.Alike.refl U.vm) qK, qD, stt_same rfl qS⟩, va_recv hK hP (ci := 1) (q0 := 0) rfl rfl, fun U hU hW => ⟨rfl, by rw [hU], by rw [hU]; exact hPc_4, va_K.moved hW.alike hK, hDc_4.weaken (fun _ _ _ _ => trivial), by rw [hU]; exact stt_warm hW (stt_narrow (stt_kept hst hS.2.1) hFc_4)⟩⟩ rfl rfl hl.1 rfl (lv_room (Nat.le_of_ble_eq_true rfl)) dX1_answer_43 ⟨Nat.le_of_ble_eq_true rfl, Nat.le_of_ble_eq_true rfl⟩) hS (fun q _ h => hFc_4 q h) hFc_4 (fun r_4 u_4 t_4 H1 locs ht hvm h_4 hB hz1 hk1 hS => ?_)
  obtain ⟨zn_4, ftn_4, hP1, hD1, hF_4_0⟩ := hB
  rw [ht] at hP1
  obtain ⟨hP, hD⟩ := va_join (wr := [(h, .inr (3, [.int v0, .int v1, .int v2, .int v3, .int (nI hh), .int v5, .int (nI ww), .int (nI kk), .ref b1, .ref b2, .ref b3, .ref b4, .ref b5])), (b1, .inl (cI, 6, .inl g1)), (b2, .inl (cI, 6, .inl g2)), (b3, .inl (cI, 6, .inl g3)), (b4, .inl (cI, 6, .inl g4)), (b5, .inl (cI, 6, .inl g5))]) (w1 := [(k9, .inr (1, [.ref tc, .int (nI zn_4), .int (nI i), .int v_1, .int v_2, .int v_3])), (tc, .inl (cI, 16, .inl ftn_4))]) hP hD [0, 1] [2, 3, 4, 5, 6, 7] rfl rfl (by decide) (by decide) hk1 hFc_4 hP1 hD1
  generalize H1 = H at hP hS ⊢
  have hP : va_P (dC, dI) vwCl [(h, .inr (3, [.int v0, .int v1, .int v2, .int v3, .int (nI hh), .int v5, .int (nI ww), .int (nI kk), .ref b1, .ref b2, .ref b3, .ref b4, .ref b5])), (b1, .inl (cI, 6, .inl g1)), (b2, .inl (cI, 6, .inl g2)), (b3, .inl (cI, 6, .inl g3)), (b4, .inl (cI, 6, .inl g4)), (b5, .inl (cI, 6, .inl g5)), (k9, .inr (1, [.ref tc, .int (nI zn_4), .int (nI i), .int v_1, .int v_2, .int v_3])), (tc, .inl (cI, 16, .inl ftn_4))] H := hP
  have hD : va_D A [(h, .inr (3, [.int v0, .int v1, .int v2, .int v3, .int (nI hh), .int v5, .int (nI ww), .int (nI kk), .ref b1, .ref b2, .ref b3, .ref b4, .ref b5])), (b1, .inl (cI, 6, .inl g1)), (b2, .inl (cI, 6, .inl g2)), (b3, .inl (cI, 6, .inl g3)), (b4, .inl (cI, 6, .inl g4)), (b5, .inl (cI, 6, .inl g5)), (k9, .inr (1, [.ref tc, .int (nI zn_4), .int (nI i), .int v_1, .int v_2, .int v_3])), (tc, .inl (cI, 16, .inl ftn_4))] := hD
  have hP9 := hP.sub (ws' := [(k9, .inr (1, [.ref tc, .int (nI zn_4), .int (nI i), .int v_1, .int v_2, .int v_3])), (tc, .inl (cI, 16, .inl ftn_4)), (h, .inr (3, [.int v0, .int v1, .int v2, .int v3, .int (nI hh), .int v5, .int (nI ww), .int (nI kk), .ref b1, .ref b2, .ref b3, .ref b4, .ref b5])), (b1, .inl (cI, 6, .inl g1)), (b2, .inl (cI, 6, .inl g2)), (b3, .inl (cI, 6, .inl g3)), (b4, .inl (cI, 6, .inl g4)), (b5, .inl (cI, 6, .inl g5))]) [6, 7, 0, 1, 2, 3, 4, 5] rfl
  have hD9 := hD.sub (ws' := [(k9, .inr (1, [.ref tc, .int (nI zn_4), .int (nI i), .int v_1, .int v_2, .int v_3])), (tc, .inl (cI, 16, .inl ftn_4)), (h, .inr (3, [.int v0, .int v1, .int v2, .int v3, .int (nI hh), .int v5, .int (nI ww), .int (nI kk), .ref b1, .ref b2, .ref b3, .ref b4, .ref b5])), (b1, .inl (cI, 6, .inl g1)), (b2, .inl (cI, 6, .inl g2)), (b3, .inl (cI, 6, .inl g3)), (b4, .inl (cI, 6, .inl g4)), (b5, .inl (cI, 6, .inl g5))]) [6, 7, 0, 1, 2, 3, 4, 5] (by decide) rfl
  exact W.iret (v := r_4) hx hb hr (fun t ht hW => ⟨⟨r_4, (), rfl, trivial, ⟨zn_4, (nI i), v_1, v_2, v_3, ftn_4, by rw [ht]; exact hP9, hD9, (by omega)⟩⟩, hS.F ht⟩) hS.2.2 dX1_answer_46
