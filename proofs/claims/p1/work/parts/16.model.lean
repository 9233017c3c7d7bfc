set_option maxHeartbeats 4000000 in
set_option maxRecDepth 100000 in
theorem c_X8_in (l : Launch) (dC : Nat → ClassId) (dI : Nat → Nat → Nat) (cI cZ cL cJ : ClassId) (v : Int64) (lo : Int64) (hi : Int64)  : Met l yX8_in wsX8_in ({ frames := 0, cells := 0, slots := 0, locals := 0 }) (va_Pc [.long v, .long lo, .long hi] (fun U => va_P (dC, dI) vwCl [] U.heap ∧ va_K (dC, dI) vwCl [(cI, .int), (cZ, .boolean), (cL, .object RX3), (cJ, .array .int)] U)) (vp_Si (fun r => (r = 0 ∧ (v < lo ∨ hi < v)) ∨ (r = 1 ∧ (¬ (v < lo ∨ hi < v))))) 0 0 (fun _ => False) := by
  refine Met.ofW (cc := cX8_in) (maxL := 6) (ret := (some .boolean)) (by decide) rfl ?_
  intro p e s m args below meth c s₁ B hml hv
  obtain ⟨rfl, hP, hK⟩ := hv
  have hx := B.exec
  have hb := B.bytes
  have hr := B.returns
  have hts := atoms_spec (ws := wsX8_in) B.pre
  have hown : s.vm.findClass RX8 = some m.cls := findClass_of_methodNamed B.named
  have hlocks := B.notSynchronized
  have hP : va_P (dC, dI) vwCl [] s.heap := hP
  have hl := lv_entry ([.long v, .long lo, .long hi]) (n := 6) (Nat.le_of_ble_eq_true rfl)
  rw [lg_entry_eq]
  generalize (lg_sl ([.long v, .long lo, .long hi]) ++ List.replicate (6 - (lg_sl ([.long v, .long lo, .long hi])).length) Slot.unset).toArray = ls at hl ⊢
  have hl : lv_has ls 6 [(0, .long v), (2, .long lo), (4, .long hi)] := hl
  refine lv_lload_n hx hb dX8_in_0 rfl (lv_at hl 0 rfl) ?_
  refine lv_lload_n hx hb dX8_in_1 rfl (lv_at hl 1 rfl) ?_
  refine W.lcmp hx hb dX8_in_2 ?_
  refine lv_if_lt (tgt := 17) hx hb dX8_in_3 (by decide) (fun c_1 => ?_) (fun c_1 => ?_)
  · have c_1 : (v < lo : Prop) := (lg_cmp_lt _ _).mp c_1
    refine lv_iconst (v := 0) hx hb dX8_in_17 (by decide) ?_
    exact W.zret (v := 0) hx hb hr (by decide) (fun t ht hW => ⟨0, rfl, Or.inl (⟨rfl, (by first | assumption | grind)⟩), ht⟩) (fun _ h => by cases h) dX8_in_18
  · have c_1 : ¬ (v < lo) := fun h => c_1 ((lg_cmp_lt _ _).mpr h)
    refine lv_lload_n hx hb dX8_in_6 rfl (lv_at hl 0 rfl) ?_
    refine lv_lload hx hb dX8_in_7 (lv_at hl 2 rfl) ?_
    refine W.lcmp hx hb dX8_in_9 ?_
    refine lv_if_gt (tgt := 17) hx hb dX8_in_10 (by decide) (fun c_2 => ?_) (fun c_2 => ?_)
    · have c_2 : (hi < v : Prop) := (lg_cmp_gt _ _).mp c_2
      refine lv_iconst (v := 0) hx hb dX8_in_17 (by decide) ?_
      exact W.zret (v := 0) hx hb hr (by decide) (fun t ht hW => ⟨0, rfl, Or.inl (⟨rfl, (by first | assumption | grind)⟩), ht⟩) (fun _ h => by cases h) dX8_in_18
    · have c_2 : ¬ (hi < v) := fun h => c_2 ((lg_cmp_gt _ _).mpr h)
      refine lv_iconst (v := 1) hx hb dX8_in_13 (by decide) ?_
      refine lv_goto (tgt := 18) hx hb dX8_in_14 (by decide) ?_
      exact W.zret (v := 1) hx hb hr (by decide) (fun t ht hW => ⟨1, rfl, Or.inr (⟨rfl, (by first | assumption | grind)⟩), ht⟩) (fun _ h => by cases h) dX8_in_18
set_option maxHeartbeats 4000000 in
set_option maxRecDepth 100000 in
theorem c_X8_isRow (l : Launch) (dC : Nat → ClassId) (dI : Nat → Nat → Nat) (cI cZ cL cJ : ClassId) (a : Int32)  : Met l yX8_isRow wsX8_isRow ({ frames := 1, cells := 0, slots := 0, locals := 25 }) (va_Pc [.int a] (fun U => va_P (dC, dI) vwCl [] U.heap ∧ va_K (dC, dI) vwCl [(cI, .int), (cZ, .boolean), (cL, .object RX3), (cJ, .array .int)] U)) (vp_Si (fun r => (r = 0 ∧ (a < 0 ∨ 8 ≤ a)) ∨ (r = 1 ∧ (¬ (a < 0 ∨ 8 ≤ a))))) 0 0 (fun _ => False) := by
  refine Met.ofW (cc := cX8_isRow) (maxL := 1) (ret := (some .boolean)) (by decide) rfl ?_
  intro p e s m args below meth c s₁ B hml hv
  obtain ⟨rfl, hP, hK⟩ := hv
  have hx := B.exec
  have hb := B.bytes
  have hr := B.returns
  have hts := atoms_spec (ws := wsX8_isRow) B.pre
  have hown : s.vm.findClass RX8 = some m.cls := findClass_of_methodNamed B.named
  have hlocks := B.notSynchronized
  have hP : va_P (dC, dI) vwCl [] s.heap := hP
  have hl := lv_entry ([.int a]) (n := 1) (Nat.le_of_ble_eq_true rfl)
  rw [lg_entry_eq]
  generalize (lg_sl ([.int a]) ++ List.replicate (1 - (lg_sl ([.int a])).length) Slot.unset).toArray = ls at hl ⊢
  have hl : lv_has ls 1 [(0, .int a)] := hl
  refine lv_iload_n hx hb dX8_isRow_0 rfl (lv_at hl 0 rfl) ?_
  refine lv_i2l hx hb dX8_isRow_1 rfl ?_
  refine lv_lconst (v := 0) hx hb dX8_isRow_2 (by decide) ?_
  refine lv_ldc2 (own := RX8) (v := 7) hx hb hown (hts (.constantLong RX8 55 (7)) (by decide +kernel)) dX8_isRow_3 ?_
  have hPc_1 := hP.sub (ws' := []) [] rfl
  refine vp_callSi (W.runS (As := [.long (a).toInt64, .long 0, .long 7]) (rest := []) ⟨hx, hb, hml, hown, hts⟩ (c_X8_in l dC dI cI cZ cL cJ ((a).toInt64) 0 7 ) (va_cwS 3 hts gX8_isRow_X8_in rfl rfl rfl (by decide +kernel) ⟨Nat.le_of_ble_eq_true rfl, Nat.le_of_ble_eq_true rfl⟩) ⟨fun a U g mk q => by obtain ⟨q0, qP, qK⟩ := q; exact ⟨q0, qP, va_K.moved (u := U) (U := U.calling g mk a) (Vm.Alike.refl U.vm) qK⟩, fun U hU hW => ⟨rfl, by rw [hU]; exact hPc_1, va_K.moved hW.alike hK⟩⟩ rfl rfl hl.1 rfl (lv_room (Nat.le_of_ble_eq_true rfl)) dX8_isRow_6 ⟨Nat.le_of_ble_eq_true rfl, Nat.le_of_ble_eq_true rfl⟩) (fun r_1 h_1 => ?_)
  rcases h_1 with ⟨h_1, f_1_0_0⟩ | ⟨h_1, f_1_1_0⟩
  · subst h_1
    exact W.zret (v := 0) hx hb hr (by decide) (fun t ht hW => ⟨0, rfl, Or.inl ⟨rfl, row64.mp f_1_0_0⟩, ht⟩) (fun _ h => by cases h) dX8_isRow_9
  · subst h_1
    exact W.zret (v := 1) hx hb hr (by decide) (fun t ht hW => ⟨1, rfl, Or.inr ⟨rfl, fun q => f_1_1_0 (row64.mpr q)⟩, ht⟩) (fun _ h => by cases h) dX8_isRow_9
set_option maxHeartbeats 4000000 in
set_option maxRecDepth 100000 in
theorem c_X8_isSound (l : Launch) (dC : Nat → ClassId) (dI : Nat → Nat → Nat) (cI cZ cL cJ : ClassId) (mo : Nat) (m_la : Nat) (m_sz : Nat) (m_it : Nat) (m_st : Nat) (m_mv : Nat) (m_tp : Nat) (m_rd : Nat) (m_ac : Nat) (m_as : Nat) (m_wo : Nat) (m_ik : Nat) (m_ke : Nat) (m_tr : Nat) (n : Int32)  : Met l yX8_isSound wsX8_isSound ({ frames := 1, cells := 0, slots := 0, locals := 25 }) (va_Pc [.ref mo, .int n] (fun U => va_P (dC, dI) vwCl [(mo, .inr (8, [.ref m_la, .ref m_sz, .ref m_it, .int 0, .int 0, .ref m_st, .ref m_mv, .ref m_tp, .int 0, .int 0, .int 0, .int 0, .int 0, .int 0, .int 0, .ref m_rd, .ref m_ac, .int 0, .ref m_as, .ref m_wo, .ref m_ik, .ref m_ke, .ref m_tr, .int 0])), (m_st, .inl (cI, 38, .inl (fun _ => 0)))] U.heap ∧ va_K (dC, dI) vwCl [(cI, .int), (cZ, .boolean), (cL, .object RX3), (cJ, .array .int)] U)) (vp_Si (fun r => r = 0)) 0 0 (fun _ => False) := by
  refine Met.ofW (cc := cX8_isSound) (maxL := 2) (ret := (some .boolean)) (by decide) rfl ?_
  intro p e s m args below meth c s₁ B hml hv
  obtain ⟨rfl, hP, hK⟩ := hv
  have hx := B.exec
  have hb := B.bytes
  have hr := B.returns
  have hts := atoms_spec (ws := wsX8_isSound) B.pre
  have hown : s.vm.findClass RX8 = some m.cls := findClass_of_methodNamed B.named
  have hlocks := B.notSynchronized
  have hP : va_P (dC, dI) vwCl [(mo, .inr (8, [.ref m_la, .ref m_sz, .ref m_it, .int 0, .int 0, .ref m_st, .ref m_mv, .ref m_tp, .int 0, .int 0, .int 0, .int 0, .int 0, .int 0, .int 0, .ref m_rd, .ref m_ac, .int 0, .ref m_as, .ref m_wo, .ref m_ik, .ref m_ke, .ref m_tr, .int 0])), (m_st, .inl (cI, 38, .inl (fun _ => 0)))] s.heap := hP
  have hl := lv_entry ([.ref mo, .int n]) (n := 2) (Nat.le_of_ble_eq_true rfl)
  rw [lg_entry_eq]
  generalize (lg_sl ([.ref mo, .int n]) ++ List.replicate (2 - (lg_sl ([.ref mo, .int n])).length) Slot.unset).toArray = ls at hl ⊢
  have hl : lv_has ls 2 [(0, .ref mo), (1, .int n)] := hl
  refine lv_iload_n hx hb dX8_isSound_0 rfl (lv_at hl 1 rfl) ?_
  refine lv_i2l hx hb dX8_isSound_1 rfl ?_
  refine lv_lconst (v := 0) hx hb dX8_isSound_2 (by decide) ?_
  refine lv_aload_n hx hb dX8_isSound_3 rfl (lv_at hl 0 rfl) ?_
  refine va_get (D := (dC, dI)) (ci := 8) (v := .ref m_st) (C := RX8) (T := TX8) (N := 24) hx hb hts i_X8_isSound_X8 hown hK hP 0 rfl rfl 5 (by decide) (hts (.fieldLink RX8 19 "MillTalkModel" "st" "[I") (by decide +kernel)) (fun _ h9 => h9) rfl dX8_isSound_4 ?_
  refine lv_iconst (v := 4) hx hb dX8_isSound_7 (by decide) ?_
  refine va_iald hx hb hK hP 1 0 rfl rfl (by unfold vp_in; decide) dX8_isSound_8 ?_
  refine lv_topi (fun v_1 e_1 => ?_)
  obtain rfl : v_1 = 0 := e_1
  refine lv_iconst (v := 1) hx hb dX8_isSound_9 (by decide) ?_
  refine lv_isub hx hb dX8_isSound_10 ?_
  refine lv_topi (fun v_2 e_2 => ?_)
  obtain rfl : v_2 = (-1) := (e_2).trans (by decide)
  refine lv_i2l (v := (-1)) hx hb dX8_isSound_11 (by decide) ?_
  have hPc_3 := hP.sub (ws' := []) [] rfl
  refine vp_callSi (W.runS (As := [.long (n).toInt64, .long 0, .long (-1)]) (rest := []) ⟨hx, hb, hml, hown, hts⟩ (c_X8_in l dC dI cI cZ cL cJ ((n).toInt64) 0 (-1) ) (va_cwS 3 hts gX8_isSound_X8_in rfl rfl rfl (by decide +kernel) ⟨Nat.le_of_ble_eq_true rfl, Nat.le_of_ble_eq_true rfl⟩) ⟨fun a U g mk q => by obtain ⟨q0, qP, qK⟩ := q; exact ⟨q0, qP, va_K.moved (u := U) (U := U.calling g mk a) (Vm.Alike.refl U.vm) qK⟩, fun U hU hW => ⟨rfl, by rw [hU]; exact hPc_3, va_K.moved hW.alike hK⟩⟩ rfl rfl hl.1 rfl (lv_room (Nat.le_of_ble_eq_true rfl)) dX8_isSound_12 ⟨Nat.le_of_ble_eq_true rfl, Nat.le_of_ble_eq_true rfl⟩) (fun r_3 h_3 => ?_)
  rcases h_3 with ⟨h_3, f_3_0_0⟩ | ⟨h_3, f_3_1_0⟩
  · subst h_3
    exact W.zret (v := 0) hx hb hr (by decide) (fun t ht hW => ⟨0, rfl, rfl, ht⟩) (fun _ h => by cases h) dX8_isSound_15
  · subst h_3
    exact absurd (no_in _) f_3_1_0
set_option maxHeartbeats 4000000 in
set_option maxRecDepth 100000 in
theorem c_X8_those (l : Launch) (dC : Nat → ClassId) (dI : Nat → Nat → Nat) (cI cZ cL cJ : ClassId) (mo : Nat) (m_la : Nat) (m_sz : Nat) (m_it : Nat) (m_st : Nat) (m_mv : Nat) (m_tp : Nat) (m_rd : Nat) (m_ac : Nat) (m_as : Nat) (m_wo : Nat) (m_ik : Nat) (m_ke : Nat) (m_tr : Nat) (n : Int32)  : Met l yX8_those wsX8_those ({ frames := 0, cells := 0, slots := 0, locals := 0 }) (va_Pc [.ref mo, .int n] (fun U => va_P (dC, dI) vwCl [(mo, .inr (8, [.ref m_la, .ref m_sz, .ref m_it, .int 0, .int 0, .ref m_st, .ref m_mv, .ref m_tp, .int 0, .int 0, .int 0, .int 0, .int 0, .int 0, .int 0, .ref m_rd, .ref m_ac, .int 0, .ref m_as, .ref m_wo, .ref m_ik, .ref m_ke, .ref m_tr, .int 0])), (m_st, .inl (cI, 38, .inl (fun _ => 0)))] U.heap ∧ va_K (dC, dI) vwCl [(cI, .int), (cZ, .boolean), (cL, .object RX3), (cJ, .array .int)] U)) (vp_Si (fun r => r = 0)) 0 0 (fun _ => False) := by
  refine Met.ofW (cc := cX8_those) (maxL := 4) (ret := (some .int)) (by decide) rfl ?_
  intro p e s m args below meth c s₁ B hml hv
  obtain ⟨rfl, hP, hK⟩ := hv
  have hx := B.exec
  have hb := B.bytes
  have hr := B.returns
  have hts := atoms_spec (ws := wsX8_those) B.pre
  have hown : s.vm.findClass RX8 = some m.cls := findClass_of_methodNamed B.named
  have hlocks := B.notSynchronized
  have hP : va_P (dC, dI) vwCl [(mo, .inr (8, [.ref m_la, .ref m_sz, .ref m_it, .int 0, .int 0, .ref m_st, .ref m_mv, .ref m_tp, .int 0, .int 0, .int 0, .int 0, .int 0, .int 0, .int 0, .ref m_rd, .ref m_ac, .int 0, .ref m_as, .ref m_wo, .ref m_ik, .ref m_ke, .ref m_tr, .int 0])), (m_st, .inl (cI, 38, .inl (fun _ => 0)))] s.heap := hP
  have hl := lv_entry ([.ref mo, .int n]) (n := 4) (Nat.le_of_ble_eq_true rfl)
  rw [lg_entry_eq]
  generalize (lg_sl ([.ref mo, .int n]) ++ List.replicate (4 - (lg_sl ([.ref mo, .int n])).length) Slot.unset).toArray = ls at hl ⊢
  have hl : lv_has ls 4 [(0, .ref mo), (1, .int n)] := hl
  refine lv_iconst (v := 0) hx hb dX8_those_0 (by decide) ?_
  refine lv_istore_n (lv' := [(2, .int 0), (0, .ref mo), (1, .int n)]) hx hb dX8_those_1 rfl hl (by decide) rfl (fun ls hl => ?_)
  refine lv_iconst (v := 0) hx hb dX8_those_2 (by decide) ?_
  refine lv_istore_n (lv' := [(3, .int 0), (2, .int 0), (0, .ref mo), (1, .int n)]) hx hb dX8_those_3 rfl hl (by decide) rfl (fun ls hl => ?_)
  refine lv_iload_n hx hb dX8_those_4 rfl (lv_at hl 0 rfl) ?_
  refine lv_aload_n hx hb dX8_those_5 rfl (lv_at hl 2 rfl) ?_
  refine va_get (D := (dC, dI)) (ci := 8) (v := .ref m_st) (C := RX8) (T := TX8) (N := 24) hx hb hts i_X8_those_X8 hown hK hP 0 rfl rfl 5 (by decide) (hts (.fieldLink RX8 19 "MillTalkModel" "st" "[I") (by decide +kernel)) (fun _ h9 => h9) rfl dX8_those_6 ?_
  refine lv_iconst (v := 4) hx hb dX8_those_9 (by decide) ?_
  refine va_iald hx hb hK hP 1 0 rfl rfl (by unfold vp_in; decide) dX8_those_10 ?_
  refine lv_topi (fun v_1 e_1 => ?_)
  obtain rfl : v_1 = 0 := e_1
  refine lv_icmp_ge (tgt := 43) hx hb dX8_those_11 (by decide) (fun _ => ?_) (fun c_ => absurd (by decide) c_)
  refine lv_iload_n hx hb dX8_those_43 rfl (lv_at hl 1 rfl) ?_
  exact W.iret (v := 0) hx hb hr (fun t ht hW => ⟨0, rfl, rfl, ht⟩) (fun _ h => by cases h) dX8_those_44
set_option maxHeartbeats 4000000 in
set_option maxRecDepth 100000 in
theorem c_X8_ones (l : Launch) (dC : Nat → ClassId) (dI : Nat → Nat → Nat) (cI cZ cL cJ : ClassId)   : Met l yX8_ones wsX8_ones ({ frames := 0, cells := 0, slots := 0, locals := 0 }) (va_Pc [.int 0] (fun U => va_P (dC, dI) vwCl [] U.heap ∧ va_K (dC, dI) vwCl [(cI, .int), (cZ, .boolean), (cL, .object RX3), (cJ, .array .int)] U)) (vp_Si (fun r => r = 0)) 0 0 (fun _ => False) := by
  refine Met.ofW (cc := cX8_ones) (maxL := 3) (ret := (some .int)) (by decide) rfl ?_
  intro p e s m args below meth c s₁ B hml hv
  obtain ⟨rfl, hP, hK⟩ := hv
  have hx := B.exec
  have hb := B.bytes
  have hr := B.returns
  have hts := atoms_spec (ws := wsX8_ones) B.pre
  have hown : s.vm.findClass RX8 = some m.cls := findClass_of_methodNamed B.named
  have hlocks := B.notSynchronized
  have hP : va_P (dC, dI) vwCl [] s.heap := hP
  have hl := lv_entry ([.int 0]) (n := 3) (Nat.le_of_ble_eq_true rfl)
  rw [lg_entry_eq]
  generalize (lg_sl ([.int 0]) ++ List.replicate (3 - (lg_sl ([.int 0])).length) Slot.unset).toArray = ls at hl ⊢
  have hl : lv_has ls 3 [(0, .int 0)] := hl
  refine lv_iconst (v := 0) hx hb dX8_ones_0 (by decide) ?_
  refine lv_istore_n (lv' := [(1, .int 0), (0, .int 0)]) hx hb dX8_ones_1 rfl hl (by decide) rfl (fun ls hl => ?_)
  refine lv_iload_n hx hb dX8_ones_2 rfl (lv_at hl 1 rfl) ?_
  refine lv_istore_n (lv' := [(2, .int 0), (1, .int 0), (0, .int 0)]) hx hb dX8_ones_3 rfl hl (by decide) rfl (fun ls hl => ?_)
  refine lv_iload_n hx hb dX8_ones_4 rfl (lv_at hl 0 rfl) ?_
  refine lv_if_eq (tgt := 20) hx hb dX8_ones_5 (by decide) (fun _ => ?_) (fun c_ => absurd (by decide) c_)
  refine lv_iload_n hx hb dX8_ones_20 rfl (lv_at hl 1 rfl) ?_
  exact W.iret (v := 0) hx hb hr (fun t ht hW => ⟨0, rfl, rfl, ht⟩) (fun _ h => by cases h) dX8_ones_21
set_option maxHeartbeats 4000000 in
set_option maxRecDepth 100000 in
theorem c_X8_find (l : Launch) (dC : Nat → ClassId) (dI : Nat → Nat → Nat) (cI cZ cL cJ : ClassId) (sz : Nat) (mo : Nat) (m_la : Nat) (m_sz : Nat) (m_it : Nat) (m_st : Nat) (m_mv : Nat) (m_tp : Nat) (m_rd : Nat) (m_ac : Nat) (m_as : Nat) (m_wo : Nat) (m_ik : Nat) (m_ke : Nat) (m_tr : Nat) (n : Int32) (r9 : Int32) (hk : (-1000010 : Int32) - n = r9) : Met l yX8_find wsX8_find ({ frames := 0, cells := 0, slots := 0, locals := 0 }) (va_Pc [.ref mo, .int n] (fun U => U.heap.size = sz ∧ va_P (dC, dI) vwCl [(mo, .inr (8, [.ref m_la, .ref m_sz, .ref m_it, .int 0, .int 0, .ref m_st, .ref m_mv, .ref m_tp, .int 0, .int 0, .int 0, .int 0, .int 0, .int 0, .int 0, .ref m_rd, .ref m_ac, .int 0, .ref m_as, .ref m_wo, .ref m_ik, .ref m_ke, .ref m_tr, .int 0]))] U.heap ∧ va_K (dC, dI) vwCl [(cI, .int), (cZ, .boolean), (cL, .object RX3), (cJ, .array .int)] U ∧ va_D (fun _ => True) [(mo, .inr (8, [.ref m_la, .ref m_sz, .ref m_it, .int 0, .int 0, .ref m_st, .ref m_mv, .ref m_tp, .int 0, .int 0, .int 0, .int 0, .int 0, .int 0, .int 0, .ref m_rd, .ref m_ac, .int 0, .ref m_as, .ref m_wo, .ref m_ik, .ref m_ke, .ref m_tr, .int 0]))])) (va_Qi (fun r (_ : Unit) => r = r9) (fun (_ : Unit) t => True) (va_A [(mo, .inr (8, [.ref m_la, .ref m_sz, .ref m_it, .int 0, .int 0, .ref m_st, .ref m_mv, .ref m_tp, .int 0, .int 0, .int 0, .int 0, .int 0, .int 0, .int 0, .ref m_rd, .ref m_ac, .int 0, .ref m_as, .ref m_wo, .ref m_ik, .ref m_ke, .ref m_tr, .int 0]))] sz)) 0 0 (va_A [(mo, .inr (8, [.ref m_la, .ref m_sz, .ref m_it, .int 0, .int 0, .ref m_st, .ref m_mv, .ref m_tp, .int 0, .int 0, .int 0, .int 0, .int 0, .int 0, .int 0, .ref m_rd, .ref m_ac, .int 0, .ref m_as, .ref m_wo, .ref m_ik, .ref m_ke, .ref m_tr, .int 0]))] sz) := by
  refine Met.ofW (cc := cX8_find) (maxL := 2) (ret := (some .int)) (by decide) rfl ?_
  intro p e s m args below meth c s₁ B hml hv
  obtain ⟨rfl, hsz, hP, hK, hD0⟩ := hv
  have hx := B.exec
  have hb := B.bytes
  have hr := B.returns
  have hts := atoms_spec (ws := wsX8_find) B.pre
  have hown : s.vm.findClass RX8 = some m.cls := findClass_of_methodNamed B.named
  have hlocks := B.notSynchronized
  subst hsz
  have hD := hD0.self (sz := s.heap.size)
  generalize hAe : va_A [(mo, .inr (8, [.ref m_la, .ref m_sz, .ref m_it, .int 0, .int 0, .ref m_st, .ref m_mv, .ref m_tp, .int 0, .int 0, .int 0, .int 0, .int 0, .int 0, .int 0, .ref m_rd, .ref m_ac, .int 0, .ref m_as, .ref m_wo, .ref m_ik, .ref m_ke, .ref m_tr, .int 0]))] s.heap.size = A at hD ⊢
  have hA : ∀ q : Nat, s.heap.size ≤ q → A q := fun q h => by rw [← hAe]; exact Or.inr h
  have hS : va_S A s.heap s.heap [] := va_S.rf
  have hP : va_P (dC, dI) vwCl [(mo, .inr (8, [.ref m_la, .ref m_sz, .ref m_it, .int 0, .int 0, .ref m_st, .ref m_mv, .ref m_tp, .int 0, .int 0, .int 0, .int 0, .int 0, .int 0, .int 0, .ref m_rd, .ref m_ac, .int 0, .ref m_as, .ref m_wo, .ref m_ik, .ref m_ke, .ref m_tr, .int 0]))] s.heap := hP
  have hl := lv_entry ([.ref mo, .int n]) (n := 2) (Nat.le_of_ble_eq_true rfl)
  rw [lg_entry_eq]
  generalize (lg_sl ([.ref mo, .int n]) ++ List.replicate (2 - (lg_sl ([.ref mo, .int n])).length) Slot.unset).toArray = ls at hl ⊢
  have hl : lv_has ls 2 [(0, .ref mo), (1, .int n)] := hl
  refine lv_aload_n hx hb dX8_find_0 rfl (lv_at hl 0 rfl) ?_
  refine lv_iload_n hx hb dX8_find_1 rfl (lv_at hl 1 rfl) ?_
  refine va_put (D := (dC, dI)) (ci := 8) (v := .int n) (ty := .int) (C := RX8) (T := TX8) (N := 24) hx hb hts i_X8_find_X8 tyX8 tyX8_ok nmX8 hown hK hP hD hS 0 rfl rfl 3 (by decide) (hts (.fieldLink RX8 50 "MillTalkModel" "status" "I") (by decide +kernel)) (fun _ h9 => h9) rfl (by decide +kernel) rfl rfl (Nat.le_of_ble_eq_true rfl) dX8_find_2 (fun H locs hP hD hS => ?_)
  have hP : va_P (dC, dI) vwCl [(mo, .inr (8, [.ref m_la, .ref m_sz, .ref m_it, .int n, .int 0, .ref m_st, .ref m_mv, .ref m_tp, .int 0, .int 0, .int 0, .int 0, .int 0, .int 0, .int 0, .ref m_rd, .ref m_ac, .int 0, .ref m_as, .ref m_wo, .ref m_ik, .ref m_ke, .ref m_tr, .int 0]))] H := hP
  have hD : va_D A [(mo, .inr (8, [.ref m_la, .ref m_sz, .ref m_it, .int n, .int 0, .ref m_st, .ref m_mv, .ref m_tp, .int 0, .int 0, .int 0, .int 0, .int 0, .int 0, .int 0, .ref m_rd, .ref m_ac, .int 0, .ref m_as, .ref m_wo, .ref m_ik, .ref m_ke, .ref m_tr, .int 0]))] := hD
  refine lv_ldc (own := RX8) (v := (-1000010)) hx hb hown (hts (.constant RX8 54 (-1000010)) (by decide +kernel)) dX8_find_5 ?_
  refine lv_iload_n hx hb dX8_find_7 rfl (lv_at hl 1 rfl) ?_
  refine lv_isub hx hb dX8_find_8 ?_
  refine lv_topi (fun v_1 e_1 => ?_)
  exact W.iret (v := v_1) hx hb hr (fun t ht hW => ⟨⟨v_1, (), rfl, (by rw [e_1]; exact hk), trivial⟩, hS.F ht⟩) hS.2.2 dX8_find_9
set_option maxHeartbeats 4000000 in
set_option maxRecDepth 100000 in
theorem c_X8_well (l : Launch) (dC : Nat → ClassId) (dI : Nat → Nat → Nat) (cI cZ cL cJ : ClassId) (sz : Nat) (mo : Nat) (m_la : Nat) (m_sz : Nat) (m_it : Nat) (m_st : Nat) (m_mv : Nat) (m_tp : Nat) (m_rd : Nat) (m_ac : Nat) (m_as : Nat) (m_wo : Nat) (m_ik : Nat) (m_ke : Nat) (m_tr : Nat) (n : Int32)  : Met l yX8_well wsX8_well ({ frames := 0, cells := 0, slots := 0, locals := 0 }) (va_Pc [.ref mo, .int n] (fun U => U.heap.size = sz ∧ va_P (dC, dI) vwCl [(mo, .inr (8, [.ref m_la, .ref m_sz, .ref m_it, .int 0, .int 0, .ref m_st, .ref m_mv, .ref m_tp, .int 0, .int 0, .int 0, .int 0, .int 0, .int 0, .int 0, .ref m_rd, .ref m_ac, .int 0, .ref m_as, .ref m_wo, .ref m_ik, .ref m_ke, .ref m_tr, .int 0]))] U.heap ∧ va_K (dC, dI) vwCl [(cI, .int), (cZ, .boolean), (cL, .object RX3), (cJ, .array .int)] U ∧ va_D (fun _ => True) [(mo, .inr (8, [.ref m_la, .ref m_sz, .ref m_it, .int 0, .int 0, .ref m_st, .ref m_mv, .ref m_tp, .int 0, .int 0, .int 0, .int 0, .int 0, .int 0, .int 0, .ref m_rd, .ref m_ac, .int 0, .ref m_as, .ref m_wo, .ref m_ik, .ref m_ke, .ref m_tr, .int 0]))])) (va_Qi (fun r (_ : Unit) => r = n) (fun (_ : Unit) t => True) (va_A [(mo, .inr (8, [.ref m_la, .ref m_sz, .ref m_it, .int 0, .int 0, .ref m_st, .ref m_mv, .ref m_tp, .int 0, .int 0, .int 0, .int 0, .int 0, .int 0, .int 0, .ref m_rd, .ref m_ac, .int 0, .ref m_as, .ref m_wo, .ref m_ik, .ref m_ke, .ref m_tr, .int 0]))] sz)) 0 0 (va_A [(mo, .inr (8, [.ref m_la, .ref m_sz, .ref m_it, .int 0, .int 0, .ref m_st, .ref m_mv, .ref m_tp, .int 0, .int 0, .int 0, .int 0, .int 0, .int 0, .int 0, .ref m_rd, .ref m_ac, .int 0, .ref m_as, .ref m_wo, .ref m_ik, .ref m_ke, .ref m_tr, .int 0]))] sz) := by
  refine Met.ofW (cc := cX8_well) (maxL := 2) (ret := (some .int)) (by decide) rfl ?_
  intro p e s m args below meth c s₁ B hml hv
  obtain ⟨rfl, hsz, hP, hK, hD0⟩ := hv
  have hx := B.exec
  have hb := B.bytes
  have hr := B.returns
  have hts := atoms_spec (ws := wsX8_well) B.pre
  have hown : s.vm.findClass RX8 = some m.cls := findClass_of_methodNamed B.named
  have hlocks := B.notSynchronized
  subst hsz
  have hD := hD0.self (sz := s.heap.size)
  generalize hAe : va_A [(mo, .inr (8, [.ref m_la, .ref m_sz, .ref m_it, .int 0, .int 0, .ref m_st, .ref m_mv, .ref m_tp, .int 0, .int 0, .int 0, .int 0, .int 0, .int 0, .int 0, .ref m_rd, .ref m_ac, .int 0, .ref m_as, .ref m_wo, .ref m_ik, .ref m_ke, .ref m_tr, .int 0]))] s.heap.size = A at hD ⊢
  have hA : ∀ q : Nat, s.heap.size ≤ q → A q := fun q h => by rw [← hAe]; exact Or.inr h
  have hS : va_S A s.heap s.heap [] := va_S.rf
  have hP : va_P (dC, dI) vwCl [(mo, .inr (8, [.ref m_la, .ref m_sz, .ref m_it, .int 0, .int 0, .ref m_st, .ref m_mv, .ref m_tp, .int 0, .int 0, .int 0, .int 0, .int 0, .int 0, .int 0, .ref m_rd, .ref m_ac, .int 0, .ref m_as, .ref m_wo, .ref m_ik, .ref m_ke, .ref m_tr, .int 0]))] s.heap := hP
  have hl := lv_entry ([.ref mo, .int n]) (n := 2) (Nat.le_of_ble_eq_true rfl)
  rw [lg_entry_eq]
  generalize (lg_sl ([.ref mo, .int n]) ++ List.replicate (2 - (lg_sl ([.ref mo, .int n])).length) Slot.unset).toArray = ls at hl ⊢
  have hl : lv_has ls 2 [(0, .ref mo), (1, .int n)] := hl
  refine lv_aload_n hx hb dX8_well_0 rfl (lv_at hl 0 rfl) ?_
  refine lv_iconst (v := 0) hx hb dX8_well_1 (by decide) ?_
  refine va_put (D := (dC, dI)) (ci := 8) (v := .int 0) (ty := .int) (C := RX8) (T := TX8) (N := 24) hx hb hts i_X8_well_X8 tyX8 tyX8_ok nmX8 hown hK hP hD hS 0 rfl rfl 3 (by decide) (hts (.fieldLink RX8 50 "MillTalkModel" "status" "I") (by decide +kernel)) (fun _ h9 => h9) rfl (by decide +kernel) rfl rfl (Nat.le_of_ble_eq_true rfl) dX8_well_2 (fun H locs hP hD hS => ?_)
  have hP : va_P (dC, dI) vwCl [(mo, .inr (8, [.ref m_la, .ref m_sz, .ref m_it, .int 0, .int 0, .ref m_st, .ref m_mv, .ref m_tp, .int 0, .int 0, .int 0, .int 0, .int 0, .int 0, .int 0, .ref m_rd, .ref m_ac, .int 0, .ref m_as, .ref m_wo, .ref m_ik, .ref m_ke, .ref m_tr, .int 0]))] H := hP
  have hD : va_D A [(mo, .inr (8, [.ref m_la, .ref m_sz, .ref m_it, .int 0, .int 0, .ref m_st, .ref m_mv, .ref m_tp, .int 0, .int 0, .int 0, .int 0, .int 0, .int 0, .int 0, .ref m_rd, .ref m_ac, .int 0, .ref m_as, .ref m_wo, .ref m_ik, .ref m_ke, .ref m_tr, .int 0]))] := hD
  refine lv_iload_n hx hb dX8_well_5 rfl (lv_at hl 1 rfl) ?_
  exact W.iret (v := n) hx hb hr (fun t ht hW => ⟨⟨n, (), rfl, rfl, trivial⟩, hS.F ht⟩) hS.2.2 dX8_well_6
set_option maxHeartbeats 4000000 in
set_option maxRecDepth 100000 in
theorem c_X8_hours (l : Launch) (dC : Nat → ClassId) (dI : Nat → Nat → Nat) (cI cZ cL cJ : ClassId) (mo : Nat) (m_la : Nat) (m_sz : Nat) (m_it : Nat) (m_st : Nat) (m_mv : Nat) (m_tp : Nat) (m_rd : Nat) (m_ac : Nat) (m_as : Nat) (m_wo : Nat) (m_ik : Nat) (m_ke : Nat) (m_tr : Nat) (k0 : Int32)  : Met l yX8_hours wsX8_hours ({ frames := 0, cells := 0, slots := 0, locals := 0 }) (va_Pc [.ref mo, .int k0] (fun U => va_P (dC, dI) vwCl [(mo, .inr (8, [.ref m_la, .ref m_sz, .ref m_it, .int 0, .int 0, .ref m_st, .ref m_mv, .ref m_tp, .int 0, .int 0, .int 0, .int 0, .int 0, .int 0, .int 0, .ref m_rd, .ref m_ac, .int 0, .ref m_as, .ref m_wo, .ref m_ik, .ref m_ke, .ref m_tr, .int 0]))] U.heap ∧ va_K (dC, dI) vwCl [(cI, .int), (cZ, .boolean), (cL, .object RX3), (cJ, .array .int)] U)) (vp_Si (fun r => r = (-1000002))) 0 0 (fun _ => False) := by
  refine Met.ofW (cc := cX8_hours) (maxL := 3) (ret := (some .int)) (by decide) rfl ?_
  intro p e s m args below meth c s₁ B hml hv
  obtain ⟨rfl, hP, hK⟩ := hv
  have hx := B.exec
  have hb := B.bytes
  have hr := B.returns
  have hts := atoms_spec (ws := wsX8_hours) B.pre
  have hown : s.vm.findClass RX8 = some m.cls := findClass_of_methodNamed B.named
  have hlocks := B.notSynchronized
  have hP : va_P (dC, dI) vwCl [(mo, .inr (8, [.ref m_la, .ref m_sz, .ref m_it, .int 0, .int 0, .ref m_st, .ref m_mv, .ref m_tp, .int 0, .int 0, .int 0, .int 0, .int 0, .int 0, .int 0, .ref m_rd, .ref m_ac, .int 0, .ref m_as, .ref m_wo, .ref m_ik, .ref m_ke, .ref m_tr, .int 0]))] s.heap := hP
  have hl := lv_entry ([.ref mo, .int k0]) (n := 3) (Nat.le_of_ble_eq_true rfl)
  rw [lg_entry_eq]
  generalize (lg_sl ([.ref mo, .int k0]) ++ List.replicate (3 - (lg_sl ([.ref mo, .int k0])).length) Slot.unset).toArray = ls at hl ⊢
  have hl : lv_has ls 3 [(0, .ref mo), (1, .int k0)] := hl
  refine lv_aload_n hx hb dX8_hours_0 rfl (lv_at hl 0 rfl) ?_
  refine va_get (D := (dC, dI)) (ci := 8) (v := .int 0) (C := RX8) (T := TX8) (N := 24) hx hb hts i_X8_hours_X8 hown hK hP 0 rfl rfl 4 (by decide) (hts (.fieldLink RX8 138 "MillTalkModel" "isThere" "Z") (by decide +kernel)) (fun _ h9 => h9) rfl dX8_hours_1 ?_
  refine lv_if_ne (tgt := 10) hx hb dX8_hours_4 (by decide) (fun c_ => absurd (by decide) c_) (fun _ => ?_)
  refine lv_ldc (own := RX8) (v := (-1000002)) hx hb hown (hts (.constant RX8 161 (-1000002)) (by decide +kernel)) dX8_hours_7 ?_
  exact W.iret (v := (-1000002)) hx hb hr (fun t ht hW => ⟨(-1000002), rfl, rfl, ht⟩) (fun _ h => by cases h) dX8_hours_9
set_option maxHeartbeats 4000000 in
set_option maxRecDepth 100000 in
theorem c_X8_cap (l : Launch) (dC : Nat → ClassId) (dI : Nat → Nat → Nat) (cI cZ cL cJ : ClassId) (mo : Nat) (m_la : Nat) (m_sz : Nat) (m_it : Nat) (m_st : Nat) (m_mv : Nat) (m_tp : Nat) (m_rd : Nat) (m_ac : Nat) (m_as : Nat) (m_wo : Nat) (m_ik : Nat) (m_ke : Nat) (m_tr : Nat)  : Met l yX8_cap wsX8_cap ({ frames := 0, cells := 0, slots := 0, locals := 0 }) (va_Pc [.ref mo] (fun U => va_P (dC, dI) vwCl [(mo, .inr (8, [.ref m_la, .ref m_sz, .ref m_it, .int 0, .int 0, .ref m_st, .ref m_mv, .ref m_tp, .int 0, .int 0, .int 0, .int 0, .int 0, .int 0, .int 0, .ref m_rd, .ref m_ac, .int 0, .ref m_as, .ref m_wo, .ref m_ik, .ref m_ke, .ref m_tr, .int 0]))] U.heap ∧ va_K (dC, dI) vwCl [(cI, .int), (cZ, .boolean), (cL, .object RX3), (cJ, .array .int)] U)) (vp_Si (fun r => r = (-1000002))) 0 0 (fun _ => False) := by
  refine Met.ofW (cc := cX8_cap) (maxL := 1) (ret := (some .int)) (by decide) rfl ?_
  intro p e s m args below meth c s₁ B hml hv
  obtain ⟨rfl, hP, hK⟩ := hv
  have hx := B.exec
  have hb := B.bytes
  have hr := B.returns
  have hts := atoms_spec (ws := wsX8_cap) B.pre
  have hown : s.vm.findClass RX8 = some m.cls := findClass_of_methodNamed B.named
  have hlocks := B.notSynchronized
  have hP : va_P (dC, dI) vwCl [(mo, .inr (8, [.ref m_la, .ref m_sz, .ref m_it, .int 0, .int 0, .ref m_st, .ref m_mv, .ref m_tp, .int 0, .int 0, .int 0, .int 0, .int 0, .int 0, .int 0, .ref m_rd, .ref m_ac, .int 0, .ref m_as, .ref m_wo, .ref m_ik, .ref m_ke, .ref m_tr, .int 0]))] s.heap := hP
  have hl := lv_entry ([.ref mo]) (n := 1) (Nat.le_of_ble_eq_true rfl)
  rw [lg_entry_eq]
  generalize (lg_sl ([.ref mo]) ++ List.replicate (1 - (lg_sl ([.ref mo])).length) Slot.unset).toArray = ls at hl ⊢
  have hl : lv_has ls 1 [(0, .ref mo)] := hl
  refine lv_aload_n hx hb dX8_cap_0 rfl (lv_at hl 0 rfl) ?_
  refine va_get (D := (dC, dI)) (ci := 8) (v := .int 0) (C := RX8) (T := TX8) (N := 24) hx hb hts i_X8_cap_X8 hown hK hP 0 rfl rfl 4 (by decide) (hts (.fieldLink RX8 138 "MillTalkModel" "isThere" "Z") (by decide +kernel)) (fun _ h9 => h9) rfl dX8_cap_1 ?_
  refine lv_if_ne (tgt := 10) hx hb dX8_cap_4 (by decide) (fun c_ => absurd (by decide) c_) (fun _ => ?_)
  refine lv_ldc (own := RX8) (v := (-1000002)) hx hb hown (hts (.constant RX8 161 (-1000002)) (by decide +kernel)) dX8_cap_7 ?_
  exact W.iret (v := (-1000002)) hx hb hr (fun t ht hW => ⟨(-1000002), rfl, rfl, ht⟩) (fun _ h => by cases h) dX8_cap_9
set_option maxHeartbeats 4000000 in
set_option maxRecDepth 100000 in
theorem c_X8_sell (l : Launch) (dC : Nat → ClassId) (dI : Nat → Nat → Nat) (cI cZ cL cJ : ClassId) (mo : Nat) (m_la : Nat) (m_sz : Nat) (m_it : Nat) (m_st : Nat) (m_mv : Nat) (m_tp : Nat) (m_rd : Nat) (m_ac : Nat) (m_as : Nat) (m_wo : Nat) (m_ik : Nat) (m_ke : Nat) (m_tr : Nat) (k0 : Int32)  : Met l yX8_sell wsX8_sell ({ frames := 0, cells := 0, slots := 0, locals := 0 }) (va_Pc [.ref mo, .int k0] (fun U => va_P (dC, dI) vwCl [(mo, .inr (8, [.ref m_la, .ref m_sz, .ref m_it, .int 0, .int 0, .ref m_st, .ref m_mv, .ref m_tp, .int 0, .int 0, .int 0, .int 0, .int 0, .int 0, .int 0, .ref m_rd, .ref m_ac, .int 0, .ref m_as, .ref m_wo, .ref m_ik, .ref m_ke, .ref m_tr, .int 0]))] U.heap ∧ va_K (dC, dI) vwCl [(cI, .int), (cZ, .boolean), (cL, .object RX3), (cJ, .array .int)] U)) (vp_Si (fun r => r = (-1000002))) 0 0 (fun _ => False) := by
  refine Met.ofW (cc := cX8_sell) (maxL := 2) (ret := (some .int)) (by decide) rfl ?_
  intro p e s m args below meth c s₁ B hml hv
  obtain ⟨rfl, hP, hK⟩ := hv
  have hx := B.exec
  have hb := B.bytes
  have hr := B.returns
  have hts := atoms_spec (ws := wsX8_sell) B.pre
  have hown : s.vm.findClass RX8 = some m.cls := findClass_of_methodNamed B.named
  have hlocks := B.notSynchronized
  have hP : va_P (dC, dI) vwCl [(mo, .inr (8, [.ref m_la, .ref m_sz, .ref m_it, .int 0, .int 0, .ref m_st, .ref m_mv, .ref m_tp, .int 0, .int 0, .int 0, .int 0, .int 0, .int 0, .int 0, .ref m_rd, .ref m_ac, .int 0, .ref m_as, .ref m_wo, .ref m_ik, .ref m_ke, .ref m_tr, .int 0]))] s.heap := hP
  have hl := lv_entry ([.ref mo, .int k0]) (n := 2) (Nat.le_of_ble_eq_true rfl)
  rw [lg_entry_eq]
  generalize (lg_sl ([.ref mo, .int k0]) ++ List.replicate (2 - (lg_sl ([.ref mo, .int k0])).length) Slot.unset).toArray = ls at hl ⊢
  have hl : lv_has ls 2 [(0, .ref mo), (1, .int k0)] := hl
  refine lv_aload_n hx hb dX8_sell_0 rfl (lv_at hl 0 rfl) ?_
  refine va_get (D := (dC, dI)) (ci := 8) (v := .int 0) (C := RX8) (T := TX8) (N := 24) hx hb hts i_X8_sell_X8 hown hK hP 0 rfl rfl 4 (by decide) (hts (.fieldLink RX8 138 "MillTalkModel" "isThere" "Z") (by decide +kernel)) (fun _ h9 => h9) rfl dX8_sell_1 ?_
  refine lv_if_ne (tgt := 10) hx hb dX8_sell_4 (by decide) (fun c_ => absurd (by decide) c_) (fun _ => ?_)
  refine lv_ldc (own := RX8) (v := (-1000002)) hx hb hown (hts (.constant RX8 161 (-1000002)) (by decide +kernel)) dX8_sell_7 ?_
  exact W.iret (v := (-1000002)) hx hb hr (fun t ht hW => ⟨(-1000002), rfl, rfl, ht⟩) (fun _ h => by cases h) dX8_sell_9
set_option maxHeartbeats 4000000 in
set_option maxRecDepth 100000 in
theorem c_X8_stand (l : Launch) (dC : Nat → ClassId) (dI : Nat → Nat → Nat) (cI cZ cL cJ : ClassId) (mo : Nat) (m_la : Nat) (m_sz : Nat) (m_it : Nat) (m_st : Nat) (m_mv : Nat) (m_tp : Nat) (m_rd : Nat) (m_ac : Nat) (m_as : Nat) (m_wo : Nat) (m_ik : Nat) (m_ke : Nat) (m_tr : Nat) (k0 : Int32)  : Met l yX8_stand wsX8_stand ({ frames := 0, cells := 0, slots := 0, locals := 0 }) (va_Pc [.ref mo, .int k0] (fun U => va_P (dC, dI) vwCl [(mo, .inr (8, [.ref m_la, .ref m_sz, .ref m_it, .int 0, .int 0, .ref m_st, .ref m_mv, .ref m_tp, .int 0, .int 0, .int 0, .int 0, .int 0, .int 0, .int 0, .ref m_rd, .ref m_ac, .int 0, .ref m_as, .ref m_wo, .ref m_ik, .ref m_ke, .ref m_tr, .int 0]))] U.heap ∧ va_K (dC, dI) vwCl [(cI, .int), (cZ, .boolean), (cL, .object RX3), (cJ, .array .int)] U)) (vp_Si (fun r => r = (-1000002))) 0 0 (fun _ => False) := by
  refine Met.ofW (cc := cX8_stand) (maxL := 2) (ret := (some .int)) (by decide) rfl ?_
  intro p e s m args below meth c s₁ B hml hv
  obtain ⟨rfl, hP, hK⟩ := hv
  have hx := B.exec
  have hb := B.bytes
  have hr := B.returns
  have hts := atoms_spec (ws := wsX8_stand) B.pre
  have hown : s.vm.findClass RX8 = some m.cls := findClass_of_methodNamed B.named
  have hlocks := B.notSynchronized
  have hP : va_P (dC, dI) vwCl [(mo, .inr (8, [.ref m_la, .ref m_sz, .ref m_it, .int 0, .int 0, .ref m_st, .ref m_mv, .ref m_tp, .int 0, .int 0, .int 0, .int 0, .int 0, .int 0, .int 0, .ref m_rd, .ref m_ac, .int 0, .ref m_as, .ref m_wo, .ref m_ik, .ref m_ke, .ref m_tr, .int 0]))] s.heap := hP
  have hl := lv_entry ([.ref mo, .int k0]) (n := 2) (Nat.le_of_ble_eq_true rfl)
  rw [lg_entry_eq]
  generalize (lg_sl ([.ref mo, .int k0]) ++ List.replicate (2 - (lg_sl ([.ref mo, .int k0])).length) Slot.unset).toArray = ls at hl ⊢
  have hl : lv_has ls 2 [(0, .ref mo), (1, .int k0)] := hl
  refine lv_aload_n hx hb dX8_stand_0 rfl (lv_at hl 0 rfl) ?_
  refine va_get (D := (dC, dI)) (ci := 8) (v := .int 0) (C := RX8) (T := TX8) (N := 24) hx hb hts i_X8_stand_X8 hown hK hP 0 rfl rfl 4 (by decide) (hts (.fieldLink RX8 138 "MillTalkModel" "isThere" "Z") (by decide +kernel)) (fun _ h9 => h9) rfl dX8_stand_1 ?_
  refine lv_if_ne (tgt := 10) hx hb dX8_stand_4 (by decide) (fun c_ => absurd (by decide) c_) (fun _ => ?_)
  refine lv_ldc (own := RX8) (v := (-1000002)) hx hb hown (hts (.constant RX8 161 (-1000002)) (by decide +kernel)) dX8_stand_7 ?_
  exact W.iret (v := (-1000002)) hx hb hr (fun t ht hW => ⟨(-1000002), rfl, rfl, ht⟩) (fun _ h => by cases h) dX8_stand_9
set_option maxHeartbeats 4000000 in
set_option maxRecDepth 100000 in
theorem c_X8_gust (l : Launch) (dC : Nat → ClassId) (dI : Nat → Nat → Nat) (cI cZ cL cJ : ClassId) (mo : Nat) (m_la : Nat) (m_sz : Nat) (m_it : Nat) (m_st : Nat) (m_mv : Nat) (m_tp : Nat) (m_rd : Nat) (m_ac : Nat) (m_as : Nat) (m_wo : Nat) (m_ik : Nat) (m_ke : Nat) (m_tr : Nat) (k0 : Int32)  : Met l yX8_gust wsX8_gust ({ frames := 0, cells := 0, slots := 0, locals := 0 }) (va_Pc [.ref mo, .int k0] (fun U => va_P (dC, dI) vwCl [(mo, .inr (8, [.ref m_la, .ref m_sz, .ref m_it, .int 0, .int 0, .ref m_st, .ref m_mv, .ref m_tp, .int 0, .int 0, .int 0, .int 0, .int 0, .int 0, .int 0, .ref m_rd, .ref m_ac, .int 0, .ref m_as, .ref m_wo, .ref m_ik, .ref m_ke, .ref m_tr, .int 0]))] U.heap ∧ va_K (dC, dI) vwCl [(cI, .int), (cZ, .boolean), (cL, .object RX3), (cJ, .array .int)] U)) (vp_Si (fun r => r = (-1000002))) 0 0 (fun _ => False) := by
  refine Met.ofW (cc := cX8_gust) (maxL := 2) (ret := (some .int)) (by decide) rfl ?_
  intro p e s m args below meth c s₁ B hml hv
  obtain ⟨rfl, hP, hK⟩ := hv
  have hx := B.exec
  have hb := B.bytes
  have hr := B.returns
  have hts := atoms_spec (ws := wsX8_gust) B.pre
  have hown : s.vm.findClass RX8 = some m.cls := findClass_of_methodNamed B.named
  have hlocks := B.notSynchronized
  have hP : va_P (dC, dI) vwCl [(mo, .inr (8, [.ref m_la, .ref m_sz, .ref m_it, .int 0, .int 0, .ref m_st, .ref m_mv, .ref m_tp, .int 0, .int 0, .int 0, .int 0, .int 0, .int 0, .int 0, .ref m_rd, .ref m_ac, .int 0, .ref m_as, .ref m_wo, .ref m_ik, .ref m_ke, .ref m_tr, .int 0]))] s.heap := hP
  have hl := lv_entry ([.ref mo, .int k0]) (n := 2) (Nat.le_of_ble_eq_true rfl)
  rw [lg_entry_eq]
  generalize (lg_sl ([.ref mo, .int k0]) ++ List.replicate (2 - (lg_sl ([.ref mo, .int k0])).length) Slot.unset).toArray = ls at hl ⊢
  have hl : lv_has ls 2 [(0, .ref mo), (1, .int k0)] := hl
  refine lv_aload_n hx hb dX8_gust_0 rfl (lv_at hl 0 rfl) ?_
  refine va_get (D := (dC, dI)) (ci := 8) (v := .int 0) (C := RX8) (T := TX8) (N := 24) hx hb hts i_X8_gust_X8 hown hK hP 0 rfl rfl 4 (by decide) (hts (.fieldLink RX8 138 "MillTalkModel" "isThere" "Z") (by decide +kernel)) (fun _ h9 => h9) rfl dX8_gust_1 ?_
  refine lv_if_ne (tgt := 12) hx hb dX8_gust_4 (by decide) (fun c_ => absurd (by decide) c_) (fun _ => ?_)
  refine lv_ldc (own := RX8) (v := (-1000002)) hx hb hown (hts (.constant RX8 161 (-1000002)) (by decide +kernel)) dX8_gust_7 ?_
  refine lv_goto (tgt := 41) hx hb dX8_gust_9 (by decide) ?_
  exact W.iret (v := (-1000002)) hx hb hr (fun t ht hW => ⟨(-1000002), rfl, rfl, ht⟩) (fun _ h => by cases h) dX8_gust_41
set_option maxHeartbeats 4000000 in
set_option maxRecDepth 100000 in
theorem c_X8_meal (l : Launch) (dC : Nat → ClassId) (dI : Nat → Nat → Nat) (cI cZ cL cJ : ClassId) (mo : Nat) (m_la : Nat) (m_sz : Nat) (m_it : Nat) (m_st : Nat) (m_mv : Nat) (m_tp : Nat) (m_rd : Nat) (m_ac : Nat) (m_as : Nat) (m_wo : Nat) (m_ik : Nat) (m_ke : Nat) (m_tr : Nat) (k0 : Int32)  : Met l yX8_meal wsX8_meal ({ frames := 0, cells := 0, slots := 0, locals := 0 }) (va_Pc [.ref mo, .int k0] (fun U => va_P (dC, dI) vwCl [(mo, .inr (8, [.ref m_la, .ref m_sz, .ref m_it, .int 0, .int 0, .ref m_st, .ref m_mv, .ref m_tp, .int 0, .int 0, .int 0, .int 0, .int 0, .int 0, .int 0, .ref m_rd, .ref m_ac, .int 0, .ref m_as, .ref m_wo, .ref m_ik, .ref m_ke, .ref m_tr, .int 0]))] U.heap ∧ va_K (dC, dI) vwCl [(cI, .int), (cZ, .boolean), (cL, .object RX3), (cJ, .array .int)] U)) (vp_Si (fun r => r = (-1000002))) 0 0 (fun _ => False) := by
  refine Met.ofW (cc := cX8_meal) (maxL := 2) (ret := (some .int)) (by decide) rfl ?_
  intro p e s m args below meth c s₁ B hml hv
  obtain ⟨rfl, hP, hK⟩ := hv
  have hx := B.exec
  have hb := B.bytes
  have hr := B.returns
  have hts := atoms_spec (ws := wsX8_meal) B.pre
  have hown : s.vm.findClass RX8 = some m.cls := findClass_of_methodNamed B.named
  have hlocks := B.notSynchronized
  have hP : va_P (dC, dI) vwCl [(mo, .inr (8, [.ref m_la, .ref m_sz, .ref m_it, .int 0, .int 0, .ref m_st, .ref m_mv, .ref m_tp, .int 0, .int 0, .int 0, .int 0, .int 0, .int 0, .int 0, .ref m_rd, .ref m_ac, .int 0, .ref m_as, .ref m_wo, .ref m_ik, .ref m_ke, .ref m_tr, .int 0]))] s.heap := hP
  have hl := lv_entry ([.ref mo, .int k0]) (n := 2) (Nat.le_of_ble_eq_true rfl)
  rw [lg_entry_eq]
  generalize (lg_sl ([.ref mo, .int k0]) ++ List.replicate (2 - (lg_sl ([.ref mo, .int k0])).length) Slot.unset).toArray = ls at hl ⊢
  have hl : lv_has ls 2 [(0, .ref mo), (1, .int k0)] := hl
  refine lv_aload_n hx hb dX8_meal_0 rfl (lv_at hl 0 rfl) ?_
  refine va_get (D := (dC, dI)) (ci := 8) (v := .int 0) (C := RX8) (T := TX8) (N := 24) hx hb hts i_X8_meal_X8 hown hK hP 0 rfl rfl 4 (by decide) (hts (.fieldLink RX8 138 "MillTalkModel" "isThere" "Z") (by decide +kernel)) (fun _ h9 => h9) rfl dX8_meal_1 ?_
  refine lv_if_ne (tgt := 10) hx hb dX8_meal_4 (by decide) (fun c_ => absurd (by decide) c_) (fun _ => ?_)
  refine lv_ldc (own := RX8) (v := (-1000002)) hx hb hown (hts (.constant RX8 161 (-1000002)) (by decide +kernel)) dX8_meal_7 ?_
  exact W.iret (v := (-1000002)) hx hb hr (fun t ht hW => ⟨(-1000002), rfl, rfl, ht⟩) (fun _ h => by cases h) dX8_meal_9
set_option maxHeartbeats 4000000 in
set_option maxRecDepth 100000 in
theorem c_X8_caps (l : Launch) (dC : Nat → ClassId) (dI : Nat → Nat → Nat) (cI cZ cL cJ : ClassId) (mo : Nat) (m_la : Nat) (m_sz : Nat) (m_it : Nat) (m_st : Nat) (m_mv : Nat) (m_tp : Nat) (m_rd : Nat) (m_ac : Nat) (m_as : Nat) (m_wo : Nat) (m_ik : Nat) (m_ke : Nat) (m_tr : Nat) (k0 : Int32) (k1 : Int32)  : Met l yX8_caps wsX8_caps ({ frames := 0, cells := 0, slots := 0, locals := 0 }) (va_Pc [.ref mo, .int k0, .int k1] (fun U => va_P (dC, dI) vwCl [(mo, .inr (8, [.ref m_la, .ref m_sz, .ref m_it, .int 0, .int 0, .ref m_st, .ref m_mv, .ref m_tp, .int 0, .int 0, .int 0, .int 0, .int 0, .int 0, .int 0, .ref m_rd, .ref m_ac, .int 0, .ref m_as, .ref m_wo, .ref m_ik, .ref m_ke, .ref m_tr, .int 0]))] U.heap ∧ va_K (dC, dI) vwCl [(cI, .int), (cZ, .boolean), (cL, .object RX3), (cJ, .array .int)] U)) (vp_Si (fun r => r = (-1000002))) 0 0 (fun _ => False) := by
  refine Met.ofW (cc := cX8_caps) (maxL := 9) (ret := (some .int)) (by decide) rfl ?_
  intro p e s m args below meth c s₁ B hml hv
  obtain ⟨rfl, hP, hK⟩ := hv
  have hx := B.exec
  have hb := B.bytes
  have hr := B.returns
  have hts := atoms_spec (ws := wsX8_caps) B.pre
  have hown : s.vm.findClass RX8 = some m.cls := findClass_of_methodNamed B.named
  have hlocks := B.notSynchronized
  have hP : va_P (dC, dI) vwCl [(mo, .inr (8, [.ref m_la, .ref m_sz, .ref m_it, .int 0, .int 0, .ref m_st, .ref m_mv, .ref m_tp, .int 0, .int 0, .int 0, .int 0, .int 0, .int 0, .int 0, .ref m_rd, .ref m_ac, .int 0, .ref m_as, .ref m_wo, .ref m_ik, .ref m_ke, .ref m_tr, .int 0]))] s.heap := hP
  have hl := lv_entry ([.ref mo, .int k0, .int k1]) (n := 9) (Nat.le_of_ble_eq_true rfl)
  rw [lg_entry_eq]
  generalize (lg_sl ([.ref mo, .int k0, .int k1]) ++ List.replicate (9 - (lg_sl ([.ref mo, .int k0, .int k1])).length) Slot.unset).toArray = ls at hl ⊢
  have hl : lv_has ls 9 [(0, .ref mo), (1, .int k0), (2, .int k1)] := hl
  refine lv_aload_n hx hb dX8_caps_0 rfl (lv_at hl 0 rfl) ?_
  refine va_get (D := (dC, dI)) (ci := 8) (v := .int 0) (C := RX8) (T := TX8) (N := 24) hx hb hts i_X8_caps_X8 hown hK hP 0 rfl rfl 4 (by decide) (hts (.fieldLink RX8 138 "MillTalkModel" "isThere" "Z") (by decide +kernel)) (fun _ h9 => h9) rfl dX8_caps_1 ?_
  refine lv_if_ne (tgt := 10) hx hb dX8_caps_4 (by decide) (fun c_ => absurd (by decide) c_) (fun _ => ?_)
  refine lv_ldc (own := RX8) (v := (-1000002)) hx hb hown (hts (.constant RX8 161 (-1000002)) (by decide +kernel)) dX8_caps_7 ?_
  exact W.iret (v := (-1000002)) hx hb hr (fun t ht hW => ⟨(-1000002), rfl, rfl, ht⟩) (fun _ h => by cases h) dX8_caps_9
set_option maxHeartbeats 4000000 in
set_option maxRecDepth 100000 in
theorem c_X8_had (l : Launch) (dC : Nat → ClassId) (dI : Nat → Nat → Nat) (cI cZ cL cJ : ClassId) (mo : Nat) (m_la : Nat) (m_sz : Nat) (m_it : Nat) (m_st : Nat) (m_mv : Nat) (m_tp : Nat) (m_rd : Nat) (m_ac : Nat) (m_as : Nat) (m_wo : Nat) (m_ik : Nat) (m_ke : Nat) (m_tr : Nat) (k0 : Int32) (k1 : Int32)  : Met l yX8_had wsX8_had ({ frames := 0, cells := 0, slots := 0, locals := 0 }) (va_Pc [.ref mo, .int k0, .int k1] (fun U => va_P (dC, dI) vwCl [(mo, .inr (8, [.ref m_la, .ref m_sz, .ref m_it, .int 0, .int 0, .ref m_st, .ref m_mv, .ref m_tp, .int 0, .int 0, .int 0, .int 0, .int 0, .int 0, .int 0, .ref m_rd, .ref m_ac, .int 0, .ref m_as, .ref m_wo, .ref m_ik, .ref m_ke, .ref m_tr, .int 0]))] U.heap ∧ va_K (dC, dI) vwCl [(cI, .int), (cZ, .boolean), (cL, .object RX3), (cJ, .array .int)] U)) (vp_Si (fun r => r = (-1000002))) 0 0 (fun _ => False) := by
  refine Met.ofW (cc := cX8_had) (maxL := 7) (ret := (some .int)) (by decide) rfl ?_
  intro p e s m args below meth c s₁ B hml hv
  obtain ⟨rfl, hP, hK⟩ := hv
  have hx := B.exec
  have hb := B.bytes
  have hr := B.returns
  have hts := atoms_spec (ws := wsX8_had) B.pre
  have hown : s.vm.findClass RX8 = some m.cls := findClass_of_methodNamed B.named
  have hlocks := B.notSynchronized
  have hP : va_P (dC, dI) vwCl [(mo, .inr (8, [.ref m_la, .ref m_sz, .ref m_it, .int 0, .int 0, .ref m_st, .ref m_mv, .ref m_tp, .int 0, .int 0, .int 0, .int 0, .int 0, .int 0, .int 0, .ref m_rd, .ref m_ac, .int 0, .ref m_as, .ref m_wo, .ref m_ik, .ref m_ke, .ref m_tr, .int 0]))] s.heap := hP
  have hl := lv_entry ([.ref mo, .int k0, .int k1]) (n := 7) (Nat.le_of_ble_eq_true rfl)
  rw [lg_entry_eq]
  generalize (lg_sl ([.ref mo, .int k0, .int k1]) ++ List.replicate (7 - (lg_sl ([.ref mo, .int k0, .int k1])).length) Slot.unset).toArray = ls at hl ⊢
  have hl : lv_has ls 7 [(0, .ref mo), (1, .int k0), (2, .int k1)] := hl
  refine lv_aload_n hx hb dX8_had_0 rfl (lv_at hl 0 rfl) ?_
  refine va_get (D := (dC, dI)) (ci := 8) (v := .int 0) (C := RX8) (T := TX8) (N := 24) hx hb hts i_X8_had_X8 hown hK hP 0 rfl rfl 4 (by decide) (hts (.fieldLink RX8 138 "MillTalkModel" "isThere" "Z") (by decide +kernel)) (fun _ h9 => h9) rfl dX8_had_1 ?_
  refine lv_if_ne (tgt := 10) hx hb dX8_had_4 (by decide) (fun c_ => absurd (by decide) c_) (fun _ => ?_)
  refine lv_ldc (own := RX8) (v := (-1000002)) hx hb hown (hts (.constant RX8 161 (-1000002)) (by decide +kernel)) dX8_had_7 ?_
  exact W.iret (v := (-1000002)) hx hb hr (fun t ht hW => ⟨(-1000002), rfl, rfl, ht⟩) (fun _ h => by cases h) dX8_had_9
set_option maxHeartbeats 4000000 in
set_option maxRecDepth 100000 in
theorem c_X8_site (l : Launch) (dC : Nat → ClassId) (dI : Nat → Nat → Nat) (cI cZ cL cJ : ClassId) (mo : Nat) (m_la : Nat) (m_sz : Nat) (m_it : Nat) (m_st : Nat) (m_mv : Nat) (m_tp : Nat) (m_rd : Nat) (m_ac : Nat) (m_as : Nat) (m_wo : Nat) (m_ik : Nat) (m_ke : Nat) (m_tr : Nat) (k0 : Int32) (k1 : Int32)  : Met l yX8_site wsX8_site ({ frames := 0, cells := 0, slots := 0, locals := 0 }) (va_Pc [.ref mo, .int k0, .int k1] (fun U => va_P (dC, dI) vwCl [(mo, .inr (8, [.ref m_la, .ref m_sz, .ref m_it, .int 0, .int 0, .ref m_st, .ref m_mv, .ref m_tp, .int 0, .int 0, .int 0, .int 0, .int 0, .int 0, .int 0, .ref m_rd, .ref m_ac, .int 0, .ref m_as, .ref m_wo, .ref m_ik, .ref m_ke, .ref m_tr, .int 0]))] U.heap ∧ va_K (dC, dI) vwCl [(cI, .int), (cZ, .boolean), (cL, .object RX3), (cJ, .array .int)] U)) (vp_Si (fun r => r = (-1000002))) 0 0 (fun _ => False) := by
  refine Met.ofW (cc := cX8_site) (maxL := 7) (ret := (some .int)) (by decide) rfl ?_
  intro p e s m args below meth c s₁ B hml hv
  obtain ⟨rfl, hP, hK⟩ := hv
  have hx := B.exec
  have hb := B.bytes
  have hr := B.returns
  have hts := atoms_spec (ws := wsX8_site) B.pre
  have hown : s.vm.findClass RX8 = some m.cls := findClass_of_methodNamed B.named
  have hlocks := B.notSynchronized
  have hP : va_P (dC, dI) vwCl [(mo, .inr (8, [.ref m_la, .ref m_sz, .ref m_it, .int 0, .int 0, .ref m_st, .ref m_mv, .ref m_tp, .int 0, .int 0, .int 0, .int 0, .int 0, .int 0, .int 0, .ref m_rd, .ref m_ac, .int 0, .ref m_as, .ref m_wo, .ref m_ik, .ref m_ke, .ref m_tr, .int 0]))] s.heap := hP
  have hl := lv_entry ([.ref mo, .int k0, .int k1]) (n := 7) (Nat.le_of_ble_eq_true rfl)
  rw [lg_entry_eq]
  generalize (lg_sl ([.ref mo, .int k0, .int k1]) ++ List.replicate (7 - (lg_sl ([.ref mo, .int k0, .int k1])).length) Slot.unset).toArray = ls at hl ⊢
  have hl : lv_has ls 7 [(0, .ref mo), (1, .int k0), (2, .int k1)] := hl
  refine lv_aload_n hx hb dX8_site_0 rfl (lv_at hl 0 rfl) ?_
  refine va_get (D := (dC, dI)) (ci := 8) (v := .int 0) (C := RX8) (T := TX8) (N := 24) hx hb hts i_X8_site_X8 hown hK hP 0 rfl rfl 4 (by decide) (hts (.fieldLink RX8 138 "MillTalkModel" "isThere" "Z") (by decide +kernel)) (fun _ h9 => h9) rfl dX8_site_1 ?_
  refine lv_if_ne (tgt := 10) hx hb dX8_site_4 (by decide) (fun c_ => absurd (by decide) c_) (fun _ => ?_)
  refine lv_ldc (own := RX8) (v := (-1000002)) hx hb hown (hts (.constant RX8 161 (-1000002)) (by decide +kernel)) dX8_site_7 ?_
  exact W.iret (v := (-1000002)) hx hb hr (fun t ht hW => ⟨(-1000002), rfl, rfl, ht⟩) (fun _ h => by cases h) dX8_site_9
set_option maxHeartbeats 4000000 in
set_option maxRecDepth 100000 in
theorem c_X8_sack (l : Launch) (dC : Nat → ClassId) (dI : Nat → Nat → Nat) (cI cZ cL cJ : ClassId) (mo : Nat) (m_la : Nat) (m_sz : Nat) (m_it : Nat) (m_st : Nat) (m_mv : Nat) (m_tp : Nat) (m_rd : Nat) (m_ac : Nat) (m_as : Nat) (m_wo : Nat) (m_ik : Nat) (m_ke : Nat) (m_tr : Nat) (k0 : Int32) (k1 : Int32)  : Met l yX8_sack wsX8_sack ({ frames := 0, cells := 0, slots := 0, locals := 0 }) (va_Pc [.ref mo, .int k0, .int k1] (fun U => va_P (dC, dI) vwCl [(mo, .inr (8, [.ref m_la, .ref m_sz, .ref m_it, .int 0, .int 0, .ref m_st, .ref m_mv, .ref m_tp, .int 0, .int 0, .int 0, .int 0, .int 0, .int 0, .int 0, .ref m_rd, .ref m_ac, .int 0, .ref m_as, .ref m_wo, .ref m_ik, .ref m_ke, .ref m_tr, .int 0]))] U.heap ∧ va_K (dC, dI) vwCl [(cI, .int), (cZ, .boolean), (cL, .object RX3), (cJ, .array .int)] U)) (vp_Si (fun r => r = (-1000002))) 0 0 (fun _ => False) := by
  refine Met.ofW (cc := cX8_sack) (maxL := 8) (ret := (some .int)) (by decide) rfl ?_
  intro p e s m args below meth c s₁ B hml hv
  obtain ⟨rfl, hP, hK⟩ := hv
  have hx := B.exec
  have hb := B.bytes
  have hr := B.returns
  have hts := atoms_spec (ws := wsX8_sack) B.pre
  have hown : s.vm.findClass RX8 = some m.cls := findClass_of_methodNamed B.named
  have hlocks := B.notSynchronized
  have hP : va_P (dC, dI) vwCl [(mo, .inr (8, [.ref m_la, .ref m_sz, .ref m_it, .int 0, .int 0, .ref m_st, .ref m_mv, .ref m_tp, .int 0, .int 0, .int 0, .int 0, .int 0, .int 0, .int 0, .ref m_rd, .ref m_ac, .int 0, .ref m_as, .ref m_wo, .ref m_ik, .ref m_ke, .ref m_tr, .int 0]))] s.heap := hP
  have hl := lv_entry ([.ref mo, .int k0, .int k1]) (n := 8) (Nat.le_of_ble_eq_true rfl)
  rw [lg_entry_eq]
  generalize (lg_sl ([.ref mo, .int k0, .int k1]) ++ List.replicate (8 - (lg_sl ([.ref mo, .int k0, .int k1])).length) Slot.unset).toArray = ls at hl ⊢
  have hl : lv_has ls 8 [(0, .ref mo), (1, .int k0), (2, .int k1)] := hl
  refine lv_aload_n hx hb dX8_sack_0 rfl (lv_at hl 0 rfl) ?_
  refine va_get (D := (dC, dI)) (ci := 8) (v := .int 0) (C := RX8) (T := TX8) (N := 24) hx hb hts i_X8_sack_X8 hown hK hP 0 rfl rfl 4 (by decide) (hts (.fieldLink RX8 138 "MillTalkModel" "isThere" "Z") (by decide +kernel)) (fun _ h9 => h9) rfl dX8_sack_1 ?_
  refine lv_if_ne (tgt := 10) hx hb dX8_sack_4 (by decide) (fun c_ => absurd (by decide) c_) (fun _ => ?_)
  refine lv_ldc (own := RX8) (v := (-1000002)) hx hb hown (hts (.constant RX8 161 (-1000002)) (by decide +kernel)) dX8_sack_7 ?_
  exact W.iret (v := (-1000002)) hx hb hr (fun t ht hW => ⟨(-1000002), rfl, rfl, ht⟩) (fun _ h => by cases h) dX8_sack_9
set_option maxHeartbeats 4000000 in
set_option maxRecDepth 100000 in
theorem c_X8_byTurns (l : Launch) (dC : Nat → ClassId) (dI : Nat → Nat → Nat) (cI cZ cL cJ : ClassId) (mo : Nat) (m_la : Nat) (m_sz : Nat) (m_it : Nat) (m_st : Nat) (m_mv : Nat) (m_tp : Nat) (m_rd : Nat) (m_ac : Nat) (m_as : Nat) (m_wo : Nat) (m_ik : Nat) (m_ke : Nat) (m_tr : Nat) (k0 : Int32) (k1 : Int32)  : Met l yX8_byTurns wsX8_byTurns ({ frames := 0, cells := 0, slots := 0, locals := 0 }) (va_Pc [.ref mo, .int k0, .int k1] (fun U => va_P (dC, dI) vwCl [(mo, .inr (8, [.ref m_la, .ref m_sz, .ref m_it, .int 0, .int 0, .ref m_st, .ref m_mv, .ref m_tp, .int 0, .int 0, .int 0, .int 0, .int 0, .int 0, .int 0, .ref m_rd, .ref m_ac, .int 0, .ref m_as, .ref m_wo, .ref m_ik, .ref m_ke, .ref m_tr, .int 0]))] U.heap ∧ va_K (dC, dI) vwCl [(cI, .int), (cZ, .boolean), (cL, .object RX3), (cJ, .array .int)] U)) (vp_Si (fun r => r = (-1000002))) 0 0 (fun _ => False) := by
  refine Met.ofW (cc := cX8_byTurns) (maxL := 8) (ret := (some .int)) (by decide) rfl ?_
  intro p e s m args below meth c s₁ B hml hv
  obtain ⟨rfl, hP, hK⟩ := hv
  have hx := B.exec
  have hb := B.bytes
  have hr := B.returns
  have hts := atoms_spec (ws := wsX8_byTurns) B.pre
  have hown : s.vm.findClass RX8 = some m.cls := findClass_of_methodNamed B.named
  have hlocks := B.notSynchronized
  have hP : va_P (dC, dI) vwCl [(mo, .inr (8, [.ref m_la, .ref m_sz, .ref m_it, .int 0, .int 0, .ref m_st, .ref m_mv, .ref m_tp, .int 0, .int 0, .int 0, .int 0, .int 0, .int 0, .int 0, .ref m_rd, .ref m_ac, .int 0, .ref m_as, .ref m_wo, .ref m_ik, .ref m_ke, .ref m_tr, .int 0]))] s.heap := hP
  have hl := lv_entry ([.ref mo, .int k0, .int k1]) (n := 8) (Nat.le_of_ble_eq_true rfl)
  rw [lg_entry_eq]
  generalize (lg_sl ([.ref mo, .int k0, .int k1]) ++ List.replicate (8 - (lg_sl ([.ref mo, .int k0, .int k1])).length) Slot.unset).toArray = ls at hl ⊢
  have hl : lv_has ls 8 [(0, .ref mo), (1, .int k0), (2, .int k1)] := hl
  refine lv_aload_n hx hb dX8_byTurns_0 rfl (lv_at hl 0 rfl) ?_
  refine va_get (D := (dC, dI)) (ci := 8) (v := .int 0) (C := RX8) (T := TX8) (N := 24) hx hb hts i_X8_byTurns_X8 hown hK hP 0 rfl rfl 4 (by decide) (hts (.fieldLink RX8 138 "MillTalkModel" "isThere" "Z") (by decide +kernel)) (fun _ h9 => h9) rfl dX8_byTurns_1 ?_
  refine lv_if_ne (tgt := 10) hx hb dX8_byTurns_4 (by decide) (fun c_ => absurd (by decide) c_) (fun _ => ?_)
  refine lv_ldc (own := RX8) (v := (-1000002)) hx hb hown (hts (.constant RX8 161 (-1000002)) (by decide +kernel)) dX8_byTurns_7 ?_
  exact W.iret (v := (-1000002)) hx hb hr (fun t ht hW => ⟨(-1000002), rfl, rfl, ht⟩) (fun _ h => by cases h) dX8_byTurns_9
set_option maxHeartbeats 4000000 in
set_option maxRecDepth 100000 in
theorem c_X8_drawn (l : Launch) (dC : Nat → ClassId) (dI : Nat → Nat → Nat) (cI cZ cL cJ : ClassId) (mo : Nat) (m_la : Nat) (m_sz : Nat) (m_it : Nat) (m_st : Nat) (m_mv : Nat) (m_tp : Nat) (m_rd : Nat) (m_ac : Nat) (m_as : Nat) (m_wo : Nat) (m_ik : Nat) (m_ke : Nat) (m_tr : Nat) (k0 : Int32) (k1 : Int32) (k2 : Int32)  : Met l yX8_drawn wsX8_drawn ({ frames := 0, cells := 0, slots := 0, locals := 0 }) (va_Pc [.ref mo, .int k0, .int k1, .int k2] (fun U => va_P (dC, dI) vwCl [(mo, .inr (8, [.ref m_la, .ref m_sz, .ref m_it, .int 0, .int 0, .ref m_st, .ref m_mv, .ref m_tp, .int 0, .int 0, .int 0, .int 0, .int 0, .int 0, .int 0, .ref m_rd, .ref m_ac, .int 0, .ref m_as, .ref m_wo, .ref m_ik, .ref m_ke, .ref m_tr, .int 0]))] U.heap ∧ va_K (dC, dI) vwCl [(cI, .int), (cZ, .boolean), (cL, .object RX3), (cJ, .array .int)] U)) (vp_Si (fun r => r = (-1000002))) 0 0 (fun _ => False) := by
  refine Met.ofW (cc := cX8_drawn) (maxL := 9) (ret := (some .int)) (by decide) rfl ?_
  intro p e s m args below meth c s₁ B hml hv
  obtain ⟨rfl, hP, hK⟩ := hv
  have hx := B.exec
  have hb := B.bytes
  have hr := B.returns
  have hts := atoms_spec (ws := wsX8_drawn) B.pre
  have hown : s.vm.findClass RX8 = some m.cls := findClass_of_methodNamed B.named
  have hlocks := B.notSynchronized
  have hP : va_P (dC, dI) vwCl [(mo, .inr (8, [.ref m_la, .ref m_sz, .ref m_it, .int 0, .int 0, .ref m_st, .ref m_mv, .ref m_tp, .int 0, .int 0, .int 0, .int 0, .int 0, .int 0, .int 0, .ref m_rd, .ref m_ac, .int 0, .ref m_as, .ref m_wo, .ref m_ik, .ref m_ke, .ref m_tr, .int 0]))] s.heap := hP
  have hl := lv_entry ([.ref mo, .int k0, .int k1, .int k2]) (n := 9) (Nat.le_of_ble_eq_true rfl)
  rw [lg_entry_eq]
  generalize (lg_sl ([.ref mo, .int k0, .int k1, .int k2]) ++ List.replicate (9 - (lg_sl ([.ref mo, .int k0, .int k1, .int k2])).length) Slot.unset).toArray = ls at hl ⊢
  have hl : lv_has ls 9 [(0, .ref mo), (1, .int k0), (2, .int k1), (3, .int k2)] := hl
  refine lv_aload_n hx hb dX8_drawn_0 rfl (lv_at hl 0 rfl) ?_
  refine va_get (D := (dC, dI)) (ci := 8) (v := .int 0) (C := RX8) (T := TX8) (N := 24) hx hb hts i_X8_drawn_X8 hown hK hP 0 rfl rfl 4 (by decide) (hts (.fieldLink RX8 138 "MillTalkModel" "isThere" "Z") (by decide +kernel)) (fun _ h9 => h9) rfl dX8_drawn_1 ?_
  refine lv_if_ne (tgt := 10) hx hb dX8_drawn_4 (by decide) (fun c_ => absurd (by decide) c_) (fun _ => ?_)
  refine lv_ldc (own := RX8) (v := (-1000002)) hx hb hown (hts (.constant RX8 161 (-1000002)) (by decide +kernel)) dX8_drawn_7 ?_
  exact W.iret (v := (-1000002)) hx hb hr (fun t ht hW => ⟨(-1000002), rfl, rfl, ht⟩) (fun _ h => by cases h) dX8_drawn_9
set_option maxHeartbeats 4000000 in
set_option maxRecDepth 100000 in
theorem c_X8_undo (l : Launch) (dC : Nat → ClassId) (dI : Nat → Nat → Nat) (cI cZ cL cJ : ClassId) (mo : Nat) (m_la : Nat) (m_sz : Nat) (m_it : Nat) (m_st : Nat) (m_mv : Nat) (m_tp : Nat) (m_rd : Nat) (m_ac : Nat) (m_as : Nat) (m_wo : Nat) (m_ik : Nat) (m_ke : Nat) (m_tr : Nat)  : Met l yX8_undo wsX8_undo ({ frames := 0, cells := 0, slots := 0, locals := 0 }) (va_Pc [.ref mo] (fun U => va_P (dC, dI) vwCl [(mo, .inr (8, [.ref m_la, .ref m_sz, .ref m_it, .int 0, .int 0, .ref m_st, .ref m_mv, .ref m_tp, .int 0, .int 0, .int 0, .int 0, .int 0, .int 0, .int 0, .ref m_rd, .ref m_ac, .int 0, .ref m_as, .ref m_wo, .ref m_ik, .ref m_ke, .ref m_tr, .int 0]))] U.heap ∧ va_K (dC, dI) vwCl [(cI, .int), (cZ, .boolean), (cL, .object RX3), (cJ, .array .int)] U)) (vp_Si (fun r => r = (-1000002))) 0 0 (fun _ => False) := by
  refine Met.ofW (cc := cX8_undo) (maxL := 2) (ret := (some .int)) (by decide) rfl ?_
  intro p e s m args below meth c s₁ B hml hv
  obtain ⟨rfl, hP, hK⟩ := hv
  have hx := B.exec
  have hb := B.bytes
  have hr := B.returns
  have hts := atoms_spec (ws := wsX8_undo) B.pre
  have hown : s.vm.findClass RX8 = some m.cls := findClass_of_methodNamed B.named
  have hlocks := B.notSynchronized
  have hP : va_P (dC, dI) vwCl [(mo, .inr (8, [.ref m_la, .ref m_sz, .ref m_it, .int 0, .int 0, .ref m_st, .ref m_mv, .ref m_tp, .int 0, .int 0, .int 0, .int 0, .int 0, .int 0, .int 0, .ref m_rd, .ref m_ac, .int 0, .ref m_as, .ref m_wo, .ref m_ik, .ref m_ke, .ref m_tr, .int 0]))] s.heap := hP
  have hl := lv_entry ([.ref mo]) (n := 2) (Nat.le_of_ble_eq_true rfl)
  rw [lg_entry_eq]
  generalize (lg_sl ([.ref mo]) ++ List.replicate (2 - (lg_sl ([.ref mo])).length) Slot.unset).toArray = ls at hl ⊢
  have hl : lv_has ls 2 [(0, .ref mo)] := hl
  refine lv_aload_n hx hb dX8_undo_0 rfl (lv_at hl 0 rfl) ?_
  refine va_get (D := (dC, dI)) (ci := 8) (v := .int 0) (C := RX8) (T := TX8) (N := 24) hx hb hts i_X8_undo_X8 hown hK hP 0 rfl rfl 17 (by decide) (hts (.fieldLink RX8 142 "MillTalkModel" "actMany" "I") (by decide +kernel)) (fun _ h9 => h9) rfl dX8_undo_1 ?_
  refine lv_if_ne (tgt := 10) hx hb dX8_undo_4 (by decide) (fun c_ => absurd (by decide) c_) (fun _ => ?_)
  refine lv_ldc (own := RX8) (v := (-1000002)) hx hb hown (hts (.constant RX8 161 (-1000002)) (by decide +kernel)) dX8_undo_7 ?_
  exact W.iret (v := (-1000002)) hx hb hr (fun t ht hW => ⟨(-1000002), rfl, rfl, ht⟩) (fun _ h => by cases h) dX8_undo_9
set_option maxHeartbeats 4000000 in
set_option maxRecDepth 100000 in
theorem c_X8_fault (l : Launch) (dC : Nat → ClassId) (dI : Nat → Nat → Nat) (cI cZ cL cJ : ClassId) (mo : Nat) (m_la : Nat) (m_sz : Nat) (m_it : Nat) (m_st : Nat) (m_mv : Nat) (m_tp : Nat) (m_rd : Nat) (m_ac : Nat) (m_as : Nat) (m_wo : Nat) (m_ik : Nat) (m_ke : Nat) (m_tr : Nat)  : Met l yX8_fault wsX8_fault ({ frames := 0, cells := 0, slots := 0, locals := 0 }) (va_Pc [.ref mo] (fun U => va_P (dC, dI) vwCl [(mo, .inr (8, [.ref m_la, .ref m_sz, .ref m_it, .int 0, .int 0, .ref m_st, .ref m_mv, .ref m_tp, .int 0, .int 0, .int 0, .int 0, .int 0, .int 0, .int 0, .ref m_rd, .ref m_ac, .int 0, .ref m_as, .ref m_wo, .ref m_ik, .ref m_ke, .ref m_tr, .int 0]))] U.heap ∧ va_K (dC, dI) vwCl [(cI, .int), (cZ, .boolean), (cL, .object RX3), (cJ, .array .int)] U)) (vp_Si (fun r => r = 0)) 0 0 (fun _ => False) := by
  refine Met.ofW (cc := cX8_fault) (maxL := 1) (ret := (some .int)) (by decide) rfl ?_
  intro p e s m args below meth c s₁ B hml hv
  obtain ⟨rfl, hP, hK⟩ := hv
  have hx := B.exec
  have hb := B.bytes
  have hr := B.returns
  have hts := atoms_spec (ws := wsX8_fault) B.pre
  have hown : s.vm.findClass RX8 = some m.cls := findClass_of_methodNamed B.named
  have hlocks := B.notSynchronized
  have hP : va_P (dC, dI) vwCl [(mo, .inr (8, [.ref m_la, .ref m_sz, .ref m_it, .int 0, .int 0, .ref m_st, .ref m_mv, .ref m_tp, .int 0, .int 0, .int 0, .int 0, .int 0, .int 0, .int 0, .ref m_rd, .ref m_ac, .int 0, .ref m_as, .ref m_wo, .ref m_ik, .ref m_ke, .ref m_tr, .int 0]))] s.heap := hP
  have hl := lv_entry ([.ref mo]) (n := 1) (Nat.le_of_ble_eq_true rfl)
  rw [lg_entry_eq]
  generalize (lg_sl ([.ref mo]) ++ List.replicate (1 - (lg_sl ([.ref mo])).length) Slot.unset).toArray = ls at hl ⊢
  have hl : lv_has ls 1 [(0, .ref mo)] := hl
  refine lv_aload_n hx hb dX8_fault_0 rfl (lv_at hl 0 rfl) ?_
  refine va_get (D := (dC, dI)) (ci := 8) (v := .int 0) (C := RX8) (T := TX8) (N := 24) hx hb hts i_X8_fault_X8 hown hK hP 0 rfl rfl 9 (by decide) (hts (.fieldLink RX8 134 "MillTalkModel" "latest" "I") (by decide +kernel)) (fun _ h9 => h9) rfl dX8_fault_1 ?_
  exact W.iret (v := 0) hx hb hr (fun t ht hW => ⟨0, rfl, rfl, ht⟩) (fun _ h => by cases h) dX8_fault_4
set_option maxHeartbeats 4000000 in
set_option maxRecDepth 100000 in
theorem c_X8_status (l : Launch) (dC : Nat → ClassId) (dI : Nat → Nat → Nat) (cI cZ cL cJ : ClassId) (mo : Nat) (m_la : Nat) (m_sz : Nat) (m_it : Nat) (m_st : Nat) (m_mv : Nat) (m_tp : Nat) (m_rd : Nat) (m_ac : Nat) (m_as : Nat) (m_wo : Nat) (m_ik : Nat) (m_ke : Nat) (m_tr : Nat)  : Met l yX8_status wsX8_status ({ frames := 0, cells := 0, slots := 0, locals := 0 }) (va_Pc [.ref mo] (fun U => va_P (dC, dI) vwCl [(mo, .inr (8, [.ref m_la, .ref m_sz, .ref m_it, .int 0, .int 0, .ref m_st, .ref m_mv, .ref m_tp, .int 0, .int 0, .int 0, .int 0, .int 0, .int 0, .int 0, .ref m_rd, .ref m_ac, .int 0, .ref m_as, .ref m_wo, .ref m_ik, .ref m_ke, .ref m_tr, .int 0]))] U.heap ∧ va_K (dC, dI) vwCl [(cI, .int), (cZ, .boolean), (cL, .object RX3), (cJ, .array .int)] U)) (vp_Si (fun r => r = 0)) 0 0 (fun _ => False) := by
  refine Met.ofW (cc := cX8_status) (maxL := 1) (ret := (some .int)) (by decide) rfl ?_
  intro p e s m args below meth c s₁ B hml hv
  obtain ⟨rfl, hP, hK⟩ := hv
  have hx := B.exec
  have hb := B.bytes
  have hr := B.returns
  have hts := atoms_spec (ws := wsX8_status) B.pre
  have hown : s.vm.findClass RX8 = some m.cls := findClass_of_methodNamed B.named
  have hlocks := B.notSynchronized
  have hP : va_P (dC, dI) vwCl [(mo, .inr (8, [.ref m_la, .ref m_sz, .ref m_it, .int 0, .int 0, .ref m_st, .ref m_mv, .ref m_tp, .int 0, .int 0, .int 0, .int 0, .int 0, .int 0, .int 0, .ref m_rd, .ref m_ac, .int 0, .ref m_as, .ref m_wo, .ref m_ik, .ref m_ke, .ref m_tr, .int 0]))] s.heap := hP
  have hl := lv_entry ([.ref mo]) (n := 1) (Nat.le_of_ble_eq_true rfl)
  rw [lg_entry_eq]
  generalize (lg_sl ([.ref mo]) ++ List.replicate (1 - (lg_sl ([.ref mo])).length) Slot.unset).toArray = ls at hl ⊢
  have hl : lv_has ls 1 [(0, .ref mo)] := hl
  refine lv_aload_n hx hb dX8_status_0 rfl (lv_at hl 0 rfl) ?_
  refine va_get (D := (dC, dI)) (ci := 8) (v := .int 0) (C := RX8) (T := TX8) (N := 24) hx hb hts i_X8_status_X8 hown hK hP 0 rfl rfl 3 (by decide) (hts (.fieldLink RX8 50 "MillTalkModel" "status" "I") (by decide +kernel)) (fun _ h9 => h9) rfl dX8_status_1 ?_
  exact W.iret (v := 0) hx hb hr (fun t ht hW => ⟨0, rfl, rfl, ht⟩) (fun _ h => by cases h) dX8_status_4
set_option maxHeartbeats 4000000 in
set_option maxRecDepth 100000 in
theorem c_X8_trace (l : Launch) (dC : Nat → ClassId) (dI : Nat → Nat → Nat) (cI cZ cL cJ : ClassId) (mo : Nat) (m_la : Nat) (m_sz : Nat) (m_it : Nat) (m_st : Nat) (m_mv : Nat) (m_tp : Nat) (m_rd : Nat) (m_ac : Nat) (m_as : Nat) (m_wo : Nat) (m_ik : Nat) (m_ke : Nat) (m_tr : Nat) (k0 : Int32)  : Met l yX8_trace wsX8_trace ({ frames := 1, cells := 0, slots := 0, locals := 25 }) (va_Pc [.ref mo, .int k0] (fun U => va_P (dC, dI) vwCl [(mo, .inr (8, [.ref m_la, .ref m_sz, .ref m_it, .int 0, .int 0, .ref m_st, .ref m_mv, .ref m_tp, .int 0, .int 0, .int 0, .int 0, .int 0, .int 0, .int 0, .ref m_rd, .ref m_ac, .int 0, .ref m_as, .ref m_wo, .ref m_ik, .ref m_ke, .ref m_tr, .int 0]))] U.heap ∧ va_K (dC, dI) vwCl [(cI, .int), (cZ, .boolean), (cL, .object RX3), (cJ, .array .int)] U)) (vp_Si (fun r => r = (-1000000))) 0 0 (fun _ => False) := by
  refine Met.ofW (cc := cX8_trace) (maxL := 2) (ret := (some .int)) (by decide) rfl ?_
  intro p e s m args below meth c s₁ B hml hv
  obtain ⟨rfl, hP, hK⟩ := hv
  have hx := B.exec
  have hb := B.bytes
  have hr := B.returns
  have hts := atoms_spec (ws := wsX8_trace) B.pre
  have hown : s.vm.findClass RX8 = some m.cls := findClass_of_methodNamed B.named
  have hlocks := B.notSynchronized
  have hP : va_P (dC, dI) vwCl [(mo, .inr (8, [.ref m_la, .ref m_sz, .ref m_it, .int 0, .int 0, .ref m_st, .ref m_mv, .ref m_tp, .int 0, .int 0, .int 0, .int 0, .int 0, .int 0, .int 0, .ref m_rd, .ref m_ac, .int 0, .ref m_as, .ref m_wo, .ref m_ik, .ref m_ke, .ref m_tr, .int 0]))] s.heap := hP
  have hl := lv_entry ([.ref mo, .int k0]) (n := 2) (Nat.le_of_ble_eq_true rfl)
  rw [lg_entry_eq]
  generalize (lg_sl ([.ref mo, .int k0]) ++ List.replicate (2 - (lg_sl ([.ref mo, .int k0])).length) Slot.unset).toArray = ls at hl ⊢
  have hl : lv_has ls 2 [(0, .ref mo), (1, .int k0)] := hl
  refine lv_iload_n hx hb dX8_trace_0 rfl (lv_at hl 1 rfl) ?_
  refine lv_i2l hx hb dX8_trace_1 rfl ?_
  refine lv_lconst (v := 0) hx hb dX8_trace_2 (by decide) ?_
  refine lv_aload_n hx hb dX8_trace_3 rfl (lv_at hl 0 rfl) ?_
  refine va_get (D := (dC, dI)) (ci := 8) (v := .int 0) (C := RX8) (T := TX8) (N := 24) hx hb hts i_X8_trace_X8 hown hK hP 0 rfl rfl 23 (by decide) (hts (.fieldLink RX8 260 "MillTalkModel" "traced" "I") (by decide +kernel)) (fun _ h9 => h9) rfl dX8_trace_4 ?_
  refine lv_iconst (v := 1) hx hb dX8_trace_7 (by decide) ?_
  refine lv_isub hx hb dX8_trace_8 ?_
  refine lv_topi (fun v_1 e_1 => ?_)
  obtain rfl : v_1 = (-1) := (e_1).trans (by decide)
  refine lv_i2l (v := (-1)) hx hb dX8_trace_9 (by decide) ?_
  have hPc_2 := hP.sub (ws' := []) [] rfl
  refine vp_callSi (W.runS (As := [.long (k0).toInt64, .long 0, .long (-1)]) (rest := []) ⟨hx, hb, hml, hown, hts⟩ (c_X8_in l dC dI cI cZ cL cJ ((k0).toInt64) 0 (-1) ) (va_cwS 3 hts gX8_trace_X8_in rfl rfl rfl (by decide +kernel) ⟨Nat.le_of_ble_eq_true rfl, Nat.le_of_ble_eq_true rfl⟩) ⟨fun a U g mk q => by obtain ⟨q0, qP, qK⟩ := q; exact ⟨q0, qP, va_K.moved (u := U) (U := U.calling g mk a) (Vm.Alike.refl U.vm) qK⟩, fun U hU hW => ⟨rfl, by rw [hU]; exact hPc_2, va_K.moved hW.alike hK⟩⟩ rfl rfl hl.1 rfl (lv_room (Nat.le_of_ble_eq_true rfl)) dX8_trace_10 ⟨Nat.le_of_ble_eq_true rfl, Nat.le_of_ble_eq_true rfl⟩) (fun r_2 h_2 => ?_)
  rcases h_2 with ⟨h_2, f_2_0_0⟩ | ⟨h_2, f_2_1_0⟩
  · subst h_2
    refine lv_if_eq (tgt := 25) hx hb dX8_trace_13 (by decide) (fun _ => ?_) (fun c_ => absurd (by decide) c_)
    refine lv_ldc (own := RX8) (v := (-1000000)) hx hb hown (hts (.constant RX8 187 (-1000000)) (by decide +kernel)) dX8_trace_25 ?_
    exact W.iret (v := (-1000000)) hx hb hr (fun t ht hW => ⟨(-1000000), rfl, rfl, ht⟩) (fun _ h => by cases h) dX8_trace_27
  · subst h_2
    exact absurd (no_in _) f_2_1_0
set_option maxHeartbeats 4000000 in
set_option maxRecDepth 100000 in
theorem c_X8_wind (l : Launch) (dC : Nat → ClassId) (dI : Nat → Nat → Nat) (cI cZ cL cJ : ClassId) (mo : Nat) (m_la : Nat) (m_sz : Nat) (m_it : Nat) (m_st : Nat) (m_mv : Nat) (m_tp : Nat) (m_rd : Nat) (m_ac : Nat) (m_as : Nat) (m_wo : Nat) (m_ik : Nat) (m_ke : Nat) (m_tr : Nat) (k0 : Int32) (k1 : Int32)  : Met l yX8_wind wsX8_wind ({ frames := 1, cells := 0, slots := 0, locals := 25 }) (va_Pc [.ref mo, .int k0, .int k1] (fun U => va_P (dC, dI) vwCl [(mo, .inr (8, [.ref m_la, .ref m_sz, .ref m_it, .int 0, .int 0, .ref m_st, .ref m_mv, .ref m_tp, .int 0, .int 0, .int 0, .int 0, .int 0, .int 0, .int 0, .ref m_rd, .ref m_ac, .int 0, .ref m_as, .ref m_wo, .ref m_ik, .ref m_ke, .ref m_tr, .int 0])), (m_st, .inl (cI, 38, .inl (fun _ => 0)))] U.heap ∧ va_K (dC, dI) vwCl [(cI, .int), (cZ, .boolean), (cL, .object RX3), (cJ, .array .int)] U)) (vp_Si (fun r => r = (-1000001))) 0 0 (fun _ => False) := by
  refine Met.ofW (cc := cX8_wind) (maxL := 4) (ret := (some .int)) (by decide) rfl ?_
  intro p e s m args below meth c s₁ B hml hv
  obtain ⟨rfl, hP, hK⟩ := hv
  have hx := B.exec
  have hb := B.bytes
  have hr := B.returns
  have hts := atoms_spec (ws := wsX8_wind) B.pre
  have hown : s.vm.findClass RX8 = some m.cls := findClass_of_methodNamed B.named
  have hlocks := B.notSynchronized
  have hP : va_P (dC, dI) vwCl [(mo, .inr (8, [.ref m_la, .ref m_sz, .ref m_it, .int 0, .int 0, .ref m_st, .ref m_mv, .ref m_tp, .int 0, .int 0, .int 0, .int 0, .int 0, .int 0, .int 0, .ref m_rd, .ref m_ac, .int 0, .ref m_as, .ref m_wo, .ref m_ik, .ref m_ke, .ref m_tr, .int 0])), (m_st, .inl (cI, 38, .inl (fun _ => 0)))] s.heap := hP
  have hl := lv_entry ([.ref mo, .int k0, .int k1]) (n := 4) (Nat.le_of_ble_eq_true rfl)
  rw [lg_entry_eq]
  generalize (lg_sl ([.ref mo, .int k0, .int k1]) ++ List.replicate (4 - (lg_sl ([.ref mo, .int k0, .int k1])).length) Slot.unset).toArray = ls at hl ⊢
  have hl : lv_has ls 4 [(0, .ref mo), (1, .int k0), (2, .int k1)] := hl
  refine lv_iload_n hx hb dX8_wind_0 rfl (lv_at hl 1 rfl) ?_
  refine lv_i2l hx hb dX8_wind_1 rfl ?_
  refine lv_lconst (v := 0) hx hb dX8_wind_2 (by decide) ?_
  refine lv_aload_n hx hb dX8_wind_3 rfl (lv_at hl 0 rfl) ?_
  refine va_get (D := (dC, dI)) (ci := 8) (v := .ref m_st) (C := RX8) (T := TX8) (N := 24) hx hb hts i_X8_wind_X8 hown hK hP 0 rfl rfl 5 (by decide) (hts (.fieldLink RX8 19 "MillTalkModel" "st" "[I") (by decide +kernel)) (fun _ h9 => h9) rfl dX8_wind_4 ?_
  refine lv_iconst (v := 3) hx hb dX8_wind_7 (by decide) ?_
  refine va_iald hx hb hK hP 1 0 rfl rfl (by unfold vp_in; decide) dX8_wind_8 ?_
  refine lv_topi (fun v_1 e_1 => ?_)
  obtain rfl : v_1 = 0 := e_1
  refine lv_iconst (v := 1) hx hb dX8_wind_9 (by decide) ?_
  refine lv_isub hx hb dX8_wind_10 ?_
  refine lv_topi (fun v_2 e_2 => ?_)
  obtain rfl : v_2 = (-1) := (e_2).trans (by decide)
  refine lv_i2l (v := (-1)) hx hb dX8_wind_11 (by decide) ?_
  have hPc_3 := hP.sub (ws' := []) [] rfl
  refine vp_callSi (W.runS (As := [.long (k0).toInt64, .long 0, .long (-1)]) (rest := []) ⟨hx, hb, hml, hown, hts⟩ (c_X8_in l dC dI cI cZ cL cJ ((k0).toInt64) 0 (-1) ) (va_cwS 3 hts gX8_wind_X8_in rfl rfl rfl (by decide +kernel) ⟨Nat.le_of_ble_eq_true rfl, Nat.le_of_ble_eq_true rfl⟩) ⟨fun a U g mk q => by obtain ⟨q0, qP, qK⟩ := q; exact ⟨q0, qP, va_K.moved (u := U) (U := U.calling g mk a) (Vm.Alike.refl U.vm) qK⟩, fun U hU hW => ⟨rfl, by rw [hU]; exact hPc_3, va_K.moved hW.alike hK⟩⟩ rfl rfl hl.1 rfl (lv_room (Nat.le_of_ble_eq_true rfl)) dX8_wind_12 ⟨Nat.le_of_ble_eq_true rfl, Nat.le_of_ble_eq_true rfl⟩) (fun r_3 h_3 => ?_)
  rcases h_3 with ⟨h_3, f_3_0_0⟩ | ⟨h_3, f_3_1_0⟩
  · subst h_3
    refine lv_if_eq (tgt := 30) hx hb dX8_wind_15 (by decide) (fun _ => ?_) (fun c_ => absurd (by decide) c_)
    refine lv_ldc (own := RX8) (v := (-1000001)) hx hb hown (hts (.constant RX8 67 (-1000001)) (by decide +kernel)) dX8_wind_30 ?_
    exact W.iret (v := (-1000001)) hx hb hr (fun t ht hW => ⟨(-1000001), rfl, rfl, ht⟩) (fun _ h => by cases h) dX8_wind_32
  · subst h_3
    exact absurd (no_in _) f_3_1_0
set_option maxHeartbeats 4000000 in
set_option maxRecDepth 100000 in
theorem c_X8_loose (l : Launch) (dC : Nat → ClassId) (dI : Nat → Nat → Nat) (cI cZ cL cJ : ClassId) (mo : Nat) (m_la : Nat) (m_sz : Nat) (m_it : Nat) (m_st : Nat) (m_mv : Nat) (m_tp : Nat) (m_rd : Nat) (m_ac : Nat) (m_as : Nat) (m_wo : Nat) (m_ik : Nat) (m_ke : Nat) (m_tr : Nat) (k0 : Int32) (k1 : Int32) (k2 : Int32)  : Met l yX8_loose wsX8_loose ({ frames := 2, cells := 0, slots := 0, locals := 46 }) (va_Pc [.ref mo, .int k0, .int k1, .int k2] (fun U => va_P (dC, dI) vwCl [(mo, .inr (8, [.ref m_la, .ref m_sz, .ref m_it, .int 0, .int 0, .ref m_st, .ref m_mv, .ref m_tp, .int 0, .int 0, .int 0, .int 0, .int 0, .int 0, .int 0, .ref m_rd, .ref m_ac, .int 0, .ref m_as, .ref m_wo, .ref m_ik, .ref m_ke, .ref m_tr, .int 0])), (m_st, .inl (cI, 38, .inl (fun _ => 0)))] U.heap ∧ va_K (dC, dI) vwCl [(cI, .int), (cZ, .boolean), (cL, .object RX3), (cJ, .array .int)] U)) (vp_Si (fun r => r = (-1000001))) 0 0 (fun _ => False) := by
  refine Met.ofW (cc := cX8_loose) (maxL := 4) (ret := (some .int)) (by decide) rfl ?_
  intro p e s m args below meth c s₁ B hml hv
  obtain ⟨rfl, hP, hK⟩ := hv
  have hx := B.exec
  have hb := B.bytes
  have hr := B.returns
  have hts := atoms_spec (ws := wsX8_loose) B.pre
  have hown : s.vm.findClass RX8 = some m.cls := findClass_of_methodNamed B.named
  have hlocks := B.notSynchronized
  have hP : va_P (dC, dI) vwCl [(mo, .inr (8, [.ref m_la, .ref m_sz, .ref m_it, .int 0, .int 0, .ref m_st, .ref m_mv, .ref m_tp, .int 0, .int 0, .int 0, .int 0, .int 0, .int 0, .int 0, .ref m_rd, .ref m_ac, .int 0, .ref m_as, .ref m_wo, .ref m_ik, .ref m_ke, .ref m_tr, .int 0])), (m_st, .inl (cI, 38, .inl (fun _ => 0)))] s.heap := hP
  have hl := lv_entry ([.ref mo, .int k0, .int k1, .int k2]) (n := 4) (Nat.le_of_ble_eq_true rfl)
  rw [lg_entry_eq]
  generalize (lg_sl ([.ref mo, .int k0, .int k1, .int k2]) ++ List.replicate (4 - (lg_sl ([.ref mo, .int k0, .int k1, .int k2])).length) Slot.unset).toArray = ls at hl ⊢
  have hl : lv_has ls 4 [(0, .ref mo), (1, .int k0), (2, .int k1), (3, .int k2)] := hl
  refine lv_aload_n hx hb dX8_loose_0 rfl (lv_at hl 0 rfl) ?_
  refine lv_iload_n hx hb dX8_loose_1 rfl (lv_at hl 1 rfl) ?_
  have hPc_1 := hP.sub (ws' := [(mo, .inr (8, [.ref m_la, .ref m_sz, .ref m_it, .int 0, .int 0, .ref m_st, .ref m_mv, .ref m_tp, .int 0, .int 0, .int 0, .int 0, .int 0, .int 0, .int 0, .ref m_rd, .ref m_ac, .int 0, .ref m_as, .ref m_wo, .ref m_ik, .ref m_ke, .ref m_tr, .int 0])), (m_st, .inl (cI, 38, .inl (fun _ => 0)))]) [0, 1] rfl
  refine vp_callSi (W.runV (As := [.int k0]) (rest := []) ⟨hx, hb, hml, hown, hts⟩ (c_X8_isSound l dC dI cI cZ cL cJ mo m_la m_sz m_it m_st m_mv m_tp m_rd m_ac m_as m_wo m_ik m_ke m_tr k0 ) (cwV 1 hts gX8_loose_X8_isSound rfl rfl rfl (by decide +kernel) ⟨Nat.le_of_ble_eq_true rfl, Nat.le_of_ble_eq_true rfl⟩) ⟨fun a U g mk q => by obtain ⟨q0, qP, qK⟩ := q; exact ⟨q0, qP, va_K.moved (u := U) (U := U.calling g mk a) (Vm.Alike.refl U.vm) qK⟩, va_recv hK hP (ci := 8) (q0 := 0) rfl rfl, fun U hU hW => ⟨rfl, by rw [hU]; exact hPc_1, va_K.moved hW.alike hK⟩⟩ rfl rfl hl.1 rfl (lv_room (Nat.le_of_ble_eq_true rfl)) dX8_loose_2 ⟨Nat.le_of_ble_eq_true rfl, Nat.le_of_ble_eq_true rfl⟩) (fun r_1 h_1 => ?_)
  subst h_1
  refine lv_if_eq (tgt := 28) hx hb dX8_loose_5 (by decide) (fun _ => ?_) (fun c_ => absurd (by decide) c_)
  refine lv_ldc (own := RX8) (v := (-1000001)) hx hb hown (hts (.constant RX8 67 (-1000001)) (by decide +kernel)) dX8_loose_28 ?_
  exact W.iret (v := (-1000001)) hx hb hr (fun t ht hW => ⟨(-1000001), rfl, rfl, ht⟩) (fun _ h => by cases h) dX8_loose_30
set_option maxHeartbeats 4000000 in
set_option maxRecDepth 100000 in
theorem c_X8_sound (l : Launch) (dC : Nat → ClassId) (dI : Nat → Nat → Nat) (cI cZ cL cJ : ClassId) (mo : Nat) (m_la : Nat) (m_sz : Nat) (m_it : Nat) (m_st : Nat) (m_mv : Nat) (m_tp : Nat) (m_rd : Nat) (m_ac : Nat) (m_as : Nat) (m_wo : Nat) (m_ik : Nat) (m_ke : Nat) (m_tr : Nat) (k0 : Int32) (k1 : Int32)  : Met l yX8_sound wsX8_sound ({ frames := 2, cells := 0, slots := 0, locals := 46 }) (va_Pc [.ref mo, .int k0, .int k1] (fun U => va_P (dC, dI) vwCl [(mo, .inr (8, [.ref m_la, .ref m_sz, .ref m_it, .int 0, .int 0, .ref m_st, .ref m_mv, .ref m_tp, .int 0, .int 0, .int 0, .int 0, .int 0, .int 0, .int 0, .ref m_rd, .ref m_ac, .int 0, .ref m_as, .ref m_wo, .ref m_ik, .ref m_ke, .ref m_tr, .int 0])), (m_st, .inl (cI, 38, .inl (fun _ => 0)))] U.heap ∧ va_K (dC, dI) vwCl [(cI, .int), (cZ, .boolean), (cL, .object RX3), (cJ, .array .int)] U)) (vp_Si (fun r => r = (-1000001))) 0 0 (fun _ => False) := by
  refine Met.ofW (cc := cX8_sound) (maxL := 3) (ret := (some .int)) (by decide) rfl ?_
  intro p e s m args below meth c s₁ B hml hv
  obtain ⟨rfl, hP, hK⟩ := hv
  have hx := B.exec
  have hb := B.bytes
  have hr := B.returns
  have hts := atoms_spec (ws := wsX8_sound) B.pre
  have hown : s.vm.findClass RX8 = some m.cls := findClass_of_methodNamed B.named
  have hlocks := B.notSynchronized
  have hP : va_P (dC, dI) vwCl [(mo, .inr (8, [.ref m_la, .ref m_sz, .ref m_it, .int 0, .int 0, .ref m_st, .ref m_mv, .ref m_tp, .int 0, .int 0, .int 0, .int 0, .int 0, .int 0, .int 0, .ref m_rd, .ref m_ac, .int 0, .ref m_as, .ref m_wo, .ref m_ik, .ref m_ke, .ref m_tr, .int 0])), (m_st, .inl (cI, 38, .inl (fun _ => 0)))] s.heap := hP
  have hl := lv_entry ([.ref mo, .int k0, .int k1]) (n := 3) (Nat.le_of_ble_eq_true rfl)
  rw [lg_entry_eq]
  generalize (lg_sl ([.ref mo, .int k0, .int k1]) ++ List.replicate (3 - (lg_sl ([.ref mo, .int k0, .int k1])).length) Slot.unset).toArray = ls at hl ⊢
  have hl : lv_has ls 3 [(0, .ref mo), (1, .int k0), (2, .int k1)] := hl
  refine lv_aload_n hx hb dX8_sound_0 rfl (lv_at hl 0 rfl) ?_
  refine lv_iload_n hx hb dX8_sound_1 rfl (lv_at hl 1 rfl) ?_
  have hPc_1 := hP.sub (ws' := [(mo, .inr (8, [.ref m_la, .ref m_sz, .ref m_it, .int 0, .int 0, .ref m_st, .ref m_mv, .ref m_tp, .int 0, .int 0, .int 0, .int 0, .int 0, .int 0, .int 0, .ref m_rd, .ref m_ac, .int 0, .ref m_as, .ref m_wo, .ref m_ik, .ref m_ke, .ref m_tr, .int 0])), (m_st, .inl (cI, 38, .inl (fun _ => 0)))]) [0, 1] rfl
  refine vp_callSi (W.runV (As := [.int k0]) (rest := []) ⟨hx, hb, hml, hown, hts⟩ (c_X8_isSound l dC dI cI cZ cL cJ mo m_la m_sz m_it m_st m_mv m_tp m_rd m_ac m_as m_wo m_ik m_ke m_tr k0 ) (cwV 1 hts gX8_sound_X8_isSound rfl rfl rfl (by decide +kernel) ⟨Nat.le_of_ble_eq_true rfl, Nat.le_of_ble_eq_true rfl⟩) ⟨fun a U g mk q => by obtain ⟨q0, qP, qK⟩ := q; exact ⟨q0, qP, va_K.moved (u := U) (U := U.calling g mk a) (Vm.Alike.refl U.vm) qK⟩, va_recv hK hP (ci := 8) (q0 := 0) rfl rfl, fun U hU hW => ⟨rfl, by rw [hU]; exact hPc_1, va_K.moved hW.alike hK⟩⟩ rfl rfl hl.1 rfl (lv_room (Nat.le_of_ble_eq_true rfl)) dX8_sound_2 ⟨Nat.le_of_ble_eq_true rfl, Nat.le_of_ble_eq_true rfl⟩) (fun r_1 h_1 => ?_)
  subst h_1
  refine lv_if_ne (tgt := 11) hx hb dX8_sound_5 (by decide) (fun c_ => absurd (by decide) c_) (fun _ => ?_)
  refine lv_ldc (own := RX8) (v := (-1000001)) hx hb hown (hts (.constant RX8 67 (-1000001)) (by decide +kernel)) dX8_sound_8 ?_
  exact W.iret (v := (-1000001)) hx hb hr (fun t ht hW => ⟨(-1000001), rfl, rfl, ht⟩) (fun _ h => by cases h) dX8_sound_10
set_option maxHeartbeats 4000000 in
set_option maxRecDepth 100000 in
theorem c_X8_ahead (l : Launch) (dC : Nat → ClassId) (dI : Nat → Nat → Nat) (cI cZ cL cJ : ClassId) (mo : Nat) (m_la : Nat) (m_sz : Nat) (m_it : Nat) (m_st : Nat) (m_mv : Nat) (m_tp : Nat) (m_rd : Nat) (m_ac : Nat) (m_as : Nat) (m_wo : Nat) (m_ik : Nat) (m_ke : Nat) (m_tr : Nat) (k0 : Int32) (k1 : Int32) (k2 : Int32)  : Met l yX8_ahead wsX8_ahead ({ frames := 2, cells := 0, slots := 0, locals := 46 }) (va_Pc [.ref mo, .int k0, .int k1, .int k2] (fun U => va_P (dC, dI) vwCl [(mo, .inr (8, [.ref m_la, .ref m_sz, .ref m_it, .int 0, .int 0, .ref m_st, .ref m_mv, .ref m_tp, .int 0, .int 0, .int 0, .int 0, .int 0, .int 0, .int 0, .ref m_rd, .ref m_ac, .int 0, .ref m_as, .ref m_wo, .ref m_ik, .ref m_ke, .ref m_tr, .int 0])), (m_st, .inl (cI, 38, .inl (fun _ => 0)))] U.heap ∧ va_K (dC, dI) vwCl [(cI, .int), (cZ, .boolean), (cL, .object RX3), (cJ, .array .int)] U)) (vp_Si (fun r => r = (-1000001))) 0 0 (fun _ => False) := by
  refine Met.ofW (cc := cX8_ahead) (maxL := 6) (ret := (some .int)) (by decide) rfl ?_
  intro p e s m args below meth c s₁ B hml hv
  obtain ⟨rfl, hP, hK⟩ := hv
  have hx := B.exec
  have hb := B.bytes
  have hr := B.returns
  have hts := atoms_spec (ws := wsX8_ahead) B.pre
  have hown : s.vm.findClass RX8 = some m.cls := findClass_of_methodNamed B.named
  have hlocks := B.notSynchronized
  have hP : va_P (dC, dI) vwCl [(mo, .inr (8, [.ref m_la, .ref m_sz, .ref m_it, .int 0, .int 0, .ref m_st, .ref m_mv, .ref m_tp, .int 0, .int 0, .int 0, .int 0, .int 0, .int 0, .int 0, .ref m_rd, .ref m_ac, .int 0, .ref m_as, .ref m_wo, .ref m_ik, .ref m_ke, .ref m_tr, .int 0])), (m_st, .inl (cI, 38, .inl (fun _ => 0)))] s.heap := hP
  have hl := lv_entry ([.ref mo, .int k0, .int k1, .int k2]) (n := 6) (Nat.le_of_ble_eq_true rfl)
  rw [lg_entry_eq]
  generalize (lg_sl ([.ref mo, .int k0, .int k1, .int k2]) ++ List.replicate (6 - (lg_sl ([.ref mo, .int k0, .int k1, .int k2])).length) Slot.unset).toArray = ls at hl ⊢
  have hl : lv_has ls 6 [(0, .ref mo), (1, .int k0), (2, .int k1), (3, .int k2)] := hl
  refine lv_aload_n hx hb dX8_ahead_0 rfl (lv_at hl 0 rfl) ?_
  refine lv_iload_n hx hb dX8_ahead_1 rfl (lv_at hl 1 rfl) ?_
  have hPc_1 := hP.sub (ws' := [(mo, .inr (8, [.ref m_la, .ref m_sz, .ref m_it, .int 0, .int 0, .ref m_st, .ref m_mv, .ref m_tp, .int 0, .int 0, .int 0, .int 0, .int 0, .int 0, .int 0, .ref m_rd, .ref m_ac, .int 0, .ref m_as, .ref m_wo, .ref m_ik, .ref m_ke, .ref m_tr, .int 0])), (m_st, .inl (cI, 38, .inl (fun _ => 0)))]) [0, 1] rfl
  refine vp_callSi (W.runV (As := [.int k0]) (rest := []) ⟨hx, hb, hml, hown, hts⟩ (c_X8_isSound l dC dI cI cZ cL cJ mo m_la m_sz m_it m_st m_mv m_tp m_rd m_ac m_as m_wo m_ik m_ke m_tr k0 ) (cwV 1 hts gX8_ahead_X8_isSound rfl rfl rfl (by decide +kernel) ⟨Nat.le_of_ble_eq_true rfl, Nat.le_of_ble_eq_true rfl⟩) ⟨fun a U g mk q => by obtain ⟨q0, qP, qK⟩ := q; exact ⟨q0, qP, va_K.moved (u := U) (U := U.calling g mk a) (Vm.Alike.refl U.vm) qK⟩, va_recv hK hP (ci := 8) (q0 := 0) rfl rfl, fun U hU hW => ⟨rfl, by rw [hU]; exact hPc_1, va_K.moved hW.alike hK⟩⟩ rfl rfl hl.1 rfl (lv_room (Nat.le_of_ble_eq_true rfl)) dX8_ahead_2 ⟨Nat.le_of_ble_eq_true rfl, Nat.le_of_ble_eq_true rfl⟩) (fun r_1 h_1 => ?_)
  subst h_1
  refine lv_if_eq (tgt := 32) hx hb dX8_ahead_5 (by decide) (fun _ => ?_) (fun c_ => absurd (by decide) c_)
  refine lv_ldc (own := RX8) (v := (-1000001)) hx hb hown (hts (.constant RX8 67 (-1000001)) (by decide +kernel)) dX8_ahead_32 ?_
  exact W.iret (v := (-1000001)) hx hb hr (fun t ht hW => ⟨(-1000001), rfl, rfl, ht⟩) (fun _ h => by cases h) dX8_ahead_34
set_option maxHeartbeats 4000000 in
set_option maxRecDepth 100000 in
theorem c_X8_when (l : Launch) (dC : Nat → ClassId) (dI : Nat → Nat → Nat) (cI cZ cL cJ : ClassId) (mo : Nat) (m_la : Nat) (m_sz : Nat) (m_it : Nat) (m_st : Nat) (m_mv : Nat) (m_tp : Nat) (m_rd : Nat) (m_ac : Nat) (m_as : Nat) (m_wo : Nat) (m_ik : Nat) (m_ke : Nat) (m_tr : Nat) (k0 : Int32) (k1 : Int32)  : Met l yX8_when wsX8_when ({ frames := 2, cells := 0, slots := 0, locals := 46 }) (va_Pc [.ref mo, .int k0, .int k1] (fun U => va_P (dC, dI) vwCl [(mo, .inr (8, [.ref m_la, .ref m_sz, .ref m_it, .int 0, .int 0, .ref m_st, .ref m_mv, .ref m_tp, .int 0, .int 0, .int 0, .int 0, .int 0, .int 0, .int 0, .ref m_rd, .ref m_ac, .int 0, .ref m_as, .ref m_wo, .ref m_ik, .ref m_ke, .ref m_tr, .int 0])), (m_st, .inl (cI, 38, .inl (fun _ => 0)))] U.heap ∧ va_K (dC, dI) vwCl [(cI, .int), (cZ, .boolean), (cL, .object RX3), (cJ, .array .int)] U)) (vp_Si (fun r => r = (-1000001))) 0 0 (fun _ => False) := by
  refine Met.ofW (cc := cX8_when) (maxL := 5) (ret := (some .int)) (by decide) rfl ?_
  intro p e s m args below meth c s₁ B hml hv
  obtain ⟨rfl, hP, hK⟩ := hv
  have hx := B.exec
  have hb := B.bytes
  have hr := B.returns
  have hts := atoms_spec (ws := wsX8_when) B.pre
  have hown : s.vm.findClass RX8 = some m.cls := findClass_of_methodNamed B.named
  have hlocks := B.notSynchronized
  have hP : va_P (dC, dI) vwCl [(mo, .inr (8, [.ref m_la, .ref m_sz, .ref m_it, .int 0, .int 0, .ref m_st, .ref m_mv, .ref m_tp, .int 0, .int 0, .int 0, .int 0, .int 0, .int 0, .int 0, .ref m_rd, .ref m_ac, .int 0, .ref m_as, .ref m_wo, .ref m_ik, .ref m_ke, .ref m_tr, .int 0])), (m_st, .inl (cI, 38, .inl (fun _ => 0)))] s.heap := hP
  have hl := lv_entry ([.ref mo, .int k0, .int k1]) (n := 5) (Nat.le_of_ble_eq_true rfl)
  rw [lg_entry_eq]
  generalize (lg_sl ([.ref mo, .int k0, .int k1]) ++ List.replicate (5 - (lg_sl ([.ref mo, .int k0, .int k1])).length) Slot.unset).toArray = ls at hl ⊢
  have hl : lv_has ls 5 [(0, .ref mo), (1, .int k0), (2, .int k1)] := hl
  refine lv_aload_n hx hb dX8_when_0 rfl (lv_at hl 0 rfl) ?_
  refine lv_iload_n hx hb dX8_when_1 rfl (lv_at hl 1 rfl) ?_
  have hPc_1 := hP.sub (ws' := [(mo, .inr (8, [.ref m_la, .ref m_sz, .ref m_it, .int 0, .int 0, .ref m_st, .ref m_mv, .ref m_tp, .int 0, .int 0, .int 0, .int 0, .int 0, .int 0, .int 0, .ref m_rd, .ref m_ac, .int 0, .ref m_as, .ref m_wo, .ref m_ik, .ref m_ke, .ref m_tr, .int 0])), (m_st, .inl (cI, 38, .inl (fun _ => 0)))]) [0, 1] rfl
  refine vp_callSi (W.runV (As := [.int k0]) (rest := []) ⟨hx, hb, hml, hown, hts⟩ (c_X8_isSound l dC dI cI cZ cL cJ mo m_la m_sz m_it m_st m_mv m_tp m_rd m_ac m_as m_wo m_ik m_ke m_tr k0 ) (cwV 1 hts gX8_when_X8_isSound rfl rfl rfl (by decide +kernel) ⟨Nat.le_of_ble_eq_true rfl, Nat.le_of_ble_eq_true rfl⟩) ⟨fun a U g mk q => by obtain ⟨q0, qP, qK⟩ := q; exact ⟨q0, qP, va_K.moved (u := U) (U := U.calling g mk a) (Vm.Alike.refl U.vm) qK⟩, va_recv hK hP (ci := 8) (q0 := 0) rfl rfl, fun U hU hW => ⟨rfl, by rw [hU]; exact hPc_1, va_K.moved hW.alike hK⟩⟩ rfl rfl hl.1 rfl (lv_room (Nat.le_of_ble_eq_true rfl)) dX8_when_2 ⟨Nat.le_of_ble_eq_true rfl, Nat.le_of_ble_eq_true rfl⟩) (fun r_1 h_1 => ?_)
  subst h_1
  refine lv_if_eq (tgt := 20) hx hb dX8_when_5 (by decide) (fun _ => ?_) (fun c_ => absurd (by decide) c_)
  refine lv_ldc (own := RX8) (v := (-1000001)) hx hb hown (hts (.constant RX8 67 (-1000001)) (by decide +kernel)) dX8_when_20 ?_
  exact W.iret (v := (-1000001)) hx hb hr (fun t ht hW => ⟨(-1000001), rfl, rfl, ht⟩) (fun _ h => by cases h) dX8_when_22
set_option maxHeartbeats 4000000 in
set_option maxRecDepth 100000 in
theorem c_X8_share (l : Launch) (dC : Nat → ClassId) (dI : Nat → Nat → Nat) (cI cZ cL cJ : ClassId) (mo : Nat) (m_la : Nat) (m_sz : Nat) (m_it : Nat) (m_st : Nat) (m_mv : Nat) (m_tp : Nat) (m_rd : Nat) (m_ac : Nat) (m_as : Nat) (m_wo : Nat) (m_ik : Nat) (m_ke : Nat) (m_tr : Nat) (k0 : Int32) (k1 : Int32)  : Met l yX8_share wsX8_share ({ frames := 2, cells := 0, slots := 0, locals := 46 }) (va_Pc [.ref mo, .int k0, .int k1] (fun U => va_P (dC, dI) vwCl [(mo, .inr (8, [.ref m_la, .ref m_sz, .ref m_it, .int 0, .int 0, .ref m_st, .ref m_mv, .ref m_tp, .int 0, .int 0, .int 0, .int 0, .int 0, .int 0, .int 0, .ref m_rd, .ref m_ac, .int 0, .ref m_as, .ref m_wo, .ref m_ik, .ref m_ke, .ref m_tr, .int 0])), (m_st, .inl (cI, 38, .inl (fun _ => 0)))] U.heap ∧ va_K (dC, dI) vwCl [(cI, .int), (cZ, .boolean), (cL, .object RX3), (cJ, .array .int)] U)) (vp_Si (fun r => r = (-1000001))) 0 0 (fun _ => False) := by
  refine Met.ofW (cc := cX8_share) (maxL := 8) (ret := (some .int)) (by decide) rfl ?_
  intro p e s m args below meth c s₁ B hml hv
  obtain ⟨rfl, hP, hK⟩ := hv
  have hx := B.exec
  have hb := B.bytes
  have hr := B.returns
  have hts := atoms_spec (ws := wsX8_share) B.pre
  have hown : s.vm.findClass RX8 = some m.cls := findClass_of_methodNamed B.named
  have hlocks := B.notSynchronized
  have hP : va_P (dC, dI) vwCl [(mo, .inr (8, [.ref m_la, .ref m_sz, .ref m_it, .int 0, .int 0, .ref m_st, .ref m_mv, .ref m_tp, .int 0, .int 0, .int 0, .int 0, .int 0, .int 0, .int 0, .ref m_rd, .ref m_ac, .int 0, .ref m_as, .ref m_wo, .ref m_ik, .ref m_ke, .ref m_tr, .int 0])), (m_st, .inl (cI, 38, .inl (fun _ => 0)))] s.heap := hP
  have hl := lv_entry ([.ref mo, .int k0, .int k1]) (n := 8) (Nat.le_of_ble_eq_true rfl)
  rw [lg_entry_eq]
  generalize (lg_sl ([.ref mo, .int k0, .int k1]) ++ List.replicate (8 - (lg_sl ([.ref mo, .int k0, .int k1])).length) Slot.unset).toArray = ls at hl ⊢
  have hl : lv_has ls 8 [(0, .ref mo), (1, .int k0), (2, .int k1)] := hl
  refine lv_aload_n hx hb dX8_share_0 rfl (lv_at hl 0 rfl) ?_
  refine lv_iload_n hx hb dX8_share_1 rfl (lv_at hl 1 rfl) ?_
  have hPc_1 := hP.sub (ws' := [(mo, .inr (8, [.ref m_la, .ref m_sz, .ref m_it, .int 0, .int 0, .ref m_st, .ref m_mv, .ref m_tp, .int 0, .int 0, .int 0, .int 0, .int 0, .int 0, .int 0, .ref m_rd, .ref m_ac, .int 0, .ref m_as, .ref m_wo, .ref m_ik, .ref m_ke, .ref m_tr, .int 0])), (m_st, .inl (cI, 38, .inl (fun _ => 0)))]) [0, 1] rfl
  refine vp_callSi (W.runV (As := [.int k0]) (rest := []) ⟨hx, hb, hml, hown, hts⟩ (c_X8_isSound l dC dI cI cZ cL cJ mo m_la m_sz m_it m_st m_mv m_tp m_rd m_ac m_as m_wo m_ik m_ke m_tr k0 ) (cwV 1 hts gX8_share_X8_isSound rfl rfl rfl (by decide +kernel) ⟨Nat.le_of_ble_eq_true rfl, Nat.le_of_ble_eq_true rfl⟩) ⟨fun a U g mk q => by obtain ⟨q0, qP, qK⟩ := q; exact ⟨q0, qP, va_K.moved (u := U) (U := U.calling g mk a) (Vm.Alike.refl U.vm) qK⟩, va_recv hK hP (ci := 8) (q0 := 0) rfl rfl, fun U hU hW => ⟨rfl, by rw [hU]; exact hPc_1, va_K.moved hW.alike hK⟩⟩ rfl rfl hl.1 rfl (lv_room (Nat.le_of_ble_eq_true rfl)) dX8_share_2 ⟨Nat.le_of_ble_eq_true rfl, Nat.le_of_ble_eq_true rfl⟩) (fun r_1 h_1 => ?_)
  subst h_1
  refine lv_if_eq (tgt := 20) hx hb dX8_share_5 (by decide) (fun _ => ?_) (fun c_ => absurd (by decide) c_)
  refine lv_ldc (own := RX8) (v := (-1000001)) hx hb hown (hts (.constant RX8 67 (-1000001)) (by decide +kernel)) dX8_share_20 ?_
  exact W.iret (v := (-1000001)) hx hb hr (fun t ht hW => ⟨(-1000001), rfl, rfl, ht⟩) (fun _ h => by cases h) dX8_share_22
set_option maxHeartbeats 4000000 in
set_option maxRecDepth 100000 in
theorem c_X8_who (l : Launch) (dC : Nat → ClassId) (dI : Nat → Nat → Nat) (cI cZ cL cJ : ClassId) (mo : Nat) (m_la : Nat) (m_sz : Nat) (m_it : Nat) (m_st : Nat) (m_mv : Nat) (m_tp : Nat) (m_rd : Nat) (m_ac : Nat) (m_as : Nat) (m_wo : Nat) (m_ik : Nat) (m_ke : Nat) (m_tr : Nat) (k0 : Int32) (k1 : Int32) (k2 : Int32) (k3 : Int32) (k4 : Int32)  : Met l yX8_who wsX8_who ({ frames := 2, cells := 0, slots := 0, locals := 46 }) (va_Pc [.ref mo, .int k0, .int k1, .int k2, .int k3, .int k4] (fun U => va_P (dC, dI) vwCl [(mo, .inr (8, [.ref m_la, .ref m_sz, .ref m_it, .int 0, .int 0, .ref m_st, .ref m_mv, .ref m_tp, .int 0, .int 0, .int 0, .int 0, .int 0, .int 0, .int 0, .ref m_rd, .ref m_ac, .int 0, .ref m_as, .ref m_wo, .ref m_ik, .ref m_ke, .ref m_tr, .int 0])), (m_st, .inl (cI, 38, .inl (fun _ => 0)))] U.heap ∧ va_K (dC, dI) vwCl [(cI, .int), (cZ, .boolean), (cL, .object RX3), (cJ, .array .int)] U)) (vp_Si (fun r => r = (-1000001))) 0 0 (fun _ => False) := by
  refine Met.ofW (cc := cX8_who) (maxL := 8) (ret := (some .int)) (by decide) rfl ?_
  intro p e s m args below meth c s₁ B hml hv
  obtain ⟨rfl, hP, hK⟩ := hv
  have hx := B.exec
  have hb := B.bytes
  have hr := B.returns
  have hts := atoms_spec (ws := wsX8_who) B.pre
  have hown : s.vm.findClass RX8 = some m.cls := findClass_of_methodNamed B.named
  have hlocks := B.notSynchronized
  have hP : va_P (dC, dI) vwCl [(mo, .inr (8, [.ref m_la, .ref m_sz, .ref m_it, .int 0, .int 0, .ref m_st, .ref m_mv, .ref m_tp, .int 0, .int 0, .int 0, .int 0, .int 0, .int 0, .int 0, .ref m_rd, .ref m_ac, .int 0, .ref m_as, .ref m_wo, .ref m_ik, .ref m_ke, .ref m_tr, .int 0])), (m_st, .inl (cI, 38, .inl (fun _ => 0)))] s.heap := hP
  have hl := lv_entry ([.ref mo, .int k0, .int k1, .int k2, .int k3, .int k4]) (n := 8) (Nat.le_of_ble_eq_true rfl)
  rw [lg_entry_eq]
  generalize (lg_sl ([.ref mo, .int k0, .int k1, .int k2, .int k3, .int k4]) ++ List.replicate (8 - (lg_sl ([.ref mo, .int k0, .int k1, .int k2, .int k3, .int k4])).length) Slot.unset).toArray = ls at hl ⊢
  have hl : lv_has ls 8 [(0, .ref mo), (1, .int k0), (2, .int k1), (3, .int k2), (4, .int k3), (5, .int k4)] := hl
  refine lv_aload_n hx hb dX8_who_0 rfl (lv_at hl 0 rfl) ?_
  refine lv_iload_n hx hb dX8_who_1 rfl (lv_at hl 1 rfl) ?_
  have hPc_1 := hP.sub (ws' := [(mo, .inr (8, [.ref m_la, .ref m_sz, .ref m_it, .int 0, .int 0, .ref m_st, .ref m_mv, .ref m_tp, .int 0, .int 0, .int 0, .int 0, .int 0, .int 0, .int 0, .ref m_rd, .ref m_ac, .int 0, .ref m_as, .ref m_wo, .ref m_ik, .ref m_ke, .ref m_tr, .int 0])), (m_st, .inl (cI, 38, .inl (fun _ => 0)))]) [0, 1] rfl
  refine vp_callSi (W.runV (As := [.int k0]) (rest := []) ⟨hx, hb, hml, hown, hts⟩ (c_X8_isSound l dC dI cI cZ cL cJ mo m_la m_sz m_it m_st m_mv m_tp m_rd m_ac m_as m_wo m_ik m_ke m_tr k0 ) (cwV 1 hts gX8_who_X8_isSound rfl rfl rfl (by decide +kernel) ⟨Nat.le_of_ble_eq_true rfl, Nat.le_of_ble_eq_true rfl⟩) ⟨fun a U g mk q => by obtain ⟨q0, qP, qK⟩ := q; exact ⟨q0, qP, va_K.moved (u := U) (U := U.calling g mk a) (Vm.Alike.refl U.vm) qK⟩, va_recv hK hP (ci := 8) (q0 := 0) rfl rfl, fun U hU hW => ⟨rfl, by rw [hU]; exact hPc_1, va_K.moved hW.alike hK⟩⟩ rfl rfl hl.1 rfl (lv_room (Nat.le_of_ble_eq_true rfl)) dX8_who_2 ⟨Nat.le_of_ble_eq_true rfl, Nat.le_of_ble_eq_true rfl⟩) (fun r_1 h_1 => ?_)
  subst h_1
  refine lv_if_eq (tgt := 35) hx hb dX8_who_5 (by decide) (fun _ => ?_) (fun c_ => absurd (by decide) c_)
  refine lv_ldc (own := RX8) (v := (-1000001)) hx hb hown (hts (.constant RX8 67 (-1000001)) (by decide +kernel)) dX8_who_35 ?_
  exact W.iret (v := (-1000001)) hx hb hr (fun t ht hW => ⟨(-1000001), rfl, rfl, ht⟩) (fun _ h => by cases h) dX8_who_37
set_option maxHeartbeats 4000000 in
set_option maxRecDepth 100000 in
theorem c_X8_gusts (l : Launch) (dC : Nat → ClassId) (dI : Nat → Nat → Nat) (cI cZ cL cJ : ClassId) (mo : Nat) (m_la : Nat) (m_sz : Nat) (m_it : Nat) (m_st : Nat) (m_mv : Nat) (m_tp : Nat) (m_rd : Nat) (m_ac : Nat) (m_as : Nat) (m_wo : Nat) (m_ik : Nat) (m_ke : Nat) (m_tr : Nat) (k0 : Int32) (k1 : Int32) (k2 : Int32) (k3 : Int32) (k4 : Int32)  : Met l yX8_gusts wsX8_gusts ({ frames := 2, cells := 0, slots := 0, locals := 46 }) (va_Pc [.ref mo, .int k0, .int k1, .int k2, .int k3, .int k4] (fun U => va_P (dC, dI) vwCl [(mo, .inr (8, [.ref m_la, .ref m_sz, .ref m_it, .int 0, .int 0, .ref m_st, .ref m_mv, .ref m_tp, .int 0, .int 0, .int 0, .int 0, .int 0, .int 0, .int 0, .ref m_rd, .ref m_ac, .int 0, .ref m_as, .ref m_wo, .ref m_ik, .ref m_ke, .ref m_tr, .int 0])), (m_st, .inl (cI, 38, .inl (fun _ => 0)))] U.heap ∧ va_K (dC, dI) vwCl [(cI, .int), (cZ, .boolean), (cL, .object RX3), (cJ, .array .int)] U)) (vp_Si (fun r => r = (-1000001))) 0 0 (fun _ => False) := by
  refine Met.ofW (cc := cX8_gusts) (maxL := 7) (ret := (some .int)) (by decide) rfl ?_
  intro p e s m args below meth c s₁ B hml hv
  obtain ⟨rfl, hP, hK⟩ := hv
  have hx := B.exec
  have hb := B.bytes
  have hr := B.returns
  have hts := atoms_spec (ws := wsX8_gusts) B.pre
  have hown : s.vm.findClass RX8 = some m.cls := findClass_of_methodNamed B.named
  have hlocks := B.notSynchronized
  have hP : va_P (dC, dI) vwCl [(mo, .inr (8, [.ref m_la, .ref m_sz, .ref m_it, .int 0, .int 0, .ref m_st, .ref m_mv, .ref m_tp, .int 0, .int 0, .int 0, .int 0, .int 0, .int 0, .int 0, .ref m_rd, .ref m_ac, .int 0, .ref m_as, .ref m_wo, .ref m_ik, .ref m_ke, .ref m_tr, .int 0])), (m_st, .inl (cI, 38, .inl (fun _ => 0)))] s.heap := hP
  have hl := lv_entry ([.ref mo, .int k0, .int k1, .int k2, .int k3, .int k4]) (n := 7) (Nat.le_of_ble_eq_true rfl)
  rw [lg_entry_eq]
  generalize (lg_sl ([.ref mo, .int k0, .int k1, .int k2, .int k3, .int k4]) ++ List.replicate (7 - (lg_sl ([.ref mo, .int k0, .int k1, .int k2, .int k3, .int k4])).length) Slot.unset).toArray = ls at hl ⊢
  have hl : lv_has ls 7 [(0, .ref mo), (1, .int k0), (2, .int k1), (3, .int k2), (4, .int k3), (5, .int k4)] := hl
  refine lv_iload_n hx hb dX8_gusts_0 rfl (lv_at hl 1 rfl) ?_
  refine lv_i2l hx hb dX8_gusts_1 rfl ?_
  refine lv_ldc2 (own := RX8) (v := (-1)) hx hb hown (hts (.constantLong RX8 236 (-1)) (by decide +kernel)) dX8_gusts_2 ?_
  refine lv_aload_n hx hb dX8_gusts_5 rfl (lv_at hl 0 rfl) ?_
  refine va_get (D := (dC, dI)) (ci := 8) (v := .ref m_st) (C := RX8) (T := TX8) (N := 24) hx hb hts i_X8_gusts_X8 hown hK hP 0 rfl rfl 5 (by decide) (hts (.fieldLink RX8 19 "MillTalkModel" "st" "[I") (by decide +kernel)) (fun _ h9 => h9) rfl dX8_gusts_6 ?_
  refine lv_iconst (v := 3) hx hb dX8_gusts_9 (by decide) ?_
  refine va_iald hx hb hK hP 1 0 rfl rfl (by unfold vp_in; decide) dX8_gusts_10 ?_
  refine lv_topi (fun v_1 e_1 => ?_)
  obtain rfl : v_1 = 0 := e_1
  refine lv_iconst (v := 1) hx hb dX8_gusts_11 (by decide) ?_
  refine lv_isub hx hb dX8_gusts_12 ?_
  refine lv_topi (fun v_2 e_2 => ?_)
  obtain rfl : v_2 = (-1) := (e_2).trans (by decide)
  refine lv_i2l (v := (-1)) hx hb dX8_gusts_13 (by decide) ?_
  have hPc_3 := hP.sub (ws' := []) [] rfl
  refine vp_callSi (W.runS (As := [.long (k0).toInt64, .long (-1), .long (-1)]) (rest := []) ⟨hx, hb, hml, hown, hts⟩ (c_X8_in l dC dI cI cZ cL cJ ((k0).toInt64) (-1) (-1) ) (va_cwS 3 hts gX8_gusts_X8_in rfl rfl rfl (by decide +kernel) ⟨Nat.le_of_ble_eq_true rfl, Nat.le_of_ble_eq_true rfl⟩) ⟨fun a U g mk q => by obtain ⟨q0, qP, qK⟩ := q; exact ⟨q0, qP, va_K.moved (u := U) (U := U.calling g mk a) (Vm.Alike.refl U.vm) qK⟩, fun U hU hW => ⟨rfl, by rw [hU]; exact hPc_3, va_K.moved hW.alike hK⟩⟩ rfl rfl hl.1 rfl (lv_room (Nat.le_of_ble_eq_true rfl)) dX8_gusts_14 ⟨Nat.le_of_ble_eq_true rfl, Nat.le_of_ble_eq_true rfl⟩) (fun r_3 h_3 => ?_)
  rcases h_3 with ⟨h_3, f_3_0_0⟩ | ⟨h_3, f_3_1_0⟩
  · subst h_3
    refine lv_if_eq (tgt := 48) hx hb dX8_gusts_17 (by decide) (fun _ => ?_) (fun c_ => absurd (by decide) c_)
    refine lv_ldc (own := RX8) (v := (-1000001)) hx hb hown (hts (.constant RX8 67 (-1000001)) (by decide +kernel)) dX8_gusts_48 ?_
    exact W.iret (v := (-1000001)) hx hb hr (fun t ht hW => ⟨(-1000001), rfl, rfl, ht⟩) (fun _ h => by cases h) dX8_gusts_50
  · subst h_3
    refine lv_if_eq (tgt := 48) hx hb dX8_gusts_17 (by decide) (fun c_ => absurd c_ (by decide)) (fun _ => ?_)
    refine lv_aload_n hx hb dX8_gusts_20 rfl (lv_at hl 0 rfl) ?_
    refine lv_iload_n hx hb dX8_gusts_21 rfl (lv_at hl 2 rfl) ?_
    have hPc_6 := hP.sub (ws' := [(mo, .inr (8, [.ref m_la, .ref m_sz, .ref m_it, .int 0, .int 0, .ref m_st, .ref m_mv, .ref m_tp, .int 0, .int 0, .int 0, .int 0, .int 0, .int 0, .int 0, .ref m_rd, .ref m_ac, .int 0, .ref m_as, .ref m_wo, .ref m_ik, .ref m_ke, .ref m_tr, .int 0])), (m_st, .inl (cI, 38, .inl (fun _ => 0)))]) [0, 1] rfl
    refine vp_callSi (W.runV (As := [.int k1]) (rest := []) ⟨hx, hb, hml, hown, hts⟩ (c_X8_isSound l dC dI cI cZ cL cJ mo m_la m_sz m_it m_st m_mv m_tp m_rd m_ac m_as m_wo m_ik m_ke m_tr k1 ) (cwV 1 hts gX8_gusts_X8_isSound rfl rfl rfl (by decide +kernel) ⟨Nat.le_of_ble_eq_true rfl, Nat.le_of_ble_eq_true rfl⟩) ⟨fun a U g mk q => by obtain ⟨q0, qP, qK⟩ := q; exact ⟨q0, qP, va_K.moved (u := U) (U := U.calling g mk a) (Vm.Alike.refl U.vm) qK⟩, va_recv hK hP (ci := 8) (q0 := 0) rfl rfl, fun U hU hW => ⟨rfl, by rw [hU]; exact hPc_6, va_K.moved hW.alike hK⟩⟩ rfl rfl hl.1 rfl (lv_room (Nat.le_of_ble_eq_true rfl)) dX8_gusts_22 ⟨Nat.le_of_ble_eq_true rfl, Nat.le_of_ble_eq_true rfl⟩) (fun r_6 h_6 => ?_)
    subst h_6
    refine lv_if_eq (tgt := 48) hx hb dX8_gusts_25 (by decide) (fun _ => ?_) (fun c_ => absurd (by decide) c_)
    refine lv_ldc (own := RX8) (v := (-1000001)) hx hb hown (hts (.constant RX8 67 (-1000001)) (by decide +kernel)) dX8_gusts_48 ?_
    exact W.iret (v := (-1000001)) hx hb hr (fun t ht hW => ⟨(-1000001), rfl, rfl, ht⟩) (fun _ h => by cases h) dX8_gusts_50
set_option maxHeartbeats 4000000 in
set_option maxRecDepth 100000 in
theorem c_X8_kind (l : Launch) (dC : Nat → ClassId) (dI : Nat → Nat → Nat) (cI cZ cL cJ : ClassId) (mo : Nat) (m_la : Nat) (m_sz : Nat) (m_it : Nat) (m_st : Nat) (m_mv : Nat) (m_tp : Nat) (m_rd : Nat) (m_ac : Nat) (m_as : Nat) (m_wo : Nat) (m_ik : Nat) (m_ke : Nat) (m_tr : Nat) (k0 : Int32)  : Met l yX8_kind wsX8_kind ({ frames := 2, cells := 0, slots := 0, locals := 46 }) (va_Pc [.ref mo, .int k0] (fun U => va_P (dC, dI) vwCl [(mo, .inr (8, [.ref m_la, .ref m_sz, .ref m_it, .int 0, .int 0, .ref m_st, .ref m_mv, .ref m_tp, .int 0, .int 0, .int 0, .int 0, .int 0, .int 0, .int 0, .ref m_rd, .ref m_ac, .int 0, .ref m_as, .ref m_wo, .ref m_ik, .ref m_ke, .ref m_tr, .int 0])), (m_st, .inl (cI, 38, .inl (fun _ => 0)))] U.heap ∧ va_K (dC, dI) vwCl [(cI, .int), (cZ, .boolean), (cL, .object RX3), (cJ, .array .int)] U)) (vp_Si (fun r => r = (-1000001))) 0 0 (fun _ => False) := by
  refine Met.ofW (cc := cX8_kind) (maxL := 2) (ret := (some .int)) (by decide) rfl ?_
  intro p e s m args below meth c s₁ B hml hv
  obtain ⟨rfl, hP, hK⟩ := hv
  have hx := B.exec
  have hb := B.bytes
  have hr := B.returns
  have hts := atoms_spec (ws := wsX8_kind) B.pre
  have hown : s.vm.findClass RX8 = some m.cls := findClass_of_methodNamed B.named
  have hlocks := B.notSynchronized
  have hP : va_P (dC, dI) vwCl [(mo, .inr (8, [.ref m_la, .ref m_sz, .ref m_it, .int 0, .int 0, .ref m_st, .ref m_mv, .ref m_tp, .int 0, .int 0, .int 0, .int 0, .int 0, .int 0, .int 0, .ref m_rd, .ref m_ac, .int 0, .ref m_as, .ref m_wo, .ref m_ik, .ref m_ke, .ref m_tr, .int 0])), (m_st, .inl (cI, 38, .inl (fun _ => 0)))] s.heap := hP
  have hl := lv_entry ([.ref mo, .int k0]) (n := 2) (Nat.le_of_ble_eq_true rfl)
  rw [lg_entry_eq]
  generalize (lg_sl ([.ref mo, .int k0]) ++ List.replicate (2 - (lg_sl ([.ref mo, .int k0])).length) Slot.unset).toArray = ls at hl ⊢
  have hl : lv_has ls 2 [(0, .ref mo), (1, .int k0)] := hl
  refine lv_aload_n hx hb dX8_kind_0 rfl (lv_at hl 0 rfl) ?_
  refine lv_iload_n hx hb dX8_kind_1 rfl (lv_at hl 1 rfl) ?_
  have hPc_1 := hP.sub (ws' := [(mo, .inr (8, [.ref m_la, .ref m_sz, .ref m_it, .int 0, .int 0, .ref m_st, .ref m_mv, .ref m_tp, .int 0, .int 0, .int 0, .int 0, .int 0, .int 0, .int 0, .ref m_rd, .ref m_ac, .int 0, .ref m_as, .ref m_wo, .ref m_ik, .ref m_ke, .ref m_tr, .int 0])), (m_st, .inl (cI, 38, .inl (fun _ => 0)))]) [0, 1] rfl
  refine vp_callSi (W.runV (As := [.int k0]) (rest := []) ⟨hx, hb, hml, hown, hts⟩ (c_X8_isSound l dC dI cI cZ cL cJ mo m_la m_sz m_it m_st m_mv m_tp m_rd m_ac m_as m_wo m_ik m_ke m_tr k0 ) (cwV 1 hts gX8_kind_X8_isSound rfl rfl rfl (by decide +kernel) ⟨Nat.le_of_ble_eq_true rfl, Nat.le_of_ble_eq_true rfl⟩) ⟨fun a U g mk q => by obtain ⟨q0, qP, qK⟩ := q; exact ⟨q0, qP, va_K.moved (u := U) (U := U.calling g mk a) (Vm.Alike.refl U.vm) qK⟩, va_recv hK hP (ci := 8) (q0 := 0) rfl rfl, fun U hU hW => ⟨rfl, by rw [hU]; exact hPc_1, va_K.moved hW.alike hK⟩⟩ rfl rfl hl.1 rfl (lv_room (Nat.le_of_ble_eq_true rfl)) dX8_kind_2 ⟨Nat.le_of_ble_eq_true rfl, Nat.le_of_ble_eq_true rfl⟩) (fun r_1 h_1 => ?_)
  subst h_1
  refine lv_if_eq (tgt := 20) hx hb dX8_kind_5 (by decide) (fun _ => ?_) (fun c_ => absurd (by decide) c_)
  refine lv_ldc (own := RX8) (v := (-1000001)) hx hb hown (hts (.constant RX8 67 (-1000001)) (by decide +kernel)) dX8_kind_20 ?_
  exact W.iret (v := (-1000001)) hx hb hr (fun t ht hW => ⟨(-1000001), rfl, rfl, ht⟩) (fun _ h => by cases h) dX8_kind_22
set_option maxHeartbeats 4000000 in
set_option maxRecDepth 100000 in
theorem c_X8_as (l : Launch) (dC : Nat → ClassId) (dI : Nat → Nat → Nat) (cI cZ cL cJ : ClassId) (mo : Nat) (m_la : Nat) (m_sz : Nat) (m_it : Nat) (m_st : Nat) (m_mv : Nat) (m_tp : Nat) (m_rd : Nat) (m_ac : Nat) (m_as : Nat) (m_wo : Nat) (m_ik : Nat) (m_ke : Nat) (m_tr : Nat) (k0 : Int32) (k1 : Int32)  : Met l yX8_as wsX8_as ({ frames := 2, cells := 0, slots := 0, locals := 46 }) (va_Pc [.ref mo, .int k0, .int k1] (fun U => va_P (dC, dI) vwCl [(mo, .inr (8, [.ref m_la, .ref m_sz, .ref m_it, .int 0, .int 0, .ref m_st, .ref m_mv, .ref m_tp, .int 0, .int 0, .int 0, .int 0, .int 0, .int 0, .int 0, .ref m_rd, .ref m_ac, .int 0, .ref m_as, .ref m_wo, .ref m_ik, .ref m_ke, .ref m_tr, .int 0])), (m_st, .inl (cI, 38, .inl (fun _ => 0)))] U.heap ∧ va_K (dC, dI) vwCl [(cI, .int), (cZ, .boolean), (cL, .object RX3), (cJ, .array .int)] U)) (vp_Si (fun r => r = (-1000001))) 0 0 (fun _ => False) := by
  refine Met.ofW (cc := cX8_as) (maxL := 3) (ret := (some .int)) (by decide) rfl ?_
  intro p e s m args below meth c s₁ B hml hv
  obtain ⟨rfl, hP, hK⟩ := hv
  have hx := B.exec
  have hb := B.bytes
  have hr := B.returns
  have hts := atoms_spec (ws := wsX8_as) B.pre
  have hown : s.vm.findClass RX8 = some m.cls := findClass_of_methodNamed B.named
  have hlocks := B.notSynchronized
  have hP : va_P (dC, dI) vwCl [(mo, .inr (8, [.ref m_la, .ref m_sz, .ref m_it, .int 0, .int 0, .ref m_st, .ref m_mv, .ref m_tp, .int 0, .int 0, .int 0, .int 0, .int 0, .int 0, .int 0, .ref m_rd, .ref m_ac, .int 0, .ref m_as, .ref m_wo, .ref m_ik, .ref m_ke, .ref m_tr, .int 0])), (m_st, .inl (cI, 38, .inl (fun _ => 0)))] s.heap := hP
  have hl := lv_entry ([.ref mo, .int k0, .int k1]) (n := 3) (Nat.le_of_ble_eq_true rfl)
  rw [lg_entry_eq]
  generalize (lg_sl ([.ref mo, .int k0, .int k1]) ++ List.replicate (3 - (lg_sl ([.ref mo, .int k0, .int k1])).length) Slot.unset).toArray = ls at hl ⊢
  have hl : lv_has ls 3 [(0, .ref mo), (1, .int k0), (2, .int k1)] := hl
  refine lv_aload_n hx hb dX8_as_0 rfl (lv_at hl 0 rfl) ?_
  refine lv_iload_n hx hb dX8_as_1 rfl (lv_at hl 1 rfl) ?_
  have hPc_1 := hP.sub (ws' := [(mo, .inr (8, [.ref m_la, .ref m_sz, .ref m_it, .int 0, .int 0, .ref m_st, .ref m_mv, .ref m_tp, .int 0, .int 0, .int 0, .int 0, .int 0, .int 0, .int 0, .ref m_rd, .ref m_ac, .int 0, .ref m_as, .ref m_wo, .ref m_ik, .ref m_ke, .ref m_tr, .int 0])), (m_st, .inl (cI, 38, .inl (fun _ => 0)))]) [0, 1] rfl
  refine vp_callSi (W.runV (As := [.int k0]) (rest := []) ⟨hx, hb, hml, hown, hts⟩ (c_X8_isSound l dC dI cI cZ cL cJ mo m_la m_sz m_it m_st m_mv m_tp m_rd m_ac m_as m_wo m_ik m_ke m_tr k0 ) (cwV 1 hts gX8_as_X8_isSound rfl rfl rfl (by decide +kernel) ⟨Nat.le_of_ble_eq_true rfl, Nat.le_of_ble_eq_true rfl⟩) ⟨fun a U g mk q => by obtain ⟨q0, qP, qK⟩ := q; exact ⟨q0, qP, va_K.moved (u := U) (U := U.calling g mk a) (Vm.Alike.refl U.vm) qK⟩, va_recv hK hP (ci := 8) (q0 := 0) rfl rfl, fun U hU hW => ⟨rfl, by rw [hU]; exact hPc_1, va_K.moved hW.alike hK⟩⟩ rfl rfl hl.1 rfl (lv_room (Nat.le_of_ble_eq_true rfl)) dX8_as_2 ⟨Nat.le_of_ble_eq_true rfl, Nat.le_of_ble_eq_true rfl⟩) (fun r_1 h_1 => ?_)
  subst h_1
  refine lv_if_eq (tgt := 20) hx hb dX8_as_5 (by decide) (fun _ => ?_) (fun c_ => absurd (by decide) c_)
  refine lv_ldc (own := RX8) (v := (-1000001)) hx hb hown (hts (.constant RX8 67 (-1000001)) (by decide +kernel)) dX8_as_20 ?_
  exact W.iret (v := (-1000001)) hx hb hr (fun t ht hW => ⟨(-1000001), rfl, rfl, ht⟩) (fun _ h => by cases h) dX8_as_22
set_option maxHeartbeats 4000000 in
set_option maxRecDepth 100000 in
theorem c_X8_ask (l : Launch) (dC : Nat → ClassId) (dI : Nat → Nat → Nat) (cI cZ cL cJ : ClassId) (mo : Nat) (m_la : Nat) (m_sz : Nat) (m_it : Nat) (m_st : Nat) (m_mv : Nat) (m_tp : Nat) (m_rd : Nat) (m_ac : Nat) (m_as : Nat) (m_wo : Nat) (m_ik : Nat) (m_ke : Nat) (m_tr : Nat) (k0 : Int32) (k1 : Int32)  : Met l yX8_ask wsX8_ask ({ frames := 2, cells := 0, slots := 0, locals := 46 }) (va_Pc [.ref mo, .int k0, .int k1] (fun U => va_P (dC, dI) vwCl [(mo, .inr (8, [.ref m_la, .ref m_sz, .ref m_it, .int 0, .int 0, .ref m_st, .ref m_mv, .ref m_tp, .int 0, .int 0, .int 0, .int 0, .int 0, .int 0, .int 0, .ref m_rd, .ref m_ac, .int 0, .ref m_as, .ref m_wo, .ref m_ik, .ref m_ke, .ref m_tr, .int 0])), (m_st, .inl (cI, 38, .inl (fun _ => 0)))] U.heap ∧ va_K (dC, dI) vwCl [(cI, .int), (cZ, .boolean), (cL, .object RX3), (cJ, .array .int)] U)) (vp_Si (fun r => r = (-1000001))) 0 0 (fun _ => False) := by
  refine Met.ofW (cc := cX8_ask) (maxL := 3) (ret := (some .int)) (by decide) rfl ?_
  intro p e s m args below meth c s₁ B hml hv
  obtain ⟨rfl, hP, hK⟩ := hv
  have hx := B.exec
  have hb := B.bytes
  have hr := B.returns
  have hts := atoms_spec (ws := wsX8_ask) B.pre
  have hown : s.vm.findClass RX8 = some m.cls := findClass_of_methodNamed B.named
  have hlocks := B.notSynchronized
  have hP : va_P (dC, dI) vwCl [(mo, .inr (8, [.ref m_la, .ref m_sz, .ref m_it, .int 0, .int 0, .ref m_st, .ref m_mv, .ref m_tp, .int 0, .int 0, .int 0, .int 0, .int 0, .int 0, .int 0, .ref m_rd, .ref m_ac, .int 0, .ref m_as, .ref m_wo, .ref m_ik, .ref m_ke, .ref m_tr, .int 0])), (m_st, .inl (cI, 38, .inl (fun _ => 0)))] s.heap := hP
  have hl := lv_entry ([.ref mo, .int k0, .int k1]) (n := 3) (Nat.le_of_ble_eq_true rfl)
  rw [lg_entry_eq]
  generalize (lg_sl ([.ref mo, .int k0, .int k1]) ++ List.replicate (3 - (lg_sl ([.ref mo, .int k0, .int k1])).length) Slot.unset).toArray = ls at hl ⊢
  have hl : lv_has ls 3 [(0, .ref mo), (1, .int k0), (2, .int k1)] := hl
  refine lv_aload_n hx hb dX8_ask_0 rfl (lv_at hl 0 rfl) ?_
  refine lv_iload_n hx hb dX8_ask_1 rfl (lv_at hl 1 rfl) ?_
  have hPc_1 := hP.sub (ws' := [(mo, .inr (8, [.ref m_la, .ref m_sz, .ref m_it, .int 0, .int 0, .ref m_st, .ref m_mv, .ref m_tp, .int 0, .int 0, .int 0, .int 0, .int 0, .int 0, .int 0, .ref m_rd, .ref m_ac, .int 0, .ref m_as, .ref m_wo, .ref m_ik, .ref m_ke, .ref m_tr, .int 0])), (m_st, .inl (cI, 38, .inl (fun _ => 0)))]) [0, 1] rfl
  refine vp_callSi (W.runV (As := [.int k0]) (rest := []) ⟨hx, hb, hml, hown, hts⟩ (c_X8_isSound l dC dI cI cZ cL cJ mo m_la m_sz m_it m_st m_mv m_tp m_rd m_ac m_as m_wo m_ik m_ke m_tr k0 ) (cwV 1 hts gX8_ask_X8_isSound rfl rfl rfl (by decide +kernel) ⟨Nat.le_of_ble_eq_true rfl, Nat.le_of_ble_eq_true rfl⟩) ⟨fun a U g mk q => by obtain ⟨q0, qP, qK⟩ := q; exact ⟨q0, qP, va_K.moved (u := U) (U := U.calling g mk a) (Vm.Alike.refl U.vm) qK⟩, va_recv hK hP (ci := 8) (q0 := 0) rfl rfl, fun U hU hW => ⟨rfl, by rw [hU]; exact hPc_1, va_K.moved hW.alike hK⟩⟩ rfl rfl hl.1 rfl (lv_room (Nat.le_of_ble_eq_true rfl)) dX8_ask_2 ⟨Nat.le_of_ble_eq_true rfl, Nat.le_of_ble_eq_true rfl⟩) (fun r_1 h_1 => ?_)
  subst h_1
  refine lv_if_eq (tgt := 18) hx hb dX8_ask_5 (by decide) (fun _ => ?_) (fun c_ => absurd (by decide) c_)
  refine lv_ldc (own := RX8) (v := (-1000001)) hx hb hown (hts (.constant RX8 67 (-1000001)) (by decide +kernel)) dX8_ask_18 ?_
  exact W.iret (v := (-1000001)) hx hb hr (fun t ht hW => ⟨(-1000001), rfl, rfl, ht⟩) (fun _ h => by cases h) dX8_ask_20
set_option maxHeartbeats 4000000 in
set_option maxRecDepth 100000 in
theorem c_X8_calm (l : Launch) (dC : Nat → ClassId) (dI : Nat → Nat → Nat) (cI cZ cL cJ : ClassId) (mo : Nat) (m_la : Nat) (m_sz : Nat) (m_it : Nat) (m_st : Nat) (m_mv : Nat) (m_tp : Nat) (m_rd : Nat) (m_ac : Nat) (m_as : Nat) (m_wo : Nat) (m_ik : Nat) (m_ke : Nat) (m_tr : Nat) (k0 : Int32) (k1 : Int32) (k2 : Int32) (k3 : Int32)  : Met l yX8_calm wsX8_calm ({ frames := 2, cells := 0, slots := 0, locals := 46 }) (va_Pc [.ref mo, .int k0, .int k1, .int k2, .int k3] (fun U => va_P (dC, dI) vwCl [(mo, .inr (8, [.ref m_la, .ref m_sz, .ref m_it, .int 0, .int 0, .ref m_st, .ref m_mv, .ref m_tp, .int 0, .int 0, .int 0, .int 0, .int 0, .int 0, .int 0, .ref m_rd, .ref m_ac, .int 0, .ref m_as, .ref m_wo, .ref m_ik, .ref m_ke, .ref m_tr, .int 0])), (m_st, .inl (cI, 38, .inl (fun _ => 0)))] U.heap ∧ va_K (dC, dI) vwCl [(cI, .int), (cZ, .boolean), (cL, .object RX3), (cJ, .array .int)] U)) (vp_Sl (fun r => r = (-1000001))) 0 0 (fun _ => False) := by
  refine Met.ofW (cc := cX8_calm) (maxL := 15) (ret := (some .long)) (by decide) rfl ?_
  intro p e s m args below meth c s₁ B hml hv
  obtain ⟨rfl, hP, hK⟩ := hv
  have hx := B.exec
  have hb := B.bytes
  have hr := B.returns
  have hts := atoms_spec (ws := wsX8_calm) B.pre
  have hown : s.vm.findClass RX8 = some m.cls := findClass_of_methodNamed B.named
  have hlocks := B.notSynchronized
  have hP : va_P (dC, dI) vwCl [(mo, .inr (8, [.ref m_la, .ref m_sz, .ref m_it, .int 0, .int 0, .ref m_st, .ref m_mv, .ref m_tp, .int 0, .int 0, .int 0, .int 0, .int 0, .int 0, .int 0, .ref m_rd, .ref m_ac, .int 0, .ref m_as, .ref m_wo, .ref m_ik, .ref m_ke, .ref m_tr, .int 0])), (m_st, .inl (cI, 38, .inl (fun _ => 0)))] s.heap := hP
  have hl := lv_entry ([.ref mo, .int k0, .int k1, .int k2, .int k3]) (n := 15) (Nat.le_of_ble_eq_true rfl)
  rw [lg_entry_eq]
  generalize (lg_sl ([.ref mo, .int k0, .int k1, .int k2, .int k3]) ++ List.replicate (15 - (lg_sl ([.ref mo, .int k0, .int k1, .int k2, .int k3])).length) Slot.unset).toArray = ls at hl ⊢
  have hl : lv_has ls 15 [(0, .ref mo), (1, .int k0), (2, .int k1), (3, .int k2), (4, .int k3)] := hl
  refine lv_aload_n hx hb dX8_calm_0 rfl (lv_at hl 0 rfl) ?_
  refine lv_iload_n hx hb dX8_calm_1 rfl (lv_at hl 1 rfl) ?_
  have hPc_1 := hP.sub (ws' := [(mo, .inr (8, [.ref m_la, .ref m_sz, .ref m_it, .int 0, .int 0, .ref m_st, .ref m_mv, .ref m_tp, .int 0, .int 0, .int 0, .int 0, .int 0, .int 0, .int 0, .ref m_rd, .ref m_ac, .int 0, .ref m_as, .ref m_wo, .ref m_ik, .ref m_ke, .ref m_tr, .int 0])), (m_st, .inl (cI, 38, .inl (fun _ => 0)))]) [0, 1] rfl
  refine vp_callSi (W.runV (As := [.int k0]) (rest := []) ⟨hx, hb, hml, hown, hts⟩ (c_X8_isSound l dC dI cI cZ cL cJ mo m_la m_sz m_it m_st m_mv m_tp m_rd m_ac m_as m_wo m_ik m_ke m_tr k0 ) (cwV 1 hts gX8_calm_X8_isSound rfl rfl rfl (by decide +kernel) ⟨Nat.le_of_ble_eq_true rfl, Nat.le_of_ble_eq_true rfl⟩) ⟨fun a U g mk q => by obtain ⟨q0, qP, qK⟩ := q; exact ⟨q0, qP, va_K.moved (u := U) (U := U.calling g mk a) (Vm.Alike.refl U.vm) qK⟩, va_recv hK hP (ci := 8) (q0 := 0) rfl rfl, fun U hU hW => ⟨rfl, by rw [hU]; exact hPc_1, va_K.moved hW.alike hK⟩⟩ rfl rfl hl.1 rfl (lv_room (Nat.le_of_ble_eq_true rfl)) dX8_calm_2 ⟨Nat.le_of_ble_eq_true rfl, Nat.le_of_ble_eq_true rfl⟩) (fun r_1 h_1 => ?_)
  subst h_1
  refine lv_if_eq (tgt := 40) hx hb dX8_calm_5 (by decide) (fun _ => ?_) (fun c_ => absurd (by decide) c_)
  refine lv_ldc2 (own := RX8) (v := (-1000001)) hx hb hown (hts (.constantLong RX8 240 (-1000001)) (by decide +kernel)) dX8_calm_40 ?_
  exact W.lret (v := (-1000001)) hx hb hr (fun t ht hW => ⟨(-1000001), rfl, rfl, ht⟩) (fun _ h => by cases h) dX8_calm_43
set_option maxHeartbeats 4000000 in
set_option maxRecDepth 100000 in
theorem c_X8_set (l : Launch) (dC : Nat → ClassId) (dI : Nat → Nat → Nat) (cI cZ cL cJ : ClassId) (sz : Nat) (mo : Nat) (m_la : Nat) (m_sz : Nat) (m_it : Nat) (m_st : Nat) (m_mv : Nat) (m_tp : Nat) (m_rd : Nat) (m_ac : Nat) (m_as : Nat) (m_wo : Nat) (m_ik : Nat) (m_ke : Nat) (m_tr : Nat) (fl : Nat → Int32) (k0 : Int32) (k1 : Int32) (k2 : Int32) (hfl : ∀ j : Nat, j < 8 → fl j = -1) : Met l yX8_set wsX8_set ({ frames := 2, cells := 0, slots := 0, locals := 45 }) (va_Pc [.ref mo, .int k0, .int k1, .int k2] (fun U => U.heap.size = sz ∧ va_P (dC, dI) vwCl [(mo, .inr (8, [.ref m_la, .ref m_sz, .ref m_it, .int 0, .int 0, .ref m_st, .ref m_mv, .ref m_tp, .int 0, .int 0, .int 0, .int 0, .int 0, .int 0, .int 0, .ref m_rd, .ref m_ac, .int 0, .ref m_as, .ref m_wo, .ref m_ik, .ref m_ke, .ref m_tr, .int 0])), (m_sz, .inl (cI, 8, .inl fl))] U.heap ∧ va_K (dC, dI) vwCl [(cI, .int), (cZ, .boolean), (cL, .object RX3), (cJ, .array .int)] U ∧ va_D (fun _ => True) [(mo, .inr (8, [.ref m_la, .ref m_sz, .ref m_it, .int 0, .int 0, .ref m_st, .ref m_mv, .ref m_tp, .int 0, .int 0, .int 0, .int 0, .int 0, .int 0, .int 0, .ref m_rd, .ref m_ac, .int 0, .ref m_as, .ref m_wo, .ref m_ik, .ref m_ke, .ref m_tr, .int 0])), (m_sz, .inl (cI, 8, .inl fl))])) (va_Qi (fun r (_ : Unit) => r = (an_set k0)) (fun (_ : Unit) t => True) (va_A [(mo, .inr (8, [.ref m_la, .ref m_sz, .ref m_it, .int 0, .int 0, .ref m_st, .ref m_mv, .ref m_tp, .int 0, .int 0, .int 0, .int 0, .int 0, .int 0, .int 0, .ref m_rd, .ref m_ac, .int 0, .ref m_as, .ref m_wo, .ref m_ik, .ref m_ke, .ref m_tr, .int 0])), (m_sz, .inl (cI, 8, .inl fl))] sz)) 0 0 (va_A [(mo, .inr (8, [.ref m_la, .ref m_sz, .ref m_it, .int 0, .int 0, .ref m_st, .ref m_mv, .ref m_tp, .int 0, .int 0, .int 0, .int 0, .int 0, .int 0, .int 0, .ref m_rd, .ref m_ac, .int 0, .ref m_as, .ref m_wo, .ref m_ik, .ref m_ke, .ref m_tr, .int 0])), (m_sz, .inl (cI, 8, .inl fl))] sz) := by
  refine Met.ofW (cc := cX8_set) (maxL := 4) (ret := (some .int)) (by decide) rfl ?_
  intro p e s m args below meth c s₁ B hml hv
  obtain ⟨rfl, hsz, hP, hK, hD0⟩ := hv
  have hx := B.exec
  have hb := B.bytes
  have hr := B.returns
  have hts := atoms_spec (ws := wsX8_set) B.pre
  have hown : s.vm.findClass RX8 = some m.cls := findClass_of_methodNamed B.named
  have hlocks := B.notSynchronized
  subst hsz
  have hD := hD0.self (sz := s.heap.size)
  generalize hAe : va_A [(mo, .inr (8, [.ref m_la, .ref m_sz, .ref m_it, .int 0, .int 0, .ref m_st, .ref m_mv, .ref m_tp, .int 0, .int 0, .int 0, .int 0, .int 0, .int 0, .int 0, .ref m_rd, .ref m_ac, .int 0, .ref m_as, .ref m_wo, .ref m_ik, .ref m_ke, .ref m_tr, .int 0])), (m_sz, .inl (cI, 8, .inl fl))] s.heap.size = A at hD ⊢
  have hA : ∀ q : Nat, s.heap.size ≤ q → A q := fun q h => by rw [← hAe]; exact Or.inr h
  have hS : va_S A s.heap s.heap [] := va_S.rf
  have hP : va_P (dC, dI) vwCl [(mo, .inr (8, [.ref m_la, .ref m_sz, .ref m_it, .int 0, .int 0, .ref m_st, .ref m_mv, .ref m_tp, .int 0, .int 0, .int 0, .int 0, .int 0, .int 0, .int 0, .ref m_rd, .ref m_ac, .int 0, .ref m_as, .ref m_wo, .ref m_ik, .ref m_ke, .ref m_tr, .int 0])), (m_sz, .inl (cI, 8, .inl fl))] s.heap := hP
  have hl := lv_entry ([.ref mo, .int k0, .int k1, .int k2]) (n := 4) (Nat.le_of_ble_eq_true rfl)
  rw [lg_entry_eq]
  generalize (lg_sl ([.ref mo, .int k0, .int k1, .int k2]) ++ List.replicate (4 - (lg_sl ([.ref mo, .int k0, .int k1, .int k2])).length) Slot.unset).toArray = ls at hl ⊢
  have hl : lv_has ls 4 [(0, .ref mo), (1, .int k0), (2, .int k1), (3, .int k2)] := hl
  refine lv_iload_n hx hb dX8_set_0 rfl (lv_at hl 1 rfl) ?_
  have hPc_1 := hP.sub (ws' := []) [] rfl
  refine vp_callSi (W.runS (As := [.int k0]) (rest := []) ⟨hx, hb, hml, hown, hts⟩ (c_X8_isRow l dC dI cI cZ cL cJ k0 ) (va_cwS 1 hts gX8_set_X8_isRow rfl rfl rfl (by decide +kernel) ⟨Nat.le_of_ble_eq_true rfl, Nat.le_of_ble_eq_true rfl⟩) ⟨fun a U g mk q => by obtain ⟨q0, qP, qK⟩ := q; exact ⟨q0, qP, va_K.moved (u := U) (U := U.calling g mk a) (Vm.Alike.refl U.vm) qK⟩, fun U hU hW => ⟨rfl, by rw [hU]; exact hPc_1, va_K.moved hW.alike hK⟩⟩ rfl rfl hl.1 rfl (lv_room (Nat.le_of_ble_eq_true rfl)) dX8_set_1 ⟨Nat.le_of_ble_eq_true rfl, Nat.le_of_ble_eq_true rfl⟩) (fun r_1 h_1 => ?_)
  rcases h_1 with ⟨h_1, f_1_0_0⟩ | ⟨h_1, f_1_1_0⟩
  · subst h_1
    refine lv_if_ne (tgt := 10) hx hb dX8_set_4 (by decide) (fun c_ => absurd (by decide) c_) (fun _ => ?_)
    refine lv_ldc (own := RX8) (v := (-1000001)) hx hb hown (hts (.constant RX8 67 (-1000001)) (by decide +kernel)) dX8_set_7 ?_
    exact W.iret (v := (-1000001)) hx hb hr (fun t ht hW => ⟨⟨(-1000001), (), rfl, (by unfold an_set; grind), trivial⟩, hS.F ht⟩) hS.2.2 dX8_set_9
  · subst h_1
    refine lv_if_ne (tgt := 10) hx hb dX8_set_4 (by decide) (fun _ => ?_) (fun c_ => absurd c_ (by decide))
    refine lv_aload_n hx hb dX8_set_10 rfl (lv_at hl 0 rfl) ?_
    refine va_get (D := (dC, dI)) (ci := 8) (v := .ref m_sz) (C := RX8) (T := TX8) (N := 24) hx hb hts i_X8_set_X8 hown hK hP 0 rfl rfl 1 (by decide) (hts (.fieldLink RX8 13 "MillTalkModel" "sizes" "[I") (by decide +kernel)) (fun _ h9 => h9) rfl dX8_set_11 ?_
    refine lv_iload_n hx hb dX8_set_14 rfl (lv_at hl 1 rfl) ?_
    refine va_iald hx hb hK hP 1 0 rfl rfl (in_8 f_1_1_0) dX8_set_15 ?_
    refine lv_topi (fun v_4 e_4 => ?_)
    obtain rfl : v_4 = (-1) := (e_4).trans (hfl _ (in_lt (in_8 f_1_1_0)))
    refine lv_if_ge (tgt := 25) hx hb dX8_set_16 (by decide) (fun c_ => absurd c_ (by decide)) (fun _ => ?_)
    refine lv_aload_n hx hb dX8_set_19 rfl (lv_at hl 0 rfl) ?_
    refine lv_iconst (v := 1) hx hb dX8_set_20 (by decide) ?_
    have hPc_6 := hP.sub (ws' := [(mo, .inr (8, [.ref m_la, .ref m_sz, .ref m_it, .int 0, .int 0, .ref m_st, .ref m_mv, .ref m_tp, .int 0, .int 0, .int 0, .int 0, .int 0, .int 0, .int 0, .ref m_rd, .ref m_ac, .int 0, .ref m_as, .ref m_wo, .ref m_ik, .ref m_ke, .ref m_tr, .int 0]))]) [0] rfl
    have hDc_6 := hD.sub (ws' := [(mo, .inr (8, [.ref m_la, .ref m_sz, .ref m_it, .int 0, .int 0, .ref m_st, .ref m_mv, .ref m_tp, .int 0, .int 0, .int 0, .int 0, .int 0, .int 0, .int 0, .ref m_rd, .ref m_ac, .int 0, .ref m_as, .ref m_wo, .ref m_ik, .ref m_ke, .ref m_tr, .int 0]))]) [0] (by decide) rfl
    have hFc_6 := va_free (wc := [(mo, .inr (8, [.ref m_la, .ref m_sz, .ref m_it, .int 0, .int 0, .ref m_st, .ref m_mv, .ref m_tp, .int 0, .int 0, .int 0, .int 0, .int 0, .int 0, .int 0, .ref m_rd, .ref m_ac, .int 0, .ref m_as, .ref m_wo, .ref m_ik, .ref m_ke, .ref m_tr, .int 0]))]) hD hS hA [0] rfl
    refine va_calli (va_runV (As := [.int 1]) (rest := []) ⟨hx, hb, hml, hown, hts⟩ (c_X8_find l dC dI cI cZ cL cJ s.heap.size mo m_la m_sz m_it m_st m_mv m_tp m_rd m_ac m_as m_wo m_ik m_ke m_tr 1 (-1000011) (by decide)) (cwV 1 hts gX8_set_X8_find rfl rfl rfl (by decide +kernel) ⟨Nat.le_of_ble_eq_true rfl, Nat.le_of_ble_eq_true rfl⟩) ⟨fun a U g mk q => by obtain ⟨q0, q1, qP, qK, qD⟩ := q; exact ⟨q0, q1, qP, va_K.moved (u := U) (U := U.calling g mk a) (Vm.Alike.refl U.vm) qK, qD⟩, va_recv hK hP (ci := 8) (q0 := 0) rfl rfl, fun U hU hW => ⟨rfl, by rw [hU], by rw [hU]; exact hPc_6, va_K.moved hW.alike hK, hDc_6.weaken (fun _ _ _ _ => trivial)⟩⟩ rfl rfl hl.1 rfl (lv_room (Nat.le_of_ble_eq_true rfl)) dX8_set_21 ⟨Nat.le_of_ble_eq_true rfl, Nat.le_of_ble_eq_true rfl⟩) hS (fun q _ h => hFc_6 q h) hFc_6 (fun r_6 u_6 t_6 H1 locs ht hvm h_6 hB hz1 hk1 hS => ?_)
    have hP1 : va_P (dC, dI) vwCl [] H1 := fun k q h => by simp at h
    have hD1 : va_D (va_A [(mo, .inr (8, [.ref m_la, .ref m_sz, .ref m_it, .int 0, .int 0, .ref m_st, .ref m_mv, .ref m_tp, .int 0, .int 0, .int 0, .int 0, .int 0, .int 0, .int 0, .ref m_rd, .ref m_ac, .int 0, .ref m_as, .ref m_wo, .ref m_ik, .ref m_ke, .ref m_tr, .int 0]))] s.heap.size) [] := ⟨fun i j p q h => by simp at h, fun k q h => by simp at h⟩
    obtain ⟨hP, hD⟩ := va_join (wr := [(m_sz, .inl (cI, 8, .inl fl))]) (w1 := []) hP hD [0] [1] rfl rfl (by decide) (by decide) hk1 hFc_6 hP1 hD1
    generalize H1 = H at hP hS ⊢
    have hP : va_P (dC, dI) vwCl [(m_sz, .inl (cI, 8, .inl fl))] H := hP
    have hD : va_D A [(m_sz, .inl (cI, 8, .inl fl))] := hD
    subst h_6
    exact W.iret (v := (-1000011)) hx hb hr (fun t ht hW => ⟨⟨(-1000011), (), rfl, (by unfold an_set; grind), trivial⟩, hS.F ht⟩) hS.2.2 dX8_set_24
set_option maxHeartbeats 4000000 in
set_option maxRecDepth 100000 in
theorem c_X8_drop (l : Launch) (dC : Nat → ClassId) (dI : Nat → Nat → Nat) (cI cZ cL cJ : ClassId) (sz : Nat) (mo : Nat) (m_la : Nat) (m_sz : Nat) (m_it : Nat) (m_st : Nat) (m_mv : Nat) (m_tp : Nat) (m_rd : Nat) (m_ac : Nat) (m_as : Nat) (m_wo : Nat) (m_ik : Nat) (m_ke : Nat) (m_tr : Nat) (fl : Nat → Int32) (k0 : Int32) (hfl : ∀ j : Nat, j < 8 → fl j = -1) : Met l yX8_drop wsX8_drop ({ frames := 2, cells := 0, slots := 0, locals := 45 }) (va_Pc [.ref mo, .int k0] (fun U => U.heap.size = sz ∧ va_P (dC, dI) vwCl [(mo, .inr (8, [.ref m_la, .ref m_sz, .ref m_it, .int 0, .int 0, .ref m_st, .ref m_mv, .ref m_tp, .int 0, .int 0, .int 0, .int 0, .int 0, .int 0, .int 0, .ref m_rd, .ref m_ac, .int 0, .ref m_as, .ref m_wo, .ref m_ik, .ref m_ke, .ref m_tr, .int 0])), (m_sz, .inl (cI, 8, .inl fl))] U.heap ∧ va_K (dC, dI) vwCl [(cI, .int), (cZ, .boolean), (cL, .object RX3), (cJ, .array .int)] U ∧ va_D (fun _ => True) [(mo, .inr (8, [.ref m_la, .ref m_sz, .ref m_it, .int 0, .int 0, .ref m_st, .ref m_mv, .ref m_tp, .int 0, .int 0, .int 0, .int 0, .int 0, .int 0, .int 0, .ref m_rd, .ref m_ac, .int 0, .ref m_as, .ref m_wo, .ref m_ik, .ref m_ke, .ref m_tr, .int 0])), (m_sz, .inl (cI, 8, .inl fl))])) (va_Qi (fun r (_ : Unit) => r = (an_set k0)) (fun (_ : Unit) t => True) (va_A [(mo, .inr (8, [.ref m_la, .ref m_sz, .ref m_it, .int 0, .int 0, .ref m_st, .ref m_mv, .ref m_tp, .int 0, .int 0, .int 0, .int 0, .int 0, .int 0, .int 0, .ref m_rd, .ref m_ac, .int 0, .ref m_as, .ref m_wo, .ref m_ik, .ref m_ke, .ref m_tr, .int 0])), (m_sz, .inl (cI, 8, .inl fl))] sz)) 0 0 (va_A [(mo, .inr (8, [.ref m_la, .ref m_sz, .ref m_it, .int 0, .int 0, .ref m_st, .ref m_mv, .ref m_tp, .int 0, .int 0, .int 0, .int 0, .int 0, .int 0, .int 0, .ref m_rd, .ref m_ac, .int 0, .ref m_as, .ref m_wo, .ref m_ik, .ref m_ke, .ref m_tr, .int 0])), (m_sz, .inl (cI, 8, .inl fl))] sz) := by
  refine Met.ofW (cc := cX8_drop) (maxL := 3) (ret := (some .int)) (by decide) rfl ?_
  intro p e s m args below meth c s₁ B hml hv
  obtain ⟨rfl, hsz, hP, hK, hD0⟩ := hv
  have hx := B.exec
  have hb := B.bytes
  have hr := B.returns
  have hts := atoms_spec (ws := wsX8_drop) B.pre
  have hown : s.vm.findClass RX8 = some m.cls := findClass_of_methodNamed B.named
  have hlocks := B.notSynchronized
  subst hsz
  have hD := hD0.self (sz := s.heap.size)
  generalize hAe : va_A [(mo, .inr (8, [.ref m_la, .ref m_sz, .ref m_it, .int 0, .int 0, .ref m_st, .ref m_mv, .ref m_tp, .int 0, .int 0, .int 0, .int 0, .int 0, .int 0, .int 0, .ref m_rd, .ref m_ac, .int 0, .ref m_as, .ref m_wo, .ref m_ik, .ref m_ke, .ref m_tr, .int 0])), (m_sz, .inl (cI, 8, .inl fl))] s.heap.size = A at hD ⊢
  have hA : ∀ q : Nat, s.heap.size ≤ q → A q := fun q h => by rw [← hAe]; exact Or.inr h
  have hS : va_S A s.heap s.heap [] := va_S.rf
  have hP : va_P (dC, dI) vwCl [(mo, .inr (8, [.ref m_la, .ref m_sz, .ref m_it, .int 0, .int 0, .ref m_st, .ref m_mv, .ref m_tp, .int 0, .int 0, .int 0, .int 0, .int 0, .int 0, .int 0, .ref m_rd, .ref m_ac, .int 0, .ref m_as, .ref m_wo, .ref m_ik, .ref m_ke, .ref m_tr, .int 0])), (m_sz, .inl (cI, 8, .inl fl))] s.heap := hP
  have hl := lv_entry ([.ref mo, .int k0]) (n := 3) (Nat.le_of_ble_eq_true rfl)
  rw [lg_entry_eq]
  generalize (lg_sl ([.ref mo, .int k0]) ++ List.replicate (3 - (lg_sl ([.ref mo, .int k0])).length) Slot.unset).toArray = ls at hl ⊢
  have hl : lv_has ls 3 [(0, .ref mo), (1, .int k0)] := hl
  refine lv_iload_n hx hb dX8_drop_0 rfl (lv_at hl 1 rfl) ?_
  have hPc_1 := hP.sub (ws' := []) [] rfl
  refine vp_callSi (W.runS (As := [.int k0]) (rest := []) ⟨hx, hb, hml, hown, hts⟩ (c_X8_isRow l dC dI cI cZ cL cJ k0 ) (va_cwS 1 hts gX8_drop_X8_isRow rfl rfl rfl (by decide +kernel) ⟨Nat.le_of_ble_eq_true rfl, Nat.le_of_ble_eq_true rfl⟩) ⟨fun a U g mk q => by obtain ⟨q0, qP, qK⟩ := q; exact ⟨q0, qP, va_K.moved (u := U) (U := U.calling g mk a) (Vm.Alike.refl U.vm) qK⟩, fun U hU hW => ⟨rfl, by rw [hU]; exact hPc_1, va_K.moved hW.alike hK⟩⟩ rfl rfl hl.1 rfl (lv_room (Nat.le_of_ble_eq_true rfl)) dX8_drop_1 ⟨Nat.le_of_ble_eq_true rfl, Nat.le_of_ble_eq_true rfl⟩) (fun r_1 h_1 => ?_)
  rcases h_1 with ⟨h_1, f_1_0_0⟩ | ⟨h_1, f_1_1_0⟩
  · subst h_1
    refine lv_if_ne (tgt := 10) hx hb dX8_drop_4 (by decide) (fun c_ => absurd (by decide) c_) (fun _ => ?_)
    refine lv_ldc (own := RX8) (v := (-1000001)) hx hb hown (hts (.constant RX8 67 (-1000001)) (by decide +kernel)) dX8_drop_7 ?_
    exact W.iret (v := (-1000001)) hx hb hr (fun t ht hW => ⟨⟨(-1000001), (), rfl, (by unfold an_set; grind), trivial⟩, hS.F ht⟩) hS.2.2 dX8_drop_9
  · subst h_1
    refine lv_if_ne (tgt := 10) hx hb dX8_drop_4 (by decide) (fun _ => ?_) (fun c_ => absurd c_ (by decide))
    refine lv_aload_n hx hb dX8_drop_10 rfl (lv_at hl 0 rfl) ?_
    refine va_get (D := (dC, dI)) (ci := 8) (v := .ref m_sz) (C := RX8) (T := TX8) (N := 24) hx hb hts i_X8_drop_X8 hown hK hP 0 rfl rfl 1 (by decide) (hts (.fieldLink RX8 13 "MillTalkModel" "sizes" "[I") (by decide +kernel)) (fun _ h9 => h9) rfl dX8_drop_11 ?_
    refine lv_iload_n hx hb dX8_drop_14 rfl (lv_at hl 1 rfl) ?_
    refine va_iald hx hb hK hP 1 0 rfl rfl (in_8 f_1_1_0) dX8_drop_15 ?_
    refine lv_topi (fun v_4 e_4 => ?_)
    obtain rfl : v_4 = (-1) := (e_4).trans (hfl _ (in_lt (in_8 f_1_1_0)))
    refine lv_if_ge (tgt := 25) hx hb dX8_drop_16 (by decide) (fun c_ => absurd c_ (by decide)) (fun _ => ?_)
    refine lv_aload_n hx hb dX8_drop_19 rfl (lv_at hl 0 rfl) ?_
    refine lv_iconst (v := 1) hx hb dX8_drop_20 (by decide) ?_
    have hPc_6 := hP.sub (ws' := [(mo, .inr (8, [.ref m_la, .ref m_sz, .ref m_it, .int 0, .int 0, .ref m_st, .ref m_mv, .ref m_tp, .int 0, .int 0, .int 0, .int 0, .int 0, .int 0, .int 0, .ref m_rd, .ref m_ac, .int 0, .ref m_as, .ref m_wo, .ref m_ik, .ref m_ke, .ref m_tr, .int 0]))]) [0] rfl
    have hDc_6 := hD.sub (ws' := [(mo, .inr (8, [.ref m_la, .ref m_sz, .ref m_it, .int 0, .int 0, .ref m_st, .ref m_mv, .ref m_tp, .int 0, .int 0, .int 0, .int 0, .int 0, .int 0, .int 0, .ref m_rd, .ref m_ac, .int 0, .ref m_as, .ref m_wo, .ref m_ik, .ref m_ke, .ref m_tr, .int 0]))]) [0] (by decide) rfl
    have hFc_6 := va_free (wc := [(mo, .inr (8, [.ref m_la, .ref m_sz, .ref m_it, .int 0, .int 0, .ref m_st, .ref m_mv, .ref m_tp, .int 0, .int 0, .int 0, .int 0, .int 0, .int 0, .int 0, .ref m_rd, .ref m_ac, .int 0, .ref m_as, .ref m_wo, .ref m_ik, .ref m_ke, .ref m_tr, .int 0]))]) hD hS hA [0] rfl
    refine va_calli (va_runV (As := [.int 1]) (rest := []) ⟨hx, hb, hml, hown, hts⟩ (c_X8_find l dC dI cI cZ cL cJ s.heap.size mo m_la m_sz m_it m_st m_mv m_tp m_rd m_ac m_as m_wo m_ik m_ke m_tr 1 (-1000011) (by decide)) (cwV 1 hts gX8_drop_X8_find rfl rfl rfl (by decide +kernel) ⟨Nat.le_of_ble_eq_true rfl, Nat.le_of_ble_eq_true rfl⟩) ⟨fun a U g mk q => by obtain ⟨q0, q1, qP, qK, qD⟩ := q; exact ⟨q0, q1, qP, va_K.moved (u := U) (U := U.calling g mk a) (Vm.Alike.refl U.vm) qK, qD⟩, va_recv hK hP (ci := 8) (q0 := 0) rfl rfl, fun U hU hW => ⟨rfl, by rw [hU], by rw [hU]; exact hPc_6, va_K.moved hW.alike hK, hDc_6.weaken (fun _ _ _ _ => trivial)⟩⟩ rfl rfl hl.1 rfl (lv_room (Nat.le_of_ble_eq_true rfl)) dX8_drop_21 ⟨Nat.le_of_ble_eq_true rfl, Nat.le_of_ble_eq_true rfl⟩) hS (fun q _ h => hFc_6 q h) hFc_6 (fun r_6 u_6 t_6 H1 locs ht hvm h_6 hB hz1 hk1 hS => ?_)
    have hP1 : va_P (dC, dI) vwCl [] H1 := fun k q h => by simp at h
    have hD1 : va_D (va_A [(mo, .inr (8, [.ref m_la, .ref m_sz, .ref m_it, .int 0, .int 0, .ref m_st, .ref m_mv, .ref m_tp, .int 0, .int 0, .int 0, .int 0, .int 0, .int 0, .int 0, .ref m_rd, .ref m_ac, .int 0, .ref m_as, .ref m_wo, .ref m_ik, .ref m_ke, .ref m_tr, .int 0]))] s.heap.size) [] := ⟨fun i j p q h => by simp at h, fun k q h => by simp at h⟩
    obtain ⟨hP, hD⟩ := va_join (wr := [(m_sz, .inl (cI, 8, .inl fl))]) (w1 := []) hP hD [0] [1] rfl rfl (by decide) (by decide) hk1 hFc_6 hP1 hD1
    generalize H1 = H at hP hS ⊢
    have hP : va_P (dC, dI) vwCl [(m_sz, .inl (cI, 8, .inl fl))] H := hP
    have hD : va_D A [(m_sz, .inl (cI, 8, .inl fl))] := hD
    subst h_6
    exact W.iret (v := (-1000011)) hx hb hr (fun t ht hW => ⟨⟨(-1000011), (), rfl, (by unfold an_set; grind), trivial⟩, hS.F ht⟩) hS.2.2 dX8_drop_24
set_option maxHeartbeats 4000000 in
set_option maxRecDepth 100000 in
theorem c_X8_copy (l : Launch) (dC : Nat → ClassId) (dI : Nat → Nat → Nat) (cI cZ cL cJ : ClassId) (sz : Nat) (mo : Nat) (m_la : Nat) (m_sz : Nat) (m_it : Nat) (m_st : Nat) (m_mv : Nat) (m_tp : Nat) (m_rd : Nat) (m_ac : Nat) (m_as : Nat) (m_wo : Nat) (m_ik : Nat) (m_ke : Nat) (m_tr : Nat) (fl : Nat → Int32) (k0 : Int32) (k1 : Int32) (k2 : Int32) (k3 : Int32) (k4 : Int32) (hfl : ∀ j : Nat, j < 8 → fl j = -1) : Met l yX8_copy wsX8_copy ({ frames := 2, cells := 0, slots := 0, locals := 45 }) (va_Pc [.ref mo, .int k0, .int k1, .int k2, .int k3, .int k4] (fun U => U.heap.size = sz ∧ va_P (dC, dI) vwCl [(mo, .inr (8, [.ref m_la, .ref m_sz, .ref m_it, .int 0, .int 0, .ref m_st, .ref m_mv, .ref m_tp, .int 0, .int 0, .int 0, .int 0, .int 0, .int 0, .int 0, .ref m_rd, .ref m_ac, .int 0, .ref m_as, .ref m_wo, .ref m_ik, .ref m_ke, .ref m_tr, .int 0])), (m_sz, .inl (cI, 8, .inl fl))] U.heap ∧ va_K (dC, dI) vwCl [(cI, .int), (cZ, .boolean), (cL, .object RX3), (cJ, .array .int)] U ∧ va_D (fun _ => True) [(mo, .inr (8, [.ref m_la, .ref m_sz, .ref m_it, .int 0, .int 0, .ref m_st, .ref m_mv, .ref m_tp, .int 0, .int 0, .int 0, .int 0, .int 0, .int 0, .int 0, .ref m_rd, .ref m_ac, .int 0, .ref m_as, .ref m_wo, .ref m_ik, .ref m_ke, .ref m_tr, .int 0])), (m_sz, .inl (cI, 8, .inl fl))])) (va_Qi (fun r (_ : Unit) => r = (an_copy k0 k2)) (fun (_ : Unit) t => True) (va_A [(mo, .inr (8, [.ref m_la, .ref m_sz, .ref m_it, .int 0, .int 0, .ref m_st, .ref m_mv, .ref m_tp, .int 0, .int 0, .int 0, .int 0, .int 0, .int 0, .int 0, .ref m_rd, .ref m_ac, .int 0, .ref m_as, .ref m_wo, .ref m_ik, .ref m_ke, .ref m_tr, .int 0])), (m_sz, .inl (cI, 8, .inl fl))] sz)) 0 0 (va_A [(mo, .inr (8, [.ref m_la, .ref m_sz, .ref m_it, .int 0, .int 0, .ref m_st, .ref m_mv, .ref m_tp, .int 0, .int 0, .int 0, .int 0, .int 0, .int 0, .int 0, .ref m_rd, .ref m_ac, .int 0, .ref m_as, .ref m_wo, .ref m_ik, .ref m_ke, .ref m_tr, .int 0])), (m_sz, .inl (cI, 8, .inl fl))] sz) := by
  refine Met.ofW (cc := cX8_copy) (maxL := 7) (ret := (some .int)) (by decide) rfl ?_
  intro p e s m args below meth c s₁ B hml hv
  obtain ⟨rfl, hsz, hP, hK, hD0⟩ := hv
  have hx := B.exec
  have hb := B.bytes
  have hr := B.returns
  have hts := atoms_spec (ws := wsX8_copy) B.pre
  have hown : s.vm.findClass RX8 = some m.cls := findClass_of_methodNamed B.named
  have hlocks := B.notSynchronized
  subst hsz
  have hD := hD0.self (sz := s.heap.size)
  generalize hAe : va_A [(mo, .inr (8, [.ref m_la, .ref m_sz, .ref m_it, .int 0, .int 0, .ref m_st, .ref m_mv, .ref m_tp, .int 0, .int 0, .int 0, .int 0, .int 0, .int 0, .int 0, .ref m_rd, .ref m_ac, .int 0, .ref m_as, .ref m_wo, .ref m_ik, .ref m_ke, .ref m_tr, .int 0])), (m_sz, .inl (cI, 8, .inl fl))] s.heap.size = A at hD ⊢
  have hA : ∀ q : Nat, s.heap.size ≤ q → A q := fun q h => by rw [← hAe]; exact Or.inr h
  have hS : va_S A s.heap s.heap [] := va_S.rf
  have hP : va_P (dC, dI) vwCl [(mo, .inr (8, [.ref m_la, .ref m_sz, .ref m_it, .int 0, .int 0, .ref m_st, .ref m_mv, .ref m_tp, .int 0, .int 0, .int 0, .int 0, .int 0, .int 0, .int 0, .ref m_rd, .ref m_ac, .int 0, .ref m_as, .ref m_wo, .ref m_ik, .ref m_ke, .ref m_tr, .int 0])), (m_sz, .inl (cI, 8, .inl fl))] s.heap := hP
  have hl := lv_entry ([.ref mo, .int k0, .int k1, .int k2, .int k3, .int k4]) (n := 7) (Nat.le_of_ble_eq_true rfl)
  rw [lg_entry_eq]
  generalize (lg_sl ([.ref mo, .int k0, .int k1, .int k2, .int k3, .int k4]) ++ List.replicate (7 - (lg_sl ([.ref mo, .int k0, .int k1, .int k2, .int k3, .int k4])).length) Slot.unset).toArray = ls at hl ⊢
  have hl : lv_has ls 7 [(0, .ref mo), (1, .int k0), (2, .int k1), (3, .int k2), (4, .int k3), (5, .int k4)] := hl
  refine lv_iload_n hx hb dX8_copy_0 rfl (lv_at hl 1 rfl) ?_
  have hPc_1 := hP.sub (ws' := []) [] rfl
  refine vp_callSi (W.runS (As := [.int k0]) (rest := []) ⟨hx, hb, hml, hown, hts⟩ (c_X8_isRow l dC dI cI cZ cL cJ k0 ) (va_cwS 1 hts gX8_copy_X8_isRow rfl rfl rfl (by decide +kernel) ⟨Nat.le_of_ble_eq_true rfl, Nat.le_of_ble_eq_true rfl⟩) ⟨fun a U g mk q => by obtain ⟨q0, qP, qK⟩ := q; exact ⟨q0, qP, va_K.moved (u := U) (U := U.calling g mk a) (Vm.Alike.refl U.vm) qK⟩, fun U hU hW => ⟨rfl, by rw [hU]; exact hPc_1, va_K.moved hW.alike hK⟩⟩ rfl rfl hl.1 rfl (lv_room (Nat.le_of_ble_eq_true rfl)) dX8_copy_1 ⟨Nat.le_of_ble_eq_true rfl, Nat.le_of_ble_eq_true rfl⟩) (fun r_1 h_1 => ?_)
  rcases h_1 with ⟨h_1, f_1_0_0⟩ | ⟨h_1, f_1_1_0⟩
  · subst h_1
    refine lv_if_eq (tgt := 14) hx hb dX8_copy_4 (by decide) (fun _ => ?_) (fun c_ => absurd (by decide) c_)
    refine lv_ldc (own := RX8) (v := (-1000001)) hx hb hown (hts (.constant RX8 67 (-1000001)) (by decide +kernel)) dX8_copy_14 ?_
    exact W.iret (v := (-1000001)) hx hb hr (fun t ht hW => ⟨⟨(-1000001), (), rfl, (by unfold an_copy; grind), trivial⟩, hS.F ht⟩) hS.2.2 dX8_copy_16
  · subst h_1
    refine lv_if_eq (tgt := 14) hx hb dX8_copy_4 (by decide) (fun c_ => absurd c_ (by decide)) (fun _ => ?_)
    refine lv_iload_n hx hb dX8_copy_7 rfl (lv_at hl 3 rfl) ?_
    have hPc_4 := hP.sub (ws' := []) [] rfl
    refine vp_callSi (W.runS (As := [.int k2]) (rest := []) ⟨hx, hb, hml, hown, hts⟩ (c_X8_isRow l dC dI cI cZ cL cJ k2 ) (va_cwS 1 hts gX8_copy_X8_isRow rfl rfl rfl (by decide +kernel) ⟨Nat.le_of_ble_eq_true rfl, Nat.le_of_ble_eq_true rfl⟩) ⟨fun a U g mk q => by obtain ⟨q0, qP, qK⟩ := q; exact ⟨q0, qP, va_K.moved (u := U) (U := U.calling g mk a) (Vm.Alike.refl U.vm) qK⟩, fun U hU hW => ⟨rfl, by rw [hU]; exact hPc_4, va_K.moved hW.alike hK⟩⟩ rfl rfl hl.1 rfl (lv_room (Nat.le_of_ble_eq_true rfl)) dX8_copy_8 ⟨Nat.le_of_ble_eq_true rfl, Nat.le_of_ble_eq_true rfl⟩) (fun r_4 h_4 => ?_)
    rcases h_4 with ⟨h_4, f_4_0_0⟩ | ⟨h_4, f_4_1_0⟩
    · subst h_4
      refine lv_if_ne (tgt := 17) hx hb dX8_copy_11 (by decide) (fun c_ => absurd (by decide) c_) (fun _ => ?_)
      refine lv_ldc (own := RX8) (v := (-1000001)) hx hb hown (hts (.constant RX8 67 (-1000001)) (by decide +kernel)) dX8_copy_14 ?_
      exact W.iret (v := (-1000001)) hx hb hr (fun t ht hW => ⟨⟨(-1000001), (), rfl, (by unfold an_copy; grind), trivial⟩, hS.F ht⟩) hS.2.2 dX8_copy_16
    · subst h_4
      refine lv_if_ne (tgt := 17) hx hb dX8_copy_11 (by decide) (fun _ => ?_) (fun c_ => absurd c_ (by decide))
      refine lv_aload_n hx hb dX8_copy_17 rfl (lv_at hl 0 rfl) ?_
      refine va_get (D := (dC, dI)) (ci := 8) (v := .ref m_sz) (C := RX8) (T := TX8) (N := 24) hx hb hts i_X8_copy_X8 hown hK hP 0 rfl rfl 1 (by decide) (hts (.fieldLink RX8 13 "MillTalkModel" "sizes" "[I") (by decide +kernel)) (fun _ h9 => h9) rfl dX8_copy_18 ?_
      refine lv_iload_n hx hb dX8_copy_21 rfl (lv_at hl 1 rfl) ?_
      refine va_iald hx hb hK hP 1 0 rfl rfl (in_8 f_1_1_0) dX8_copy_22 ?_
      refine lv_topi (fun v_7 e_7 => ?_)
      obtain rfl : v_7 = (-1) := (e_7).trans (hfl _ (in_lt (in_8 f_1_1_0)))
      refine lv_if_lt (tgt := 35) hx hb dX8_copy_23 (by decide) (fun _ => ?_) (fun c_ => absurd (by decide) c_)
      refine lv_aload_n hx hb dX8_copy_35 rfl (lv_at hl 0 rfl) ?_
      refine lv_iconst (v := 1) hx hb dX8_copy_36 (by decide) ?_
      have hPc_9 := hP.sub (ws' := [(mo, .inr (8, [.ref m_la, .ref m_sz, .ref m_it, .int 0, .int 0, .ref m_st, .ref m_mv, .ref m_tp, .int 0, .int 0, .int 0, .int 0, .int 0, .int 0, .int 0, .ref m_rd, .ref m_ac, .int 0, .ref m_as, .ref m_wo, .ref m_ik, .ref m_ke, .ref m_tr, .int 0]))]) [0] rfl
      have hDc_9 := hD.sub (ws' := [(mo, .inr (8, [.ref m_la, .ref m_sz, .ref m_it, .int 0, .int 0, .ref m_st, .ref m_mv, .ref m_tp, .int 0, .int 0, .int 0, .int 0, .int 0, .int 0, .int 0, .ref m_rd, .ref m_ac, .int 0, .ref m_as, .ref m_wo, .ref m_ik, .ref m_ke, .ref m_tr, .int 0]))]) [0] (by decide) rfl
      have hFc_9 := va_free (wc := [(mo, .inr (8, [.ref m_la, .ref m_sz, .ref m_it, .int 0, .int 0, .ref m_st, .ref m_mv, .ref m_tp, .int 0, .int 0, .int 0, .int 0, .int 0, .int 0, .int 0, .ref m_rd, .ref m_ac, .int 0, .ref m_as, .ref m_wo, .ref m_ik, .ref m_ke, .ref m_tr, .int 0]))]) hD hS hA [0] rfl
      refine va_calli (va_runV (As := [.int 1]) (rest := []) ⟨hx, hb, hml, hown, hts⟩ (c_X8_find l dC dI cI cZ cL cJ s.heap.size mo m_la m_sz m_it m_st m_mv m_tp m_rd m_ac m_as m_wo m_ik m_ke m_tr 1 (-1000011) (by decide)) (cwV 1 hts gX8_copy_X8_find rfl rfl rfl (by decide +kernel) ⟨Nat.le_of_ble_eq_true rfl, Nat.le_of_ble_eq_true rfl⟩) ⟨fun a U g mk q => by obtain ⟨q0, q1, qP, qK, qD⟩ := q; exact ⟨q0, q1, qP, va_K.moved (u := U) (U := U.calling g mk a) (Vm.Alike.refl U.vm) qK, qD⟩, va_recv hK hP (ci := 8) (q0 := 0) rfl rfl, fun U hU hW => ⟨rfl, by rw [hU], by rw [hU]; exact hPc_9, va_K.moved hW.alike hK, hDc_9.weaken (fun _ _ _ _ => trivial)⟩⟩ rfl rfl hl.1 rfl (lv_room (Nat.le_of_ble_eq_true rfl)) dX8_copy_37 ⟨Nat.le_of_ble_eq_true rfl, Nat.le_of_ble_eq_true rfl⟩) hS (fun q _ h => hFc_9 q h) hFc_9 (fun r_9 u_9 t_9 H1 locs ht hvm h_9 hB hz1 hk1 hS => ?_)
      have hP1 : va_P (dC, dI) vwCl [] H1 := fun k q h => by simp at h
      have hD1 : va_D (va_A [(mo, .inr (8, [.ref m_la, .ref m_sz, .ref m_it, .int 0, .int 0, .ref m_st, .ref m_mv, .ref m_tp, .int 0, .int 0, .int 0, .int 0, .int 0, .int 0, .int 0, .ref m_rd, .ref m_ac, .int 0, .ref m_as, .ref m_wo, .ref m_ik, .ref m_ke, .ref m_tr, .int 0]))] s.heap.size) [] := ⟨fun i j p q h => by simp at h, fun k q h => by simp at h⟩
      obtain ⟨hP, hD⟩ := va_join (wr := [(m_sz, .inl (cI, 8, .inl fl))]) (w1 := []) hP hD [0] [1] rfl rfl (by decide) (by decide) hk1 hFc_9 hP1 hD1
      generalize H1 = H at hP hS ⊢
      have hP : va_P (dC, dI) vwCl [(m_sz, .inl (cI, 8, .inl fl))] H := hP
      have hD : va_D A [(m_sz, .inl (cI, 8, .inl fl))] := hD
      subst h_9
      exact W.iret (v := (-1000011)) hx hb hr (fun t ht hW => ⟨⟨(-1000011), (), rfl, (by unfold an_copy; grind), trivial⟩, hS.F ht⟩) hS.2.2 dX8_copy_40
set_option maxHeartbeats 4000000 in
set_option maxRecDepth 100000 in
theorem c_X8_row (l : Launch) (dC : Nat → ClassId) (dI : Nat → Nat → Nat) (cI cZ cL cJ : ClassId) (sz : Nat) (mo : Nat) (m_la : Nat) (m_sz : Nat) (m_it : Nat) (m_st : Nat) (m_mv : Nat) (m_tp : Nat) (m_rd : Nat) (m_ac : Nat) (m_as : Nat) (m_wo : Nat) (m_ik : Nat) (m_ke : Nat) (m_tr : Nat) (fl : Nat → Int32) (fa : Nat → Int32) (ft : Nat → Int32) (k0 : Int32) (k1 : Int32) (k2 : Int32)  : Met l yX8_row wsX8_row ({ frames := 2, cells := 0, slots := 0, locals := 45 }) (va_Pc [.ref mo, .int k0, .int k1, .int k2] (fun U => U.heap.size = sz ∧ va_P (dC, dI) vwCl [(mo, .inr (8, [.ref m_la, .ref m_sz, .ref m_it, .int 0, .int 0, .ref m_st, .ref m_mv, .ref m_tp, .int 0, .int 0, .int 0, .int 0, .int 0, .int 0, .int 0, .ref m_rd, .ref m_ac, .int 0, .ref m_as, .ref m_wo, .ref m_ik, .ref m_ke, .ref m_tr, .int 0])), (m_sz, .inl (cI, 8, .inl fl)), (m_la, .inl (cI, 8, .inl fa)), (m_it, .inl (cI, 320, .inl ft))] U.heap ∧ va_K (dC, dI) vwCl [(cI, .int), (cZ, .boolean), (cL, .object RX3), (cJ, .array .int)] U ∧ va_D (fun _ => True) [(mo, .inr (8, [.ref m_la, .ref m_sz, .ref m_it, .int 0, .int 0, .ref m_st, .ref m_mv, .ref m_tp, .int 0, .int 0, .int 0, .int 0, .int 0, .int 0, .int 0, .ref m_rd, .ref m_ac, .int 0, .ref m_as, .ref m_wo, .ref m_ik, .ref m_ke, .ref m_tr, .int 0])), (m_sz, .inl (cI, 8, .inl fl)), (m_la, .inl (cI, 8, .inl fa)), (m_it, .inl (cI, 320, .inl ft))])) (va_Qi (fun r (_ : Unit) => r = (an_row k0 k1 k2)) (fun (_ : Unit) t => True) (va_A [(mo, .inr (8, [.ref m_la, .ref m_sz, .ref m_it, .int 0, .int 0, .ref m_st, .ref m_mv, .ref m_tp, .int 0, .int 0, .int 0, .int 0, .int 0, .int 0, .int 0, .ref m_rd, .ref m_ac, .int 0, .ref m_as, .ref m_wo, .ref m_ik, .ref m_ke, .ref m_tr, .int 0])), (m_sz, .inl (cI, 8, .inl fl)), (m_la, .inl (cI, 8, .inl fa)), (m_it, .inl (cI, 320, .inl ft))] sz)) 0 0 (va_A [(mo, .inr (8, [.ref m_la, .ref m_sz, .ref m_it, .int 0, .int 0, .ref m_st, .ref m_mv, .ref m_tp, .int 0, .int 0, .int 0, .int 0, .int 0, .int 0, .int 0, .ref m_rd, .ref m_ac, .int 0, .ref m_as, .ref m_wo, .ref m_ik, .ref m_ke, .ref m_tr, .int 0])), (m_sz, .inl (cI, 8, .inl fl)), (m_la, .inl (cI, 8, .inl fa)), (m_it, .inl (cI, 320, .inl ft))] sz) := by
  refine Met.ofW (cc := cX8_row) (maxL := 5) (ret := (some .int)) (by decide) rfl ?_
  intro p e s m args below meth c s₁ B hml hv
  obtain ⟨rfl, hsz, hP, hK, hD0⟩ := hv
  have hx := B.exec
  have hb := B.bytes
  have hr := B.returns
  have hts := atoms_spec (ws := wsX8_row) B.pre
  have hown : s.vm.findClass RX8 = some m.cls := findClass_of_methodNamed B.named
  have hlocks := B.notSynchronized
  subst hsz
  have hD := hD0.self (sz := s.heap.size)
  generalize hAe : va_A [(mo, .inr (8, [.ref m_la, .ref m_sz, .ref m_it, .int 0, .int 0, .ref m_st, .ref m_mv, .ref m_tp, .int 0, .int 0, .int 0, .int 0, .int 0, .int 0, .int 0, .ref m_rd, .ref m_ac, .int 0, .ref m_as, .ref m_wo, .ref m_ik, .ref m_ke, .ref m_tr, .int 0])), (m_sz, .inl (cI, 8, .inl fl)), (m_la, .inl (cI, 8, .inl fa)), (m_it, .inl (cI, 320, .inl ft))] s.heap.size = A at hD ⊢
  have hA : ∀ q : Nat, s.heap.size ≤ q → A q := fun q h => by rw [← hAe]; exact Or.inr h
  have hS : va_S A s.heap s.heap [] := va_S.rf
  have hP : va_P (dC, dI) vwCl [(mo, .inr (8, [.ref m_la, .ref m_sz, .ref m_it, .int 0, .int 0, .ref m_st, .ref m_mv, .ref m_tp, .int 0, .int 0, .int 0, .int 0, .int 0, .int 0, .int 0, .ref m_rd, .ref m_ac, .int 0, .ref m_as, .ref m_wo, .ref m_ik, .ref m_ke, .ref m_tr, .int 0])), (m_sz, .inl (cI, 8, .inl fl)), (m_la, .inl (cI, 8, .inl fa)), (m_it, .inl (cI, 320, .inl ft))] s.heap := hP
  have hl := lv_entry ([.ref mo, .int k0, .int k1, .int k2]) (n := 5) (Nat.le_of_ble_eq_true rfl)
  rw [lg_entry_eq]
  generalize (lg_sl ([.ref mo, .int k0, .int k1, .int k2]) ++ List.replicate (5 - (lg_sl ([.ref mo, .int k0, .int k1, .int k2])).length) Slot.unset).toArray = ls at hl ⊢
  have hl : lv_has ls 5 [(0, .ref mo), (1, .int k0), (2, .int k1), (3, .int k2)] := hl
  refine lv_iload_n hx hb dX8_row_0 rfl (lv_at hl 1 rfl) ?_
  have hPc_1 := hP.sub (ws' := []) [] rfl
  refine vp_callSi (W.runS (As := [.int k0]) (rest := []) ⟨hx, hb, hml, hown, hts⟩ (c_X8_isRow l dC dI cI cZ cL cJ k0 ) (va_cwS 1 hts gX8_row_X8_isRow rfl rfl rfl (by decide +kernel) ⟨Nat.le_of_ble_eq_true rfl, Nat.le_of_ble_eq_true rfl⟩) ⟨fun a U g mk q => by obtain ⟨q0, qP, qK⟩ := q; exact ⟨q0, qP, va_K.moved (u := U) (U := U.calling g mk a) (Vm.Alike.refl U.vm) qK⟩, fun U hU hW => ⟨rfl, by rw [hU]; exact hPc_1, va_K.moved hW.alike hK⟩⟩ rfl rfl hl.1 rfl (lv_room (Nat.le_of_ble_eq_true rfl)) dX8_row_1 ⟨Nat.le_of_ble_eq_true rfl, Nat.le_of_ble_eq_true rfl⟩) (fun r_1 h_1 => ?_)
  rcases h_1 with ⟨h_1, f_1_0_0⟩ | ⟨h_1, f_1_1_0⟩
  · subst h_1
    refine lv_if_eq (tgt := 25) hx hb dX8_row_4 (by decide) (fun _ => ?_) (fun c_ => absurd (by decide) c_)
    refine lv_ldc (own := RX8) (v := (-1000001)) hx hb hown (hts (.constant RX8 67 (-1000001)) (by decide +kernel)) dX8_row_25 ?_
    exact W.iret (v := (-1000001)) hx hb hr (fun t ht hW => ⟨⟨(-1000001), (), rfl, (by have q1 := @lane64 k1; unfold an_row; grind), trivial⟩, hS.F ht⟩) hS.2.2 dX8_row_27
  · subst h_1
    refine lv_if_eq (tgt := 25) hx hb dX8_row_4 (by decide) (fun c_ => absurd c_ (by decide)) (fun _ => ?_)
    refine lv_iload_n hx hb dX8_row_7 rfl (lv_at hl 2 rfl) ?_
    refine lv_i2l hx hb dX8_row_8 rfl ?_
    refine lv_lconst (v := 0) hx hb dX8_row_9 (by decide) ?_
    refine lv_ldc2 (own := RX8) (v := 2) hx hb hown (hts (.constantLong RX8 65 (2)) (by decide +kernel)) dX8_row_10 ?_
    have hPc_4 := hP.sub (ws' := []) [] rfl
    refine vp_callSi (W.runS (As := [.long (k1).toInt64, .long 0, .long 2]) (rest := []) ⟨hx, hb, hml, hown, hts⟩ (c_X8_in l dC dI cI cZ cL cJ ((k1).toInt64) 0 2 ) (va_cwS 3 hts gX8_row_X8_in rfl rfl rfl (by decide +kernel) ⟨Nat.le_of_ble_eq_true rfl, Nat.le_of_ble_eq_true rfl⟩) ⟨fun a U g mk q => by obtain ⟨q0, qP, qK⟩ := q; exact ⟨q0, qP, va_K.moved (u := U) (U := U.calling g mk a) (Vm.Alike.refl U.vm) qK⟩, fun U hU hW => ⟨rfl, by rw [hU]; exact hPc_4, va_K.moved hW.alike hK⟩⟩ rfl rfl hl.1 rfl (lv_room (Nat.le_of_ble_eq_true rfl)) dX8_row_13 ⟨Nat.le_of_ble_eq_true rfl, Nat.le_of_ble_eq_true rfl⟩) (fun r_4 h_4 => ?_)
    rcases h_4 with ⟨h_4, f_4_0_0⟩ | ⟨h_4, f_4_1_0⟩
    · subst h_4
      refine lv_if_eq (tgt := 25) hx hb dX8_row_16 (by decide) (fun _ => ?_) (fun c_ => absurd (by decide) c_)
      refine lv_ldc (own := RX8) (v := (-1000001)) hx hb hown (hts (.constant RX8 67 (-1000001)) (by decide +kernel)) dX8_row_25 ?_
      exact W.iret (v := (-1000001)) hx hb hr (fun t ht hW => ⟨⟨(-1000001), (), rfl, (by have q1 := @lane64 k1; unfold an_row; grind), trivial⟩, hS.F ht⟩) hS.2.2 dX8_row_27
    · subst h_4
      refine lv_if_eq (tgt := 25) hx hb dX8_row_16 (by decide) (fun c_ => absurd c_ (by decide)) (fun _ => ?_)
      refine lv_iload_n hx hb dX8_row_19 rfl (lv_at hl 3 rfl) ?_
      refine lv_bipush (v := 40) hx hb dX8_row_20 (by decide) ?_
      refine lv_icmp_le (tgt := 28) hx hb dX8_row_22 (by decide) (fun c_7 => ?_) (fun c_7 => ?_)
      · skip
        refine lv_iload_n hx hb dX8_row_28 rfl (lv_at hl 3 rfl) ?_
        refine lv_if_ge (tgt := 38) hx hb dX8_row_29 (by decide) (fun c_8 => ?_) (fun c_8 => ?_)
        · skip
          refine lv_aload_n hx hb dX8_row_38 rfl (lv_at hl 0 rfl) ?_
          refine va_get (D := (dC, dI)) (ci := 8) (v := .ref m_la) (C := RX8) (T := TX8) (N := 24) hx hb hts i_X8_row_X8 hown hK hP 0 rfl rfl 0 (by decide) (hts (.fieldLink RX8 7 "MillTalkModel" "lanes" "[I") (by decide +kernel)) (fun _ h9 => h9) rfl dX8_row_39 ?_
          refine lv_iload_n hx hb dX8_row_42 rfl (lv_at hl 1 rfl) ?_
          refine lv_iload_n hx hb dX8_row_43 rfl (lv_at hl 2 rfl) ?_
          refine va_iast hx hb hK hP hD hS 2 0 rfl rfl (in_8 f_1_1_0) dX8_row_44 (fun H locs hP hD hS => ?_)
          generalize hg_9 : upd fa (k0 : Int32).toNatClampNeg k1 = g_9 at hP hD
          have hP : va_P (dC, dI) vwCl [(mo, .inr (8, [.ref m_la, .ref m_sz, .ref m_it, .int 0, .int 0, .ref m_st, .ref m_mv, .ref m_tp, .int 0, .int 0, .int 0, .int 0, .int 0, .int 0, .int 0, .ref m_rd, .ref m_ac, .int 0, .ref m_as, .ref m_wo, .ref m_ik, .ref m_ke, .ref m_tr, .int 0])), (m_sz, .inl (cI, 8, .inl fl)), (m_la, .inl (cI, 8, .inl g_9)), (m_it, .inl (cI, 320, .inl ft))] H := hP
          have hD : va_D A [(mo, .inr (8, [.ref m_la, .ref m_sz, .ref m_it, .int 0, .int 0, .ref m_st, .ref m_mv, .ref m_tp, .int 0, .int 0, .int 0, .int 0, .int 0, .int 0, .int 0, .ref m_rd, .ref m_ac, .int 0, .ref m_as, .ref m_wo, .ref m_ik, .ref m_ke, .ref m_tr, .int 0])), (m_sz, .inl (cI, 8, .inl fl)), (m_la, .inl (cI, 8, .inl g_9)), (m_it, .inl (cI, 320, .inl ft))] := hD
          refine lv_aload_n hx hb dX8_row_45 rfl (lv_at hl 0 rfl) ?_
          refine va_get (D := (dC, dI)) (ci := 8) (v := .ref m_sz) (C := RX8) (T := TX8) (N := 24) hx hb hts i_X8_row_X8 hown hK hP 0 rfl rfl 1 (by decide) (hts (.fieldLink RX8 13 "MillTalkModel" "sizes" "[I") (by decide +kernel)) (fun _ h9 => h9) rfl dX8_row_46 ?_
          refine lv_iload_n hx hb dX8_row_49 rfl (lv_at hl 1 rfl) ?_
          refine lv_iload_n hx hb dX8_row_50 rfl (lv_at hl 3 rfl) ?_
          refine va_iast hx hb hK hP hD hS 1 0 rfl rfl (in_8 f_1_1_0) dX8_row_51 (fun H locs hP hD hS => ?_)
          generalize hg_10 : upd fl (k0 : Int32).toNatClampNeg k2 = g_10 at hP hD
          have hP : va_P (dC, dI) vwCl [(mo, .inr (8, [.ref m_la, .ref m_sz, .ref m_it, .int 0, .int 0, .ref m_st, .ref m_mv, .ref m_tp, .int 0, .int 0, .int 0, .int 0, .int 0, .int 0, .int 0, .ref m_rd, .ref m_ac, .int 0, .ref m_as, .ref m_wo, .ref m_ik, .ref m_ke, .ref m_tr, .int 0])), (m_sz, .inl (cI, 8, .inl g_10)), (m_la, .inl (cI, 8, .inl g_9)), (m_it, .inl (cI, 320, .inl ft))] H := hP
          have hD : va_D A [(mo, .inr (8, [.ref m_la, .ref m_sz, .ref m_it, .int 0, .int 0, .ref m_st, .ref m_mv, .ref m_tp, .int 0, .int 0, .int 0, .int 0, .int 0, .int 0, .int 0, .ref m_rd, .ref m_ac, .int 0, .ref m_as, .ref m_wo, .ref m_ik, .ref m_ke, .ref m_tr, .int 0])), (m_sz, .inl (cI, 8, .inl g_10)), (m_la, .inl (cI, 8, .inl g_9)), (m_it, .inl (cI, 320, .inl ft))] := hD
          refine lv_iconst (v := 0) hx hb dX8_row_52 (by decide) ?_
          refine lv_istore (lv' := [(4, .int 0), (0, .ref mo), (1, .int k0), (2, .int k1), (3, .int k2)]) hx hb dX8_row_53 hl (by decide) rfl (fun ls hl => ?_)
          have hP := hP.sub (ws' := [(mo, .inr (8, [.ref m_la, .ref m_sz, .ref m_it, .int 0, .int 0, .ref m_st, .ref m_mv, .ref m_tp, .int 0, .int 0, .int 0, .int 0, .int 0, .int 0, .int 0, .ref m_rd, .ref m_ac, .int 0, .ref m_as, .ref m_wo, .ref m_ik, .ref m_ke, .ref m_tr, .int 0])), (m_it, .inl (cI, 320, .inl ft))]) [0, 3] rfl
          have hD := hD.sub (ws' := [(mo, .inr (8, [.ref m_la, .ref m_sz, .ref m_it, .int 0, .int 0, .ref m_st, .ref m_mv, .ref m_tp, .int 0, .int 0, .int 0, .int 0, .int 0, .int 0, .int 0, .ref m_rd, .ref m_ac, .int 0, .ref m_as, .ref m_wo, .ref m_ik, .ref m_ke, .ref m_tr, .int 0])), (m_it, .inl (cI, 320, .inl ft))]) [0, 3] (by decide) rfl
          refine lp_go (σ := Nat → Int32) (fun i ff H locs ls => va_P (dC, dI) vwCl [(mo, .inr (8, [.ref m_la, .ref m_sz, .ref m_it, .int 0, .int 0, .ref m_st, .ref m_mv, .ref m_tp, .int 0, .int 0, .int 0, .int 0, .int 0, .int 0, .int 0, .ref m_rd, .ref m_ac, .int 0, .ref m_as, .ref m_wo, .ref m_ik, .ref m_ke, .ref m_tr, .int 0])), (m_it, .inl (cI, 320, .inl ff))] H ∧ va_D A [(mo, .inr (8, [.ref m_la, .ref m_sz, .ref m_it, .int 0, .int 0, .ref m_st, .ref m_mv, .ref m_tp, .int 0, .int 0, .int 0, .int 0, .int 0, .int 0, .int 0, .ref m_rd, .ref m_ac, .int 0, .ref m_as, .ref m_wo, .ref m_ik, .ref m_ke, .ref m_tr, .int 0])), (m_it, .inl (cI, 320, .inl ff))] ∧ va_S A s.heap H locs ∧ lv_has ls 5 [(4, .int (nI i)), (0, .ref mo), (1, .int k0), (2, .int k1), (3, .int k2)]) 40 ?_ ?_ 0 (Nat.zero_le _) ft ⟨hP, hD, hS, hl⟩
          · rintro i ff H locs ls hi ⟨hP, hD, hS, hl⟩ ih
            refine lv_iload hx hb dX8_row_55 (lv_at hl 0 rfl) ?_
            refine lv_bipush (v := 40) hx hb dX8_row_57 (by decide) ?_
            refine lv_icmp_ge (tgt := 81) hx hb dX8_row_59 (by decide) (fun c_ => absurd c_ (nI_ge hi (by decide))) (fun _ => ?_)
            refine lv_aload_n hx hb dX8_row_62 rfl (lv_at hl 1 rfl) ?_
            refine va_get (D := (dC, dI)) (ci := 8) (v := .ref m_it) (C := RX8) (T := TX8) (N := 24) hx hb hts i_X8_row_X8 hown hK hP 0 rfl rfl 2 (by decide) (hts (.fieldLink RX8 16 "MillTalkModel" "items" "[I") (by decide +kernel)) (fun _ h9 => h9) rfl dX8_row_63 ?_
            refine lv_bipush (v := 40) hx hb dX8_row_66 (by decide) ?_
            refine lv_iload_n hx hb dX8_row_68 rfl (lv_at hl 2 rfl) ?_
            refine lv_imul hx hb dX8_row_69 ?_
            refine lv_topi (fun v_12 e_12 => ?_)
            refine lv_iload hx hb dX8_row_70 (lv_at hl 0 rfl) ?_
            refine lv_iadd hx hb dX8_row_72 ?_
            refine lv_topi (fun v_13 e_13 => ?_)
            refine lv_iconst (v := 0) hx hb dX8_row_73 (by decide) ?_
            refine va_iast hx hb hK hP hD hS 1 0 rfl rfl (in_320 f_1_1_0 e_12 e_13 hi) dX8_row_74 (fun H locs hP hD hS => ?_)
            generalize hg_14 : upd ff (v_13 : Int32).toNatClampNeg 0 = g_14 at hP hD
            have hP : va_P (dC, dI) vwCl [(mo, .inr (8, [.ref m_la, .ref m_sz, .ref m_it, .int 0, .int 0, .ref m_st, .ref m_mv, .ref m_tp, .int 0, .int 0, .int 0, .int 0, .int 0, .int 0, .int 0, .ref m_rd, .ref m_ac, .int 0, .ref m_as, .ref m_wo, .ref m_ik, .ref m_ke, .ref m_tr, .int 0])), (m_it, .inl (cI, 320, .inl g_14))] H := hP
            have hD : va_D A [(mo, .inr (8, [.ref m_la, .ref m_sz, .ref m_it, .int 0, .int 0, .ref m_st, .ref m_mv, .ref m_tp, .int 0, .int 0, .int 0, .int 0, .int 0, .int 0, .int 0, .ref m_rd, .ref m_ac, .int 0, .ref m_as, .ref m_wo, .ref m_ik, .ref m_ke, .ref m_tr, .int 0])), (m_it, .inl (cI, 320, .inl g_14))] := hD
            refine lv_iinc (v := (nI (i + 1))) (lv' := [(4, .int (nI (i + 1))), (0, .ref mo), (1, .int k0), (2, .int k1), (3, .int k2)]) hx hb dX8_row_75 hl (k := 0) rfl (nI_1 i) (by decide) rfl (fun ls hl => ?_)
            refine lv_goto (tgt := 55) hx hb dX8_row_78 (by decide) ?_
            exact ih g_14 H locs ls ⟨hP.sub (ws' := [(mo, .inr (8, [.ref m_la, .ref m_sz, .ref m_it, .int 0, .int 0, .ref m_st, .ref m_mv, .ref m_tp, .int 0, .int 0, .int 0, .int 0, .int 0, .int 0, .int 0, .ref m_rd, .ref m_ac, .int 0, .ref m_as, .ref m_wo, .ref m_ik, .ref m_ke, .ref m_tr, .int 0])), (m_it, .inl (cI, 320, .inl g_14))]) [0, 1] rfl, hD.sub (ws' := [(mo, .inr (8, [.ref m_la, .ref m_sz, .ref m_it, .int 0, .int 0, .ref m_st, .ref m_mv, .ref m_tp, .int 0, .int 0, .int 0, .int 0, .int 0, .int 0, .int 0, .ref m_rd, .ref m_ac, .int 0, .ref m_as, .ref m_wo, .ref m_ik, .ref m_ke, .ref m_tr, .int 0])), (m_it, .inl (cI, 320, .inl g_14))]) [0, 1] (by decide) rfl, hS, lv_sub hl [0, 1, 2, 3, 4] rfl⟩
          · rintro ff H locs ls ⟨hP, hD, hS, hl⟩
            refine lv_iload hx hb dX8_row_55 (lv_at hl 0 rfl) ?_
            refine lv_bipush (v := 40) hx hb dX8_row_57 (by decide) ?_
            refine lv_icmp_ge (tgt := 81) hx hb dX8_row_59 (by decide) (fun _ => ?_) (fun c_ => absurd (nI_le (Nat.le_refl 40) (by decide)) c_)
            refine lv_aload_n hx hb dX8_row_81 rfl (lv_at hl 1 rfl) ?_
            refine lv_iload_n hx hb dX8_row_82 rfl (lv_at hl 4 rfl) ?_
            have hPc_16 := hP.sub (ws' := [(mo, .inr (8, [.ref m_la, .ref m_sz, .ref m_it, .int 0, .int 0, .ref m_st, .ref m_mv, .ref m_tp, .int 0, .int 0, .int 0, .int 0, .int 0, .int 0, .int 0, .ref m_rd, .ref m_ac, .int 0, .ref m_as, .ref m_wo, .ref m_ik, .ref m_ke, .ref m_tr, .int 0]))]) [0] rfl
            have hDc_16 := hD.sub (ws' := [(mo, .inr (8, [.ref m_la, .ref m_sz, .ref m_it, .int 0, .int 0, .ref m_st, .ref m_mv, .ref m_tp, .int 0, .int 0, .int 0, .int 0, .int 0, .int 0, .int 0, .ref m_rd, .ref m_ac, .int 0, .ref m_as, .ref m_wo, .ref m_ik, .ref m_ke, .ref m_tr, .int 0]))]) [0] (by decide) rfl
            have hFc_16 := va_free (wc := [(mo, .inr (8, [.ref m_la, .ref m_sz, .ref m_it, .int 0, .int 0, .ref m_st, .ref m_mv, .ref m_tp, .int 0, .int 0, .int 0, .int 0, .int 0, .int 0, .int 0, .ref m_rd, .ref m_ac, .int 0, .ref m_as, .ref m_wo, .ref m_ik, .ref m_ke, .ref m_tr, .int 0]))]) hD hS hA [0] rfl
            refine va_calli (va_runV (As := [.int k2]) (rest := []) ⟨hx, hb, hml, hown, hts⟩ (c_X8_well l dC dI cI cZ cL cJ H.size mo m_la m_sz m_it m_st m_mv m_tp m_rd m_ac m_as m_wo m_ik m_ke m_tr k2 ) (cwV 1 hts gX8_row_X8_well rfl rfl rfl (by decide +kernel) ⟨Nat.le_of_ble_eq_true rfl, Nat.le_of_ble_eq_true rfl⟩) ⟨fun a U g mk q => by obtain ⟨q0, q1, qP, qK, qD⟩ := q; exact ⟨q0, q1, qP, va_K.moved (u := U) (U := U.calling g mk a) (Vm.Alike.refl U.vm) qK, qD⟩, va_recv hK hP (ci := 8) (q0 := 0) rfl rfl, fun U hU hW => ⟨rfl, by rw [hU], by rw [hU]; exact hPc_16, va_K.moved hW.alike hK, hDc_16.weaken (fun _ _ _ _ => trivial)⟩⟩ rfl rfl hl.1 rfl (lv_room (Nat.le_of_ble_eq_true rfl)) dX8_row_83 ⟨Nat.le_of_ble_eq_true rfl, Nat.le_of_ble_eq_true rfl⟩) hS (fun q _ h => hFc_16 q h) hFc_16 (fun r_16 u_16 t_16 H1 locs ht hvm h_16 hB hz1 hk1 hS => ?_)
            have hP1 : va_P (dC, dI) vwCl [] H1 := fun k q h => by simp at h
            have hD1 : va_D (va_A [(mo, .inr (8, [.ref m_la, .ref m_sz, .ref m_it, .int 0, .int 0, .ref m_st, .ref m_mv, .ref m_tp, .int 0, .int 0, .int 0, .int 0, .int 0, .int 0, .int 0, .ref m_rd, .ref m_ac, .int 0, .ref m_as, .ref m_wo, .ref m_ik, .ref m_ke, .ref m_tr, .int 0]))] H.size) [] := ⟨fun i j p q h => by simp at h, fun k q h => by simp at h⟩
            obtain ⟨hP, hD⟩ := va_join (wr := [(m_it, .inl (cI, 320, .inl ff))]) (w1 := []) hP hD [0] [1] rfl rfl (by decide) (by decide) hk1 hFc_16 hP1 hD1
            generalize H1 = H at hP hS ⊢
            have hP : va_P (dC, dI) vwCl [(m_it, .inl (cI, 320, .inl ff))] H := hP
            have hD : va_D A [(m_it, .inl (cI, 320, .inl ff))] := hD
            exact W.iret (v := r_16) hx hb hr (fun t ht hW => ⟨⟨r_16, (), rfl, (by have q1 := @lane64 k1; unfold an_row; grind), trivial⟩, hS.F ht⟩) hS.2.2 dX8_row_86
        · skip
          refine lv_aload_n hx hb dX8_row_32 rfl (lv_at hl 0 rfl) ?_
          refine lv_iconst (v := 4) hx hb dX8_row_33 (by decide) ?_
          have hPc_17 := hP.sub (ws' := [(mo, .inr (8, [.ref m_la, .ref m_sz, .ref m_it, .int 0, .int 0, .ref m_st, .ref m_mv, .ref m_tp, .int 0, .int 0, .int 0, .int 0, .int 0, .int 0, .int 0, .ref m_rd, .ref m_ac, .int 0, .ref m_as, .ref m_wo, .ref m_ik, .ref m_ke, .ref m_tr, .int 0]))]) [0] rfl
          have hDc_17 := hD.sub (ws' := [(mo, .inr (8, [.ref m_la, .ref m_sz, .ref m_it, .int 0, .int 0, .ref m_st, .ref m_mv, .ref m_tp, .int 0, .int 0, .int 0, .int 0, .int 0, .int 0, .int 0, .ref m_rd, .ref m_ac, .int 0, .ref m_as, .ref m_wo, .ref m_ik, .ref m_ke, .ref m_tr, .int 0]))]) [0] (by decide) rfl
          have hFc_17 := va_free (wc := [(mo, .inr (8, [.ref m_la, .ref m_sz, .ref m_it, .int 0, .int 0, .ref m_st, .ref m_mv, .ref m_tp, .int 0, .int 0, .int 0, .int 0, .int 0, .int 0, .int 0, .ref m_rd, .ref m_ac, .int 0, .ref m_as, .ref m_wo, .ref m_ik, .ref m_ke, .ref m_tr, .int 0]))]) hD hS hA [0] rfl
          refine va_calli (va_runV (As := [.int 4]) (rest := []) ⟨hx, hb, hml, hown, hts⟩ (c_X8_find l dC dI cI cZ cL cJ s.heap.size mo m_la m_sz m_it m_st m_mv m_tp m_rd m_ac m_as m_wo m_ik m_ke m_tr 4 (-1000014) (by decide)) (cwV 1 hts gX8_row_X8_find rfl rfl rfl (by decide +kernel) ⟨Nat.le_of_ble_eq_true rfl, Nat.le_of_ble_eq_true rfl⟩) ⟨fun a U g mk q => by obtain ⟨q0, q1, qP, qK, qD⟩ := q; exact ⟨q0, q1, qP, va_K.moved (u := U) (U := U.calling g mk a) (Vm.Alike.refl U.vm) qK, qD⟩, va_recv hK hP (ci := 8) (q0 := 0) rfl rfl, fun U hU hW => ⟨rfl, by rw [hU], by rw [hU]; exact hPc_17, va_K.moved hW.alike hK, hDc_17.weaken (fun _ _ _ _ => trivial)⟩⟩ rfl rfl hl.1 rfl (lv_room (Nat.le_of_ble_eq_true rfl)) dX8_row_34 ⟨Nat.le_of_ble_eq_true rfl, Nat.le_of_ble_eq_true rfl⟩) hS (fun q _ h => hFc_17 q h) hFc_17 (fun r_17 u_17 t_17 H1 locs ht hvm h_17 hB hz1 hk1 hS => ?_)
          have hP1 : va_P (dC, dI) vwCl [] H1 := fun k q h => by simp at h
          have hD1 : va_D (va_A [(mo, .inr (8, [.ref m_la, .ref m_sz, .ref m_it, .int 0, .int 0, .ref m_st, .ref m_mv, .ref m_tp, .int 0, .int 0, .int 0, .int 0, .int 0, .int 0, .int 0, .ref m_rd, .ref m_ac, .int 0, .ref m_as, .ref m_wo, .ref m_ik, .ref m_ke, .ref m_tr, .int 0]))] s.heap.size) [] := ⟨fun i j p q h => by simp at h, fun k q h => by simp at h⟩
          obtain ⟨hP, hD⟩ := va_join (wr := [(m_sz, .inl (cI, 8, .inl fl)), (m_la, .inl (cI, 8, .inl fa)), (m_it, .inl (cI, 320, .inl ft))]) (w1 := []) hP hD [0] [1, 2, 3] rfl rfl (by decide) (by decide) hk1 hFc_17 hP1 hD1
          generalize H1 = H at hP hS ⊢
          have hP : va_P (dC, dI) vwCl [(m_sz, .inl (cI, 8, .inl fl)), (m_la, .inl (cI, 8, .inl fa)), (m_it, .inl (cI, 320, .inl ft))] H := hP
          have hD : va_D A [(m_sz, .inl (cI, 8, .inl fl)), (m_la, .inl (cI, 8, .inl fa)), (m_it, .inl (cI, 320, .inl ft))] := hD
          subst h_17
          exact W.iret (v := (-1000014)) hx hb hr (fun t ht hW => ⟨⟨(-1000014), (), rfl, (by have q1 := @lane64 k1; unfold an_row; grind), trivial⟩, hS.F ht⟩) hS.2.2 dX8_row_37
      · skip
        refine lv_ldc (own := RX8) (v := (-1000001)) hx hb hown (hts (.constant RX8 67 (-1000001)) (by decide +kernel)) dX8_row_25 ?_
        exact W.iret (v := (-1000001)) hx hb hr (fun t ht hW => ⟨⟨(-1000001), (), rfl, (by have q1 := @lane64 k1; unfold an_row; grind), trivial⟩, hS.F ht⟩) hS.2.2 dX8_row_27
set_option maxHeartbeats 4000000 in
set_option maxRecDepth 100000 in
theorem c_X8_feed (l : Launch) (dC : Nat → ClassId) (dI : Nat → Nat → Nat) (cI cZ cL cJ : ClassId) (sz : Nat) (mo : Nat) (m_la : Nat) (m_sz : Nat) (m_it : Nat) (m_st : Nat) (m_mv : Nat) (m_tp : Nat) (m_rd : Nat) (m_ac : Nat) (m_as : Nat) (m_wo : Nat) (m_ik : Nat) (m_ke : Nat) (m_tr : Nat) (k0 : Int32)  : Met l yX8_feed wsX8_feed ({ frames := 1, cells := 0, slots := 0, locals := 25 }) (va_Pc [.ref mo, .int k0] (fun U => U.heap.size = sz ∧ va_P (dC, dI) vwCl [(mo, .inr (8, [.ref m_la, .ref m_sz, .ref m_it, .int 0, .int 0, .ref m_st, .ref m_mv, .ref m_tp, .int 0, .int 0, .int 0, .int 0, .int 0, .int 0, .int 0, .ref m_rd, .ref m_ac, .int 0, .ref m_as, .ref m_wo, .ref m_ik, .ref m_ke, .ref m_tr, .int 0])), (m_tp, .inl (cI, 120, .inl (fun _ => 0)))] U.heap ∧ va_K (dC, dI) vwCl [(cI, .int), (cZ, .boolean), (cL, .object RX3), (cJ, .array .int)] U ∧ va_D (fun _ => True) [(mo, .inr (8, [.ref m_la, .ref m_sz, .ref m_it, .int 0, .int 0, .ref m_st, .ref m_mv, .ref m_tp, .int 0, .int 0, .int 0, .int 0, .int 0, .int 0, .int 0, .ref m_rd, .ref m_ac, .int 0, .ref m_as, .ref m_wo, .ref m_ik, .ref m_ke, .ref m_tr, .int 0])), (m_tp, .inl (cI, 120, .inl (fun _ => 0)))])) (va_Qi (fun r (_ : Unit) => r = (an_feed k0)) (fun (_ : Unit) t => True) (va_A [(mo, .inr (8, [.ref m_la, .ref m_sz, .ref m_it, .int 0, .int 0, .ref m_st, .ref m_mv, .ref m_tp, .int 0, .int 0, .int 0, .int 0, .int 0, .int 0, .int 0, .ref m_rd, .ref m_ac, .int 0, .ref m_as, .ref m_wo, .ref m_ik, .ref m_ke, .ref m_tr, .int 0])), (m_tp, .inl (cI, 120, .inl (fun _ => 0)))] sz)) 0 0 (va_A [(mo, .inr (8, [.ref m_la, .ref m_sz, .ref m_it, .int 0, .int 0, .ref m_st, .ref m_mv, .ref m_tp, .int 0, .int 0, .int 0, .int 0, .int 0, .int 0, .int 0, .ref m_rd, .ref m_ac, .int 0, .ref m_as, .ref m_wo, .ref m_ik, .ref m_ke, .ref m_tr, .int 0])), (m_tp, .inl (cI, 120, .inl (fun _ => 0)))] sz) := by
  refine Met.ofW (cc := cX8_feed) (maxL := 2) (ret := (some .int)) (by decide) rfl ?_
  intro p e s m args below meth c s₁ B hml hv
  obtain ⟨rfl, hsz, hP, hK, hD0⟩ := hv
  have hx := B.exec
  have hb := B.bytes
  have hr := B.returns
  have hts := atoms_spec (ws := wsX8_feed) B.pre
  have hown : s.vm.findClass RX8 = some m.cls := findClass_of_methodNamed B.named
  have hlocks := B.notSynchronized
  subst hsz
  have hD := hD0.self (sz := s.heap.size)
  generalize hAe : va_A [(mo, .inr (8, [.ref m_la, .ref m_sz, .ref m_it, .int 0, .int 0, .ref m_st, .ref m_mv, .ref m_tp, .int 0, .int 0, .int 0, .int 0, .int 0, .int 0, .int 0, .ref m_rd, .ref m_ac, .int 0, .ref m_as, .ref m_wo, .ref m_ik, .ref m_ke, .ref m_tr, .int 0])), (m_tp, .inl (cI, 120, .inl (fun _ => 0)))] s.heap.size = A at hD ⊢
  have hA : ∀ q : Nat, s.heap.size ≤ q → A q := fun q h => by rw [← hAe]; exact Or.inr h
  have hS : va_S A s.heap s.heap [] := va_S.rf
  have hP : va_P (dC, dI) vwCl [(mo, .inr (8, [.ref m_la, .ref m_sz, .ref m_it, .int 0, .int 0, .ref m_st, .ref m_mv, .ref m_tp, .int 0, .int 0, .int 0, .int 0, .int 0, .int 0, .int 0, .ref m_rd, .ref m_ac, .int 0, .ref m_as, .ref m_wo, .ref m_ik, .ref m_ke, .ref m_tr, .int 0])), (m_tp, .inl (cI, 120, .inl (fun _ => 0)))] s.heap := hP
  have hl := lv_entry ([.ref mo, .int k0]) (n := 2) (Nat.le_of_ble_eq_true rfl)
  rw [lg_entry_eq]
  generalize (lg_sl ([.ref mo, .int k0]) ++ List.replicate (2 - (lg_sl ([.ref mo, .int k0])).length) Slot.unset).toArray = ls at hl ⊢
  have hl : lv_has ls 2 [(0, .ref mo), (1, .int k0)] := hl
  refine lv_iload_n hx hb dX8_feed_0 rfl (lv_at hl 1 rfl) ?_
  refine lv_i2l hx hb dX8_feed_1 rfl ?_
  refine lv_lconst (v := 0) hx hb dX8_feed_2 (by decide) ?_
  refine lv_ldc2 (own := RX8) (v := 255) hx hb hown (hts (.constantLong RX8 79 (255)) (by decide +kernel)) dX8_feed_3 ?_
  have hPc_1 := hP.sub (ws' := []) [] rfl
  refine vp_callSi (W.runS (As := [.long (k0).toInt64, .long 0, .long 255]) (rest := []) ⟨hx, hb, hml, hown, hts⟩ (c_X8_in l dC dI cI cZ cL cJ ((k0).toInt64) 0 255 ) (va_cwS 3 hts gX8_feed_X8_in rfl rfl rfl (by decide +kernel) ⟨Nat.le_of_ble_eq_true rfl, Nat.le_of_ble_eq_true rfl⟩) ⟨fun a U g mk q => by obtain ⟨q0, qP, qK⟩ := q; exact ⟨q0, qP, va_K.moved (u := U) (U := U.calling g mk a) (Vm.Alike.refl U.vm) qK⟩, fun U hU hW => ⟨rfl, by rw [hU]; exact hPc_1, va_K.moved hW.alike hK⟩⟩ rfl rfl hl.1 rfl (lv_room (Nat.le_of_ble_eq_true rfl)) dX8_feed_6 ⟨Nat.le_of_ble_eq_true rfl, Nat.le_of_ble_eq_true rfl⟩) (fun r_1 h_1 => ?_)
  rcases h_1 with ⟨h_1, f_1_0_0⟩ | ⟨h_1, f_1_1_0⟩
  · subst h_1
    refine lv_if_ne (tgt := 15) hx hb dX8_feed_9 (by decide) (fun c_ => absurd (by decide) c_) (fun _ => ?_)
    refine lv_ldc (own := RX8) (v := (-1000001)) hx hb hown (hts (.constant RX8 67 (-1000001)) (by decide +kernel)) dX8_feed_12 ?_
    exact W.iret (v := (-1000001)) hx hb hr (fun t ht hW => ⟨⟨(-1000001), (), rfl, (by have q1 := @feed64 k0; unfold an_feed; grind), trivial⟩, hS.F ht⟩) hS.2.2 dX8_feed_14
  · subst h_1
    refine lv_if_ne (tgt := 15) hx hb dX8_feed_9 (by decide) (fun _ => ?_) (fun c_ => absurd c_ (by decide))
    refine lv_aload_n hx hb dX8_feed_15 rfl (lv_at hl 0 rfl) ?_
    refine va_get (D := (dC, dI)) (ci := 8) (v := .int 0) (C := RX8) (T := TX8) (N := 24) hx hb hts i_X8_feed_X8 hown hK hP 0 rfl rfl 8 (by decide) (hts (.fieldLink RX8 81 "MillTalkModel" "bytes" "I") (by decide +kernel)) (fun _ h9 => h9) rfl dX8_feed_16 ?_
    refine lv_bipush (v := 120) hx hb dX8_feed_19 (by decide) ?_
    refine lv_icmp_ne (tgt := 27) hx hb dX8_feed_21 (by decide) (fun _ => ?_) (fun c_ => absurd c_ (by decide))
    refine lv_aload_n hx hb dX8_feed_27 rfl (lv_at hl 0 rfl) ?_
    refine va_get (D := (dC, dI)) (ci := 8) (v := .ref m_tp) (C := RX8) (T := TX8) (N := 24) hx hb hts i_X8_feed_X8 hown hK hP 0 rfl rfl 7 (by decide) (hts (.fieldLink RX8 25 "MillTalkModel" "tape" "[I") (by decide +kernel)) (fun _ h9 => h9) rfl dX8_feed_28 ?_
    refine lv_aload_n hx hb dX8_feed_31 rfl (lv_at hl 0 rfl) ?_
    refine va_get (D := (dC, dI)) (ci := 8) (v := .int 0) (C := RX8) (T := TX8) (N := 24) hx hb hts i_X8_feed_X8 hown hK hP 0 rfl rfl 8 (by decide) (hts (.fieldLink RX8 81 "MillTalkModel" "bytes" "I") (by decide +kernel)) (fun _ h9 => h9) rfl dX8_feed_32 ?_
    refine lv_iload_n hx hb dX8_feed_35 rfl (lv_at hl 1 rfl) ?_
    refine va_iast hx hb hK hP hD hS 1 0 rfl rfl (by unfold vp_in; decide) dX8_feed_36 (fun H locs hP hD hS => ?_)
    generalize hg_5 : upd (fun _ => 0) (0 : Int32).toNatClampNeg k0 = g_5 at hP hD
    have hP : va_P (dC, dI) vwCl [(mo, .inr (8, [.ref m_la, .ref m_sz, .ref m_it, .int 0, .int 0, .ref m_st, .ref m_mv, .ref m_tp, .int 0, .int 0, .int 0, .int 0, .int 0, .int 0, .int 0, .ref m_rd, .ref m_ac, .int 0, .ref m_as, .ref m_wo, .ref m_ik, .ref m_ke, .ref m_tr, .int 0])), (m_tp, .inl (cI, 120, .inl g_5))] H := hP
    have hD : va_D A [(mo, .inr (8, [.ref m_la, .ref m_sz, .ref m_it, .int 0, .int 0, .ref m_st, .ref m_mv, .ref m_tp, .int 0, .int 0, .int 0, .int 0, .int 0, .int 0, .int 0, .ref m_rd, .ref m_ac, .int 0, .ref m_as, .ref m_wo, .ref m_ik, .ref m_ke, .ref m_tr, .int 0])), (m_tp, .inl (cI, 120, .inl g_5))] := hD
    refine lv_aload_n hx hb dX8_feed_37 rfl (lv_at hl 0 rfl) ?_
    refine lv_dup hx hb dX8_feed_38 rfl ?_
    refine va_get (D := (dC, dI)) (ci := 8) (v := .int 0) (C := RX8) (T := TX8) (N := 24) hx hb hts i_X8_feed_X8 hown hK hP 0 rfl rfl 8 (by decide) (hts (.fieldLink RX8 81 "MillTalkModel" "bytes" "I") (by decide +kernel)) (fun _ h9 => h9) rfl dX8_feed_39 ?_
    refine lv_iconst (v := 1) hx hb dX8_feed_42 (by decide) ?_
    refine lv_iadd hx hb dX8_feed_43 ?_
    refine lv_topi (fun v_6 e_6 => ?_)
    obtain rfl : v_6 = 1 := (e_6).trans (by decide)
    refine va_put (D := (dC, dI)) (ci := 8) (v := .int 1) (ty := .int) (C := RX8) (T := TX8) (N := 24) hx hb hts i_X8_feed_X8 tyX8 tyX8_ok nmX8 hown hK hP hD hS 0 rfl rfl 8 (by decide) (hts (.fieldLink RX8 81 "MillTalkModel" "bytes" "I") (by decide +kernel)) (fun _ h9 => h9) rfl (by decide +kernel) rfl rfl (Nat.le_of_ble_eq_true rfl) dX8_feed_44 (fun H locs hP hD hS => ?_)
    have hP : va_P (dC, dI) vwCl [(mo, .inr (8, [.ref m_la, .ref m_sz, .ref m_it, .int 0, .int 0, .ref m_st, .ref m_mv, .ref m_tp, .int 1, .int 0, .int 0, .int 0, .int 0, .int 0, .int 0, .ref m_rd, .ref m_ac, .int 0, .ref m_as, .ref m_wo, .ref m_ik, .ref m_ke, .ref m_tr, .int 0])), (m_tp, .inl (cI, 120, .inl g_5))] H := hP
    have hD : va_D A [(mo, .inr (8, [.ref m_la, .ref m_sz, .ref m_it, .int 0, .int 0, .ref m_st, .ref m_mv, .ref m_tp, .int 1, .int 0, .int 0, .int 0, .int 0, .int 0, .int 0, .ref m_rd, .ref m_ac, .int 0, .ref m_as, .ref m_wo, .ref m_ik, .ref m_ke, .ref m_tr, .int 0])), (m_tp, .inl (cI, 120, .inl g_5))] := hD
    refine lv_aload_n hx hb dX8_feed_47 rfl (lv_at hl 0 rfl) ?_
    refine va_get (D := (dC, dI)) (ci := 8) (v := .int 1) (C := RX8) (T := TX8) (N := 24) hx hb hts i_X8_feed_X8 hown hK hP 0 rfl rfl 8 (by decide) (hts (.fieldLink RX8 81 "MillTalkModel" "bytes" "I") (by decide +kernel)) (fun _ h9 => h9) rfl dX8_feed_48 ?_
    exact W.iret (v := 1) hx hb hr (fun t ht hW => ⟨⟨1, (), rfl, (by have q1 := @feed64 k0; unfold an_feed; grind), trivial⟩, hS.F ht⟩) hS.2.2 dX8_feed_51
set_option maxHeartbeats 4000000 in
set_option maxRecDepth 100000 in
theorem c_X8_image (l : Launch) (dC : Nat → ClassId) (dI : Nat → Nat → Nat) (cI cZ cL cJ : ClassId) (mo : Nat) (m_la : Nat) (m_sz : Nat) (m_it : Nat) (m_st : Nat) (m_mv : Nat) (m_tp : Nat) (m_rd : Nat) (m_ac : Nat) (m_as : Nat) (m_wo : Nat) (m_ik : Nat) (m_ke : Nat) (m_tr : Nat) (k0 : Int32)  : Met l yX8_image wsX8_image ({ frames := 1, cells := 0, slots := 0, locals := 25 }) (va_Pc [.ref mo, .int k0] (fun U => va_P (dC, dI) vwCl [(mo, .inr (8, [.ref m_la, .ref m_sz, .ref m_it, .int 0, .int 0, .ref m_st, .ref m_mv, .ref m_tp, .int 0, .int 0, .int 0, .int 0, .int 0, .int 0, .int 0, .ref m_rd, .ref m_ac, .int 0, .ref m_as, .ref m_wo, .ref m_ik, .ref m_ke, .ref m_tr, .int 0]))] U.heap ∧ va_K (dC, dI) vwCl [(cI, .int), (cZ, .boolean), (cL, .object RX3), (cJ, .array .int)] U)) (vp_Si (fun r => r = (an_image k0))) 0 0 (fun _ => False) := by
  refine Met.ofW (cc := cX8_image) (maxL := 3) (ret := (some .int)) (by decide) rfl ?_
  intro p e s m args below meth c s₁ B hml hv
  obtain ⟨rfl, hP, hK⟩ := hv
  have hx := B.exec
  have hb := B.bytes
  have hr := B.returns
  have hts := atoms_spec (ws := wsX8_image) B.pre
  have hown : s.vm.findClass RX8 = some m.cls := findClass_of_methodNamed B.named
  have hlocks := B.notSynchronized
  have hP : va_P (dC, dI) vwCl [(mo, .inr (8, [.ref m_la, .ref m_sz, .ref m_it, .int 0, .int 0, .ref m_st, .ref m_mv, .ref m_tp, .int 0, .int 0, .int 0, .int 0, .int 0, .int 0, .int 0, .ref m_rd, .ref m_ac, .int 0, .ref m_as, .ref m_wo, .ref m_ik, .ref m_ke, .ref m_tr, .int 0]))] s.heap := hP
  have hl := lv_entry ([.ref mo, .int k0]) (n := 3) (Nat.le_of_ble_eq_true rfl)
  rw [lg_entry_eq]
  generalize (lg_sl ([.ref mo, .int k0]) ++ List.replicate (3 - (lg_sl ([.ref mo, .int k0])).length) Slot.unset).toArray = ls at hl ⊢
  have hl : lv_has ls 3 [(0, .ref mo), (1, .int k0)] := hl
  refine lv_iload_n hx hb dX8_image_0 rfl (lv_at hl 1 rfl) ?_
  refine lv_i2l hx hb dX8_image_1 rfl ?_
  refine lv_lconst (v := 0) hx hb dX8_image_2 (by decide) ?_
  refine lv_lconst (v := 1) hx hb dX8_image_3 (by decide) ?_
  have hPc_1 := hP.sub (ws' := []) [] rfl
  refine vp_callSi (W.runS (As := [.long (k0).toInt64, .long 0, .long 1]) (rest := []) ⟨hx, hb, hml, hown, hts⟩ (c_X8_in l dC dI cI cZ cL cJ ((k0).toInt64) 0 1 ) (va_cwS 3 hts gX8_image_X8_in rfl rfl rfl (by decide +kernel) ⟨Nat.le_of_ble_eq_true rfl, Nat.le_of_ble_eq_true rfl⟩) ⟨fun a U g mk q => by obtain ⟨q0, qP, qK⟩ := q; exact ⟨q0, qP, va_K.moved (u := U) (U := U.calling g mk a) (Vm.Alike.refl U.vm) qK⟩, fun U hU hW => ⟨rfl, by rw [hU]; exact hPc_1, va_K.moved hW.alike hK⟩⟩ rfl rfl hl.1 rfl (lv_room (Nat.le_of_ble_eq_true rfl)) dX8_image_4 ⟨Nat.le_of_ble_eq_true rfl, Nat.le_of_ble_eq_true rfl⟩) (fun r_1 h_1 => ?_)
  rcases h_1 with ⟨h_1, f_1_0_0⟩ | ⟨h_1, f_1_1_0⟩
  · subst h_1
    refine lv_if_ne (tgt := 13) hx hb dX8_image_7 (by decide) (fun c_ => absurd (by decide) c_) (fun _ => ?_)
    refine lv_ldc (own := RX8) (v := (-1000001)) hx hb hown (hts (.constant RX8 67 (-1000001)) (by decide +kernel)) dX8_image_10 ?_
    exact W.iret (v := (-1000001)) hx hb hr (fun t ht hW => ⟨(-1000001), rfl, (by have q1 := @img64 k0; unfold an_image; grind), ht⟩) (fun _ h => by cases h) dX8_image_12
  · subst h_1
    refine lv_if_ne (tgt := 13) hx hb dX8_image_7 (by decide) (fun _ => ?_) (fun c_ => absurd c_ (by decide))
    refine lv_aload_n hx hb dX8_image_13 rfl (lv_at hl 0 rfl) ?_
    refine va_get (D := (dC, dI)) (ci := 8) (v := .int 0) (C := RX8) (T := TX8) (N := 24) hx hb hts i_X8_image_X8 hown hK hP 0 rfl rfl 4 (by decide) (hts (.fieldLink RX8 138 "MillTalkModel" "isThere" "Z") (by decide +kernel)) (fun _ h9 => h9) rfl dX8_image_14 ?_
    refine lv_if_ne (tgt := 23) hx hb dX8_image_17 (by decide) (fun c_ => absurd (by decide) c_) (fun _ => ?_)
    refine lv_ldc (own := RX8) (v := (-1000002)) hx hb hown (hts (.constant RX8 161 (-1000002)) (by decide +kernel)) dX8_image_20 ?_
    exact W.iret (v := (-1000002)) hx hb hr (fun t ht hW => ⟨(-1000002), rfl, (by have q1 := @img64 k0; unfold an_image; grind), ht⟩) (fun _ h => by cases h) dX8_image_22
set_option maxHeartbeats 4000000 in
set_option maxRecDepth 100000 in
theorem c_X8_restore (l : Launch) (dC : Nat → ClassId) (dI : Nat → Nat → Nat) (cI cZ cL cJ : ClassId) (mo : Nat) (m_la : Nat) (m_sz : Nat) (m_it : Nat) (m_st : Nat) (m_mv : Nat) (m_tp : Nat) (m_rd : Nat) (m_ac : Nat) (m_as : Nat) (m_wo : Nat) (m_ik : Nat) (m_ke : Nat) (m_tr : Nat) (k0 : Int32)  : Met l yX8_restore wsX8_restore ({ frames := 1, cells := 0, slots := 0, locals := 25 }) (va_Pc [.ref mo, .int k0] (fun U => va_P (dC, dI) vwCl [(mo, .inr (8, [.ref m_la, .ref m_sz, .ref m_it, .int 0, .int 0, .ref m_st, .ref m_mv, .ref m_tp, .int 0, .int 0, .int 0, .int 0, .int 0, .int 0, .int 0, .ref m_rd, .ref m_ac, .int 0, .ref m_as, .ref m_wo, .ref m_ik, .ref m_ke, .ref m_tr, .int 0])), (m_ik, .inl (cZ, 2, .inl (fun _ => 0)))] U.heap ∧ va_K (dC, dI) vwCl [(cI, .int), (cZ, .boolean), (cL, .object RX3), (cJ, .array .int)] U)) (vp_Si (fun r => r = (an_image k0))) 0 0 (fun _ => False) := by
  refine Met.ofW (cc := cX8_restore) (maxL := 3) (ret := (some .int)) (by decide) rfl ?_
  intro p e s m args below meth c s₁ B hml hv
  obtain ⟨rfl, hP, hK⟩ := hv
  have hx := B.exec
  have hb := B.bytes
  have hr := B.returns
  have hts := atoms_spec (ws := wsX8_restore) B.pre
  have hown : s.vm.findClass RX8 = some m.cls := findClass_of_methodNamed B.named
  have hlocks := B.notSynchronized
  have hP : va_P (dC, dI) vwCl [(mo, .inr (8, [.ref m_la, .ref m_sz, .ref m_it, .int 0, .int 0, .ref m_st, .ref m_mv, .ref m_tp, .int 0, .int 0, .int 0, .int 0, .int 0, .int 0, .int 0, .ref m_rd, .ref m_ac, .int 0, .ref m_as, .ref m_wo, .ref m_ik, .ref m_ke, .ref m_tr, .int 0])), (m_ik, .inl (cZ, 2, .inl (fun _ => 0)))] s.heap := hP
  have hl := lv_entry ([.ref mo, .int k0]) (n := 3) (Nat.le_of_ble_eq_true rfl)
  rw [lg_entry_eq]
  generalize (lg_sl ([.ref mo, .int k0]) ++ List.replicate (3 - (lg_sl ([.ref mo, .int k0])).length) Slot.unset).toArray = ls at hl ⊢
  have hl : lv_has ls 3 [(0, .ref mo), (1, .int k0)] := hl
  refine lv_iload_n hx hb dX8_restore_0 rfl (lv_at hl 1 rfl) ?_
  refine lv_i2l hx hb dX8_restore_1 rfl ?_
  refine lv_lconst (v := 0) hx hb dX8_restore_2 (by decide) ?_
  refine lv_lconst (v := 1) hx hb dX8_restore_3 (by decide) ?_
  have hPc_1 := hP.sub (ws' := []) [] rfl
  refine vp_callSi (W.runS (As := [.long (k0).toInt64, .long 0, .long 1]) (rest := []) ⟨hx, hb, hml, hown, hts⟩ (c_X8_in l dC dI cI cZ cL cJ ((k0).toInt64) 0 1 ) (va_cwS 3 hts gX8_restore_X8_in rfl rfl rfl (by decide +kernel) ⟨Nat.le_of_ble_eq_true rfl, Nat.le_of_ble_eq_true rfl⟩) ⟨fun a U g mk q => by obtain ⟨q0, qP, qK⟩ := q; exact ⟨q0, qP, va_K.moved (u := U) (U := U.calling g mk a) (Vm.Alike.refl U.vm) qK⟩, fun U hU hW => ⟨rfl, by rw [hU]; exact hPc_1, va_K.moved hW.alike hK⟩⟩ rfl rfl hl.1 rfl (lv_room (Nat.le_of_ble_eq_true rfl)) dX8_restore_4 ⟨Nat.le_of_ble_eq_true rfl, Nat.le_of_ble_eq_true rfl⟩) (fun r_1 h_1 => ?_)
  rcases h_1 with ⟨h_1, f_1_0_0⟩ | ⟨h_1, f_1_1_0⟩
  · subst h_1
    refine lv_if_ne (tgt := 13) hx hb dX8_restore_7 (by decide) (fun c_ => absurd (by decide) c_) (fun _ => ?_)
    refine lv_ldc (own := RX8) (v := (-1000001)) hx hb hown (hts (.constant RX8 67 (-1000001)) (by decide +kernel)) dX8_restore_10 ?_
    exact W.iret (v := (-1000001)) hx hb hr (fun t ht hW => ⟨(-1000001), rfl, (by have q1 := @img64 k0; unfold an_image; grind), ht⟩) (fun _ h => by cases h) dX8_restore_12
  · subst h_1
    refine lv_if_ne (tgt := 13) hx hb dX8_restore_7 (by decide) (fun _ => ?_) (fun c_ => absurd c_ (by decide))
    refine lv_aload_n hx hb dX8_restore_13 rfl (lv_at hl 0 rfl) ?_
    refine va_get (D := (dC, dI)) (ci := 8) (v := .ref m_ik) (C := RX8) (T := TX8) (N := 24) hx hb hts i_X8_restore_X8 hown hK hP 0 rfl rfl 20 (by decide) (hts (.fieldLink RX8 40 "MillTalkModel" "isKept" "[Z") (by decide +kernel)) (fun _ h9 => h9) rfl dX8_restore_14 ?_
    refine lv_iload_n hx hb dX8_restore_17 rfl (lv_at hl 1 rfl) ?_
    refine va_zald hx hb hK hP 1 1 rfl rfl (in_2b f_1_1_0) dX8_restore_18 ?_
    refine lv_topi (fun v_4 e_4 => ?_)
    obtain rfl : v_4 = 0 := e_4
    refine lv_if_ne (tgt := 25) hx hb dX8_restore_19 (by decide) (fun c_ => absurd (by decide) c_) (fun _ => ?_)
    refine lv_ldc (own := RX8) (v := (-1000002)) hx hb hown (hts (.constant RX8 161 (-1000002)) (by decide +kernel)) dX8_restore_22 ?_
    exact W.iret (v := (-1000002)) hx hb hr (fun t ht hW => ⟨(-1000002), rfl, (by have q1 := @img64 k0; unfold an_image; grind), ht⟩) (fun _ h => by cases h) dX8_restore_24
set_option maxHeartbeats 4000000 in
set_option maxRecDepth 100000 in
theorem c_X8_faults (l : Launch) (dC : Nat → ClassId) (dI : Nat → Nat → Nat) (cI cZ cL cJ : ClassId) (sz : Nat) (mo : Nat) (m_la : Nat) (m_sz : Nat) (m_it : Nat) (m_st : Nat) (m_mv : Nat) (m_tp : Nat) (m_rd : Nat) (m_ac : Nat) (m_as : Nat) (m_wo : Nat) (m_ik : Nat) (m_ke : Nat) (m_tr : Nat) (n : Int32) (tk : Int32)  : Met l yX8_faults wsX8_faults ({ frames := 0, cells := 0, slots := 0, locals := 0 }) (va_Pc [.ref mo, .int n] (fun U => U.heap.size = sz ∧ va_P (dC, dI) vwCl [(mo, .inr (8, [.ref m_la, .ref m_sz, .ref m_it, .int 0, .int 0, .ref m_st, .ref m_mv, .ref m_tp, .int 0, .int 0, .int 0, .int tk, .int 0, .int 0, .int 0, .ref m_rd, .ref m_ac, .int 0, .ref m_as, .ref m_wo, .ref m_ik, .ref m_ke, .ref m_tr, .int 0]))] U.heap ∧ va_K (dC, dI) vwCl [(cI, .int), (cZ, .boolean), (cL, .object RX3), (cJ, .array .int)] U ∧ va_D (fun _ => True) [(mo, .inr (8, [.ref m_la, .ref m_sz, .ref m_it, .int 0, .int 0, .ref m_st, .ref m_mv, .ref m_tp, .int 0, .int 0, .int 0, .int tk, .int 0, .int 0, .int 0, .ref m_rd, .ref m_ac, .int 0, .ref m_as, .ref m_wo, .ref m_ik, .ref m_ke, .ref m_tr, .int 0]))])) (va_Qi (fun r (_ : Unit) => r = 0) (fun (_ : Unit) t => va_P (dC, dI) vwCl [(mo, .inr (8, [.ref m_la, .ref m_sz, .ref m_it, .int 0, .int 0, .ref m_st, .ref m_mv, .ref m_tp, .int 0, .int 0, .int 0, .int tk, .int 0, .int 0, .int n, .ref m_rd, .ref m_ac, .int 0, .ref m_as, .ref m_wo, .ref m_ik, .ref m_ke, .ref m_tr, .int 0]))] t.heap ∧ va_D (va_A [(mo, .inr (8, [.ref m_la, .ref m_sz, .ref m_it, .int 0, .int 0, .ref m_st, .ref m_mv, .ref m_tp, .int 0, .int 0, .int 0, .int tk, .int 0, .int 0, .int 0, .ref m_rd, .ref m_ac, .int 0, .ref m_as, .ref m_wo, .ref m_ik, .ref m_ke, .ref m_tr, .int 0]))] sz) [(mo, .inr (8, [.ref m_la, .ref m_sz, .ref m_it, .int 0, .int 0, .ref m_st, .ref m_mv, .ref m_tp, .int 0, .int 0, .int 0, .int tk, .int 0, .int 0, .int n, .ref m_rd, .ref m_ac, .int 0, .ref m_as, .ref m_wo, .ref m_ik, .ref m_ke, .ref m_tr, .int 0]))]) (va_A [(mo, .inr (8, [.ref m_la, .ref m_sz, .ref m_it, .int 0, .int 0, .ref m_st, .ref m_mv, .ref m_tp, .int 0, .int 0, .int 0, .int tk, .int 0, .int 0, .int 0, .ref m_rd, .ref m_ac, .int 0, .ref m_as, .ref m_wo, .ref m_ik, .ref m_ke, .ref m_tr, .int 0]))] sz)) 0 0 (va_A [(mo, .inr (8, [.ref m_la, .ref m_sz, .ref m_it, .int 0, .int 0, .ref m_st, .ref m_mv, .ref m_tp, .int 0, .int 0, .int 0, .int tk, .int 0, .int 0, .int 0, .ref m_rd, .ref m_ac, .int 0, .ref m_as, .ref m_wo, .ref m_ik, .ref m_ke, .ref m_tr, .int 0]))] sz) := by
  refine Met.ofW (cc := cX8_faults) (maxL := 2) (ret := (some .boolean)) (by decide) rfl ?_
  intro p e s m args below meth c s₁ B hml hv
  obtain ⟨rfl, hsz, hP, hK, hD0⟩ := hv
  have hx := B.exec
  have hb := B.bytes
  have hr := B.returns
  have hts := atoms_spec (ws := wsX8_faults) B.pre
  have hown : s.vm.findClass RX8 = some m.cls := findClass_of_methodNamed B.named
  have hlocks := B.notSynchronized
  subst hsz
  have hD := hD0.self (sz := s.heap.size)
  generalize hAe : va_A [(mo, .inr (8, [.ref m_la, .ref m_sz, .ref m_it, .int 0, .int 0, .ref m_st, .ref m_mv, .ref m_tp, .int 0, .int 0, .int 0, .int tk, .int 0, .int 0, .int 0, .ref m_rd, .ref m_ac, .int 0, .ref m_as, .ref m_wo, .ref m_ik, .ref m_ke, .ref m_tr, .int 0]))] s.heap.size = A at hD ⊢
  have hA : ∀ q : Nat, s.heap.size ≤ q → A q := fun q h => by rw [← hAe]; exact Or.inr h
  have hS : va_S A s.heap s.heap [] := va_S.rf
  have hP : va_P (dC, dI) vwCl [(mo, .inr (8, [.ref m_la, .ref m_sz, .ref m_it, .int 0, .int 0, .ref m_st, .ref m_mv, .ref m_tp, .int 0, .int 0, .int 0, .int tk, .int 0, .int 0, .int 0, .ref m_rd, .ref m_ac, .int 0, .ref m_as, .ref m_wo, .ref m_ik, .ref m_ke, .ref m_tr, .int 0]))] s.heap := hP
  have hl := lv_entry ([.ref mo, .int n]) (n := 2) (Nat.le_of_ble_eq_true rfl)
  rw [lg_entry_eq]
  generalize (lg_sl ([.ref mo, .int n]) ++ List.replicate (2 - (lg_sl ([.ref mo, .int n])).length) Slot.unset).toArray = ls at hl ⊢
  have hl : lv_has ls 2 [(0, .ref mo), (1, .int n)] := hl
  refine lv_aload_n hx hb dX8_faults_0 rfl (lv_at hl 0 rfl) ?_
  refine lv_iload_n hx hb dX8_faults_1 rfl (lv_at hl 1 rfl) ?_
  refine va_put (D := (dC, dI)) (ci := 8) (v := .int n) (ty := .int) (C := RX8) (T := TX8) (N := 24) hx hb hts i_X8_faults_X8 tyX8 tyX8_ok nmX8 hown hK hP hD hS 0 rfl rfl 14 (by decide) (hts (.fieldLink RX8 105 "MillTalkModel" "wrong" "I") (by decide +kernel)) (fun _ h9 => h9) rfl (by decide +kernel) rfl rfl (Nat.le_of_ble_eq_true rfl) dX8_faults_2 (fun H locs hP hD hS => ?_)
  have hP : va_P (dC, dI) vwCl [(mo, .inr (8, [.ref m_la, .ref m_sz, .ref m_it, .int 0, .int 0, .ref m_st, .ref m_mv, .ref m_tp, .int 0, .int 0, .int 0, .int tk, .int 0, .int 0, .int n, .ref m_rd, .ref m_ac, .int 0, .ref m_as, .ref m_wo, .ref m_ik, .ref m_ke, .ref m_tr, .int 0]))] H := hP
  have hD : va_D A [(mo, .inr (8, [.ref m_la, .ref m_sz, .ref m_it, .int 0, .int 0, .ref m_st, .ref m_mv, .ref m_tp, .int 0, .int 0, .int 0, .int tk, .int 0, .int 0, .int n, .ref m_rd, .ref m_ac, .int 0, .ref m_as, .ref m_wo, .ref m_ik, .ref m_ke, .ref m_tr, .int 0]))] := hD
  refine lv_iconst (v := 0) hx hb dX8_faults_5 (by decide) ?_
  have hP9 := hP.sub (ws' := [(mo, .inr (8, [.ref m_la, .ref m_sz, .ref m_it, .int 0, .int 0, .ref m_st, .ref m_mv, .ref m_tp, .int 0, .int 0, .int 0, .int tk, .int 0, .int 0, .int n, .ref m_rd, .ref m_ac, .int 0, .ref m_as, .ref m_wo, .ref m_ik, .ref m_ke, .ref m_tr, .int 0]))]) [0] rfl
  have hD9 := hD.sub (ws' := [(mo, .inr (8, [.ref m_la, .ref m_sz, .ref m_it, .int 0, .int 0, .ref m_st, .ref m_mv, .ref m_tp, .int 0, .int 0, .int 0, .int tk, .int 0, .int 0, .int n, .ref m_rd, .ref m_ac, .int 0, .ref m_as, .ref m_wo, .ref m_ik, .ref m_ke, .ref m_tr, .int 0]))]) [0] (by decide) rfl
  exact W.zret (v := 0) hx hb hr (by decide) (fun t ht hW => ⟨⟨0, (), rfl, rfl, ⟨by rw [ht]; exact hP9, hD9⟩⟩, hS.F ht⟩) hS.2.2 dX8_faults_6
set_option maxHeartbeats 4000000 in
set_option maxRecDepth 100000 in
theorem c_X8_nextToken (l : Launch) (dC : Nat → ClassId) (dI : Nat → Nat → Nat) (cI cZ cL cJ : ClassId) (sz : Nat) (mo : Nat) (m_la : Nat) (m_sz : Nat) (m_it : Nat) (m_st : Nat) (m_mv : Nat) (m_tp : Nat) (m_rd : Nat) (m_ac : Nat) (m_as : Nat) (m_wo : Nat) (m_ik : Nat) (m_ke : Nat) (m_tr : Nat)  : Met l yX8_nextToken wsX8_nextToken ({ frames := 0, cells := 0, slots := 0, locals := 0 }) (va_Pc [.ref mo] (fun U => U.heap.size = sz ∧ va_P (dC, dI) vwCl [(mo, .inr (8, [.ref m_la, .ref m_sz, .ref m_it, .int 0, .int 0, .ref m_st, .ref m_mv, .ref m_tp, .int 0, .int 0, .int 0, .int 0, .int 0, .int 0, .int 0, .ref m_rd, .ref m_ac, .int 0, .ref m_as, .ref m_wo, .ref m_ik, .ref m_ke, .ref m_tr, .int 0]))] U.heap ∧ va_K (dC, dI) vwCl [(cI, .int), (cZ, .boolean), (cL, .object RX3), (cJ, .array .int)] U ∧ va_D (fun _ => True) [(mo, .inr (8, [.ref m_la, .ref m_sz, .ref m_it, .int 0, .int 0, .ref m_st, .ref m_mv, .ref m_tp, .int 0, .int 0, .int 0, .int 0, .int 0, .int 0, .int 0, .ref m_rd, .ref m_ac, .int 0, .ref m_as, .ref m_wo, .ref m_ik, .ref m_ke, .ref m_tr, .int 0]))])) (va_Qv (fun (_ : Unit) => True) (fun (_ : Unit) t => va_P (dC, dI) vwCl [(mo, .inr (8, [.ref m_la, .ref m_sz, .ref m_it, .int 0, .int 0, .ref m_st, .ref m_mv, .ref m_tp, .int 0, .int 0, .int 0, .int 3, .int 0, .int 0, .int 0, .ref m_rd, .ref m_ac, .int 0, .ref m_as, .ref m_wo, .ref m_ik, .ref m_ke, .ref m_tr, .int 0]))] t.heap ∧ va_D (va_A [(mo, .inr (8, [.ref m_la, .ref m_sz, .ref m_it, .int 0, .int 0, .ref m_st, .ref m_mv, .ref m_tp, .int 0, .int 0, .int 0, .int 0, .int 0, .int 0, .int 0, .ref m_rd, .ref m_ac, .int 0, .ref m_as, .ref m_wo, .ref m_ik, .ref m_ke, .ref m_tr, .int 0]))] sz) [(mo, .inr (8, [.ref m_la, .ref m_sz, .ref m_it, .int 0, .int 0, .ref m_st, .ref m_mv, .ref m_tp, .int 0, .int 0, .int 0, .int 3, .int 0, .int 0, .int 0, .ref m_rd, .ref m_ac, .int 0, .ref m_as, .ref m_wo, .ref m_ik, .ref m_ke, .ref m_tr, .int 0]))]) (va_A [(mo, .inr (8, [.ref m_la, .ref m_sz, .ref m_it, .int 0, .int 0, .ref m_st, .ref m_mv, .ref m_tp, .int 0, .int 0, .int 0, .int 0, .int 0, .int 0, .int 0, .ref m_rd, .ref m_ac, .int 0, .ref m_as, .ref m_wo, .ref m_ik, .ref m_ke, .ref m_tr, .int 0]))] sz)) 0 0 (va_A [(mo, .inr (8, [.ref m_la, .ref m_sz, .ref m_it, .int 0, .int 0, .ref m_st, .ref m_mv, .ref m_tp, .int 0, .int 0, .int 0, .int 0, .int 0, .int 0, .int 0, .ref m_rd, .ref m_ac, .int 0, .ref m_as, .ref m_wo, .ref m_ik, .ref m_ke, .ref m_tr, .int 0]))] sz) := by
  refine Met.ofW (cc := cX8_nextToken) (maxL := 1) (ret := none) (by decide) rfl ?_
  intro p e s m args below meth c s₁ B hml hv
  obtain ⟨rfl, hsz, hP, hK, hD0⟩ := hv
  have hx := B.exec
  have hb := B.bytes
  have hr := B.returns
  have hts := atoms_spec (ws := wsX8_nextToken) B.pre
  have hown : s.vm.findClass RX8 = some m.cls := findClass_of_methodNamed B.named
  have hlocks := B.notSynchronized
  subst hsz
  have hD := hD0.self (sz := s.heap.size)
  generalize hAe : va_A [(mo, .inr (8, [.ref m_la, .ref m_sz, .ref m_it, .int 0, .int 0, .ref m_st, .ref m_mv, .ref m_tp, .int 0, .int 0, .int 0, .int 0, .int 0, .int 0, .int 0, .ref m_rd, .ref m_ac, .int 0, .ref m_as, .ref m_wo, .ref m_ik, .ref m_ke, .ref m_tr, .int 0]))] s.heap.size = A at hD ⊢
  have hA : ∀ q : Nat, s.heap.size ≤ q → A q := fun q h => by rw [← hAe]; exact Or.inr h
  have hS : va_S A s.heap s.heap [] := va_S.rf
  have hP : va_P (dC, dI) vwCl [(mo, .inr (8, [.ref m_la, .ref m_sz, .ref m_it, .int 0, .int 0, .ref m_st, .ref m_mv, .ref m_tp, .int 0, .int 0, .int 0, .int 0, .int 0, .int 0, .int 0, .ref m_rd, .ref m_ac, .int 0, .ref m_as, .ref m_wo, .ref m_ik, .ref m_ke, .ref m_tr, .int 0]))] s.heap := hP
  have hl := lv_entry ([.ref mo]) (n := 1) (Nat.le_of_ble_eq_true rfl)
  rw [lg_entry_eq]
  generalize (lg_sl ([.ref mo]) ++ List.replicate (1 - (lg_sl ([.ref mo])).length) Slot.unset).toArray = ls at hl ⊢
  have hl : lv_has ls 1 [(0, .ref mo)] := hl
  refine lv_aload_n hx hb dX8_nextToken_0 rfl (lv_at hl 0 rfl) ?_
  refine lv_aload_n hx hb dX8_nextToken_1 rfl (lv_at hl 0 rfl) ?_
  refine va_get (D := (dC, dI)) (ci := 8) (v := .int 0) (C := RX8) (T := TX8) (N := 24) hx hb hts i_X8_nextToken_X8 hown hK hP 0 rfl rfl 10 (by decide) (hts (.fieldLink RX8 85 "MillTalkModel" "place" "I") (by decide +kernel)) (fun _ h9 => h9) rfl dX8_nextToken_2 ?_
  refine va_put (D := (dC, dI)) (ci := 8) (v := .int 0) (ty := .int) (C := RX8) (T := TX8) (N := 24) hx hb hts i_X8_nextToken_X8 tyX8 tyX8_ok nmX8 hown hK hP hD hS 0 rfl rfl 13 (by decide) (hts (.fieldLink RX8 88 "MillTalkModel" "begins" "I") (by decide +kernel)) (fun _ h9 => h9) rfl (by decide +kernel) rfl rfl (Nat.le_of_ble_eq_true rfl) dX8_nextToken_5 (fun H locs hP hD hS => ?_)
  have hP : va_P (dC, dI) vwCl [(mo, .inr (8, [.ref m_la, .ref m_sz, .ref m_it, .int 0, .int 0, .ref m_st, .ref m_mv, .ref m_tp, .int 0, .int 0, .int 0, .int 0, .int 0, .int 0, .int 0, .ref m_rd, .ref m_ac, .int 0, .ref m_as, .ref m_wo, .ref m_ik, .ref m_ke, .ref m_tr, .int 0]))] H := hP
  have hD : va_D A [(mo, .inr (8, [.ref m_la, .ref m_sz, .ref m_it, .int 0, .int 0, .ref m_st, .ref m_mv, .ref m_tp, .int 0, .int 0, .int 0, .int 0, .int 0, .int 0, .int 0, .ref m_rd, .ref m_ac, .int 0, .ref m_as, .ref m_wo, .ref m_ik, .ref m_ke, .ref m_tr, .int 0]))] := hD
  refine lv_aload_n hx hb dX8_nextToken_8 rfl (lv_at hl 0 rfl) ?_
  refine lv_aload_n hx hb dX8_nextToken_9 rfl (lv_at hl 0 rfl) ?_
  refine va_get (D := (dC, dI)) (ci := 8) (v := .int 0) (C := RX8) (T := TX8) (N := 24) hx hb hts i_X8_nextToken_X8 hown hK hP 0 rfl rfl 10 (by decide) (hts (.fieldLink RX8 85 "MillTalkModel" "place" "I") (by decide +kernel)) (fun _ h9 => h9) rfl dX8_nextToken_10 ?_
  refine lv_aload_n hx hb dX8_nextToken_13 rfl (lv_at hl 0 rfl) ?_
  refine va_get (D := (dC, dI)) (ci := 8) (v := .int 0) (C := RX8) (T := TX8) (N := 24) hx hb hts i_X8_nextToken_X8 hown hK hP 0 rfl rfl 8 (by decide) (hts (.fieldLink RX8 81 "MillTalkModel" "bytes" "I") (by decide +kernel)) (fun _ h9 => h9) rfl dX8_nextToken_14 ?_
  refine lv_icmp_ne (tgt := 24) hx hb dX8_nextToken_17 (by decide) (fun c_ => absurd (by decide) c_) (fun _ => ?_)
  refine lv_iconst (v := 3) hx hb dX8_nextToken_20 (by decide) ?_
  refine lv_goto (tgt := 25) hx hb dX8_nextToken_21 (by decide) ?_
  refine va_put (D := (dC, dI)) (ci := 8) (v := .int 3) (ty := .int) (C := RX8) (T := TX8) (N := 24) hx hb hts i_X8_nextToken_X8 tyX8 tyX8_ok nmX8 hown hK hP hD hS 0 rfl rfl 11 (by decide) (hts (.fieldLink RX8 91 "MillTalkModel" "token" "I") (by decide +kernel)) (fun _ h9 => h9) rfl (by decide +kernel) rfl rfl (Nat.le_of_ble_eq_true rfl) dX8_nextToken_25 (fun H locs hP hD hS => ?_)
  have hP : va_P (dC, dI) vwCl [(mo, .inr (8, [.ref m_la, .ref m_sz, .ref m_it, .int 0, .int 0, .ref m_st, .ref m_mv, .ref m_tp, .int 0, .int 0, .int 0, .int 3, .int 0, .int 0, .int 0, .ref m_rd, .ref m_ac, .int 0, .ref m_as, .ref m_wo, .ref m_ik, .ref m_ke, .ref m_tr, .int 0]))] H := hP
  have hD : va_D A [(mo, .inr (8, [.ref m_la, .ref m_sz, .ref m_it, .int 0, .int 0, .ref m_st, .ref m_mv, .ref m_tp, .int 0, .int 0, .int 0, .int 3, .int 0, .int 0, .int 0, .ref m_rd, .ref m_ac, .int 0, .ref m_as, .ref m_wo, .ref m_ik, .ref m_ke, .ref m_tr, .int 0]))] := hD
  refine lv_aload_n hx hb dX8_nextToken_28 rfl (lv_at hl 0 rfl) ?_
  refine lv_iconst (v := 0) hx hb dX8_nextToken_29 (by decide) ?_
  refine va_put (D := (dC, dI)) (ci := 8) (v := .int 0) (ty := .int) (C := RX8) (T := TX8) (N := 24) hx hb hts i_X8_nextToken_X8 tyX8 tyX8_ok nmX8 hown hK hP hD hS 0 rfl rfl 12 (by decide) (hts (.fieldLink RX8 94 "MillTalkModel" "value" "I") (by decide +kernel)) (fun _ h9 => h9) rfl (by decide +kernel) rfl rfl (Nat.le_of_ble_eq_true rfl) dX8_nextToken_30 (fun H locs hP hD hS => ?_)
  have hP : va_P (dC, dI) vwCl [(mo, .inr (8, [.ref m_la, .ref m_sz, .ref m_it, .int 0, .int 0, .ref m_st, .ref m_mv, .ref m_tp, .int 0, .int 0, .int 0, .int 3, .int 0, .int 0, .int 0, .ref m_rd, .ref m_ac, .int 0, .ref m_as, .ref m_wo, .ref m_ik, .ref m_ke, .ref m_tr, .int 0]))] H := hP
  have hD : va_D A [(mo, .inr (8, [.ref m_la, .ref m_sz, .ref m_it, .int 0, .int 0, .ref m_st, .ref m_mv, .ref m_tp, .int 0, .int 0, .int 0, .int 3, .int 0, .int 0, .int 0, .ref m_rd, .ref m_ac, .int 0, .ref m_as, .ref m_wo, .ref m_ik, .ref m_ke, .ref m_tr, .int 0]))] := hD
  refine lv_aload_n hx hb dX8_nextToken_33 rfl (lv_at hl 0 rfl) ?_
  refine va_get (D := (dC, dI)) (ci := 8) (v := .int 0) (C := RX8) (T := TX8) (N := 24) hx hb hts i_X8_nextToken_X8 hown hK hP 0 rfl rfl 10 (by decide) (hts (.fieldLink RX8 85 "MillTalkModel" "place" "I") (by decide +kernel)) (fun _ h9 => h9) rfl dX8_nextToken_34 ?_
  refine lv_aload_n hx hb dX8_nextToken_37 rfl (lv_at hl 0 rfl) ?_
  refine va_get (D := (dC, dI)) (ci := 8) (v := .int 0) (C := RX8) (T := TX8) (N := 24) hx hb hts i_X8_nextToken_X8 hown hK hP 0 rfl rfl 8 (by decide) (hts (.fieldLink RX8 81 "MillTalkModel" "bytes" "I") (by decide +kernel)) (fun _ h9 => h9) rfl dX8_nextToken_38 ?_
  refine lv_icmp_ge (tgt := 119) hx hb dX8_nextToken_41 (by decide) (fun _ => ?_) (fun c_ => absurd (by decide) c_)
  refine lv_aload_n hx hb dX8_nextToken_119 rfl (lv_at hl 0 rfl) ?_
  refine va_get (D := (dC, dI)) (ci := 8) (v := .int 0) (C := RX8) (T := TX8) (N := 24) hx hb hts i_X8_nextToken_X8 hown hK hP 0 rfl rfl 10 (by decide) (hts (.fieldLink RX8 85 "MillTalkModel" "place" "I") (by decide +kernel)) (fun _ h9 => h9) rfl dX8_nextToken_120 ?_
  refine lv_aload_n hx hb dX8_nextToken_123 rfl (lv_at hl 0 rfl) ?_
  refine va_get (D := (dC, dI)) (ci := 8) (v := .int 0) (C := RX8) (T := TX8) (N := 24) hx hb hts i_X8_nextToken_X8 hown hK hP 0 rfl rfl 13 (by decide) (hts (.fieldLink RX8 88 "MillTalkModel" "begins" "I") (by decide +kernel)) (fun _ h9 => h9) rfl dX8_nextToken_124 ?_
  refine lv_icmp_le (tgt := 155) hx hb dX8_nextToken_127 (by decide) (fun _ => ?_) (fun c_ => absurd (by decide) c_)
  refine lv_aload_n hx hb dX8_nextToken_155 rfl (lv_at hl 0 rfl) ?_
  refine va_get (D := (dC, dI)) (ci := 8) (v := .int 3) (C := RX8) (T := TX8) (N := 24) hx hb hts i_X8_nextToken_X8 hown hK hP 0 rfl rfl 11 (by decide) (hts (.fieldLink RX8 91 "MillTalkModel" "token" "I") (by decide +kernel)) (fun _ h9 => h9) rfl dX8_nextToken_156 ?_
  refine lv_if_ne (tgt := 229) hx hb dX8_nextToken_159 (by decide) (fun _ => ?_) (fun c_ => absurd c_ (by decide))
  have hP9 := hP.sub (ws' := [(mo, .inr (8, [.ref m_la, .ref m_sz, .ref m_it, .int 0, .int 0, .ref m_st, .ref m_mv, .ref m_tp, .int 0, .int 0, .int 0, .int 3, .int 0, .int 0, .int 0, .ref m_rd, .ref m_ac, .int 0, .ref m_as, .ref m_wo, .ref m_ik, .ref m_ke, .ref m_tr, .int 0]))]) [0] rfl
  have hD9 := hD.sub (ws' := [(mo, .inr (8, [.ref m_la, .ref m_sz, .ref m_it, .int 0, .int 0, .ref m_st, .ref m_mv, .ref m_tp, .int 0, .int 0, .int 0, .int 3, .int 0, .int 0, .int 0, .ref m_rd, .ref m_ac, .int 0, .ref m_as, .ref m_wo, .ref m_ik, .ref m_ke, .ref m_tr, .int 0]))]) [0] (by decide) rfl
  exact W.vret hx hb hr (fun t ht hW => ⟨⟨(), rfl, trivial, ⟨by rw [ht]; exact hP9, hD9⟩⟩, hS.F ht⟩) hS.2.2 dX8_nextToken_229
set_option maxHeartbeats 4000000 in
set_option maxRecDepth 100000 in
theorem c_X8_takes (l : Launch) (dC : Nat → ClassId) (dI : Nat → Nat → Nat) (cI cZ cL cJ : ClassId) (sz : Nat) (mo : Nat) (m_la : Nat) (m_sz : Nat) (m_it : Nat) (m_st : Nat) (m_mv : Nat) (m_tp : Nat) (m_rd : Nat) (m_ac : Nat) (m_as : Nat) (m_wo : Nat) (m_ik : Nat) (m_ke : Nat) (m_tr : Nat) (n : Int32)  : Met l yX8_takes wsX8_takes ({ frames := 1, cells := 0, slots := 0, locals := 21 }) (va_Pc [.ref mo, .int n] (fun U => U.heap.size = sz ∧ va_P (dC, dI) vwCl [(mo, .inr (8, [.ref m_la, .ref m_sz, .ref m_it, .int 0, .int 0, .ref m_st, .ref m_mv, .ref m_tp, .int 0, .int 0, .int 0, .int 3, .int 0, .int 0, .int 0, .ref m_rd, .ref m_ac, .int 0, .ref m_as, .ref m_wo, .ref m_ik, .ref m_ke, .ref m_tr, .int 0]))] U.heap ∧ va_K (dC, dI) vwCl [(cI, .int), (cZ, .boolean), (cL, .object RX3), (cJ, .array .int)] U ∧ va_D (fun _ => True) [(mo, .inr (8, [.ref m_la, .ref m_sz, .ref m_it, .int 0, .int 0, .ref m_st, .ref m_mv, .ref m_tp, .int 0, .int 0, .int 0, .int 3, .int 0, .int 0, .int 0, .ref m_rd, .ref m_ac, .int 0, .ref m_as, .ref m_wo, .ref m_ik, .ref m_ke, .ref m_tr, .int 0]))])) (va_Qi (fun r (_ : Unit) => r = 0) (fun (_ : Unit) t => va_P (dC, dI) vwCl [(mo, .inr (8, [.ref m_la, .ref m_sz, .ref m_it, .int 0, .int 0, .ref m_st, .ref m_mv, .ref m_tp, .int 0, .int 0, .int 0, .int 3, .int 0, .int 0, .int 1, .ref m_rd, .ref m_ac, .int 0, .ref m_as, .ref m_wo, .ref m_ik, .ref m_ke, .ref m_tr, .int 0]))] t.heap ∧ va_D (va_A [(mo, .inr (8, [.ref m_la, .ref m_sz, .ref m_it, .int 0, .int 0, .ref m_st, .ref m_mv, .ref m_tp, .int 0, .int 0, .int 0, .int 3, .int 0, .int 0, .int 0, .ref m_rd, .ref m_ac, .int 0, .ref m_as, .ref m_wo, .ref m_ik, .ref m_ke, .ref m_tr, .int 0]))] sz) [(mo, .inr (8, [.ref m_la, .ref m_sz, .ref m_it, .int 0, .int 0, .ref m_st, .ref m_mv, .ref m_tp, .int 0, .int 0, .int 0, .int 3, .int 0, .int 0, .int 1, .ref m_rd, .ref m_ac, .int 0, .ref m_as, .ref m_wo, .ref m_ik, .ref m_ke, .ref m_tr, .int 0]))]) (va_A [(mo, .inr (8, [.ref m_la, .ref m_sz, .ref m_it, .int 0, .int 0, .ref m_st, .ref m_mv, .ref m_tp, .int 0, .int 0, .int 0, .int 3, .int 0, .int 0, .int 0, .ref m_rd, .ref m_ac, .int 0, .ref m_as, .ref m_wo, .ref m_ik, .ref m_ke, .ref m_tr, .int 0]))] sz)) 0 0 (va_A [(mo, .inr (8, [.ref m_la, .ref m_sz, .ref m_it, .int 0, .int 0, .ref m_st, .ref m_mv, .ref m_tp, .int 0, .int 0, .int 0, .int 3, .int 0, .int 0, .int 0, .ref m_rd, .ref m_ac, .int 0, .ref m_as, .ref m_wo, .ref m_ik, .ref m_ke, .ref m_tr, .int 0]))] sz) := by
  refine Met.ofW (cc := cX8_takes) (maxL := 2) (ret := (some .boolean)) (by decide) rfl ?_
  intro p e s m args below meth c s₁ B hml hv
  obtain ⟨rfl, hsz, hP, hK, hD0⟩ := hv
  have hx := B.exec
  have hb := B.bytes
  have hr := B.returns
  have hts := atoms_spec (ws := wsX8_takes) B.pre
  have hown : s.vm.findClass RX8 = some m.cls := findClass_of_methodNamed B.named
  have hlocks := B.notSynchronized
  subst hsz
  have hD := hD0.self (sz := s.heap.size)
  generalize hAe : va_A [(mo, .inr (8, [.ref m_la, .ref m_sz, .ref m_it, .int 0, .int 0, .ref m_st, .ref m_mv, .ref m_tp, .int 0, .int 0, .int 0, .int 3, .int 0, .int 0, .int 0, .ref m_rd, .ref m_ac, .int 0, .ref m_as, .ref m_wo, .ref m_ik, .ref m_ke, .ref m_tr, .int 0]))] s.heap.size = A at hD ⊢
  have hA : ∀ q : Nat, s.heap.size ≤ q → A q := fun q h => by rw [← hAe]; exact Or.inr h
  have hS : va_S A s.heap s.heap [] := va_S.rf
  have hP : va_P (dC, dI) vwCl [(mo, .inr (8, [.ref m_la, .ref m_sz, .ref m_it, .int 0, .int 0, .ref m_st, .ref m_mv, .ref m_tp, .int 0, .int 0, .int 0, .int 3, .int 0, .int 0, .int 0, .ref m_rd, .ref m_ac, .int 0, .ref m_as, .ref m_wo, .ref m_ik, .ref m_ke, .ref m_tr, .int 0]))] s.heap := hP
  have hl := lv_entry ([.ref mo, .int n]) (n := 2) (Nat.le_of_ble_eq_true rfl)
  rw [lg_entry_eq]
  generalize (lg_sl ([.ref mo, .int n]) ++ List.replicate (2 - (lg_sl ([.ref mo, .int n])).length) Slot.unset).toArray = ls at hl ⊢
  have hl : lv_has ls 2 [(0, .ref mo), (1, .int n)] := hl
  refine lv_aload_n hx hb dX8_takes_0 rfl (lv_at hl 0 rfl) ?_
  refine va_get (D := (dC, dI)) (ci := 8) (v := .int 3) (C := RX8) (T := TX8) (N := 24) hx hb hts i_X8_takes_X8 hown hK hP 0 rfl rfl 11 (by decide) (hts (.fieldLink RX8 91 "MillTalkModel" "token" "I") (by decide +kernel)) (fun _ h9 => h9) rfl dX8_takes_1 ?_
  refine lv_iconst (v := 1) hx hb dX8_takes_4 (by decide) ?_
  refine lv_icmp_ne (tgt := 16) hx hb dX8_takes_5 (by decide) (fun _ => ?_) (fun c_ => absurd c_ (by decide))
  refine lv_aload_n hx hb dX8_takes_16 rfl (lv_at hl 0 rfl) ?_
  refine lv_iconst (v := 1) hx hb dX8_takes_17 (by decide) ?_
  have hPc_2 := hP.sub (ws' := [(mo, .inr (8, [.ref m_la, .ref m_sz, .ref m_it, .int 0, .int 0, .ref m_st, .ref m_mv, .ref m_tp, .int 0, .int 0, .int 0, .int 3, .int 0, .int 0, .int 0, .ref m_rd, .ref m_ac, .int 0, .ref m_as, .ref m_wo, .ref m_ik, .ref m_ke, .ref m_tr, .int 0]))]) [0] rfl
  have hDc_2 := hD.sub (ws' := [(mo, .inr (8, [.ref m_la, .ref m_sz, .ref m_it, .int 0, .int 0, .ref m_st, .ref m_mv, .ref m_tp, .int 0, .int 0, .int 0, .int 3, .int 0, .int 0, .int 0, .ref m_rd, .ref m_ac, .int 0, .ref m_as, .ref m_wo, .ref m_ik, .ref m_ke, .ref m_tr, .int 0]))]) [0] (by decide) rfl
  have hFc_2 := va_free (wc := [(mo, .inr (8, [.ref m_la, .ref m_sz, .ref m_it, .int 0, .int 0, .ref m_st, .ref m_mv, .ref m_tp, .int 0, .int 0, .int 0, .int 3, .int 0, .int 0, .int 0, .ref m_rd, .ref m_ac, .int 0, .ref m_as, .ref m_wo, .ref m_ik, .ref m_ke, .ref m_tr, .int 0]))]) hD hS hA [0] rfl
  refine va_calli (va_runV (As := [.int 1]) (rest := []) ⟨hx, hb, hml, hown, hts⟩ (c_X8_faults l dC dI cI cZ cL cJ s.heap.size mo m_la m_sz m_it m_st m_mv m_tp m_rd m_ac m_as m_wo m_ik m_ke m_tr 1 3 ) (cwV 1 hts gX8_takes_X8_faults rfl rfl rfl (by decide +kernel) ⟨Nat.le_of_ble_eq_true rfl, Nat.le_of_ble_eq_true rfl⟩) ⟨fun a U g mk q => by obtain ⟨q0, q1, qP, qK, qD⟩ := q; exact ⟨q0, q1, qP, va_K.moved (u := U) (U := U.calling g mk a) (Vm.Alike.refl U.vm) qK, qD⟩, va_recv hK hP (ci := 8) (q0 := 0) rfl rfl, fun U hU hW => ⟨rfl, by rw [hU], by rw [hU]; exact hPc_2, va_K.moved hW.alike hK, hDc_2.weaken (fun _ _ _ _ => trivial)⟩⟩ rfl rfl hl.1 rfl (lv_room (Nat.le_of_ble_eq_true rfl)) dX8_takes_18 ⟨Nat.le_of_ble_eq_true rfl, Nat.le_of_ble_eq_true rfl⟩) hS (fun q _ h => hFc_2 q h) hFc_2 (fun r_2 u_2 t_2 H1 locs ht hvm h_2 hB hz1 hk1 hS => ?_)
  obtain ⟨hP1, hD1⟩ := hB
  rw [ht] at hP1
  obtain ⟨hP, hD⟩ := va_join (wr := []) (w1 := [(mo, .inr (8, [.ref m_la, .ref m_sz, .ref m_it, .int 0, .int 0, .ref m_st, .ref m_mv, .ref m_tp, .int 0, .int 0, .int 0, .int 3, .int 0, .int 0, .int 1, .ref m_rd, .ref m_ac, .int 0, .ref m_as, .ref m_wo, .ref m_ik, .ref m_ke, .ref m_tr, .int 0]))]) hP hD [0] [] rfl rfl (by decide) (by decide) hk1 hFc_2 hP1 hD1
  generalize H1 = H at hP hS ⊢
  have hP : va_P (dC, dI) vwCl [(mo, .inr (8, [.ref m_la, .ref m_sz, .ref m_it, .int 0, .int 0, .ref m_st, .ref m_mv, .ref m_tp, .int 0, .int 0, .int 0, .int 3, .int 0, .int 0, .int 1, .ref m_rd, .ref m_ac, .int 0, .ref m_as, .ref m_wo, .ref m_ik, .ref m_ke, .ref m_tr, .int 0]))] H := hP
  have hD : va_D A [(mo, .inr (8, [.ref m_la, .ref m_sz, .ref m_it, .int 0, .int 0, .ref m_st, .ref m_mv, .ref m_tp, .int 0, .int 0, .int 0, .int 3, .int 0, .int 0, .int 1, .ref m_rd, .ref m_ac, .int 0, .ref m_as, .ref m_wo, .ref m_ik, .ref m_ke, .ref m_tr, .int 0]))] := hD
  subst h_2
  have hP9 := hP.sub (ws' := [(mo, .inr (8, [.ref m_la, .ref m_sz, .ref m_it, .int 0, .int 0, .ref m_st, .ref m_mv, .ref m_tp, .int 0, .int 0, .int 0, .int 3, .int 0, .int 0, .int 1, .ref m_rd, .ref m_ac, .int 0, .ref m_as, .ref m_wo, .ref m_ik, .ref m_ke, .ref m_tr, .int 0]))]) [0] rfl
  have hD9 := hD.sub (ws' := [(mo, .inr (8, [.ref m_la, .ref m_sz, .ref m_it, .int 0, .int 0, .ref m_st, .ref m_mv, .ref m_tp, .int 0, .int 0, .int 0, .int 3, .int 0, .int 0, .int 1, .ref m_rd, .ref m_ac, .int 0, .ref m_as, .ref m_wo, .ref m_ik, .ref m_ke, .ref m_tr, .int 0]))]) [0] (by decide) rfl
  exact W.zret (v := 0) hx hb hr (by decide) (fun t ht hW => ⟨⟨0, (), rfl, rfl, ⟨by rw [ht]; exact hP9, hD9⟩⟩, hS.F ht⟩) hS.2.2 dX8_takes_21
set_option maxHeartbeats 4000000 in
set_option maxRecDepth 100000 in
theorem c_X8_readLevel (l : Launch) (dC : Nat → ClassId) (dI : Nat → Nat → Nat) (cI cZ cL cJ : ClassId) (sz : Nat) (mo : Nat) (m_la : Nat) (m_sz : Nat) (m_it : Nat) (m_st : Nat) (m_mv : Nat) (m_tp : Nat) (m_rd : Nat) (m_ac : Nat) (m_as : Nat) (m_wo : Nat) (m_ik : Nat) (m_ke : Nat) (m_tr : Nat) (fr : Nat → Int32)  : Met l yX8_readLevel wsX8_readLevel ({ frames := 2, cells := 0, slots := 0, locals := 42 }) (va_Pc [.ref mo] (fun U => U.heap.size = sz ∧ va_P (dC, dI) vwCl [(mo, .inr (8, [.ref m_la, .ref m_sz, .ref m_it, .int 0, .int 0, .ref m_st, .ref m_mv, .ref m_tp, .int 0, .int 0, .int 0, .int 0, .int 0, .int 0, .int 0, .ref m_rd, .ref m_ac, .int 0, .ref m_as, .ref m_wo, .ref m_ik, .ref m_ke, .ref m_tr, .int 0])), (m_rd, .inl (cI, 38, .inl fr))] U.heap ∧ va_K (dC, dI) vwCl [(cI, .int), (cZ, .boolean), (cL, .object RX3), (cJ, .array .int)] U ∧ va_D (fun _ => True) [(mo, .inr (8, [.ref m_la, .ref m_sz, .ref m_it, .int 0, .int 0, .ref m_st, .ref m_mv, .ref m_tp, .int 0, .int 0, .int 0, .int 0, .int 0, .int 0, .int 0, .ref m_rd, .ref m_ac, .int 0, .ref m_as, .ref m_wo, .ref m_ik, .ref m_ke, .ref m_tr, .int 0])), (m_rd, .inl (cI, 38, .inl fr))])) (va_Qi (fun r (_ : Unit) => r = 0) (fun (_ : Unit) t => va_P (dC, dI) vwCl [(mo, .inr (8, [.ref m_la, .ref m_sz, .ref m_it, .int 0, .int 0, .ref m_st, .ref m_mv, .ref m_tp, .int 0, .int 0, .int 0, .int 3, .int 0, .int 0, .int 1, .ref m_rd, .ref m_ac, .int 0, .ref m_as, .ref m_wo, .ref m_ik, .ref m_ke, .ref m_tr, .int 0]))] t.heap ∧ va_D (va_A [(mo, .inr (8, [.ref m_la, .ref m_sz, .ref m_it, .int 0, .int 0, .ref m_st, .ref m_mv, .ref m_tp, .int 0, .int 0, .int 0, .int 0, .int 0, .int 0, .int 0, .ref m_rd, .ref m_ac, .int 0, .ref m_as, .ref m_wo, .ref m_ik, .ref m_ke, .ref m_tr, .int 0])), (m_rd, .inl (cI, 38, .inl fr))] sz) [(mo, .inr (8, [.ref m_la, .ref m_sz, .ref m_it, .int 0, .int 0, .ref m_st, .ref m_mv, .ref m_tp, .int 0, .int 0, .int 0, .int 3, .int 0, .int 0, .int 1, .ref m_rd, .ref m_ac, .int 0, .ref m_as, .ref m_wo, .ref m_ik, .ref m_ke, .ref m_tr, .int 0]))]) (va_A [(mo, .inr (8, [.ref m_la, .ref m_sz, .ref m_it, .int 0, .int 0, .ref m_st, .ref m_mv, .ref m_tp, .int 0, .int 0, .int 0, .int 0, .int 0, .int 0, .int 0, .ref m_rd, .ref m_ac, .int 0, .ref m_as, .ref m_wo, .ref m_ik, .ref m_ke, .ref m_tr, .int 0])), (m_rd, .inl (cI, 38, .inl fr))] sz)) 0 0 (va_A [(mo, .inr (8, [.ref m_la, .ref m_sz, .ref m_it, .int 0, .int 0, .ref m_st, .ref m_mv, .ref m_tp, .int 0, .int 0, .int 0, .int 0, .int 0, .int 0, .int 0, .ref m_rd, .ref m_ac, .int 0, .ref m_as, .ref m_wo, .ref m_ik, .ref m_ke, .ref m_tr, .int 0])), (m_rd, .inl (cI, 38, .inl fr))] sz) := by
  refine Met.ofW (cc := cX8_readLevel) (maxL := 2) (ret := (some .boolean)) (by decide) rfl ?_
  intro p e s m args below meth c s₁ B hml hv
  obtain ⟨rfl, hsz, hP, hK, hD0⟩ := hv
  have hx := B.exec
  have hb := B.bytes
  have hr := B.returns
  have hts := atoms_spec (ws := wsX8_readLevel) B.pre
  have hown : s.vm.findClass RX8 = some m.cls := findClass_of_methodNamed B.named
  have hlocks := B.notSynchronized
  subst hsz
  have hD := hD0.self (sz := s.heap.size)
  generalize hAe : va_A [(mo, .inr (8, [.ref m_la, .ref m_sz, .ref m_it, .int 0, .int 0, .ref m_st, .ref m_mv, .ref m_tp, .int 0, .int 0, .int 0, .int 0, .int 0, .int 0, .int 0, .ref m_rd, .ref m_ac, .int 0, .ref m_as, .ref m_wo, .ref m_ik, .ref m_ke, .ref m_tr, .int 0])), (m_rd, .inl (cI, 38, .inl fr))] s.heap.size = A at hD ⊢
  have hA : ∀ q : Nat, s.heap.size ≤ q → A q := fun q h => by rw [← hAe]; exact Or.inr h
  have hS : va_S A s.heap s.heap [] := va_S.rf
  have hP : va_P (dC, dI) vwCl [(mo, .inr (8, [.ref m_la, .ref m_sz, .ref m_it, .int 0, .int 0, .ref m_st, .ref m_mv, .ref m_tp, .int 0, .int 0, .int 0, .int 0, .int 0, .int 0, .int 0, .ref m_rd, .ref m_ac, .int 0, .ref m_as, .ref m_wo, .ref m_ik, .ref m_ke, .ref m_tr, .int 0])), (m_rd, .inl (cI, 38, .inl fr))] s.heap := hP
  have hl := lv_entry ([.ref mo]) (n := 2) (Nat.le_of_ble_eq_true rfl)
  rw [lg_entry_eq]
  generalize (lg_sl ([.ref mo]) ++ List.replicate (2 - (lg_sl ([.ref mo])).length) Slot.unset).toArray = ls at hl ⊢
  have hl : lv_has ls 2 [(0, .ref mo)] := hl
  refine lv_aload_n hx hb dX8_readLevel_0 rfl (lv_at hl 0 rfl) ?_
  refine lv_iconst (v := 0) hx hb dX8_readLevel_1 (by decide) ?_
  refine va_put (D := (dC, dI)) (ci := 8) (v := .int 0) (ty := .int) (C := RX8) (T := TX8) (N := 24) hx hb hts i_X8_readLevel_X8 tyX8 tyX8_ok nmX8 hown hK hP hD hS 0 rfl rfl 10 (by decide) (hts (.fieldLink RX8 85 "MillTalkModel" "place" "I") (by decide +kernel)) (fun _ h9 => h9) rfl (by decide +kernel) rfl rfl (Nat.le_of_ble_eq_true rfl) dX8_readLevel_2 (fun H locs hP hD hS => ?_)
  have hP : va_P (dC, dI) vwCl [(mo, .inr (8, [.ref m_la, .ref m_sz, .ref m_it, .int 0, .int 0, .ref m_st, .ref m_mv, .ref m_tp, .int 0, .int 0, .int 0, .int 0, .int 0, .int 0, .int 0, .ref m_rd, .ref m_ac, .int 0, .ref m_as, .ref m_wo, .ref m_ik, .ref m_ke, .ref m_tr, .int 0])), (m_rd, .inl (cI, 38, .inl fr))] H := hP
  have hD : va_D A [(mo, .inr (8, [.ref m_la, .ref m_sz, .ref m_it, .int 0, .int 0, .ref m_st, .ref m_mv, .ref m_tp, .int 0, .int 0, .int 0, .int 0, .int 0, .int 0, .int 0, .ref m_rd, .ref m_ac, .int 0, .ref m_as, .ref m_wo, .ref m_ik, .ref m_ke, .ref m_tr, .int 0])), (m_rd, .inl (cI, 38, .inl fr))] := hD
  refine lv_iconst (v := 0) hx hb dX8_readLevel_5 (by decide) ?_
  refine lv_istore_n (lv' := [(1, .int 0), (0, .ref mo)]) hx hb dX8_readLevel_6 rfl hl (by decide) rfl (fun ls hl => ?_)
  have hP := hP.sub (ws' := [(mo, .inr (8, [.ref m_la, .ref m_sz, .ref m_it, .int 0, .int 0, .ref m_st, .ref m_mv, .ref m_tp, .int 0, .int 0, .int 0, .int 0, .int 0, .int 0, .int 0, .ref m_rd, .ref m_ac, .int 0, .ref m_as, .ref m_wo, .ref m_ik, .ref m_ke, .ref m_tr, .int 0])), (m_rd, .inl (cI, 38, .inl fr))]) [0, 1] rfl
  have hD := hD.sub (ws' := [(mo, .inr (8, [.ref m_la, .ref m_sz, .ref m_it, .int 0, .int 0, .ref m_st, .ref m_mv, .ref m_tp, .int 0, .int 0, .int 0, .int 0, .int 0, .int 0, .int 0, .ref m_rd, .ref m_ac, .int 0, .ref m_as, .ref m_wo, .ref m_ik, .ref m_ke, .ref m_tr, .int 0])), (m_rd, .inl (cI, 38, .inl fr))]) [0, 1] (by decide) rfl
  refine lp_go (σ := Nat → Int32) (fun i ff H locs ls => va_P (dC, dI) vwCl [(mo, .inr (8, [.ref m_la, .ref m_sz, .ref m_it, .int 0, .int 0, .ref m_st, .ref m_mv, .ref m_tp, .int 0, .int 0, .int 0, .int 0, .int 0, .int 0, .int 0, .ref m_rd, .ref m_ac, .int 0, .ref m_as, .ref m_wo, .ref m_ik, .ref m_ke, .ref m_tr, .int 0])), (m_rd, .inl (cI, 38, .inl ff))] H ∧ va_D A [(mo, .inr (8, [.ref m_la, .ref m_sz, .ref m_it, .int 0, .int 0, .ref m_st, .ref m_mv, .ref m_tp, .int 0, .int 0, .int 0, .int 0, .int 0, .int 0, .int 0, .ref m_rd, .ref m_ac, .int 0, .ref m_as, .ref m_wo, .ref m_ik, .ref m_ke, .ref m_tr, .int 0])), (m_rd, .inl (cI, 38, .inl ff))] ∧ va_S A s.heap H locs ∧ lv_has ls 2 [(1, .int (nI i)), (0, .ref mo)]) 38 ?_ ?_ 0 (Nat.zero_le _) fr ⟨hP, hD, hS, hl⟩
  · rintro i ff H locs ls hi ⟨hP, hD, hS, hl⟩ ih
    refine lv_iload_n hx hb dX8_readLevel_7 rfl (lv_at hl 0 rfl) ?_
    refine lv_bipush (v := 38) hx hb dX8_readLevel_8 (by decide) ?_
    refine lv_icmp_ge (tgt := 26) hx hb dX8_readLevel_10 (by decide) (fun c_ => absurd c_ (nI_ge hi (by decide))) (fun _ => ?_)
    refine lv_aload_n hx hb dX8_readLevel_13 rfl (lv_at hl 1 rfl) ?_
    refine va_get (D := (dC, dI)) (ci := 8) (v := .ref m_rd) (C := RX8) (T := TX8) (N := 24) hx hb hts i_X8_readLevel_X8 hown hK hP 0 rfl rfl 15 (by decide) (hts (.fieldLink RX8 28 "MillTalkModel" "read" "[I") (by decide +kernel)) (fun _ h9 => h9) rfl dX8_readLevel_14 ?_
    refine lv_iload_n hx hb dX8_readLevel_17 rfl (lv_at hl 0 rfl) ?_
    refine lv_iconst (v := 0) hx hb dX8_readLevel_18 (by decide) ?_
    refine va_iast hx hb hK hP hD hS 1 0 rfl rfl (vp_in_nI hi (by decide)) dX8_readLevel_19 (fun H locs hP hD hS => ?_)
    generalize hg_2 : upd ff ((nI i) : Int32).toNatClampNeg 0 = g_2 at hP hD
    have hP : va_P (dC, dI) vwCl [(mo, .inr (8, [.ref m_la, .ref m_sz, .ref m_it, .int 0, .int 0, .ref m_st, .ref m_mv, .ref m_tp, .int 0, .int 0, .int 0, .int 0, .int 0, .int 0, .int 0, .ref m_rd, .ref m_ac, .int 0, .ref m_as, .ref m_wo, .ref m_ik, .ref m_ke, .ref m_tr, .int 0])), (m_rd, .inl (cI, 38, .inl g_2))] H := hP
    have hD : va_D A [(mo, .inr (8, [.ref m_la, .ref m_sz, .ref m_it, .int 0, .int 0, .ref m_st, .ref m_mv, .ref m_tp, .int 0, .int 0, .int 0, .int 0, .int 0, .int 0, .int 0, .ref m_rd, .ref m_ac, .int 0, .ref m_as, .ref m_wo, .ref m_ik, .ref m_ke, .ref m_tr, .int 0])), (m_rd, .inl (cI, 38, .inl g_2))] := hD
    refine lv_iinc (v := (nI (i + 1))) (lv' := [(1, .int (nI (i + 1))), (0, .ref mo)]) hx hb dX8_readLevel_20 hl (k := 0) rfl (nI_1 i) (by decide) rfl (fun ls hl => ?_)
    refine lv_goto (tgt := 7) hx hb dX8_readLevel_23 (by decide) ?_
    exact ih g_2 H locs ls ⟨hP.sub (ws' := [(mo, .inr (8, [.ref m_la, .ref m_sz, .ref m_it, .int 0, .int 0, .ref m_st, .ref m_mv, .ref m_tp, .int 0, .int 0, .int 0, .int 0, .int 0, .int 0, .int 0, .ref m_rd, .ref m_ac, .int 0, .ref m_as, .ref m_wo, .ref m_ik, .ref m_ke, .ref m_tr, .int 0])), (m_rd, .inl (cI, 38, .inl g_2))]) [0, 1] rfl, hD.sub (ws' := [(mo, .inr (8, [.ref m_la, .ref m_sz, .ref m_it, .int 0, .int 0, .ref m_st, .ref m_mv, .ref m_tp, .int 0, .int 0, .int 0, .int 0, .int 0, .int 0, .int 0, .ref m_rd, .ref m_ac, .int 0, .ref m_as, .ref m_wo, .ref m_ik, .ref m_ke, .ref m_tr, .int 0])), (m_rd, .inl (cI, 38, .inl g_2))]) [0, 1] (by decide) rfl, hS, lv_sub hl [0, 1] rfl⟩
  · rintro ff H locs ls ⟨hP, hD, hS, hl⟩
    refine lv_iload_n hx hb dX8_readLevel_7 rfl (lv_at hl 0 rfl) ?_
    refine lv_bipush (v := 38) hx hb dX8_readLevel_8 (by decide) ?_
    refine lv_icmp_ge (tgt := 26) hx hb dX8_readLevel_10 (by decide) (fun _ => ?_) (fun c_ => absurd (nI_le (Nat.le_refl 38) (by decide)) c_)
    refine lv_aload_n hx hb dX8_readLevel_26 rfl (lv_at hl 1 rfl) ?_
    refine va_get (D := (dC, dI)) (ci := 8) (v := .ref m_rd) (C := RX8) (T := TX8) (N := 24) hx hb hts i_X8_readLevel_X8 hown hK hP 0 rfl rfl 15 (by decide) (hts (.fieldLink RX8 28 "MillTalkModel" "read" "[I") (by decide +kernel)) (fun _ h9 => h9) rfl dX8_readLevel_27 ?_
    refine lv_bipush (v := 6) hx hb dX8_readLevel_30 (by decide) ?_
    refine lv_iconst (v := 1) hx hb dX8_readLevel_32 (by decide) ?_
    refine va_iast hx hb hK hP hD hS 1 0 rfl rfl (by unfold vp_in; decide) dX8_readLevel_33 (fun H locs hP hD hS => ?_)
    generalize hg_4 : upd ff (6 : Int32).toNatClampNeg 1 = g_4 at hP hD
    have hP : va_P (dC, dI) vwCl [(mo, .inr (8, [.ref m_la, .ref m_sz, .ref m_it, .int 0, .int 0, .ref m_st, .ref m_mv, .ref m_tp, .int 0, .int 0, .int 0, .int 0, .int 0, .int 0, .int 0, .ref m_rd, .ref m_ac, .int 0, .ref m_as, .ref m_wo, .ref m_ik, .ref m_ke, .ref m_tr, .int 0])), (m_rd, .inl (cI, 38, .inl g_4))] H := hP
    have hD : va_D A [(mo, .inr (8, [.ref m_la, .ref m_sz, .ref m_it, .int 0, .int 0, .ref m_st, .ref m_mv, .ref m_tp, .int 0, .int 0, .int 0, .int 0, .int 0, .int 0, .int 0, .ref m_rd, .ref m_ac, .int 0, .ref m_as, .ref m_wo, .ref m_ik, .ref m_ke, .ref m_tr, .int 0])), (m_rd, .inl (cI, 38, .inl g_4))] := hD
    refine lv_aload_n hx hb dX8_readLevel_34 rfl (lv_at hl 1 rfl) ?_
    have hPc_5 := hP.sub (ws' := [(mo, .inr (8, [.ref m_la, .ref m_sz, .ref m_it, .int 0, .int 0, .ref m_st, .ref m_mv, .ref m_tp, .int 0, .int 0, .int 0, .int 0, .int 0, .int 0, .int 0, .ref m_rd, .ref m_ac, .int 0, .ref m_as, .ref m_wo, .ref m_ik, .ref m_ke, .ref m_tr, .int 0]))]) [0] rfl
    have hDc_5 := hD.sub (ws' := [(mo, .inr (8, [.ref m_la, .ref m_sz, .ref m_it, .int 0, .int 0, .ref m_st, .ref m_mv, .ref m_tp, .int 0, .int 0, .int 0, .int 0, .int 0, .int 0, .int 0, .ref m_rd, .ref m_ac, .int 0, .ref m_as, .ref m_wo, .ref m_ik, .ref m_ke, .ref m_tr, .int 0]))]) [0] (by decide) rfl
    have hFc_5 := va_free (wc := [(mo, .inr (8, [.ref m_la, .ref m_sz, .ref m_it, .int 0, .int 0, .ref m_st, .ref m_mv, .ref m_tp, .int 0, .int 0, .int 0, .int 0, .int 0, .int 0, .int 0, .ref m_rd, .ref m_ac, .int 0, .ref m_as, .ref m_wo, .ref m_ik, .ref m_ke, .ref m_tr, .int 0]))]) hD hS hA [0] rfl
    refine va_callv (va_runV (As := []) (rest := []) ⟨hx, hb, hml, hown, hts⟩ (c_X8_nextToken l dC dI cI cZ cL cJ H.size mo m_la m_sz m_it m_st m_mv m_tp m_rd m_ac m_as m_wo m_ik m_ke m_tr ) (cwV 0 hts gX8_readLevel_X8_nextToken rfl rfl rfl (by decide +kernel) ⟨Nat.le_of_ble_eq_true rfl, Nat.le_of_ble_eq_true rfl⟩) ⟨fun a U g mk q => by obtain ⟨q0, q1, qP, qK, qD⟩ := q; exact ⟨q0, q1, qP, va_K.moved (u := U) (U := U.calling g mk a) (Vm.Alike.refl U.vm) qK, qD⟩, va_recv hK hP (ci := 8) (q0 := 0) rfl rfl, fun U hU hW => ⟨rfl, by rw [hU], by rw [hU]; exact hPc_5, va_K.moved hW.alike hK, hDc_5.weaken (fun _ _ _ _ => trivial)⟩⟩ rfl rfl hl.1 rfl (lv_room (Nat.le_of_ble_eq_true rfl)) dX8_readLevel_35 ⟨Nat.le_of_ble_eq_true rfl, Nat.le_of_ble_eq_true rfl⟩) hS (fun q _ h => hFc_5 q h) hFc_5 (fun u_5 t_5 H1 locs ht hvm h_5 hB hz1 hk1 hS => ?_)
    obtain ⟨hP1, hD1⟩ := hB
    rw [ht] at hP1
    obtain ⟨hP, hD⟩ := va_join (wr := [(m_rd, .inl (cI, 38, .inl g_4))]) (w1 := [(mo, .inr (8, [.ref m_la, .ref m_sz, .ref m_it, .int 0, .int 0, .ref m_st, .ref m_mv, .ref m_tp, .int 0, .int 0, .int 0, .int 3, .int 0, .int 0, .int 0, .ref m_rd, .ref m_ac, .int 0, .ref m_as, .ref m_wo, .ref m_ik, .ref m_ke, .ref m_tr, .int 0]))]) hP hD [0] [1] rfl rfl (by decide) (by decide) hk1 hFc_5 hP1 hD1
    generalize H1 = H at hP hS ⊢
    have hP : va_P (dC, dI) vwCl [(m_rd, .inl (cI, 38, .inl g_4)), (mo, .inr (8, [.ref m_la, .ref m_sz, .ref m_it, .int 0, .int 0, .ref m_st, .ref m_mv, .ref m_tp, .int 0, .int 0, .int 0, .int 3, .int 0, .int 0, .int 0, .ref m_rd, .ref m_ac, .int 0, .ref m_as, .ref m_wo, .ref m_ik, .ref m_ke, .ref m_tr, .int 0]))] H := hP
    have hD : va_D A [(m_rd, .inl (cI, 38, .inl g_4)), (mo, .inr (8, [.ref m_la, .ref m_sz, .ref m_it, .int 0, .int 0, .ref m_st, .ref m_mv, .ref m_tp, .int 0, .int 0, .int 0, .int 3, .int 0, .int 0, .int 0, .ref m_rd, .ref m_ac, .int 0, .ref m_as, .ref m_wo, .ref m_ik, .ref m_ke, .ref m_tr, .int 0]))] := hD
    refine lv_aload_n hx hb dX8_readLevel_38 rfl (lv_at hl 1 rfl) ?_
    refine lv_bipush (v := 109) hx hb dX8_readLevel_39 (by decide) ?_
    have hPc_6 := hP.sub (ws' := [(mo, .inr (8, [.ref m_la, .ref m_sz, .ref m_it, .int 0, .int 0, .ref m_st, .ref m_mv, .ref m_tp, .int 0, .int 0, .int 0, .int 3, .int 0, .int 0, .int 0, .ref m_rd, .ref m_ac, .int 0, .ref m_as, .ref m_wo, .ref m_ik, .ref m_ke, .ref m_tr, .int 0]))]) [1] rfl
    have hDc_6 := hD.sub (ws' := [(mo, .inr (8, [.ref m_la, .ref m_sz, .ref m_it, .int 0, .int 0, .ref m_st, .ref m_mv, .ref m_tp, .int 0, .int 0, .int 0, .int 3, .int 0, .int 0, .int 0, .ref m_rd, .ref m_ac, .int 0, .ref m_as, .ref m_wo, .ref m_ik, .ref m_ke, .ref m_tr, .int 0]))]) [1] (by decide) rfl
    have hFc_6 := va_free (wc := [(mo, .inr (8, [.ref m_la, .ref m_sz, .ref m_it, .int 0, .int 0, .ref m_st, .ref m_mv, .ref m_tp, .int 0, .int 0, .int 0, .int 3, .int 0, .int 0, .int 0, .ref m_rd, .ref m_ac, .int 0, .ref m_as, .ref m_wo, .ref m_ik, .ref m_ke, .ref m_tr, .int 0]))]) hD hS hA [1] rfl
    refine va_calli (va_runV (As := [.int 109]) (rest := []) ⟨hx, hb, hml, hown, hts⟩ (c_X8_takes l dC dI cI cZ cL cJ H.size mo m_la m_sz m_it m_st m_mv m_tp m_rd m_ac m_as m_wo m_ik m_ke m_tr 109 ) (cwV 1 hts gX8_readLevel_X8_takes rfl rfl rfl (by decide +kernel) ⟨Nat.le_of_ble_eq_true rfl, Nat.le_of_ble_eq_true rfl⟩) ⟨fun a U g mk q => by obtain ⟨q0, q1, qP, qK, qD⟩ := q; exact ⟨q0, q1, qP, va_K.moved (u := U) (U := U.calling g mk a) (Vm.Alike.refl U.vm) qK, qD⟩, va_recv hK hP (ci := 8) (q0 := 1) rfl rfl, fun U hU hW => ⟨rfl, by rw [hU], by rw [hU]; exact hPc_6, va_K.moved hW.alike hK, hDc_6.weaken (fun _ _ _ _ => trivial)⟩⟩ rfl rfl hl.1 rfl (lv_room (Nat.le_of_ble_eq_true rfl)) dX8_readLevel_41 ⟨Nat.le_of_ble_eq_true rfl, Nat.le_of_ble_eq_true rfl⟩) hS (fun q _ h => hFc_6 q h) hFc_6 (fun r_6 u_6 t_6 H1 locs ht hvm h_6 hB hz1 hk1 hS => ?_)
    obtain ⟨hP1, hD1⟩ := hB
    rw [ht] at hP1
    obtain ⟨hP, hD⟩ := va_join (wr := [(m_rd, .inl (cI, 38, .inl g_4))]) (w1 := [(mo, .inr (8, [.ref m_la, .ref m_sz, .ref m_it, .int 0, .int 0, .ref m_st, .ref m_mv, .ref m_tp, .int 0, .int 0, .int 0, .int 3, .int 0, .int 0, .int 1, .ref m_rd, .ref m_ac, .int 0, .ref m_as, .ref m_wo, .ref m_ik, .ref m_ke, .ref m_tr, .int 0]))]) hP hD [1] [0] rfl rfl (by decide) (by decide) hk1 hFc_6 hP1 hD1
    generalize H1 = H at hP hS ⊢
    have hP : va_P (dC, dI) vwCl [(m_rd, .inl (cI, 38, .inl g_4)), (mo, .inr (8, [.ref m_la, .ref m_sz, .ref m_it, .int 0, .int 0, .ref m_st, .ref m_mv, .ref m_tp, .int 0, .int 0, .int 0, .int 3, .int 0, .int 0, .int 1, .ref m_rd, .ref m_ac, .int 0, .ref m_as, .ref m_wo, .ref m_ik, .ref m_ke, .ref m_tr, .int 0]))] H := hP
    have hD : va_D A [(m_rd, .inl (cI, 38, .inl g_4)), (mo, .inr (8, [.ref m_la, .ref m_sz, .ref m_it, .int 0, .int 0, .ref m_st, .ref m_mv, .ref m_tp, .int 0, .int 0, .int 0, .int 3, .int 0, .int 0, .int 1, .ref m_rd, .ref m_ac, .int 0, .ref m_as, .ref m_wo, .ref m_ik, .ref m_ke, .ref m_tr, .int 0]))] := hD
    subst h_6
    refine lv_if_eq (tgt := 98) hx hb dX8_readLevel_44 (by decide) (fun _ => ?_) (fun c_ => absurd (by decide) c_)
    refine lv_iconst (v := 0) hx hb dX8_readLevel_98 (by decide) ?_
    have hP9 := hP.sub (ws' := [(mo, .inr (8, [.ref m_la, .ref m_sz, .ref m_it, .int 0, .int 0, .ref m_st, .ref m_mv, .ref m_tp, .int 0, .int 0, .int 0, .int 3, .int 0, .int 0, .int 1, .ref m_rd, .ref m_ac, .int 0, .ref m_as, .ref m_wo, .ref m_ik, .ref m_ke, .ref m_tr, .int 0]))]) [1] rfl
    have hD9 := hD.sub (ws' := [(mo, .inr (8, [.ref m_la, .ref m_sz, .ref m_it, .int 0, .int 0, .ref m_st, .ref m_mv, .ref m_tp, .int 0, .int 0, .int 0, .int 3, .int 0, .int 0, .int 1, .ref m_rd, .ref m_ac, .int 0, .ref m_as, .ref m_wo, .ref m_ik, .ref m_ke, .ref m_tr, .int 0]))]) [1] (by decide) rfl
    exact W.zret (v := 0) hx hb hr (by decide) (fun t ht hW => ⟨⟨0, (), rfl, rfl, ⟨by rw [ht]; exact hP9, hD9⟩⟩, hS.F ht⟩) hS.2.2 dX8_readLevel_99
set_option maxHeartbeats 4000000 in
set_option maxRecDepth 100000 in
theorem c_X8_level (l : Launch) (dC : Nat → ClassId) (dI : Nat → Nat → Nat) (cI cZ cL cJ : ClassId) (sz : Nat) (mo : Nat) (m_la : Nat) (m_sz : Nat) (m_it : Nat) (m_st : Nat) (m_mv : Nat) (m_tp : Nat) (m_rd : Nat) (m_ac : Nat) (m_as : Nat) (m_wo : Nat) (m_ik : Nat) (m_ke : Nat) (m_tr : Nat) (fr : Nat → Int32)  : Met l yX8_level wsX8_level ({ frames := 3, cells := 0, slots := 0, locals := 63 }) (va_Pc [.ref mo] (fun U => U.heap.size = sz ∧ va_P (dC, dI) vwCl [(mo, .inr (8, [.ref m_la, .ref m_sz, .ref m_it, .int 0, .int 0, .ref m_st, .ref m_mv, .ref m_tp, .int 0, .int 0, .int 0, .int 0, .int 0, .int 0, .int 0, .ref m_rd, .ref m_ac, .int 0, .ref m_as, .ref m_wo, .ref m_ik, .ref m_ke, .ref m_tr, .int 0])), (m_rd, .inl (cI, 38, .inl fr))] U.heap ∧ va_K (dC, dI) vwCl [(cI, .int), (cZ, .boolean), (cL, .object RX3), (cJ, .array .int)] U ∧ va_D (fun _ => True) [(mo, .inr (8, [.ref m_la, .ref m_sz, .ref m_it, .int 0, .int 0, .ref m_st, .ref m_mv, .ref m_tp, .int 0, .int 0, .int 0, .int 0, .int 0, .int 0, .int 0, .ref m_rd, .ref m_ac, .int 0, .ref m_as, .ref m_wo, .ref m_ik, .ref m_ke, .ref m_tr, .int 0])), (m_rd, .inl (cI, 38, .inl fr))])) (va_Qi (fun r (_ : Unit) => r = (-1000100)) (fun (_ : Unit) t => True) (va_A [(mo, .inr (8, [.ref m_la, .ref m_sz, .ref m_it, .int 0, .int 0, .ref m_st, .ref m_mv, .ref m_tp, .int 0, .int 0, .int 0, .int 0, .int 0, .int 0, .int 0, .ref m_rd, .ref m_ac, .int 0, .ref m_as, .ref m_wo, .ref m_ik, .ref m_ke, .ref m_tr, .int 0])), (m_rd, .inl (cI, 38, .inl fr))] sz)) 0 0 (va_A [(mo, .inr (8, [.ref m_la, .ref m_sz, .ref m_it, .int 0, .int 0, .ref m_st, .ref m_mv, .ref m_tp, .int 0, .int 0, .int 0, .int 0, .int 0, .int 0, .int 0, .ref m_rd, .ref m_ac, .int 0, .ref m_as, .ref m_wo, .ref m_ik, .ref m_ke, .ref m_tr, .int 0])), (m_rd, .inl (cI, 38, .inl fr))] sz) := by
  refine Met.ofW (cc := cX8_level) (maxL := 3) (ret := (some .int)) (by decide) rfl ?_
  intro p e s m args below meth c s₁ B hml hv
  obtain ⟨rfl, hsz, hP, hK, hD0⟩ := hv
  have hx := B.exec
  have hb := B.bytes
  have hr := B.returns
  have hts := atoms_spec (ws := wsX8_level) B.pre
  have hown : s.vm.findClass RX8 = some m.cls := findClass_of_methodNamed B.named
  have hlocks := B.notSynchronized
  subst hsz
  have hD := hD0.self (sz := s.heap.size)
  generalize hAe : va_A [(mo, .inr (8, [.ref m_la, .ref m_sz, .ref m_it, .int 0, .int 0, .ref m_st, .ref m_mv, .ref m_tp, .int 0, .int 0, .int 0, .int 0, .int 0, .int 0, .int 0, .ref m_rd, .ref m_ac, .int 0, .ref m_as, .ref m_wo, .ref m_ik, .ref m_ke, .ref m_tr, .int 0])), (m_rd, .inl (cI, 38, .inl fr))] s.heap.size = A at hD ⊢
  have hA : ∀ q : Nat, s.heap.size ≤ q → A q := fun q h => by rw [← hAe]; exact Or.inr h
  have hS : va_S A s.heap s.heap [] := va_S.rf
  have hP : va_P (dC, dI) vwCl [(mo, .inr (8, [.ref m_la, .ref m_sz, .ref m_it, .int 0, .int 0, .ref m_st, .ref m_mv, .ref m_tp, .int 0, .int 0, .int 0, .int 0, .int 0, .int 0, .int 0, .ref m_rd, .ref m_ac, .int 0, .ref m_as, .ref m_wo, .ref m_ik, .ref m_ke, .ref m_tr, .int 0])), (m_rd, .inl (cI, 38, .inl fr))] s.heap := hP
  have hl := lv_entry ([.ref mo]) (n := 3) (Nat.le_of_ble_eq_true rfl)
  rw [lg_entry_eq]
  generalize (lg_sl ([.ref mo]) ++ List.replicate (3 - (lg_sl ([.ref mo])).length) Slot.unset).toArray = ls at hl ⊢
  have hl : lv_has ls 3 [(0, .ref mo)] := hl
  refine lv_aload_n hx hb dX8_level_0 rfl (lv_at hl 0 rfl) ?_
  have hPc_1 := hP.sub (ws' := [(mo, .inr (8, [.ref m_la, .ref m_sz, .ref m_it, .int 0, .int 0, .ref m_st, .ref m_mv, .ref m_tp, .int 0, .int 0, .int 0, .int 0, .int 0, .int 0, .int 0, .ref m_rd, .ref m_ac, .int 0, .ref m_as, .ref m_wo, .ref m_ik, .ref m_ke, .ref m_tr, .int 0])), (m_rd, .inl (cI, 38, .inl fr))]) [0, 1] rfl
  have hDc_1 := hD.sub (ws' := [(mo, .inr (8, [.ref m_la, .ref m_sz, .ref m_it, .int 0, .int 0, .ref m_st, .ref m_mv, .ref m_tp, .int 0, .int 0, .int 0, .int 0, .int 0, .int 0, .int 0, .ref m_rd, .ref m_ac, .int 0, .ref m_as, .ref m_wo, .ref m_ik, .ref m_ke, .ref m_tr, .int 0])), (m_rd, .inl (cI, 38, .inl fr))]) [0, 1] (by decide) rfl
  have hFc_1 := va_free (wc := [(mo, .inr (8, [.ref m_la, .ref m_sz, .ref m_it, .int 0, .int 0, .ref m_st, .ref m_mv, .ref m_tp, .int 0, .int 0, .int 0, .int 0, .int 0, .int 0, .int 0, .ref m_rd, .ref m_ac, .int 0, .ref m_as, .ref m_wo, .ref m_ik, .ref m_ke, .ref m_tr, .int 0])), (m_rd, .inl (cI, 38, .inl fr))]) hD hS hA [0, 1] rfl
  refine va_calli (va_runV (As := []) (rest := []) ⟨hx, hb, hml, hown, hts⟩ (c_X8_readLevel l dC dI cI cZ cL cJ s.heap.size mo m_la m_sz m_it m_st m_mv m_tp m_rd m_ac m_as m_wo m_ik m_ke m_tr fr ) (cwV 0 hts gX8_level_X8_readLevel rfl rfl rfl (by decide +kernel) ⟨Nat.le_of_ble_eq_true rfl, Nat.le_of_ble_eq_true rfl⟩) ⟨fun a U g mk q => by obtain ⟨q0, q1, qP, qK, qD⟩ := q; exact ⟨q0, q1, qP, va_K.moved (u := U) (U := U.calling g mk a) (Vm.Alike.refl U.vm) qK, qD⟩, va_recv hK hP (ci := 8) (q0 := 0) rfl rfl, fun U hU hW => ⟨rfl, by rw [hU], by rw [hU]; exact hPc_1, va_K.moved hW.alike hK, hDc_1.weaken (fun _ _ _ _ => trivial)⟩⟩ rfl rfl hl.1 rfl (lv_room (Nat.le_of_ble_eq_true rfl)) dX8_level_1 ⟨Nat.le_of_ble_eq_true rfl, Nat.le_of_ble_eq_true rfl⟩) hS (fun q _ h => hFc_1 q h) hFc_1 (fun r_1 u_1 t_1 H1 locs ht hvm h_1 hB hz1 hk1 hS => ?_)
  obtain ⟨hP1, hD1⟩ := hB
  rw [ht] at hP1
  obtain ⟨hP, hD⟩ := va_join (wr := []) (w1 := [(mo, .inr (8, [.ref m_la, .ref m_sz, .ref m_it, .int 0, .int 0, .ref m_st, .ref m_mv, .ref m_tp, .int 0, .int 0, .int 0, .int 3, .int 0, .int 0, .int 1, .ref m_rd, .ref m_ac, .int 0, .ref m_as, .ref m_wo, .ref m_ik, .ref m_ke, .ref m_tr, .int 0]))]) hP hD [0, 1] [] rfl rfl (by decide) (by decide) hk1 hFc_1 hP1 hD1
  generalize H1 = H at hP hS ⊢
  have hP : va_P (dC, dI) vwCl [(mo, .inr (8, [.ref m_la, .ref m_sz, .ref m_it, .int 0, .int 0, .ref m_st, .ref m_mv, .ref m_tp, .int 0, .int 0, .int 0, .int 3, .int 0, .int 0, .int 1, .ref m_rd, .ref m_ac, .int 0, .ref m_as, .ref m_wo, .ref m_ik, .ref m_ke, .ref m_tr, .int 0]))] H := hP
  have hD : va_D A [(mo, .inr (8, [.ref m_la, .ref m_sz, .ref m_it, .int 0, .int 0, .ref m_st, .ref m_mv, .ref m_tp, .int 0, .int 0, .int 0, .int 3, .int 0, .int 0, .int 1, .ref m_rd, .ref m_ac, .int 0, .ref m_as, .ref m_wo, .ref m_ik, .ref m_ke, .ref m_tr, .int 0]))] := hD
  subst h_1
  refine lv_istore_n (lv' := [(1, .int 0), (0, .ref mo)]) hx hb dX8_level_4 rfl hl (by decide) rfl (fun ls hl => ?_)
  refine lv_aload_n hx hb dX8_level_5 rfl (lv_at hl 1 rfl) ?_
  refine lv_iconst (v := 0) hx hb dX8_level_6 (by decide) ?_
  refine va_put (D := (dC, dI)) (ci := 8) (v := .int 0) (ty := .int) (C := RX8) (T := TX8) (N := 24) hx hb hts i_X8_level_X8 tyX8 tyX8_ok nmX8 hown hK hP hD hS 0 rfl rfl 8 (by decide) (hts (.fieldLink RX8 81 "MillTalkModel" "bytes" "I") (by decide +kernel)) (fun _ h9 => h9) rfl (by decide +kernel) rfl rfl (Nat.le_of_ble_eq_true rfl) dX8_level_7 (fun H locs hP hD hS => ?_)
  have hP : va_P (dC, dI) vwCl [(mo, .inr (8, [.ref m_la, .ref m_sz, .ref m_it, .int 0, .int 0, .ref m_st, .ref m_mv, .ref m_tp, .int 0, .int 0, .int 0, .int 3, .int 0, .int 0, .int 1, .ref m_rd, .ref m_ac, .int 0, .ref m_as, .ref m_wo, .ref m_ik, .ref m_ke, .ref m_tr, .int 0]))] H := hP
  have hD : va_D A [(mo, .inr (8, [.ref m_la, .ref m_sz, .ref m_it, .int 0, .int 0, .ref m_st, .ref m_mv, .ref m_tp, .int 0, .int 0, .int 0, .int 3, .int 0, .int 0, .int 1, .ref m_rd, .ref m_ac, .int 0, .ref m_as, .ref m_wo, .ref m_ik, .ref m_ke, .ref m_tr, .int 0]))] := hD
  refine lv_iload_n hx hb dX8_level_10 rfl (lv_at hl 0 rfl) ?_
  refine lv_if_ne (tgt := 30) hx hb dX8_level_11 (by decide) (fun c_ => absurd (by decide) c_) (fun _ => ?_)
  refine lv_aload_n hx hb dX8_level_14 rfl (lv_at hl 1 rfl) ?_
  refine lv_aload_n hx hb dX8_level_15 rfl (lv_at hl 1 rfl) ?_
  refine va_get (D := (dC, dI)) (ci := 8) (v := .int 1) (C := RX8) (T := TX8) (N := 24) hx hb hts i_X8_level_X8 hown hK hP 0 rfl rfl 14 (by decide) (hts (.fieldLink RX8 105 "MillTalkModel" "wrong" "I") (by decide +kernel)) (fun _ h9 => h9) rfl dX8_level_16 ?_
  refine va_put (D := (dC, dI)) (ci := 8) (v := .int 1) (ty := .int) (C := RX8) (T := TX8) (N := 24) hx hb hts i_X8_level_X8 tyX8 tyX8_ok nmX8 hown hK hP hD hS 0 rfl rfl 9 (by decide) (hts (.fieldLink RX8 134 "MillTalkModel" "latest" "I") (by decide +kernel)) (fun _ h9 => h9) rfl (by decide +kernel) rfl rfl (Nat.le_of_ble_eq_true rfl) dX8_level_19 (fun H locs hP hD hS => ?_)
  have hP : va_P (dC, dI) vwCl [(mo, .inr (8, [.ref m_la, .ref m_sz, .ref m_it, .int 0, .int 0, .ref m_st, .ref m_mv, .ref m_tp, .int 0, .int 1, .int 0, .int 3, .int 0, .int 0, .int 1, .ref m_rd, .ref m_ac, .int 0, .ref m_as, .ref m_wo, .ref m_ik, .ref m_ke, .ref m_tr, .int 0]))] H := hP
  have hD : va_D A [(mo, .inr (8, [.ref m_la, .ref m_sz, .ref m_it, .int 0, .int 0, .ref m_st, .ref m_mv, .ref m_tp, .int 0, .int 1, .int 0, .int 3, .int 0, .int 0, .int 1, .ref m_rd, .ref m_ac, .int 0, .ref m_as, .ref m_wo, .ref m_ik, .ref m_ke, .ref m_tr, .int 0]))] := hD
  refine lv_ldc (own := RX8) (v := (-1000100)) hx hb hown (hts (.constant RX8 137 (-1000100)) (by decide +kernel)) dX8_level_22 ?_
  refine lv_aload_n hx hb dX8_level_24 rfl (lv_at hl 1 rfl) ?_
  refine va_get (D := (dC, dI)) (ci := 8) (v := .int 0) (C := RX8) (T := TX8) (N := 24) hx hb hts i_X8_level_X8 hown hK hP 0 rfl rfl 13 (by decide) (hts (.fieldLink RX8 88 "MillTalkModel" "begins" "I") (by decide +kernel)) (fun _ h9 => h9) rfl dX8_level_25 ?_
  refine lv_isub hx hb dX8_level_28 ?_
  refine lv_topi (fun v_3 e_3 => ?_)
  obtain rfl : v_3 = (-1000100) := (e_3).trans (by decide)
  exact W.iret (v := (-1000100)) hx hb hr (fun t ht hW => ⟨⟨(-1000100), (), rfl, rfl, trivial⟩, hS.F ht⟩) hS.2.2 dX8_level_29
set_option maxHeartbeats 4000000 in
set_option maxRecDepth 100000 in
theorem c_X8_count (l : Launch) (dC : Nat → ClassId) (dI : Nat → Nat → Nat) (cI cZ cL cJ : ClassId) (mo : Nat) (m_la : Nat) (m_sz : Nat) (m_it : Nat) (m_st : Nat) (m_mv : Nat) (m_tp : Nat) (m_rd : Nat) (m_ac : Nat) (m_as : Nat) (m_wo : Nat) (m_ik : Nat) (m_ke : Nat) (m_tr : Nat) (fl : Nat → Int32) (k0 : Int32) (hfl : ∀ j : Nat, j < 8 → fl j = -1) : Met l yX8_count wsX8_count ({ frames := 1, cells := 0, slots := 0, locals := 23 }) (va_Pc [.ref mo, .int k0] (fun U => va_P (dC, dI) vwCl [(mo, .inr (8, [.ref m_la, .ref m_sz, .ref m_it, .int 0, .int 0, .ref m_st, .ref m_mv, .ref m_tp, .int 0, .int 0, .int 0, .int 0, .int 0, .int 0, .int 0, .ref m_rd, .ref m_ac, .int 0, .ref m_as, .ref m_wo, .ref m_ik, .ref m_ke, .ref m_tr, .int 0])), (m_st, .inl (cI, 38, .inl (fun _ => 0))), (m_sz, .inl (cI, 8, .inl fl))] U.heap ∧ va_K (dC, dI) vwCl [(cI, .int), (cZ, .boolean), (cL, .object RX3), (cJ, .array .int)] U)) (vp_Si (fun r => r = (an_count k0))) 0 0 (fun _ => False) := by
  refine Met.ofW (cc := cX8_count) (maxL := 4) (ret := (some .int)) (by decide) rfl ?_
  intro p e s m args below meth c s₁ B hml hv
  obtain ⟨rfl, hP, hK⟩ := hv
  have hx := B.exec
  have hb := B.bytes
  have hr := B.returns
  have hts := atoms_spec (ws := wsX8_count) B.pre
  have hown : s.vm.findClass RX8 = some m.cls := findClass_of_methodNamed B.named
  have hlocks := B.notSynchronized
  have hP : va_P (dC, dI) vwCl [(mo, .inr (8, [.ref m_la, .ref m_sz, .ref m_it, .int 0, .int 0, .ref m_st, .ref m_mv, .ref m_tp, .int 0, .int 0, .int 0, .int 0, .int 0, .int 0, .int 0, .ref m_rd, .ref m_ac, .int 0, .ref m_as, .ref m_wo, .ref m_ik, .ref m_ke, .ref m_tr, .int 0])), (m_st, .inl (cI, 38, .inl (fun _ => 0))), (m_sz, .inl (cI, 8, .inl fl))] s.heap := hP
  have hl := lv_entry ([.ref mo, .int k0]) (n := 4) (Nat.le_of_ble_eq_true rfl)
  rw [lg_entry_eq]
  generalize (lg_sl ([.ref mo, .int k0]) ++ List.replicate (4 - (lg_sl ([.ref mo, .int k0])).length) Slot.unset).toArray = ls at hl ⊢
  have hl : lv_has ls 4 [(0, .ref mo), (1, .int k0)] := hl
  refine lv_iconst (v := 0) hx hb dX8_count_0 (by decide) ?_
  refine lv_istore_n (lv' := [(2, .int 0), (0, .ref mo), (1, .int k0)]) hx hb dX8_count_1 rfl hl (by decide) rfl (fun ls hl => ?_)
  refine lv_iconst (v := 0) hx hb dX8_count_2 (by decide) ?_
  refine lv_istore_n (lv' := [(3, .int 0), (2, .int 0), (0, .ref mo), (1, .int k0)]) hx hb dX8_count_3 rfl hl (by decide) rfl (fun ls hl => ?_)
  refine lv_iload_n hx hb dX8_count_4 rfl (lv_at hl 0 rfl) ?_
  refine lv_bipush (v := 8) hx hb dX8_count_5 (by decide) ?_
  refine lv_icmp_ge (tgt := 33) hx hb dX8_count_7 (by decide) (fun c_ => absurd c_ (by decide)) (fun _ => ?_)
  refine lv_iload_n hx hb dX8_count_10 rfl (lv_at hl 1 rfl) ?_
  refine lv_aload_n hx hb dX8_count_11 rfl (lv_at hl 2 rfl) ?_
  refine va_get (D := (dC, dI)) (ci := 8) (v := .ref m_sz) (C := RX8) (T := TX8) (N := 24) hx hb hts i_X8_count_X8 hown hK hP 0 rfl rfl 1 (by decide) (hts (.fieldLink RX8 13 "MillTalkModel" "sizes" "[I") (by decide +kernel)) (fun _ h9 => h9) rfl dX8_count_12 ?_
  refine lv_iload_n hx hb dX8_count_15 rfl (lv_at hl 0 rfl) ?_
  refine va_iald hx hb hK hP 2 0 rfl rfl (by unfold vp_in; decide) dX8_count_16 ?_
  refine lv_topi (fun v_2 e_2 => ?_)
  obtain rfl : v_2 = (-1) := (e_2).trans (hfl _ (by decide))
  refine lv_if_lt (tgt := 24) hx hb dX8_count_17 (by decide) (fun _ => ?_) (fun c_ => absurd (by decide) c_)
  refine lv_iconst (v := 0) hx hb dX8_count_24 (by decide) ?_
  refine lv_iadd hx hb dX8_count_25 ?_
  refine lv_topi (fun v_4 e_4 => ?_)
  obtain rfl : v_4 = 0 := (e_4).trans (by decide)
  refine lv_istore_n (lv' := [(2, .int 0), (3, .int 0), (0, .ref mo), (1, .int k0)]) hx hb dX8_count_26 rfl hl (by decide) rfl (fun ls hl => ?_)
  refine lv_iinc (v := 1) (lv' := [(3, .int 1), (2, .int 0), (0, .ref mo), (1, .int k0)]) hx hb dX8_count_27 hl (k := 1) rfl (by decide) (by decide) rfl (fun ls hl => ?_)
  refine lv_goto (tgt := 4) hx hb dX8_count_30 (by decide) ?_
  refine lv_iload_n hx hb dX8_count_4 rfl (lv_at hl 0 rfl) ?_
  refine lv_bipush (v := 8) hx hb dX8_count_5 (by decide) ?_
  refine lv_icmp_ge (tgt := 33) hx hb dX8_count_7 (by decide) (fun c_ => absurd c_ (by decide)) (fun _ => ?_)
  refine lv_iload_n hx hb dX8_count_10 rfl (lv_at hl 1 rfl) ?_
  refine lv_aload_n hx hb dX8_count_11 rfl (lv_at hl 2 rfl) ?_
  refine va_get (D := (dC, dI)) (ci := 8) (v := .ref m_sz) (C := RX8) (T := TX8) (N := 24) hx hb hts i_X8_count_X8 hown hK hP 0 rfl rfl 1 (by decide) (hts (.fieldLink RX8 13 "MillTalkModel" "sizes" "[I") (by decide +kernel)) (fun _ h9 => h9) rfl dX8_count_12 ?_
  refine lv_iload_n hx hb dX8_count_15 rfl (lv_at hl 0 rfl) ?_
  refine va_iald hx hb hK hP 2 0 rfl rfl (by unfold vp_in; decide) dX8_count_16 ?_
  refine lv_topi (fun v_6 e_6 => ?_)
  obtain rfl : v_6 = (-1) := (e_6).trans (hfl _ (by decide))
  refine lv_if_lt (tgt := 24) hx hb dX8_count_17 (by decide) (fun _ => ?_) (fun c_ => absurd (by decide) c_)
  refine lv_iconst (v := 0) hx hb dX8_count_24 (by decide) ?_
  refine lv_iadd hx hb dX8_count_25 ?_
  refine lv_topi (fun v_8 e_8 => ?_)
  obtain rfl : v_8 = 0 := (e_8).trans (by decide)
  refine lv_istore_n (lv' := [(2, .int 0), (3, .int 1), (0, .ref mo), (1, .int k0)]) hx hb dX8_count_26 rfl hl (by decide) rfl (fun ls hl => ?_)
  refine lv_iinc (v := 2) (lv' := [(3, .int 2), (2, .int 0), (0, .ref mo), (1, .int k0)]) hx hb dX8_count_27 hl (k := 1) rfl (by decide) (by decide) rfl (fun ls hl => ?_)
  refine lv_goto (tgt := 4) hx hb dX8_count_30 (by decide) ?_
  refine lv_iload_n hx hb dX8_count_4 rfl (lv_at hl 0 rfl) ?_
  refine lv_bipush (v := 8) hx hb dX8_count_5 (by decide) ?_
  refine lv_icmp_ge (tgt := 33) hx hb dX8_count_7 (by decide) (fun c_ => absurd c_ (by decide)) (fun _ => ?_)
  refine lv_iload_n hx hb dX8_count_10 rfl (lv_at hl 1 rfl) ?_
  refine lv_aload_n hx hb dX8_count_11 rfl (lv_at hl 2 rfl) ?_
  refine va_get (D := (dC, dI)) (ci := 8) (v := .ref m_sz) (C := RX8) (T := TX8) (N := 24) hx hb hts i_X8_count_X8 hown hK hP 0 rfl rfl 1 (by decide) (hts (.fieldLink RX8 13 "MillTalkModel" "sizes" "[I") (by decide +kernel)) (fun _ h9 => h9) rfl dX8_count_12 ?_
  refine lv_iload_n hx hb dX8_count_15 rfl (lv_at hl 0 rfl) ?_
  refine va_iald hx hb hK hP 2 0 rfl rfl (by unfold vp_in; decide) dX8_count_16 ?_
  refine lv_topi (fun v_10 e_10 => ?_)
  obtain rfl : v_10 = (-1) := (e_10).trans (hfl _ (by decide))
  refine lv_if_lt (tgt := 24) hx hb dX8_count_17 (by decide) (fun _ => ?_) (fun c_ => absurd (by decide) c_)
  refine lv_iconst (v := 0) hx hb dX8_count_24 (by decide) ?_
  refine lv_iadd hx hb dX8_count_25 ?_
  refine lv_topi (fun v_12 e_12 => ?_)
  obtain rfl : v_12 = 0 := (e_12).trans (by decide)
  refine lv_istore_n (lv' := [(2, .int 0), (3, .int 2), (0, .ref mo), (1, .int k0)]) hx hb dX8_count_26 rfl hl (by decide) rfl (fun ls hl => ?_)
  refine lv_iinc (v := 3) (lv' := [(3, .int 3), (2, .int 0), (0, .ref mo), (1, .int k0)]) hx hb dX8_count_27 hl (k := 1) rfl (by decide) (by decide) rfl (fun ls hl => ?_)
  refine lv_goto (tgt := 4) hx hb dX8_count_30 (by decide) ?_
  refine lv_iload_n hx hb dX8_count_4 rfl (lv_at hl 0 rfl) ?_
  refine lv_bipush (v := 8) hx hb dX8_count_5 (by decide) ?_
  refine lv_icmp_ge (tgt := 33) hx hb dX8_count_7 (by decide) (fun c_ => absurd c_ (by decide)) (fun _ => ?_)
  refine lv_iload_n hx hb dX8_count_10 rfl (lv_at hl 1 rfl) ?_
  refine lv_aload_n hx hb dX8_count_11 rfl (lv_at hl 2 rfl) ?_
  refine va_get (D := (dC, dI)) (ci := 8) (v := .ref m_sz) (C := RX8) (T := TX8) (N := 24) hx hb hts i_X8_count_X8 hown hK hP 0 rfl rfl 1 (by decide) (hts (.fieldLink RX8 13 "MillTalkModel" "sizes" "[I") (by decide +kernel)) (fun _ h9 => h9) rfl dX8_count_12 ?_
  refine lv_iload_n hx hb dX8_count_15 rfl (lv_at hl 0 rfl) ?_
  refine va_iald hx hb hK hP 2 0 rfl rfl (by unfold vp_in; decide) dX8_count_16 ?_
  refine lv_topi (fun v_14 e_14 => ?_)
  obtain rfl : v_14 = (-1) := (e_14).trans (hfl _ (by decide))
  refine lv_if_lt (tgt := 24) hx hb dX8_count_17 (by decide) (fun _ => ?_) (fun c_ => absurd (by decide) c_)
  refine lv_iconst (v := 0) hx hb dX8_count_24 (by decide) ?_
  refine lv_iadd hx hb dX8_count_25 ?_
  refine lv_topi (fun v_16 e_16 => ?_)
  obtain rfl : v_16 = 0 := (e_16).trans (by decide)
  refine lv_istore_n (lv' := [(2, .int 0), (3, .int 3), (0, .ref mo), (1, .int k0)]) hx hb dX8_count_26 rfl hl (by decide) rfl (fun ls hl => ?_)
  refine lv_iinc (v := 4) (lv' := [(3, .int 4), (2, .int 0), (0, .ref mo), (1, .int k0)]) hx hb dX8_count_27 hl (k := 1) rfl (by decide) (by decide) rfl (fun ls hl => ?_)
  refine lv_goto (tgt := 4) hx hb dX8_count_30 (by decide) ?_
  refine lv_iload_n hx hb dX8_count_4 rfl (lv_at hl 0 rfl) ?_
  refine lv_bipush (v := 8) hx hb dX8_count_5 (by decide) ?_
  refine lv_icmp_ge (tgt := 33) hx hb dX8_count_7 (by decide) (fun c_ => absurd c_ (by decide)) (fun _ => ?_)
  refine lv_iload_n hx hb dX8_count_10 rfl (lv_at hl 1 rfl) ?_
  refine lv_aload_n hx hb dX8_count_11 rfl (lv_at hl 2 rfl) ?_
  refine va_get (D := (dC, dI)) (ci := 8) (v := .ref m_sz) (C := RX8) (T := TX8) (N := 24) hx hb hts i_X8_count_X8 hown hK hP 0 rfl rfl 1 (by decide) (hts (.fieldLink RX8 13 "MillTalkModel" "sizes" "[I") (by decide +kernel)) (fun _ h9 => h9) rfl dX8_count_12 ?_
  refine lv_iload_n hx hb dX8_count_15 rfl (lv_at hl 0 rfl) ?_
  refine va_iald hx hb hK hP 2 0 rfl rfl (by unfold vp_in; decide) dX8_count_16 ?_
  refine lv_topi (fun v_18 e_18 => ?_)
  obtain rfl : v_18 = (-1) := (e_18).trans (hfl _ (by decide))
  refine lv_if_lt (tgt := 24) hx hb dX8_count_17 (by decide) (fun _ => ?_) (fun c_ => absurd (by decide) c_)
  refine lv_iconst (v := 0) hx hb dX8_count_24 (by decide) ?_
  refine lv_iadd hx hb dX8_count_25 ?_
  refine lv_topi (fun v_20 e_20 => ?_)
  obtain rfl : v_20 = 0 := (e_20).trans (by decide)
  refine lv_istore_n (lv' := [(2, .int 0), (3, .int 4), (0, .ref mo), (1, .int k0)]) hx hb dX8_count_26 rfl hl (by decide) rfl (fun ls hl => ?_)
  refine lv_iinc (v := 5) (lv' := [(3, .int 5), (2, .int 0), (0, .ref mo), (1, .int k0)]) hx hb dX8_count_27 hl (k := 1) rfl (by decide) (by decide) rfl (fun ls hl => ?_)
  refine lv_goto (tgt := 4) hx hb dX8_count_30 (by decide) ?_
  refine lv_iload_n hx hb dX8_count_4 rfl (lv_at hl 0 rfl) ?_
  refine lv_bipush (v := 8) hx hb dX8_count_5 (by decide) ?_
  refine lv_icmp_ge (tgt := 33) hx hb dX8_count_7 (by decide) (fun c_ => absurd c_ (by decide)) (fun _ => ?_)
  refine lv_iload_n hx hb dX8_count_10 rfl (lv_at hl 1 rfl) ?_
  refine lv_aload_n hx hb dX8_count_11 rfl (lv_at hl 2 rfl) ?_
  refine va_get (D := (dC, dI)) (ci := 8) (v := .ref m_sz) (C := RX8) (T := TX8) (N := 24) hx hb hts i_X8_count_X8 hown hK hP 0 rfl rfl 1 (by decide) (hts (.fieldLink RX8 13 "MillTalkModel" "sizes" "[I") (by decide +kernel)) (fun _ h9 => h9) rfl dX8_count_12 ?_
  refine lv_iload_n hx hb dX8_count_15 rfl (lv_at hl 0 rfl) ?_
  refine va_iald hx hb hK hP 2 0 rfl rfl (by unfold vp_in; decide) dX8_count_16 ?_
  refine lv_topi (fun v_22 e_22 => ?_)
  obtain rfl : v_22 = (-1) := (e_22).trans (hfl _ (by decide))
  refine lv_if_lt (tgt := 24) hx hb dX8_count_17 (by decide) (fun _ => ?_) (fun c_ => absurd (by decide) c_)
  refine lv_iconst (v := 0) hx hb dX8_count_24 (by decide) ?_
  refine lv_iadd hx hb dX8_count_25 ?_
  refine lv_topi (fun v_24 e_24 => ?_)
  obtain rfl : v_24 = 0 := (e_24).trans (by decide)
  refine lv_istore_n (lv' := [(2, .int 0), (3, .int 5), (0, .ref mo), (1, .int k0)]) hx hb dX8_count_26 rfl hl (by decide) rfl (fun ls hl => ?_)
  refine lv_iinc (v := 6) (lv' := [(3, .int 6), (2, .int 0), (0, .ref mo), (1, .int k0)]) hx hb dX8_count_27 hl (k := 1) rfl (by decide) (by decide) rfl (fun ls hl => ?_)
  refine lv_goto (tgt := 4) hx hb dX8_count_30 (by decide) ?_
  refine lv_iload_n hx hb dX8_count_4 rfl (lv_at hl 0 rfl) ?_
  refine lv_bipush (v := 8) hx hb dX8_count_5 (by decide) ?_
  refine lv_icmp_ge (tgt := 33) hx hb dX8_count_7 (by decide) (fun c_ => absurd c_ (by decide)) (fun _ => ?_)
  refine lv_iload_n hx hb dX8_count_10 rfl (lv_at hl 1 rfl) ?_
  refine lv_aload_n hx hb dX8_count_11 rfl (lv_at hl 2 rfl) ?_
  refine va_get (D := (dC, dI)) (ci := 8) (v := .ref m_sz) (C := RX8) (T := TX8) (N := 24) hx hb hts i_X8_count_X8 hown hK hP 0 rfl rfl 1 (by decide) (hts (.fieldLink RX8 13 "MillTalkModel" "sizes" "[I") (by decide +kernel)) (fun _ h9 => h9) rfl dX8_count_12 ?_
  refine lv_iload_n hx hb dX8_count_15 rfl (lv_at hl 0 rfl) ?_
  refine va_iald hx hb hK hP 2 0 rfl rfl (by unfold vp_in; decide) dX8_count_16 ?_
  refine lv_topi (fun v_26 e_26 => ?_)
  obtain rfl : v_26 = (-1) := (e_26).trans (hfl _ (by decide))
  refine lv_if_lt (tgt := 24) hx hb dX8_count_17 (by decide) (fun _ => ?_) (fun c_ => absurd (by decide) c_)
  refine lv_iconst (v := 0) hx hb dX8_count_24 (by decide) ?_
  refine lv_iadd hx hb dX8_count_25 ?_
  refine lv_topi (fun v_28 e_28 => ?_)
  obtain rfl : v_28 = 0 := (e_28).trans (by decide)
  refine lv_istore_n (lv' := [(2, .int 0), (3, .int 6), (0, .ref mo), (1, .int k0)]) hx hb dX8_count_26 rfl hl (by decide) rfl (fun ls hl => ?_)
  refine lv_iinc (v := 7) (lv' := [(3, .int 7), (2, .int 0), (0, .ref mo), (1, .int k0)]) hx hb dX8_count_27 hl (k := 1) rfl (by decide) (by decide) rfl (fun ls hl => ?_)
  refine lv_goto (tgt := 4) hx hb dX8_count_30 (by decide) ?_
  refine lv_iload_n hx hb dX8_count_4 rfl (lv_at hl 0 rfl) ?_
  refine lv_bipush (v := 8) hx hb dX8_count_5 (by decide) ?_
  refine lv_icmp_ge (tgt := 33) hx hb dX8_count_7 (by decide) (fun c_ => absurd c_ (by decide)) (fun _ => ?_)
  refine lv_iload_n hx hb dX8_count_10 rfl (lv_at hl 1 rfl) ?_
  refine lv_aload_n hx hb dX8_count_11 rfl (lv_at hl 2 rfl) ?_
  refine va_get (D := (dC, dI)) (ci := 8) (v := .ref m_sz) (C := RX8) (T := TX8) (N := 24) hx hb hts i_X8_count_X8 hown hK hP 0 rfl rfl 1 (by decide) (hts (.fieldLink RX8 13 "MillTalkModel" "sizes" "[I") (by decide +kernel)) (fun _ h9 => h9) rfl dX8_count_12 ?_
  refine lv_iload_n hx hb dX8_count_15 rfl (lv_at hl 0 rfl) ?_
  refine va_iald hx hb hK hP 2 0 rfl rfl (by unfold vp_in; decide) dX8_count_16 ?_
  refine lv_topi (fun v_30 e_30 => ?_)
  obtain rfl : v_30 = (-1) := (e_30).trans (hfl _ (by decide))
  refine lv_if_lt (tgt := 24) hx hb dX8_count_17 (by decide) (fun _ => ?_) (fun c_ => absurd (by decide) c_)
  refine lv_iconst (v := 0) hx hb dX8_count_24 (by decide) ?_
  refine lv_iadd hx hb dX8_count_25 ?_
  refine lv_topi (fun v_32 e_32 => ?_)
  obtain rfl : v_32 = 0 := (e_32).trans (by decide)
  refine lv_istore_n (lv' := [(2, .int 0), (3, .int 7), (0, .ref mo), (1, .int k0)]) hx hb dX8_count_26 rfl hl (by decide) rfl (fun ls hl => ?_)
  refine lv_iinc (v := 8) (lv' := [(3, .int 8), (2, .int 0), (0, .ref mo), (1, .int k0)]) hx hb dX8_count_27 hl (k := 1) rfl (by decide) (by decide) rfl (fun ls hl => ?_)
  refine lv_goto (tgt := 4) hx hb dX8_count_30 (by decide) ?_
  refine lv_iload_n hx hb dX8_count_4 rfl (lv_at hl 0 rfl) ?_
  refine lv_bipush (v := 8) hx hb dX8_count_5 (by decide) ?_
  refine lv_icmp_ge (tgt := 33) hx hb dX8_count_7 (by decide) (fun _ => ?_) (fun c_ => absurd (by decide) c_)
  refine lv_iload_n hx hb dX8_count_33 rfl (lv_at hl 3 rfl) ?_
  by_cases k_34 : k0 = 0
  · subst k_34
    refine lv_tableIn (off := 46) (tgt := 80) hx hb dX8_count_34 (by decide) (by decide) (by decide) (by decide) ?_
    refine lv_iload_n hx hb dX8_count_80 rfl (lv_at hl 1 rfl) ?_
    exact W.iret (v := 0) hx hb hr (fun t ht hW => ⟨0, rfl, (by decide), ht⟩) (fun _ h => by cases h) dX8_count_81
  by_cases k_35 : k0 = 1
  · subst k_35
    refine lv_tableIn (off := 48) (tgt := 82) hx hb dX8_count_34 (by decide) (by decide) (by decide) (by decide) ?_
    refine lv_aload_n hx hb dX8_count_82 rfl (lv_at hl 2 rfl) ?_
    refine va_get (D := (dC, dI)) (ci := 8) (v := .ref m_st) (C := RX8) (T := TX8) (N := 24) hx hb hts i_X8_count_X8 hown hK hP 0 rfl rfl 5 (by decide) (hts (.fieldLink RX8 19 "MillTalkModel" "st" "[I") (by decide +kernel)) (fun _ h9 => h9) rfl dX8_count_83 ?_
    refine lv_iconst (v := 4) hx hb dX8_count_86 (by decide) ?_
    refine va_iald hx hb hK hP 1 0 rfl rfl (by unfold vp_in; decide) dX8_count_87 ?_
    refine lv_topi (fun v_36 e_36 => ?_)
    obtain rfl : v_36 = 0 := e_36
    exact W.iret (v := 0) hx hb hr (fun t ht hW => ⟨0, rfl, (by decide), ht⟩) (fun _ h => by cases h) dX8_count_88
  by_cases k_37 : k0 = 2
  · subst k_37
    refine lv_tableIn (off := 55) (tgt := 89) hx hb dX8_count_34 (by decide) (by decide) (by decide) (by decide) ?_
    refine lv_aload_n hx hb dX8_count_89 rfl (lv_at hl 2 rfl) ?_
    refine va_get (D := (dC, dI)) (ci := 8) (v := .ref m_st) (C := RX8) (T := TX8) (N := 24) hx hb hts i_X8_count_X8 hown hK hP 0 rfl rfl 5 (by decide) (hts (.fieldLink RX8 19 "MillTalkModel" "st" "[I") (by decide +kernel)) (fun _ h9 => h9) rfl dX8_count_90 ?_
    refine lv_iconst (v := 3) hx hb dX8_count_93 (by decide) ?_
    refine va_iald hx hb hK hP 1 0 rfl rfl (by unfold vp_in; decide) dX8_count_94 ?_
    refine lv_topi (fun v_38 e_38 => ?_)
    obtain rfl : v_38 = 0 := e_38
    exact W.iret (v := 0) hx hb hr (fun t ht hW => ⟨0, rfl, (by decide), ht⟩) (fun _ h => by cases h) dX8_count_95
  by_cases k_39 : k0 = 3
  · subst k_39
    refine lv_tableIn (off := 62) (tgt := 96) hx hb dX8_count_34 (by decide) (by decide) (by decide) (by decide) ?_
    refine lv_aload_n hx hb dX8_count_96 rfl (lv_at hl 2 rfl) ?_
    refine va_get (D := (dC, dI)) (ci := 8) (v := .ref m_st) (C := RX8) (T := TX8) (N := 24) hx hb hts i_X8_count_X8 hown hK hP 0 rfl rfl 5 (by decide) (hts (.fieldLink RX8 19 "MillTalkModel" "st" "[I") (by decide +kernel)) (fun _ h9 => h9) rfl dX8_count_97 ?_
    refine lv_iconst (v := 5) hx hb dX8_count_100 (by decide) ?_
    refine va_iald hx hb hK hP 1 0 rfl rfl (by unfold vp_in; decide) dX8_count_101 ?_
    refine lv_topi (fun v_40 e_40 => ?_)
    obtain rfl : v_40 = 0 := e_40
    exact W.iret (v := 0) hx hb hr (fun t ht hW => ⟨0, rfl, (by decide), ht⟩) (fun _ h => by cases h) dX8_count_102
  by_cases k_41 : k0 = 4
  · subst k_41
    refine lv_tableIn (off := 69) (tgt := 103) hx hb dX8_count_34 (by decide) (by decide) (by decide) (by decide) ?_
    refine lv_aload_n hx hb dX8_count_103 rfl (lv_at hl 2 rfl) ?_
    refine va_get (D := (dC, dI)) (ci := 8) (v := .ref m_st) (C := RX8) (T := TX8) (N := 24) hx hb hts i_X8_count_X8 hown hK hP 0 rfl rfl 5 (by decide) (hts (.fieldLink RX8 19 "MillTalkModel" "st" "[I") (by decide +kernel)) (fun _ h9 => h9) rfl dX8_count_104 ?_
    refine lv_bipush (v := 7) hx hb dX8_count_107 (by decide) ?_
    refine va_iald hx hb hK hP 1 0 rfl rfl (by unfold vp_in; decide) dX8_count_109 ?_
    refine lv_topi (fun v_42 e_42 => ?_)
    obtain rfl : v_42 = 0 := e_42
    exact W.iret (v := 0) hx hb hr (fun t ht hW => ⟨0, rfl, (by decide), ht⟩) (fun _ h => by cases h) dX8_count_110
  by_cases k_43 : k0 = 5
  · subst k_43
    refine lv_tableIn (off := 77) (tgt := 111) hx hb dX8_count_34 (by decide) (by decide) (by decide) (by decide) ?_
    refine lv_aload_n hx hb dX8_count_111 rfl (lv_at hl 2 rfl) ?_
    refine lv_iconst (v := 0) hx hb dX8_count_112 (by decide) ?_
    have hPc_44 := hP.sub (ws' := [(mo, .inr (8, [.ref m_la, .ref m_sz, .ref m_it, .int 0, .int 0, .ref m_st, .ref m_mv, .ref m_tp, .int 0, .int 0, .int 0, .int 0, .int 0, .int 0, .int 0, .ref m_rd, .ref m_ac, .int 0, .ref m_as, .ref m_wo, .ref m_ik, .ref m_ke, .ref m_tr, .int 0])), (m_st, .inl (cI, 38, .inl (fun _ => 0)))]) [0, 1] rfl
    refine vp_callSi (W.runV (As := [.int 0]) (rest := []) ⟨hx, hb, hml, hown, hts⟩ (c_X8_those l dC dI cI cZ cL cJ mo m_la m_sz m_it m_st m_mv m_tp m_rd m_ac m_as m_wo m_ik m_ke m_tr 0 ) (cwV 1 hts gX8_count_X8_those rfl rfl rfl (by decide +kernel) ⟨Nat.le_of_ble_eq_true rfl, Nat.le_of_ble_eq_true rfl⟩) ⟨fun a U g mk q => by obtain ⟨q0, qP, qK⟩ := q; exact ⟨q0, qP, va_K.moved (u := U) (U := U.calling g mk a) (Vm.Alike.refl U.vm) qK⟩, va_recv hK hP (ci := 8) (q0 := 0) rfl rfl, fun U hU hW => ⟨rfl, by rw [hU]; exact hPc_44, va_K.moved hW.alike hK⟩⟩ rfl rfl hl.1 rfl (lv_room (Nat.le_of_ble_eq_true rfl)) dX8_count_113 ⟨Nat.le_of_ble_eq_true rfl, Nat.le_of_ble_eq_true rfl⟩) (fun r_44 h_44 => ?_)
    subst h_44
    have hPc_45 := hP.sub (ws' := []) [] rfl
    refine vp_callSi (W.runS (As := [.int 0]) (rest := []) ⟨hx, hb, hml, hown, hts⟩ (c_X8_ones l dC dI cI cZ cL cJ  ) (va_cwS 1 hts gX8_count_X8_ones rfl rfl rfl (by decide +kernel) ⟨Nat.le_of_ble_eq_true rfl, Nat.le_of_ble_eq_true rfl⟩) ⟨fun a U g mk q => by obtain ⟨q0, qP, qK⟩ := q; exact ⟨q0, qP, va_K.moved (u := U) (U := U.calling g mk a) (Vm.Alike.refl U.vm) qK⟩, fun U hU hW => ⟨rfl, by rw [hU]; exact hPc_45, va_K.moved hW.alike hK⟩⟩ rfl rfl hl.1 rfl (lv_room (Nat.le_of_ble_eq_true rfl)) dX8_count_116 ⟨Nat.le_of_ble_eq_true rfl, Nat.le_of_ble_eq_true rfl⟩) (fun r_45 h_45 => ?_)
    subst h_45
    exact W.iret (v := 0) hx hb hr (fun t ht hW => ⟨0, rfl, (by decide), ht⟩) (fun _ h => by cases h) dX8_count_119
  by_cases k_46 : k0 = 6
  · subst k_46
    refine lv_tableIn (off := 86) (tgt := 120) hx hb dX8_count_34 (by decide) (by decide) (by decide) (by decide) ?_
    refine lv_aload_n hx hb dX8_count_120 rfl (lv_at hl 2 rfl) ?_
    refine va_get (D := (dC, dI)) (ci := 8) (v := .int 0) (C := RX8) (T := TX8) (N := 24) hx hb hts i_X8_count_X8 hown hK hP 0 rfl rfl 17 (by decide) (hts (.fieldLink RX8 142 "MillTalkModel" "actMany" "I") (by decide +kernel)) (fun _ h9 => h9) rfl dX8_count_121 ?_
    exact W.iret (v := 0) hx hb hr (fun t ht hW => ⟨0, rfl, (by decide), ht⟩) (fun _ h => by cases h) dX8_count_124
  by_cases k_47 : k0 = 7
  · subst k_47
    refine lv_tableIn (off := 91) (tgt := 125) hx hb dX8_count_34 (by decide) (by decide) (by decide) (by decide) ?_
    refine lv_aload_n hx hb dX8_count_125 rfl (lv_at hl 2 rfl) ?_
    refine va_get (D := (dC, dI)) (ci := 8) (v := .int 0) (C := RX8) (T := TX8) (N := 24) hx hb hts i_X8_count_X8 hown hK hP 0 rfl rfl 8 (by decide) (hts (.fieldLink RX8 81 "MillTalkModel" "bytes" "I") (by decide +kernel)) (fun _ h9 => h9) rfl dX8_count_126 ?_
    exact W.iret (v := 0) hx hb hr (fun t ht hW => ⟨0, rfl, (by decide), ht⟩) (fun _ h => by cases h) dX8_count_129
  have k_34 := lv_neT k_34 (show (0 : Int32).toInt = 0 from rfl)
  have k_35 := lv_neT k_35 (show (1 : Int32).toInt = 1 from rfl)
  have k_37 := lv_neT k_37 (show (2 : Int32).toInt = 2 from rfl)
  have k_39 := lv_neT k_39 (show (3 : Int32).toInt = 3 from rfl)
  have k_41 := lv_neT k_41 (show (4 : Int32).toInt = 4 from rfl)
  have k_43 := lv_neT k_43 (show (5 : Int32).toInt = 5 from rfl)
  have k_46 := lv_neT k_46 (show (6 : Int32).toInt = 6 from rfl)
  have k_47 := lv_neT k_47 (show (7 : Int32).toInt = 7 from rfl)
  refine lv_tableOut (tgt := 130) hx hb dX8_count_34 (by omega) (by decide) ?_
  refine lv_ldc (own := RX8) (v := (-1000001)) hx hb hown (hts (.constant RX8 67 (-1000001)) (by decide +kernel)) dX8_count_130 ?_
  exact W.iret (v := (-1000001)) hx hb hr (fun t ht hW => ⟨(-1000001), rfl, (by unfold an_count; grind), ht⟩) (fun _ h => by cases h) dX8_count_132
