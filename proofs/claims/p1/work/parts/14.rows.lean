set_option maxHeartbeats 4000000 in
set_option maxRecDepth 100000 in
theorem c_X5_isRow (l : Launch) (dC : Nat → ClassId) (dI : Nat → Nat → Nat) (cI cZ cL cJ : ClassId) (a : Int32)  : Met l yX5_isRow wsX5_isRow ({ frames := 0, cells := 0, slots := 0, locals := 0 }) (va_Pc [.int a] (fun U => va_P (dC, dI) vwCl [] U.heap ∧ va_K (dC, dI) vwCl [(cI, .int), (cZ, .boolean), (cL, .object RX3), (cJ, .array .int)] U)) (vp_Si (fun r => (r = 0 ∧ (a < 0 ∨ 8 ≤ a)) ∨ (r = 1 ∧ (¬ (a < 0 ∨ 8 ≤ a))))) 0 0 (fun _ => False) := by
  refine Met.ofW (cc := cX5_isRow) (maxL := 1) (ret := (some .boolean)) (by decide) rfl ?_
  intro p e s m args below meth c s₁ B hml hv
  obtain ⟨rfl, hP, hK⟩ := hv
  have hx := B.exec
  have hb := B.bytes
  have hr := B.returns
  have hts := atoms_spec (ws := wsX5_isRow) B.pre
  have hown : s.vm.findClass RX5 = some m.cls := findClass_of_methodNamed B.named
  have hlocks := B.notSynchronized
  have hP : va_P (dC, dI) vwCl [] s.heap := hP
  have hl := lv_entry ([.int a]) (n := 1) (Nat.le_of_ble_eq_true rfl)
  rw [lg_entry_eq]
  generalize (lg_sl ([.int a]) ++ List.replicate (1 - (lg_sl ([.int a])).length) Slot.unset).toArray = ls at hl ⊢
  have hl : lv_has ls 1 [(0, .int a)] := hl
  refine lv_iload_n hx hb dX5_isRow_0 rfl (lv_at hl 0 rfl) ?_
  refine lv_if_lt (tgt := 14) hx hb dX5_isRow_1 (by decide) (fun c_1 => ?_) (fun c_1 => ?_)
  · skip
    refine lv_iconst (v := 0) hx hb dX5_isRow_14 (by decide) ?_
    exact W.zret (v := 0) hx hb hr (by decide) (fun t ht hW => ⟨0, rfl, Or.inl (⟨rfl, (by first | assumption | grind)⟩), ht⟩) (fun _ h => by cases h) dX5_isRow_15
  · skip
    refine lv_iload_n hx hb dX5_isRow_4 rfl (lv_at hl 0 rfl) ?_
    refine lv_bipush (v := 8) hx hb dX5_isRow_5 (by decide) ?_
    refine lv_icmp_ge (tgt := 14) hx hb dX5_isRow_7 (by decide) (fun c_2 => ?_) (fun c_2 => ?_)
    · skip
      refine lv_iconst (v := 0) hx hb dX5_isRow_14 (by decide) ?_
      exact W.zret (v := 0) hx hb hr (by decide) (fun t ht hW => ⟨0, rfl, Or.inl (⟨rfl, (by first | assumption | grind)⟩), ht⟩) (fun _ h => by cases h) dX5_isRow_15
    · skip
      refine lv_iconst (v := 1) hx hb dX5_isRow_10 (by decide) ?_
      refine lv_goto (tgt := 15) hx hb dX5_isRow_11 (by decide) ?_
      exact W.zret (v := 1) hx hb hr (by decide) (fun t ht hW => ⟨1, rfl, Or.inr (⟨rfl, (by first | assumption | grind)⟩), ht⟩) (fun _ h => by cases h) dX5_isRow_15
set_option maxHeartbeats 4000000 in
set_option maxRecDepth 100000 in
theorem c_X5_isLane (l : Launch) (dC : Nat → ClassId) (dI : Nat → Nat → Nat) (cI cZ cL cJ : ClassId) (a : Int32)  : Met l yX5_isLane wsX5_isLane ({ frames := 0, cells := 0, slots := 0, locals := 0 }) (va_Pc [.int a] (fun U => va_P (dC, dI) vwCl [] U.heap ∧ va_K (dC, dI) vwCl [(cI, .int), (cZ, .boolean), (cL, .object RX3), (cJ, .array .int)] U)) (vp_Si (fun r => (r = 0 ∧ (a < 0 ∨ 2 < a)) ∨ (r = 1 ∧ (¬ (a < 0 ∨ 2 < a))))) 0 0 (fun _ => False) := by
  refine Met.ofW (cc := cX5_isLane) (maxL := 1) (ret := (some .boolean)) (by decide) rfl ?_
  intro p e s m args below meth c s₁ B hml hv
  obtain ⟨rfl, hP, hK⟩ := hv
  have hx := B.exec
  have hb := B.bytes
  have hr := B.returns
  have hts := atoms_spec (ws := wsX5_isLane) B.pre
  have hown : s.vm.findClass RX5 = some m.cls := findClass_of_methodNamed B.named
  have hlocks := B.notSynchronized
  have hP : va_P (dC, dI) vwCl [] s.heap := hP
  have hl := lv_entry ([.int a]) (n := 1) (Nat.le_of_ble_eq_true rfl)
  rw [lg_entry_eq]
  generalize (lg_sl ([.int a]) ++ List.replicate (1 - (lg_sl ([.int a])).length) Slot.unset).toArray = ls at hl ⊢
  have hl : lv_has ls 1 [(0, .int a)] := hl
  refine lv_iload_n hx hb dX5_isLane_0 rfl (lv_at hl 0 rfl) ?_
  refine lv_if_lt (tgt := 13) hx hb dX5_isLane_1 (by decide) (fun c_1 => ?_) (fun c_1 => ?_)
  · skip
    refine lv_iconst (v := 0) hx hb dX5_isLane_13 (by decide) ?_
    exact W.zret (v := 0) hx hb hr (by decide) (fun t ht hW => ⟨0, rfl, Or.inl (⟨rfl, (by first | assumption | grind)⟩), ht⟩) (fun _ h => by cases h) dX5_isLane_14
  · skip
    refine lv_iload_n hx hb dX5_isLane_4 rfl (lv_at hl 0 rfl) ?_
    refine lv_iconst (v := 2) hx hb dX5_isLane_5 (by decide) ?_
    refine lv_icmp_gt (tgt := 13) hx hb dX5_isLane_6 (by decide) (fun c_2 => ?_) (fun c_2 => ?_)
    · skip
      refine lv_iconst (v := 0) hx hb dX5_isLane_13 (by decide) ?_
      exact W.zret (v := 0) hx hb hr (by decide) (fun t ht hW => ⟨0, rfl, Or.inl (⟨rfl, (by first | assumption | grind)⟩), ht⟩) (fun _ h => by cases h) dX5_isLane_14
    · skip
      refine lv_iconst (v := 1) hx hb dX5_isLane_9 (by decide) ?_
      refine lv_goto (tgt := 14) hx hb dX5_isLane_10 (by decide) ?_
      exact W.zret (v := 1) hx hb hr (by decide) (fun t ht hW => ⟨1, rfl, Or.inr (⟨rfl, (by first | assumption | grind)⟩), ht⟩) (fun _ h => by cases h) dX5_isLane_14
set_option maxHeartbeats 4000000 in
set_option maxRecDepth 100000 in
theorem c_X5_isMissing (l : Launch) (dC : Nat → ClassId) (dI : Nat → Nat → Nat) (cI cZ cL cJ : ClassId) (h : Nat) (it : Nat) (la : Nat) (le : Nat) (fl : Nat → Int32) (a : Int32) (hfl : ∀ j : Nat, j < 8 → fl j = -1) (ha : vp_in a 8) : Met l yX5_isMissing wsX5_isMissing ({ frames := 0, cells := 0, slots := 0, locals := 0 }) (va_Pc [.ref h, .int a] (fun U => va_P (dC, dI) vwCl [(h, .inr (5, [.ref it, .ref la, .ref le])), (la, .inl (cI, 8, .inl fl))] U.heap ∧ va_K (dC, dI) vwCl [(cI, .int), (cZ, .boolean), (cL, .object RX3), (cJ, .array .int)] U)) (vp_Si (fun r => r = 1)) 0 0 (fun _ => False) := by
  refine Met.ofW (cc := cX5_isMissing) (maxL := 2) (ret := (some .boolean)) (by decide) rfl ?_
  intro p e s m args below meth c s₁ B hml hv
  obtain ⟨rfl, hP, hK⟩ := hv
  have hx := B.exec
  have hb := B.bytes
  have hr := B.returns
  have hts := atoms_spec (ws := wsX5_isMissing) B.pre
  have hown : s.vm.findClass RX5 = some m.cls := findClass_of_methodNamed B.named
  have hlocks := B.notSynchronized
  have hP : va_P (dC, dI) vwCl [(h, .inr (5, [.ref it, .ref la, .ref le])), (la, .inl (cI, 8, .inl fl))] s.heap := hP
  have hl := lv_entry ([.ref h, .int a]) (n := 2) (Nat.le_of_ble_eq_true rfl)
  rw [lg_entry_eq]
  generalize (lg_sl ([.ref h, .int a]) ++ List.replicate (2 - (lg_sl ([.ref h, .int a])).length) Slot.unset).toArray = ls at hl ⊢
  have hl : lv_has ls 2 [(0, .ref h), (1, .int a)] := hl
  refine lv_aload_n hx hb dX5_isMissing_0 rfl (lv_at hl 0 rfl) ?_
  refine va_get (D := (dC, dI)) (ci := 5) (v := .ref la) (C := RX5) (T := TX5) (N := 3) hx hb hts i_X5_isMissing_X5 hown hK hP 0 rfl rfl 1 (by decide) (hts (.fieldLink RX5 16 "MillTalk$Rows" "lanes" "[I") (by decide +kernel)) (fun _ h9 => h9) rfl dX5_isMissing_1 ?_
  refine lv_iload_n hx hb dX5_isMissing_4 rfl (lv_at hl 1 rfl) ?_
  refine va_iald hx hb hK hP 1 0 rfl rfl ha dX5_isMissing_5 ?_
  refine lv_topi (fun v_1 e_1 => ?_)
  obtain rfl : v_1 = (-1) := (e_1).trans (hfl _ (in_lt ha))
  refine lv_iconst (v := (-1)) hx hb dX5_isMissing_6 (by decide) ?_
  refine lv_icmp_ne (tgt := 14) hx hb dX5_isMissing_7 (by decide) (fun c_ => absurd (by decide) c_) (fun _ => ?_)
  refine lv_iconst (v := 1) hx hb dX5_isMissing_10 (by decide) ?_
  refine lv_goto (tgt := 15) hx hb dX5_isMissing_11 (by decide) ?_
  exact W.zret (v := 1) hx hb hr (by decide) (fun t ht hW => ⟨1, rfl, rfl, ht⟩) (fun _ h => by cases h) dX5_isMissing_15
set_option maxHeartbeats 4000000 in
set_option maxRecDepth 100000 in
theorem c_X5_findingOf (l : Launch) (dC : Nat → ClassId) (dI : Nat → Nat → Nat) (cI cZ cL cJ : ClassId) (h : Nat) (it : Nat) (la : Nat) (le : Nat) (fl : Nat → Int32) (a : Int32) (x : Int32) (y : Int32) (hfl : ∀ j : Nat, j < 8 → fl j = -1) (ha : vp_in a 8) : Met l yX5_findingOf wsX5_findingOf ({ frames := 1, cells := 0, slots := 0, locals := 21 }) (va_Pc [.ref h, .int a, .int x, .int y] (fun U => va_P (dC, dI) vwCl [(h, .inr (5, [.ref it, .ref la, .ref le])), (la, .inl (cI, 8, .inl fl))] U.heap ∧ va_K (dC, dI) vwCl [(cI, .int), (cZ, .boolean), (cL, .object RX3), (cJ, .array .int)] U)) (vp_Si (fun r => r = 1)) 0 0 (fun _ => False) := by
  refine Met.ofW (cc := cX5_findingOf) (maxL := 4) (ret := (some .int)) (by decide) rfl ?_
  intro p e s m args below meth c s₁ B hml hv
  obtain ⟨rfl, hP, hK⟩ := hv
  have hx := B.exec
  have hb := B.bytes
  have hr := B.returns
  have hts := atoms_spec (ws := wsX5_findingOf) B.pre
  have hown : s.vm.findClass RX5 = some m.cls := findClass_of_methodNamed B.named
  have hlocks := B.notSynchronized
  have hP : va_P (dC, dI) vwCl [(h, .inr (5, [.ref it, .ref la, .ref le])), (la, .inl (cI, 8, .inl fl))] s.heap := hP
  have hl := lv_entry ([.ref h, .int a, .int x, .int y]) (n := 4) (Nat.le_of_ble_eq_true rfl)
  rw [lg_entry_eq]
  generalize (lg_sl ([.ref h, .int a, .int x, .int y]) ++ List.replicate (4 - (lg_sl ([.ref h, .int a, .int x, .int y])).length) Slot.unset).toArray = ls at hl ⊢
  have hl : lv_has ls 4 [(0, .ref h), (1, .int a), (2, .int x), (3, .int y)] := hl
  refine lv_aload_n hx hb dX5_findingOf_0 rfl (lv_at hl 0 rfl) ?_
  refine lv_iload_n hx hb dX5_findingOf_1 rfl (lv_at hl 1 rfl) ?_
  have hPc_1 := hP.sub (ws' := [(h, .inr (5, [.ref it, .ref la, .ref le])), (la, .inl (cI, 8, .inl fl))]) [0, 1] rfl
  refine vp_callSi (W.runV (As := [.int a]) (rest := []) ⟨hx, hb, hml, hown, hts⟩ (c_X5_isMissing l dC dI cI cZ cL cJ h it la le fl a (hfl) (ha)) (cwV 1 hts gX5_findingOf_X5_isMissing rfl rfl rfl (by decide +kernel) ⟨Nat.le_of_ble_eq_true rfl, Nat.le_of_ble_eq_true rfl⟩) ⟨fun a U g mk q => by obtain ⟨q0, qP, qK⟩ := q; exact ⟨q0, qP, va_K.moved (u := U) (U := U.calling g mk a) (Vm.Alike.refl U.vm) qK⟩, va_recv hK hP (ci := 5) (q0 := 0) rfl rfl, fun U hU hW => ⟨rfl, by rw [hU]; exact hPc_1, va_K.moved hW.alike hK⟩⟩ rfl rfl hl.1 rfl (lv_room (Nat.le_of_ble_eq_true rfl)) dX5_findingOf_2 ⟨Nat.le_of_ble_eq_true rfl, Nat.le_of_ble_eq_true rfl⟩) (fun r_1 h_1 => ?_)
  subst h_1
  refine lv_if_eq (tgt := 10) hx hb dX5_findingOf_5 (by decide) (fun c_ => absurd c_ (by decide)) (fun _ => ?_)
  refine lv_iconst (v := 1) hx hb dX5_findingOf_8 (by decide) ?_
  exact W.iret (v := 1) hx hb hr (fun t ht hW => ⟨1, rfl, rfl, ht⟩) (fun _ h => by cases h) dX5_findingOf_9
set_option maxHeartbeats 4000000 in
set_option maxRecDepth 100000 in
theorem c_X5_findingOfMove (l : Launch) (dC : Nat → ClassId) (dI : Nat → Nat → Nat) (cI cZ cL cJ : ClassId) (h : Nat) (it : Nat) (la : Nat) (le : Nat) (fl : Nat → Int32) (a : Int32) (x : Int32) (b : Int32) (y : Int32) (z : Int32) (hfl : ∀ j : Nat, j < 8 → fl j = -1) (ha : vp_in a 8) : Met l yX5_findingOfMove wsX5_findingOfMove ({ frames := 1, cells := 0, slots := 0, locals := 21 }) (va_Pc [.ref h, .int a, .int x, .int b, .int y, .int z] (fun U => va_P (dC, dI) vwCl [(h, .inr (5, [.ref it, .ref la, .ref le])), (la, .inl (cI, 8, .inl fl))] U.heap ∧ va_K (dC, dI) vwCl [(cI, .int), (cZ, .boolean), (cL, .object RX3), (cJ, .array .int)] U)) (vp_Si (fun r => r = 1)) 0 0 (fun _ => False) := by
  refine Met.ofW (cc := cX5_findingOfMove) (maxL := 6) (ret := (some .int)) (by decide) rfl ?_
  intro p e s m args below meth c s₁ B hml hv
  obtain ⟨rfl, hP, hK⟩ := hv
  have hx := B.exec
  have hb := B.bytes
  have hr := B.returns
  have hts := atoms_spec (ws := wsX5_findingOfMove) B.pre
  have hown : s.vm.findClass RX5 = some m.cls := findClass_of_methodNamed B.named
  have hlocks := B.notSynchronized
  have hP : va_P (dC, dI) vwCl [(h, .inr (5, [.ref it, .ref la, .ref le])), (la, .inl (cI, 8, .inl fl))] s.heap := hP
  have hl := lv_entry ([.ref h, .int a, .int x, .int b, .int y, .int z]) (n := 6) (Nat.le_of_ble_eq_true rfl)
  rw [lg_entry_eq]
  generalize (lg_sl ([.ref h, .int a, .int x, .int b, .int y, .int z]) ++ List.replicate (6 - (lg_sl ([.ref h, .int a, .int x, .int b, .int y, .int z])).length) Slot.unset).toArray = ls at hl ⊢
  have hl : lv_has ls 6 [(0, .ref h), (1, .int a), (2, .int x), (3, .int b), (4, .int y), (5, .int z)] := hl
  refine lv_aload_n hx hb dX5_findingOfMove_0 rfl (lv_at hl 0 rfl) ?_
  refine lv_iload_n hx hb dX5_findingOfMove_1 rfl (lv_at hl 1 rfl) ?_
  have hPc_1 := hP.sub (ws' := [(h, .inr (5, [.ref it, .ref la, .ref le])), (la, .inl (cI, 8, .inl fl))]) [0, 1] rfl
  refine vp_callSi (W.runV (As := [.int a]) (rest := []) ⟨hx, hb, hml, hown, hts⟩ (c_X5_isMissing l dC dI cI cZ cL cJ h it la le fl a (hfl) (ha)) (cwV 1 hts gX5_findingOfMove_X5_isMissing rfl rfl rfl (by decide +kernel) ⟨Nat.le_of_ble_eq_true rfl, Nat.le_of_ble_eq_true rfl⟩) ⟨fun a U g mk q => by obtain ⟨q0, qP, qK⟩ := q; exact ⟨q0, qP, va_K.moved (u := U) (U := U.calling g mk a) (Vm.Alike.refl U.vm) qK⟩, va_recv hK hP (ci := 5) (q0 := 0) rfl rfl, fun U hU hW => ⟨rfl, by rw [hU]; exact hPc_1, va_K.moved hW.alike hK⟩⟩ rfl rfl hl.1 rfl (lv_room (Nat.le_of_ble_eq_true rfl)) dX5_findingOfMove_2 ⟨Nat.le_of_ble_eq_true rfl, Nat.le_of_ble_eq_true rfl⟩) (fun r_1 h_1 => ?_)
  subst h_1
  refine lv_if_ne (tgt := 16) hx hb dX5_findingOfMove_5 (by decide) (fun _ => ?_) (fun c_ => absurd c_ (by decide))
  refine lv_iconst (v := 1) hx hb dX5_findingOfMove_16 (by decide) ?_
  exact W.iret (v := 1) hx hb hr (fun t ht hW => ⟨1, rfl, rfl, ht⟩) (fun _ h => by cases h) dX5_findingOfMove_17
set_option maxHeartbeats 4000000 in
set_option maxRecDepth 100000 in
theorem c_X5_present (l : Launch) (dC : Nat → ClassId) (dI : Nat → Nat → Nat) (cI cZ cL cJ : ClassId) (h : Nat) (it : Nat) (la : Nat) (le : Nat) (fl : Nat → Int32) (hfl : ∀ j : Nat, j < 8 → fl j = -1) : Met l yX5_present wsX5_present ({ frames := 1, cells := 0, slots := 0, locals := 21 }) (va_Pc [.ref h] (fun U => va_P (dC, dI) vwCl [(h, .inr (5, [.ref it, .ref la, .ref le])), (la, .inl (cI, 8, .inl fl))] U.heap ∧ va_K (dC, dI) vwCl [(cI, .int), (cZ, .boolean), (cL, .object RX3), (cJ, .array .int)] U)) (vp_Si (fun r => r = 0)) 0 0 (fun _ => False) := by
  refine Met.ofW (cc := cX5_present) (maxL := 3) (ret := (some .int)) (by decide) rfl ?_
  intro p e s m args below meth c s₁ B hml hv
  obtain ⟨rfl, hP, hK⟩ := hv
  have hx := B.exec
  have hb := B.bytes
  have hr := B.returns
  have hts := atoms_spec (ws := wsX5_present) B.pre
  have hown : s.vm.findClass RX5 = some m.cls := findClass_of_methodNamed B.named
  have hlocks := B.notSynchronized
  have hP : va_P (dC, dI) vwCl [(h, .inr (5, [.ref it, .ref la, .ref le])), (la, .inl (cI, 8, .inl fl))] s.heap := hP
  have hl := lv_entry ([.ref h]) (n := 3) (Nat.le_of_ble_eq_true rfl)
  rw [lg_entry_eq]
  generalize (lg_sl ([.ref h]) ++ List.replicate (3 - (lg_sl ([.ref h])).length) Slot.unset).toArray = ls at hl ⊢
  have hl : lv_has ls 3 [(0, .ref h)] := hl
  refine lv_iconst (v := 0) hx hb dX5_present_0 (by decide) ?_
  refine lv_istore_n (lv' := [(1, .int 0), (0, .ref h)]) hx hb dX5_present_1 rfl hl (by decide) rfl (fun ls hl => ?_)
  refine lv_iconst (v := 0) hx hb dX5_present_2 (by decide) ?_
  refine lv_istore_n (lv' := [(2, .int 0), (1, .int 0), (0, .ref h)]) hx hb dX5_present_3 rfl hl (by decide) rfl (fun ls hl => ?_)
  refine lv_iload_n hx hb dX5_present_4 rfl (lv_at hl 0 rfl) ?_
  refine lv_bipush (v := 8) hx hb dX5_present_5 (by decide) ?_
  refine lv_icmp_ge (tgt := 32) hx hb dX5_present_7 (by decide) (fun c_ => absurd c_ (by decide)) (fun _ => ?_)
  refine lv_iload_n hx hb dX5_present_10 rfl (lv_at hl 1 rfl) ?_
  refine lv_aload_n hx hb dX5_present_11 rfl (lv_at hl 2 rfl) ?_
  refine lv_iload_n hx hb dX5_present_12 rfl (lv_at hl 0 rfl) ?_
  have hPc_2 := hP.sub (ws' := [(h, .inr (5, [.ref it, .ref la, .ref le])), (la, .inl (cI, 8, .inl fl))]) [0, 1] rfl
  refine vp_callSi (W.runV (As := [.int 0]) (rest := [.int 0]) ⟨hx, hb, hml, hown, hts⟩ (c_X5_isMissing l dC dI cI cZ cL cJ h it la le fl 0 (hfl) (by unfold vp_in; decide)) (cwV 1 hts gX5_present_X5_isMissing rfl rfl rfl (by decide +kernel) ⟨Nat.le_of_ble_eq_true rfl, Nat.le_of_ble_eq_true rfl⟩) ⟨fun a U g mk q => by obtain ⟨q0, qP, qK⟩ := q; exact ⟨q0, qP, va_K.moved (u := U) (U := U.calling g mk a) (Vm.Alike.refl U.vm) qK⟩, va_recv hK hP (ci := 5) (q0 := 0) rfl rfl, fun U hU hW => ⟨rfl, by rw [hU]; exact hPc_2, va_K.moved hW.alike hK⟩⟩ rfl rfl hl.1 rfl (lv_room (Nat.le_of_ble_eq_true rfl)) dX5_present_13 ⟨Nat.le_of_ble_eq_true rfl, Nat.le_of_ble_eq_true rfl⟩) (fun r_2 h_2 => ?_)
  subst h_2
  refine lv_if_eq (tgt := 23) hx hb dX5_present_16 (by decide) (fun c_ => absurd c_ (by decide)) (fun _ => ?_)
  refine lv_iconst (v := 0) hx hb dX5_present_19 (by decide) ?_
  refine lv_goto (tgt := 24) hx hb dX5_present_20 (by decide) ?_
  refine lv_iadd hx hb dX5_present_24 ?_
  refine lv_topi (fun v_4 e_4 => ?_)
  obtain rfl : v_4 = 0 := (e_4).trans (by decide)
  refine lv_istore_n (lv' := [(1, .int 0), (2, .int 0), (0, .ref h)]) hx hb dX5_present_25 rfl hl (by decide) rfl (fun ls hl => ?_)
  refine lv_iinc (v := 1) (lv' := [(2, .int 1), (1, .int 0), (0, .ref h)]) hx hb dX5_present_26 hl (k := 1) rfl (by decide) (by decide) rfl (fun ls hl => ?_)
  refine lv_goto (tgt := 4) hx hb dX5_present_29 (by decide) ?_
  refine lv_iload_n hx hb dX5_present_4 rfl (lv_at hl 0 rfl) ?_
  refine lv_bipush (v := 8) hx hb dX5_present_5 (by decide) ?_
  refine lv_icmp_ge (tgt := 32) hx hb dX5_present_7 (by decide) (fun c_ => absurd c_ (by decide)) (fun _ => ?_)
  refine lv_iload_n hx hb dX5_present_10 rfl (lv_at hl 1 rfl) ?_
  refine lv_aload_n hx hb dX5_present_11 rfl (lv_at hl 2 rfl) ?_
  refine lv_iload_n hx hb dX5_present_12 rfl (lv_at hl 0 rfl) ?_
  have hPc_6 := hP.sub (ws' := [(h, .inr (5, [.ref it, .ref la, .ref le])), (la, .inl (cI, 8, .inl fl))]) [0, 1] rfl
  refine vp_callSi (W.runV (As := [.int 1]) (rest := [.int 0]) ⟨hx, hb, hml, hown, hts⟩ (c_X5_isMissing l dC dI cI cZ cL cJ h it la le fl 1 (hfl) (by unfold vp_in; decide)) (cwV 1 hts gX5_present_X5_isMissing rfl rfl rfl (by decide +kernel) ⟨Nat.le_of_ble_eq_true rfl, Nat.le_of_ble_eq_true rfl⟩) ⟨fun a U g mk q => by obtain ⟨q0, qP, qK⟩ := q; exact ⟨q0, qP, va_K.moved (u := U) (U := U.calling g mk a) (Vm.Alike.refl U.vm) qK⟩, va_recv hK hP (ci := 5) (q0 := 0) rfl rfl, fun U hU hW => ⟨rfl, by rw [hU]; exact hPc_6, va_K.moved hW.alike hK⟩⟩ rfl rfl hl.1 rfl (lv_room (Nat.le_of_ble_eq_true rfl)) dX5_present_13 ⟨Nat.le_of_ble_eq_true rfl, Nat.le_of_ble_eq_true rfl⟩) (fun r_6 h_6 => ?_)
  subst h_6
  refine lv_if_eq (tgt := 23) hx hb dX5_present_16 (by decide) (fun c_ => absurd c_ (by decide)) (fun _ => ?_)
  refine lv_iconst (v := 0) hx hb dX5_present_19 (by decide) ?_
  refine lv_goto (tgt := 24) hx hb dX5_present_20 (by decide) ?_
  refine lv_iadd hx hb dX5_present_24 ?_
  refine lv_topi (fun v_8 e_8 => ?_)
  obtain rfl : v_8 = 0 := (e_8).trans (by decide)
  refine lv_istore_n (lv' := [(1, .int 0), (2, .int 1), (0, .ref h)]) hx hb dX5_present_25 rfl hl (by decide) rfl (fun ls hl => ?_)
  refine lv_iinc (v := 2) (lv' := [(2, .int 2), (1, .int 0), (0, .ref h)]) hx hb dX5_present_26 hl (k := 1) rfl (by decide) (by decide) rfl (fun ls hl => ?_)
  refine lv_goto (tgt := 4) hx hb dX5_present_29 (by decide) ?_
  refine lv_iload_n hx hb dX5_present_4 rfl (lv_at hl 0 rfl) ?_
  refine lv_bipush (v := 8) hx hb dX5_present_5 (by decide) ?_
  refine lv_icmp_ge (tgt := 32) hx hb dX5_present_7 (by decide) (fun c_ => absurd c_ (by decide)) (fun _ => ?_)
  refine lv_iload_n hx hb dX5_present_10 rfl (lv_at hl 1 rfl) ?_
  refine lv_aload_n hx hb dX5_present_11 rfl (lv_at hl 2 rfl) ?_
  refine lv_iload_n hx hb dX5_present_12 rfl (lv_at hl 0 rfl) ?_
  have hPc_10 := hP.sub (ws' := [(h, .inr (5, [.ref it, .ref la, .ref le])), (la, .inl (cI, 8, .inl fl))]) [0, 1] rfl
  refine vp_callSi (W.runV (As := [.int 2]) (rest := [.int 0]) ⟨hx, hb, hml, hown, hts⟩ (c_X5_isMissing l dC dI cI cZ cL cJ h it la le fl 2 (hfl) (by unfold vp_in; decide)) (cwV 1 hts gX5_present_X5_isMissing rfl rfl rfl (by decide +kernel) ⟨Nat.le_of_ble_eq_true rfl, Nat.le_of_ble_eq_true rfl⟩) ⟨fun a U g mk q => by obtain ⟨q0, qP, qK⟩ := q; exact ⟨q0, qP, va_K.moved (u := U) (U := U.calling g mk a) (Vm.Alike.refl U.vm) qK⟩, va_recv hK hP (ci := 5) (q0 := 0) rfl rfl, fun U hU hW => ⟨rfl, by rw [hU]; exact hPc_10, va_K.moved hW.alike hK⟩⟩ rfl rfl hl.1 rfl (lv_room (Nat.le_of_ble_eq_true rfl)) dX5_present_13 ⟨Nat.le_of_ble_eq_true rfl, Nat.le_of_ble_eq_true rfl⟩) (fun r_10 h_10 => ?_)
  subst h_10
  refine lv_if_eq (tgt := 23) hx hb dX5_present_16 (by decide) (fun c_ => absurd c_ (by decide)) (fun _ => ?_)
  refine lv_iconst (v := 0) hx hb dX5_present_19 (by decide) ?_
  refine lv_goto (tgt := 24) hx hb dX5_present_20 (by decide) ?_
  refine lv_iadd hx hb dX5_present_24 ?_
  refine lv_topi (fun v_12 e_12 => ?_)
  obtain rfl : v_12 = 0 := (e_12).trans (by decide)
  refine lv_istore_n (lv' := [(1, .int 0), (2, .int 2), (0, .ref h)]) hx hb dX5_present_25 rfl hl (by decide) rfl (fun ls hl => ?_)
  refine lv_iinc (v := 3) (lv' := [(2, .int 3), (1, .int 0), (0, .ref h)]) hx hb dX5_present_26 hl (k := 1) rfl (by decide) (by decide) rfl (fun ls hl => ?_)
  refine lv_goto (tgt := 4) hx hb dX5_present_29 (by decide) ?_
  refine lv_iload_n hx hb dX5_present_4 rfl (lv_at hl 0 rfl) ?_
  refine lv_bipush (v := 8) hx hb dX5_present_5 (by decide) ?_
  refine lv_icmp_ge (tgt := 32) hx hb dX5_present_7 (by decide) (fun c_ => absurd c_ (by decide)) (fun _ => ?_)
  refine lv_iload_n hx hb dX5_present_10 rfl (lv_at hl 1 rfl) ?_
  refine lv_aload_n hx hb dX5_present_11 rfl (lv_at hl 2 rfl) ?_
  refine lv_iload_n hx hb dX5_present_12 rfl (lv_at hl 0 rfl) ?_
  have hPc_14 := hP.sub (ws' := [(h, .inr (5, [.ref it, .ref la, .ref le])), (la, .inl (cI, 8, .inl fl))]) [0, 1] rfl
  refine vp_callSi (W.runV (As := [.int 3]) (rest := [.int 0]) ⟨hx, hb, hml, hown, hts⟩ (c_X5_isMissing l dC dI cI cZ cL cJ h it la le fl 3 (hfl) (by unfold vp_in; decide)) (cwV 1 hts gX5_present_X5_isMissing rfl rfl rfl (by decide +kernel) ⟨Nat.le_of_ble_eq_true rfl, Nat.le_of_ble_eq_true rfl⟩) ⟨fun a U g mk q => by obtain ⟨q0, qP, qK⟩ := q; exact ⟨q0, qP, va_K.moved (u := U) (U := U.calling g mk a) (Vm.Alike.refl U.vm) qK⟩, va_recv hK hP (ci := 5) (q0 := 0) rfl rfl, fun U hU hW => ⟨rfl, by rw [hU]; exact hPc_14, va_K.moved hW.alike hK⟩⟩ rfl rfl hl.1 rfl (lv_room (Nat.le_of_ble_eq_true rfl)) dX5_present_13 ⟨Nat.le_of_ble_eq_true rfl, Nat.le_of_ble_eq_true rfl⟩) (fun r_14 h_14 => ?_)
  subst h_14
  refine lv_if_eq (tgt := 23) hx hb dX5_present_16 (by decide) (fun c_ => absurd c_ (by decide)) (fun _ => ?_)
  refine lv_iconst (v := 0) hx hb dX5_present_19 (by decide) ?_
  refine lv_goto (tgt := 24) hx hb dX5_present_20 (by decide) ?_
  refine lv_iadd hx hb dX5_present_24 ?_
  refine lv_topi (fun v_16 e_16 => ?_)
  obtain rfl : v_16 = 0 := (e_16).trans (by decide)
  refine lv_istore_n (lv' := [(1, .int 0), (2, .int 3), (0, .ref h)]) hx hb dX5_present_25 rfl hl (by decide) rfl (fun ls hl => ?_)
  refine lv_iinc (v := 4) (lv' := [(2, .int 4), (1, .int 0), (0, .ref h)]) hx hb dX5_present_26 hl (k := 1) rfl (by decide) (by decide) rfl (fun ls hl => ?_)
  refine lv_goto (tgt := 4) hx hb dX5_present_29 (by decide) ?_
  refine lv_iload_n hx hb dX5_present_4 rfl (lv_at hl 0 rfl) ?_
  refine lv_bipush (v := 8) hx hb dX5_present_5 (by decide) ?_
  refine lv_icmp_ge (tgt := 32) hx hb dX5_present_7 (by decide) (fun c_ => absurd c_ (by decide)) (fun _ => ?_)
  refine lv_iload_n hx hb dX5_present_10 rfl (lv_at hl 1 rfl) ?_
  refine lv_aload_n hx hb dX5_present_11 rfl (lv_at hl 2 rfl) ?_
  refine lv_iload_n hx hb dX5_present_12 rfl (lv_at hl 0 rfl) ?_
  have hPc_18 := hP.sub (ws' := [(h, .inr (5, [.ref it, .ref la, .ref le])), (la, .inl (cI, 8, .inl fl))]) [0, 1] rfl
  refine vp_callSi (W.runV (As := [.int 4]) (rest := [.int 0]) ⟨hx, hb, hml, hown, hts⟩ (c_X5_isMissing l dC dI cI cZ cL cJ h it la le fl 4 (hfl) (by unfold vp_in; decide)) (cwV 1 hts gX5_present_X5_isMissing rfl rfl rfl (by decide +kernel) ⟨Nat.le_of_ble_eq_true rfl, Nat.le_of_ble_eq_true rfl⟩) ⟨fun a U g mk q => by obtain ⟨q0, qP, qK⟩ := q; exact ⟨q0, qP, va_K.moved (u := U) (U := U.calling g mk a) (Vm.Alike.refl U.vm) qK⟩, va_recv hK hP (ci := 5) (q0 := 0) rfl rfl, fun U hU hW => ⟨rfl, by rw [hU]; exact hPc_18, va_K.moved hW.alike hK⟩⟩ rfl rfl hl.1 rfl (lv_room (Nat.le_of_ble_eq_true rfl)) dX5_present_13 ⟨Nat.le_of_ble_eq_true rfl, Nat.le_of_ble_eq_true rfl⟩) (fun r_18 h_18 => ?_)
  subst h_18
  refine lv_if_eq (tgt := 23) hx hb dX5_present_16 (by decide) (fun c_ => absurd c_ (by decide)) (fun _ => ?_)
  refine lv_iconst (v := 0) hx hb dX5_present_19 (by decide) ?_
  refine lv_goto (tgt := 24) hx hb dX5_present_20 (by decide) ?_
  refine lv_iadd hx hb dX5_present_24 ?_
  refine lv_topi (fun v_20 e_20 => ?_)
  obtain rfl : v_20 = 0 := (e_20).trans (by decide)
  refine lv_istore_n (lv' := [(1, .int 0), (2, .int 4), (0, .ref h)]) hx hb dX5_present_25 rfl hl (by decide) rfl (fun ls hl => ?_)
  refine lv_iinc (v := 5) (lv' := [(2, .int 5), (1, .int 0), (0, .ref h)]) hx hb dX5_present_26 hl (k := 1) rfl (by decide) (by decide) rfl (fun ls hl => ?_)
  refine lv_goto (tgt := 4) hx hb dX5_present_29 (by decide) ?_
  refine lv_iload_n hx hb dX5_present_4 rfl (lv_at hl 0 rfl) ?_
  refine lv_bipush (v := 8) hx hb dX5_present_5 (by decide) ?_
  refine lv_icmp_ge (tgt := 32) hx hb dX5_present_7 (by decide) (fun c_ => absurd c_ (by decide)) (fun _ => ?_)
  refine lv_iload_n hx hb dX5_present_10 rfl (lv_at hl 1 rfl) ?_
  refine lv_aload_n hx hb dX5_present_11 rfl (lv_at hl 2 rfl) ?_
  refine lv_iload_n hx hb dX5_present_12 rfl (lv_at hl 0 rfl) ?_
  have hPc_22 := hP.sub (ws' := [(h, .inr (5, [.ref it, .ref la, .ref le])), (la, .inl (cI, 8, .inl fl))]) [0, 1] rfl
  refine vp_callSi (W.runV (As := [.int 5]) (rest := [.int 0]) ⟨hx, hb, hml, hown, hts⟩ (c_X5_isMissing l dC dI cI cZ cL cJ h it la le fl 5 (hfl) (by unfold vp_in; decide)) (cwV 1 hts gX5_present_X5_isMissing rfl rfl rfl (by decide +kernel) ⟨Nat.le_of_ble_eq_true rfl, Nat.le_of_ble_eq_true rfl⟩) ⟨fun a U g mk q => by obtain ⟨q0, qP, qK⟩ := q; exact ⟨q0, qP, va_K.moved (u := U) (U := U.calling g mk a) (Vm.Alike.refl U.vm) qK⟩, va_recv hK hP (ci := 5) (q0 := 0) rfl rfl, fun U hU hW => ⟨rfl, by rw [hU]; exact hPc_22, va_K.moved hW.alike hK⟩⟩ rfl rfl hl.1 rfl (lv_room (Nat.le_of_ble_eq_true rfl)) dX5_present_13 ⟨Nat.le_of_ble_eq_true rfl, Nat.le_of_ble_eq_true rfl⟩) (fun r_22 h_22 => ?_)
  subst h_22
  refine lv_if_eq (tgt := 23) hx hb dX5_present_16 (by decide) (fun c_ => absurd c_ (by decide)) (fun _ => ?_)
  refine lv_iconst (v := 0) hx hb dX5_present_19 (by decide) ?_
  refine lv_goto (tgt := 24) hx hb dX5_present_20 (by decide) ?_
  refine lv_iadd hx hb dX5_present_24 ?_
  refine lv_topi (fun v_24 e_24 => ?_)
  obtain rfl : v_24 = 0 := (e_24).trans (by decide)
  refine lv_istore_n (lv' := [(1, .int 0), (2, .int 5), (0, .ref h)]) hx hb dX5_present_25 rfl hl (by decide) rfl (fun ls hl => ?_)
  refine lv_iinc (v := 6) (lv' := [(2, .int 6), (1, .int 0), (0, .ref h)]) hx hb dX5_present_26 hl (k := 1) rfl (by decide) (by decide) rfl (fun ls hl => ?_)
  refine lv_goto (tgt := 4) hx hb dX5_present_29 (by decide) ?_
  refine lv_iload_n hx hb dX5_present_4 rfl (lv_at hl 0 rfl) ?_
  refine lv_bipush (v := 8) hx hb dX5_present_5 (by decide) ?_
  refine lv_icmp_ge (tgt := 32) hx hb dX5_present_7 (by decide) (fun c_ => absurd c_ (by decide)) (fun _ => ?_)
  refine lv_iload_n hx hb dX5_present_10 rfl (lv_at hl 1 rfl) ?_
  refine lv_aload_n hx hb dX5_present_11 rfl (lv_at hl 2 rfl) ?_
  refine lv_iload_n hx hb dX5_present_12 rfl (lv_at hl 0 rfl) ?_
  have hPc_26 := hP.sub (ws' := [(h, .inr (5, [.ref it, .ref la, .ref le])), (la, .inl (cI, 8, .inl fl))]) [0, 1] rfl
  refine vp_callSi (W.runV (As := [.int 6]) (rest := [.int 0]) ⟨hx, hb, hml, hown, hts⟩ (c_X5_isMissing l dC dI cI cZ cL cJ h it la le fl 6 (hfl) (by unfold vp_in; decide)) (cwV 1 hts gX5_present_X5_isMissing rfl rfl rfl (by decide +kernel) ⟨Nat.le_of_ble_eq_true rfl, Nat.le_of_ble_eq_true rfl⟩) ⟨fun a U g mk q => by obtain ⟨q0, qP, qK⟩ := q; exact ⟨q0, qP, va_K.moved (u := U) (U := U.calling g mk a) (Vm.Alike.refl U.vm) qK⟩, va_recv hK hP (ci := 5) (q0 := 0) rfl rfl, fun U hU hW => ⟨rfl, by rw [hU]; exact hPc_26, va_K.moved hW.alike hK⟩⟩ rfl rfl hl.1 rfl (lv_room (Nat.le_of_ble_eq_true rfl)) dX5_present_13 ⟨Nat.le_of_ble_eq_true rfl, Nat.le_of_ble_eq_true rfl⟩) (fun r_26 h_26 => ?_)
  subst h_26
  refine lv_if_eq (tgt := 23) hx hb dX5_present_16 (by decide) (fun c_ => absurd c_ (by decide)) (fun _ => ?_)
  refine lv_iconst (v := 0) hx hb dX5_present_19 (by decide) ?_
  refine lv_goto (tgt := 24) hx hb dX5_present_20 (by decide) ?_
  refine lv_iadd hx hb dX5_present_24 ?_
  refine lv_topi (fun v_28 e_28 => ?_)
  obtain rfl : v_28 = 0 := (e_28).trans (by decide)
  refine lv_istore_n (lv' := [(1, .int 0), (2, .int 6), (0, .ref h)]) hx hb dX5_present_25 rfl hl (by decide) rfl (fun ls hl => ?_)
  refine lv_iinc (v := 7) (lv' := [(2, .int 7), (1, .int 0), (0, .ref h)]) hx hb dX5_present_26 hl (k := 1) rfl (by decide) (by decide) rfl (fun ls hl => ?_)
  refine lv_goto (tgt := 4) hx hb dX5_present_29 (by decide) ?_
  refine lv_iload_n hx hb dX5_present_4 rfl (lv_at hl 0 rfl) ?_
  refine lv_bipush (v := 8) hx hb dX5_present_5 (by decide) ?_
  refine lv_icmp_ge (tgt := 32) hx hb dX5_present_7 (by decide) (fun c_ => absurd c_ (by decide)) (fun _ => ?_)
  refine lv_iload_n hx hb dX5_present_10 rfl (lv_at hl 1 rfl) ?_
  refine lv_aload_n hx hb dX5_present_11 rfl (lv_at hl 2 rfl) ?_
  refine lv_iload_n hx hb dX5_present_12 rfl (lv_at hl 0 rfl) ?_
  have hPc_30 := hP.sub (ws' := [(h, .inr (5, [.ref it, .ref la, .ref le])), (la, .inl (cI, 8, .inl fl))]) [0, 1] rfl
  refine vp_callSi (W.runV (As := [.int 7]) (rest := [.int 0]) ⟨hx, hb, hml, hown, hts⟩ (c_X5_isMissing l dC dI cI cZ cL cJ h it la le fl 7 (hfl) (by unfold vp_in; decide)) (cwV 1 hts gX5_present_X5_isMissing rfl rfl rfl (by decide +kernel) ⟨Nat.le_of_ble_eq_true rfl, Nat.le_of_ble_eq_true rfl⟩) ⟨fun a U g mk q => by obtain ⟨q0, qP, qK⟩ := q; exact ⟨q0, qP, va_K.moved (u := U) (U := U.calling g mk a) (Vm.Alike.refl U.vm) qK⟩, va_recv hK hP (ci := 5) (q0 := 0) rfl rfl, fun U hU hW => ⟨rfl, by rw [hU]; exact hPc_30, va_K.moved hW.alike hK⟩⟩ rfl rfl hl.1 rfl (lv_room (Nat.le_of_ble_eq_true rfl)) dX5_present_13 ⟨Nat.le_of_ble_eq_true rfl, Nat.le_of_ble_eq_true rfl⟩) (fun r_30 h_30 => ?_)
  subst h_30
  refine lv_if_eq (tgt := 23) hx hb dX5_present_16 (by decide) (fun c_ => absurd c_ (by decide)) (fun _ => ?_)
  refine lv_iconst (v := 0) hx hb dX5_present_19 (by decide) ?_
  refine lv_goto (tgt := 24) hx hb dX5_present_20 (by decide) ?_
  refine lv_iadd hx hb dX5_present_24 ?_
  refine lv_topi (fun v_32 e_32 => ?_)
  obtain rfl : v_32 = 0 := (e_32).trans (by decide)
  refine lv_istore_n (lv' := [(1, .int 0), (2, .int 7), (0, .ref h)]) hx hb dX5_present_25 rfl hl (by decide) rfl (fun ls hl => ?_)
  refine lv_iinc (v := 8) (lv' := [(2, .int 8), (1, .int 0), (0, .ref h)]) hx hb dX5_present_26 hl (k := 1) rfl (by decide) (by decide) rfl (fun ls hl => ?_)
  refine lv_goto (tgt := 4) hx hb dX5_present_29 (by decide) ?_
  refine lv_iload_n hx hb dX5_present_4 rfl (lv_at hl 0 rfl) ?_
  refine lv_bipush (v := 8) hx hb dX5_present_5 (by decide) ?_
  refine lv_icmp_ge (tgt := 32) hx hb dX5_present_7 (by decide) (fun _ => ?_) (fun c_ => absurd (by decide) c_)
  refine lv_iload_n hx hb dX5_present_32 rfl (lv_at hl 1 rfl) ?_
  exact W.iret (v := 0) hx hb hr (fun t ht hW => ⟨0, rfl, rfl, ht⟩) (fun _ h => by cases h) dX5_present_33
set_option maxHeartbeats 4000000 in
set_option maxRecDepth 100000 in
theorem c_X5_make (l : Launch) (dC : Nat → ClassId) (dI : Nat → Nat → Nat) (cI cZ cL cJ : ClassId) (sz : Nat) (h : Nat) (it : Nat) (la : Nat) (le : Nat) (fl : Nat → Int32) (fe : Nat → Int32) (fi : Nat → Option Nat) (y : Nat) (fy : Nat → Int32) (a : Int32) (b : Int32) (n : Int32) (ha : vp_in a 8) (hy : fi a.toNatClampNeg = some y) : Met l yX5_make wsX5_make ({ frames := 1, cells := 0, slots := 0, locals := 23 }) (va_Pc [.ref h, .int a, .int b, .int n] (fun U => U.heap.size = sz ∧ va_P (dC, dI) vwCl [(h, .inr (5, [.ref it, .ref la, .ref le])), (la, .inl (cI, 8, .inl fl)), (le, .inl (cI, 8, .inl fe)), (it, .inl (cJ, 8, .inr (.inr (.inr (.inr fi))))), (y, .inl (cI, 40, .inl fy))] U.heap ∧ va_K (dC, dI) vwCl [(cI, .int), (cZ, .boolean), (cL, .object RX3), (cJ, .array .int)] U ∧ va_D (fun _ => True) [(h, .inr (5, [.ref it, .ref la, .ref le])), (la, .inl (cI, 8, .inl fl)), (le, .inl (cI, 8, .inl fe)), (it, .inl (cJ, 8, .inr (.inr (.inr (.inr fi))))), (y, .inl (cI, 40, .inl fy))])) (va_Qv (fun (_ : Unit) => True) (fun (_ : Unit) t => True) (va_A [(h, .inr (5, [.ref it, .ref la, .ref le])), (la, .inl (cI, 8, .inl fl)), (le, .inl (cI, 8, .inl fe)), (it, .inl (cJ, 8, .inr (.inr (.inr (.inr fi))))), (y, .inl (cI, 40, .inl fy))] sz)) 0 0 (va_A [(h, .inr (5, [.ref it, .ref la, .ref le])), (la, .inl (cI, 8, .inl fl)), (le, .inl (cI, 8, .inl fe)), (it, .inl (cJ, 8, .inr (.inr (.inr (.inr fi))))), (y, .inl (cI, 40, .inl fy))] sz) := by
  refine Met.ofW (cc := cX5_make) (maxL := 4) (ret := none) (by decide) rfl ?_
  intro p e s m args below meth c s₁ B hml hv
  obtain ⟨rfl, hsz, hP, hK, hD0⟩ := hv
  have hx := B.exec
  have hb := B.bytes
  have hr := B.returns
  have hts := atoms_spec (ws := wsX5_make) B.pre
  have hown : s.vm.findClass RX5 = some m.cls := findClass_of_methodNamed B.named
  have hlocks := B.notSynchronized
  subst hsz
  have hD := hD0.self (sz := s.heap.size)
  generalize hAe : va_A [(h, .inr (5, [.ref it, .ref la, .ref le])), (la, .inl (cI, 8, .inl fl)), (le, .inl (cI, 8, .inl fe)), (it, .inl (cJ, 8, .inr (.inr (.inr (.inr fi))))), (y, .inl (cI, 40, .inl fy))] s.heap.size = A at hD ⊢
  have hA : ∀ q : Nat, s.heap.size ≤ q → A q := fun q h => by rw [← hAe]; exact Or.inr h
  have hS : va_S A s.heap s.heap [] := va_S.rf
  have hP : va_P (dC, dI) vwCl [(h, .inr (5, [.ref it, .ref la, .ref le])), (la, .inl (cI, 8, .inl fl)), (le, .inl (cI, 8, .inl fe)), (it, .inl (cJ, 8, .inr (.inr (.inr (.inr fi))))), (y, .inl (cI, 40, .inl fy))] s.heap := hP
  have hl := lv_entry ([.ref h, .int a, .int b, .int n]) (n := 4) (Nat.le_of_ble_eq_true rfl)
  rw [lg_entry_eq]
  generalize (lg_sl ([.ref h, .int a, .int b, .int n]) ++ List.replicate (4 - (lg_sl ([.ref h, .int a, .int b, .int n])).length) Slot.unset).toArray = ls at hl ⊢
  have hl : lv_has ls 4 [(0, .ref h), (1, .int a), (2, .int b), (3, .int n)] := hl
  refine lv_aload_n hx hb dX5_make_0 rfl (lv_at hl 0 rfl) ?_
  refine va_get (D := (dC, dI)) (ci := 5) (v := .ref la) (C := RX5) (T := TX5) (N := 3) hx hb hts i_X5_make_X5 hown hK hP 0 rfl rfl 1 (by decide) (hts (.fieldLink RX5 16 "MillTalk$Rows" "lanes" "[I") (by decide +kernel)) (fun _ h9 => h9) rfl dX5_make_1 ?_
  refine lv_iload_n hx hb dX5_make_4 rfl (lv_at hl 1 rfl) ?_
  refine lv_iload_n hx hb dX5_make_5 rfl (lv_at hl 2 rfl) ?_
  refine va_iast hx hb hK hP hD hS 1 0 rfl rfl ha dX5_make_6 (fun H locs hP hD hS => ?_)
  generalize hg_1 : upd fl (a : Int32).toNatClampNeg b = g_1 at hP hD
  have hP : va_P (dC, dI) vwCl [(h, .inr (5, [.ref it, .ref la, .ref le])), (la, .inl (cI, 8, .inl g_1)), (le, .inl (cI, 8, .inl fe)), (it, .inl (cJ, 8, .inr (.inr (.inr (.inr fi))))), (y, .inl (cI, 40, .inl fy))] H := hP
  have hD : va_D A [(h, .inr (5, [.ref it, .ref la, .ref le])), (la, .inl (cI, 8, .inl g_1)), (le, .inl (cI, 8, .inl fe)), (it, .inl (cJ, 8, .inr (.inr (.inr (.inr fi))))), (y, .inl (cI, 40, .inl fy))] := hD
  refine lv_aload_n hx hb dX5_make_7 rfl (lv_at hl 0 rfl) ?_
  refine va_get (D := (dC, dI)) (ci := 5) (v := .ref le) (C := RX5) (T := TX5) (N := 3) hx hb hts i_X5_make_X5 hown hK hP 0 rfl rfl 2 (by decide) (hts (.fieldLink RX5 20 "MillTalk$Rows" "lengths" "[I") (by decide +kernel)) (fun _ h9 => h9) rfl dX5_make_8 ?_
  refine lv_iload_n hx hb dX5_make_11 rfl (lv_at hl 1 rfl) ?_
  refine lv_iload_n hx hb dX5_make_12 rfl (lv_at hl 3 rfl) ?_
  refine va_iast hx hb hK hP hD hS 2 0 rfl rfl ha dX5_make_13 (fun H locs hP hD hS => ?_)
  generalize hg_2 : upd fe (a : Int32).toNatClampNeg n = g_2 at hP hD
  have hP : va_P (dC, dI) vwCl [(h, .inr (5, [.ref it, .ref la, .ref le])), (la, .inl (cI, 8, .inl g_1)), (le, .inl (cI, 8, .inl g_2)), (it, .inl (cJ, 8, .inr (.inr (.inr (.inr fi))))), (y, .inl (cI, 40, .inl fy))] H := hP
  have hD : va_D A [(h, .inr (5, [.ref it, .ref la, .ref le])), (la, .inl (cI, 8, .inl g_1)), (le, .inl (cI, 8, .inl g_2)), (it, .inl (cJ, 8, .inr (.inr (.inr (.inr fi))))), (y, .inl (cI, 40, .inl fy))] := hD
  refine lv_aload_n hx hb dX5_make_14 rfl (lv_at hl 0 rfl) ?_
  refine va_get (D := (dC, dI)) (ci := 5) (v := .ref it) (C := RX5) (T := TX5) (N := 3) hx hb hts i_X5_make_X5 hown hK hP 0 rfl rfl 0 (by decide) (hts (.fieldLink RX5 13 "MillTalk$Rows" "items" "[[I") (by decide +kernel)) (fun _ h9 => h9) rfl dX5_make_15 ?_
  refine lv_iload_n hx hb dX5_make_18 rfl (lv_at hl 1 rfl) ?_
  refine nw_ald hx hb hK hP 3 3 rfl rfl ha dX5_make_19 ?_
  refine W.eq (g2 := F0 m 20 ls (.ref y :: [])) (by show F0 m 20 ls (va_rf (fi a.toNatClampNeg) :: _) = _; rw [hy]; rfl) ?_
  refine lv_iconst (v := 0) hx hb dX5_make_20 (by decide) ?_
  have hPc_3 := hP.sub (ws' := [(y, .inl (cI, 40, .inl fy))]) [4] rfl
  have hDc_3 := hD.sub (ws' := [(y, .inl (cI, 40, .inl fy))]) [4] (by decide) rfl
  have hFc_3 := va_free (wc := [(y, .inl (cI, 40, .inl fy))]) hD hS hA [4] rfl
  refine va_callv (va_runS (As := [.ref y, .int 0]) (rest := []) ⟨hx, hb, hml, hown, hts⟩ (c_J7_fill l dC dI cI cZ cL cJ H.size y 40 fy 0 (by decide)) (va_cwS 2 hts gX5_make_J7_fill_53178 rfl rfl rfl (by decide +kernel) ⟨Nat.le_of_ble_eq_true rfl, Nat.le_of_ble_eq_true rfl⟩) ⟨fun a U g mk q => by obtain ⟨q0, q1, qP, qK, qD⟩ := q; exact ⟨q0, q1, qP, va_K.moved (u := U) (U := U.calling g mk a) (Vm.Alike.refl U.vm) qK, qD⟩, fun U hU hW => ⟨rfl, by rw [hU], by rw [hU]; exact hPc_3, va_K.moved hW.alike hK, hDc_3.weaken (fun _ _ _ _ => trivial)⟩⟩ rfl rfl hl.1 rfl (lv_room (Nat.le_of_ble_eq_true rfl)) dX5_make_21 ⟨Nat.le_of_ble_eq_true rfl, Nat.le_of_ble_eq_true rfl⟩) hS (fun q _ h => hFc_3 q h) hFc_3 (fun u_3 t_3 H1 locs ht hvm h_3 hB hz1 hk1 hS => ?_)
  obtain ⟨g_3, hP1, hD1, hF_3_0⟩ := hB
  rw [ht] at hP1
  obtain ⟨hP, hD⟩ := va_join (wr := [(h, .inr (5, [.ref it, .ref la, .ref le])), (la, .inl (cI, 8, .inl g_1)), (le, .inl (cI, 8, .inl g_2)), (it, .inl (cJ, 8, .inr (.inr (.inr (.inr fi)))))]) (w1 := [(y, .inl (cI, 40, .inl g_3))]) hP hD [4] [0, 1, 2, 3] rfl rfl (by decide) (by decide) hk1 hFc_3 hP1 hD1
  generalize H1 = H at hP hS ⊢
  have hP : va_P (dC, dI) vwCl [(h, .inr (5, [.ref it, .ref la, .ref le])), (la, .inl (cI, 8, .inl g_1)), (le, .inl (cI, 8, .inl g_2)), (it, .inl (cJ, 8, .inr (.inr (.inr (.inr fi))))), (y, .inl (cI, 40, .inl g_3))] H := hP
  have hD : va_D A [(h, .inr (5, [.ref it, .ref la, .ref le])), (la, .inl (cI, 8, .inl g_1)), (le, .inl (cI, 8, .inl g_2)), (it, .inl (cJ, 8, .inr (.inr (.inr (.inr fi))))), (y, .inl (cI, 40, .inl g_3))] := hD
  exact W.vret hx hb hr (fun t ht hW => ⟨⟨(), rfl, trivial, trivial⟩, hS.F ht⟩) hS.2.2 dX5_make_24
set_option maxHeartbeats 4000000 in
set_option maxRecDepth 100000 in
theorem c_X5_init (l : Launch) (dC : Nat → ClassId) (dI : Nat → Nat → Nat) (cI cZ cL cJ : ClassId) (sz : Nat) (h : Nat)  : Met l yX5_init wsX5_init ({ frames := 1, cells := 11, slots := 344, locals := 23 }) (va_Pc [.ref h] (fun U => U.heap.size = sz ∧ va_P (dC, dI) vwCl [(h, .inr (5, [.null, .null, .null]))] U.heap ∧ va_K (dC, dI) vwCl [(cI, .int), (cZ, .boolean), (cL, .object RX3), (cJ, .array .int)] U ∧ va_D (fun _ => True) [(h, .inr (5, [.null, .null, .null]))] ∧ nw_ok cI cJ U)) (va_Qv (fun (_ : Unit) => True) (fun (_ : Unit) t => ∃ (it : Nat) (la : Nat) (le : Nat) (fl : Nat → Int32), va_P (dC, dI) vwCl [(h, .inr (5, [.ref it, .ref la, .ref le])), (la, .inl (cI, 8, .inl fl)), (le, .inl (cI, 8, .inl (fun _ => 0))), (it, .inl (cJ, 8, .inr (.inr (.inr (.inr (fun i => if i < 8 then some (it + 1 + i) else none)))))), ((it + 1 + 0), .inl (cI, 40, .inl (fun _ => 0))), ((it + 1 + 1), .inl (cI, 40, .inl (fun _ => 0))), ((it + 1 + 2), .inl (cI, 40, .inl (fun _ => 0))), ((it + 1 + 3), .inl (cI, 40, .inl (fun _ => 0))), ((it + 1 + 4), .inl (cI, 40, .inl (fun _ => 0))), ((it + 1 + 5), .inl (cI, 40, .inl (fun _ => 0))), ((it + 1 + 6), .inl (cI, 40, .inl (fun _ => 0))), ((it + 1 + 7), .inl (cI, 40, .inl (fun _ => 0)))] t.heap ∧ va_D (va_A [(h, .inr (5, [.null, .null, .null]))] sz) [(h, .inr (5, [.ref it, .ref la, .ref le])), (la, .inl (cI, 8, .inl fl)), (le, .inl (cI, 8, .inl (fun _ => 0))), (it, .inl (cJ, 8, .inr (.inr (.inr (.inr (fun i => if i < 8 then some (it + 1 + i) else none)))))), ((it + 1 + 0), .inl (cI, 40, .inl (fun _ => 0))), ((it + 1 + 1), .inl (cI, 40, .inl (fun _ => 0))), ((it + 1 + 2), .inl (cI, 40, .inl (fun _ => 0))), ((it + 1 + 3), .inl (cI, 40, .inl (fun _ => 0))), ((it + 1 + 4), .inl (cI, 40, .inl (fun _ => 0))), ((it + 1 + 5), .inl (cI, 40, .inl (fun _ => 0))), ((it + 1 + 6), .inl (cI, 40, .inl (fun _ => 0))), ((it + 1 + 7), .inl (cI, 40, .inl (fun _ => 0)))] ∧ (∀ j : Nat, j < 8 → fl j = -1)) (va_A [(h, .inr (5, [.null, .null, .null]))] sz)) 11 344 (va_A [(h, .inr (5, [.null, .null, .null]))] sz) := by
  refine Met.ofW (cc := cX5_init) (maxL := 1) (ret := none) (by decide) rfl ?_
  intro p e s m args below meth c s₁ B hml hv
  obtain ⟨rfl, hsz, hP, hK, hD0, hN⟩ := hv
  have hx := B.exec
  have hb := B.bytes
  have hr := B.returns
  have hts := atoms_spec (ws := wsX5_init) B.pre
  have hown : s.vm.findClass RX5 = some m.cls := findClass_of_methodNamed B.named
  have hlocks := B.notSynchronized
  have hin : meth.name = "<init>" := (name_of_methodNamed B.named B.method).1
  subst hsz
  have hD := hD0.self (sz := s.heap.size)
  generalize hAe : va_A [(h, .inr (5, [.null, .null, .null]))] s.heap.size = A at hD ⊢
  have hA : ∀ q : Nat, s.heap.size ≤ q → A q := fun q h => by rw [← hAe]; exact Or.inr h
  have hS : va_S A s.heap s.heap [] := va_S.rf
  have hP : va_P (dC, dI) vwCl [(h, .inr (5, [.null, .null, .null]))] s.heap := hP
  have hl := lv_entry ([.ref h]) (n := 1) (Nat.le_of_ble_eq_true rfl)
  rw [lg_entry_eq]
  generalize (lg_sl ([.ref h]) ++ List.replicate (1 - (lg_sl ([.ref h])).length) Slot.unset).toArray = ls at hl ⊢
  have hl : lv_has ls 1 [(0, .ref h)] := hl
  refine lv_aload_n hx hb dX5_init_0 rfl (lv_at hl 0 rfl) ?_
  refine W.objInit hx hb hown (hts (.methodLink RX5 3 objectInit) (by decide +kernel)) (hts (.instanceMethod objectInit) (by decide +kernel)) (hts _ (List.mem_of_getElem? (l := wsX5_init) (i := 3) rfl)) rfl (by rw [hml]; exact hl.1) rfl dX5_init_1 (Nat.le_of_ble_eq_true rfl) (Nat.le_of_ble_eq_true rfl) ?_
  refine W.eq (g2 := F0 m 4 ls []) rfl ?_
  refine lv_aload_n hx hb dX5_init_4 rfl (lv_at hl 0 rfl) ?_
  refine lv_bipush (v := 8) hx hb dX5_init_5 (by decide) ?_
  refine lv_bipush (v := 40) hx hb dX5_init_7 (by decide) ?_
  refine nw_mn (t0 := 0) (t3 := 3) (own := RX5) rfl rfl hx hb hown (hts (.classLink RX5 11 "[[I") (by decide +kernel)) hN.2.1 hK hP hD hS hA (Nat.le_of_ble_eq_true rfl) (Nat.le_of_ble_eq_true rfl) dX5_init_9 (fun q_1 H locs hP hD hS => ?_)
  have hP : va_P (dC, dI) vwCl [(h, .inr (5, [.null, .null, .null])), (q_1, .inl (cJ, 8, .inr (.inr (.inr (.inr (fun i => if i < 8 then some (q_1 + 1 + i) else none)))))), ((q_1 + 1 + 0), .inl (cI, 40, .inl (fun _ => 0))), ((q_1 + 1 + 1), .inl (cI, 40, .inl (fun _ => 0))), ((q_1 + 1 + 2), .inl (cI, 40, .inl (fun _ => 0))), ((q_1 + 1 + 3), .inl (cI, 40, .inl (fun _ => 0))), ((q_1 + 1 + 4), .inl (cI, 40, .inl (fun _ => 0))), ((q_1 + 1 + 5), .inl (cI, 40, .inl (fun _ => 0))), ((q_1 + 1 + 6), .inl (cI, 40, .inl (fun _ => 0))), ((q_1 + 1 + 7), .inl (cI, 40, .inl (fun _ => 0)))] H := hP
  have hD : va_D A [(h, .inr (5, [.null, .null, .null])), (q_1, .inl (cJ, 8, .inr (.inr (.inr (.inr (fun i => if i < 8 then some (q_1 + 1 + i) else none)))))), ((q_1 + 1 + 0), .inl (cI, 40, .inl (fun _ => 0))), ((q_1 + 1 + 1), .inl (cI, 40, .inl (fun _ => 0))), ((q_1 + 1 + 2), .inl (cI, 40, .inl (fun _ => 0))), ((q_1 + 1 + 3), .inl (cI, 40, .inl (fun _ => 0))), ((q_1 + 1 + 4), .inl (cI, 40, .inl (fun _ => 0))), ((q_1 + 1 + 5), .inl (cI, 40, .inl (fun _ => 0))), ((q_1 + 1 + 6), .inl (cI, 40, .inl (fun _ => 0))), ((q_1 + 1 + 7), .inl (cI, 40, .inl (fun _ => 0)))] := hD
  refine W.widen (k := 9) (n := 328) (Nat.le_of_ble_eq_true rfl) (Nat.le_of_ble_eq_true rfl) ?_
  refine va_putF (D := (dC, dI)) (ci := 5) (v := .ref q_1) (ty := (tyX5 0)) (C := RX5) (T := TX5) (N := 3) hx hb hts i_X5_init_X5 tyX5 tyX5_ok nmX5 hown hK hP hD hS 0 rfl rfl 0 (by decide) (hts (.fieldLink RX5 13 "MillTalk$Rows" "items" "[[I") (by decide +kernel)) (fun _ h9 => h9) rfl hin rfl (by decide +kernel) rfl rfl (Nat.le_of_ble_eq_true rfl) dX5_init_13 (fun H locs hP hD hS => ?_)
  have hP : va_P (dC, dI) vwCl [(h, .inr (5, [.ref q_1, .null, .null])), (q_1, .inl (cJ, 8, .inr (.inr (.inr (.inr (fun i => if i < 8 then some (q_1 + 1 + i) else none)))))), ((q_1 + 1 + 0), .inl (cI, 40, .inl (fun _ => 0))), ((q_1 + 1 + 1), .inl (cI, 40, .inl (fun _ => 0))), ((q_1 + 1 + 2), .inl (cI, 40, .inl (fun _ => 0))), ((q_1 + 1 + 3), .inl (cI, 40, .inl (fun _ => 0))), ((q_1 + 1 + 4), .inl (cI, 40, .inl (fun _ => 0))), ((q_1 + 1 + 5), .inl (cI, 40, .inl (fun _ => 0))), ((q_1 + 1 + 6), .inl (cI, 40, .inl (fun _ => 0))), ((q_1 + 1 + 7), .inl (cI, 40, .inl (fun _ => 0)))] H := hP
  have hD : va_D A [(h, .inr (5, [.ref q_1, .null, .null])), (q_1, .inl (cJ, 8, .inr (.inr (.inr (.inr (fun i => if i < 8 then some (q_1 + 1 + i) else none)))))), ((q_1 + 1 + 0), .inl (cI, 40, .inl (fun _ => 0))), ((q_1 + 1 + 1), .inl (cI, 40, .inl (fun _ => 0))), ((q_1 + 1 + 2), .inl (cI, 40, .inl (fun _ => 0))), ((q_1 + 1 + 3), .inl (cI, 40, .inl (fun _ => 0))), ((q_1 + 1 + 4), .inl (cI, 40, .inl (fun _ => 0))), ((q_1 + 1 + 5), .inl (cI, 40, .inl (fun _ => 0))), ((q_1 + 1 + 6), .inl (cI, 40, .inl (fun _ => 0))), ((q_1 + 1 + 7), .inl (cI, 40, .inl (fun _ => 0)))] := hD
  refine lv_aload_n hx hb dX5_init_16 rfl (lv_at hl 0 rfl) ?_
  refine lv_bipush (v := 8) hx hb dX5_init_17 (by decide) ?_
  refine nw_newI (t0 := 0) (N' := 8) rfl hx hb (hts (.arrayClass .int) (by decide +kernel)) hK hP hD hS hA (by decide) (by decide) (by decide) (Nat.le_of_ble_eq_true rfl) (Nat.le_of_ble_eq_true rfl) dX5_init_19 (fun q_2 H hP hD hS => ?_)
  have hP : va_P (dC, dI) vwCl [(h, .inr (5, [.ref q_1, .null, .null])), (q_1, .inl (cJ, 8, .inr (.inr (.inr (.inr (fun i => if i < 8 then some (q_1 + 1 + i) else none)))))), ((q_1 + 1 + 0), .inl (cI, 40, .inl (fun _ => 0))), ((q_1 + 1 + 1), .inl (cI, 40, .inl (fun _ => 0))), ((q_1 + 1 + 2), .inl (cI, 40, .inl (fun _ => 0))), ((q_1 + 1 + 3), .inl (cI, 40, .inl (fun _ => 0))), ((q_1 + 1 + 4), .inl (cI, 40, .inl (fun _ => 0))), ((q_1 + 1 + 5), .inl (cI, 40, .inl (fun _ => 0))), ((q_1 + 1 + 6), .inl (cI, 40, .inl (fun _ => 0))), ((q_1 + 1 + 7), .inl (cI, 40, .inl (fun _ => 0))), (q_2, .inl (cI, 8, .inl (fun _ => 0)))] H := hP
  have hD : va_D A [(h, .inr (5, [.ref q_1, .null, .null])), (q_1, .inl (cJ, 8, .inr (.inr (.inr (.inr (fun i => if i < 8 then some (q_1 + 1 + i) else none)))))), ((q_1 + 1 + 0), .inl (cI, 40, .inl (fun _ => 0))), ((q_1 + 1 + 1), .inl (cI, 40, .inl (fun _ => 0))), ((q_1 + 1 + 2), .inl (cI, 40, .inl (fun _ => 0))), ((q_1 + 1 + 3), .inl (cI, 40, .inl (fun _ => 0))), ((q_1 + 1 + 4), .inl (cI, 40, .inl (fun _ => 0))), ((q_1 + 1 + 5), .inl (cI, 40, .inl (fun _ => 0))), ((q_1 + 1 + 6), .inl (cI, 40, .inl (fun _ => 0))), ((q_1 + 1 + 7), .inl (cI, 40, .inl (fun _ => 0))), (q_2, .inl (cI, 8, .inl (fun _ => 0)))] := hD
  refine W.widen (k := 10) (n := 336) (Nat.le_of_ble_eq_true rfl) (Nat.le_of_ble_eq_true rfl) ?_
  refine va_putF (D := (dC, dI)) (ci := 5) (v := .ref q_2) (ty := (tyX5 1)) (C := RX5) (T := TX5) (N := 3) hx hb hts i_X5_init_X5 tyX5 tyX5_ok nmX5 hown hK hP hD hS 0 rfl rfl 1 (by decide) (hts (.fieldLink RX5 16 "MillTalk$Rows" "lanes" "[I") (by decide +kernel)) (fun _ h9 => h9) rfl hin rfl (by decide +kernel) rfl rfl (Nat.le_of_ble_eq_true rfl) dX5_init_21 (fun H locs hP hD hS => ?_)
  have hP : va_P (dC, dI) vwCl [(h, .inr (5, [.ref q_1, .ref q_2, .null])), (q_1, .inl (cJ, 8, .inr (.inr (.inr (.inr (fun i => if i < 8 then some (q_1 + 1 + i) else none)))))), ((q_1 + 1 + 0), .inl (cI, 40, .inl (fun _ => 0))), ((q_1 + 1 + 1), .inl (cI, 40, .inl (fun _ => 0))), ((q_1 + 1 + 2), .inl (cI, 40, .inl (fun _ => 0))), ((q_1 + 1 + 3), .inl (cI, 40, .inl (fun _ => 0))), ((q_1 + 1 + 4), .inl (cI, 40, .inl (fun _ => 0))), ((q_1 + 1 + 5), .inl (cI, 40, .inl (fun _ => 0))), ((q_1 + 1 + 6), .inl (cI, 40, .inl (fun _ => 0))), ((q_1 + 1 + 7), .inl (cI, 40, .inl (fun _ => 0))), (q_2, .inl (cI, 8, .inl (fun _ => 0)))] H := hP
  have hD : va_D A [(h, .inr (5, [.ref q_1, .ref q_2, .null])), (q_1, .inl (cJ, 8, .inr (.inr (.inr (.inr (fun i => if i < 8 then some (q_1 + 1 + i) else none)))))), ((q_1 + 1 + 0), .inl (cI, 40, .inl (fun _ => 0))), ((q_1 + 1 + 1), .inl (cI, 40, .inl (fun _ => 0))), ((q_1 + 1 + 2), .inl (cI, 40, .inl (fun _ => 0))), ((q_1 + 1 + 3), .inl (cI, 40, .inl (fun _ => 0))), ((q_1 + 1 + 4), .inl (cI, 40, .inl (fun _ => 0))), ((q_1 + 1 + 5), .inl (cI, 40, .inl (fun _ => 0))), ((q_1 + 1 + 6), .inl (cI, 40, .inl (fun _ => 0))), ((q_1 + 1 + 7), .inl (cI, 40, .inl (fun _ => 0))), (q_2, .inl (cI, 8, .inl (fun _ => 0)))] := hD
  refine lv_aload_n hx hb dX5_init_24 rfl (lv_at hl 0 rfl) ?_
  refine lv_bipush (v := 8) hx hb dX5_init_25 (by decide) ?_
  refine nw_newI (t0 := 0) (N' := 8) rfl hx hb (hts (.arrayClass .int) (by decide +kernel)) hK hP hD hS hA (by decide) (by decide) (by decide) (Nat.le_of_ble_eq_true rfl) (Nat.le_of_ble_eq_true rfl) dX5_init_27 (fun q_3 H hP hD hS => ?_)
  have hP : va_P (dC, dI) vwCl [(h, .inr (5, [.ref q_1, .ref q_2, .null])), (q_1, .inl (cJ, 8, .inr (.inr (.inr (.inr (fun i => if i < 8 then some (q_1 + 1 + i) else none)))))), ((q_1 + 1 + 0), .inl (cI, 40, .inl (fun _ => 0))), ((q_1 + 1 + 1), .inl (cI, 40, .inl (fun _ => 0))), ((q_1 + 1 + 2), .inl (cI, 40, .inl (fun _ => 0))), ((q_1 + 1 + 3), .inl (cI, 40, .inl (fun _ => 0))), ((q_1 + 1 + 4), .inl (cI, 40, .inl (fun _ => 0))), ((q_1 + 1 + 5), .inl (cI, 40, .inl (fun _ => 0))), ((q_1 + 1 + 6), .inl (cI, 40, .inl (fun _ => 0))), ((q_1 + 1 + 7), .inl (cI, 40, .inl (fun _ => 0))), (q_2, .inl (cI, 8, .inl (fun _ => 0))), (q_3, .inl (cI, 8, .inl (fun _ => 0)))] H := hP
  have hD : va_D A [(h, .inr (5, [.ref q_1, .ref q_2, .null])), (q_1, .inl (cJ, 8, .inr (.inr (.inr (.inr (fun i => if i < 8 then some (q_1 + 1 + i) else none)))))), ((q_1 + 1 + 0), .inl (cI, 40, .inl (fun _ => 0))), ((q_1 + 1 + 1), .inl (cI, 40, .inl (fun _ => 0))), ((q_1 + 1 + 2), .inl (cI, 40, .inl (fun _ => 0))), ((q_1 + 1 + 3), .inl (cI, 40, .inl (fun _ => 0))), ((q_1 + 1 + 4), .inl (cI, 40, .inl (fun _ => 0))), ((q_1 + 1 + 5), .inl (cI, 40, .inl (fun _ => 0))), ((q_1 + 1 + 6), .inl (cI, 40, .inl (fun _ => 0))), ((q_1 + 1 + 7), .inl (cI, 40, .inl (fun _ => 0))), (q_2, .inl (cI, 8, .inl (fun _ => 0))), (q_3, .inl (cI, 8, .inl (fun _ => 0)))] := hD
  refine W.widen (k := 11) (n := 344) (Nat.le_of_ble_eq_true rfl) (Nat.le_of_ble_eq_true rfl) ?_
  refine va_putF (D := (dC, dI)) (ci := 5) (v := .ref q_3) (ty := (tyX5 2)) (C := RX5) (T := TX5) (N := 3) hx hb hts i_X5_init_X5 tyX5 tyX5_ok nmX5 hown hK hP hD hS 0 rfl rfl 2 (by decide) (hts (.fieldLink RX5 20 "MillTalk$Rows" "lengths" "[I") (by decide +kernel)) (fun _ h9 => h9) rfl hin rfl (by decide +kernel) rfl rfl (Nat.le_of_ble_eq_true rfl) dX5_init_29 (fun H locs hP hD hS => ?_)
  have hP : va_P (dC, dI) vwCl [(h, .inr (5, [.ref q_1, .ref q_2, .ref q_3])), (q_1, .inl (cJ, 8, .inr (.inr (.inr (.inr (fun i => if i < 8 then some (q_1 + 1 + i) else none)))))), ((q_1 + 1 + 0), .inl (cI, 40, .inl (fun _ => 0))), ((q_1 + 1 + 1), .inl (cI, 40, .inl (fun _ => 0))), ((q_1 + 1 + 2), .inl (cI, 40, .inl (fun _ => 0))), ((q_1 + 1 + 3), .inl (cI, 40, .inl (fun _ => 0))), ((q_1 + 1 + 4), .inl (cI, 40, .inl (fun _ => 0))), ((q_1 + 1 + 5), .inl (cI, 40, .inl (fun _ => 0))), ((q_1 + 1 + 6), .inl (cI, 40, .inl (fun _ => 0))), ((q_1 + 1 + 7), .inl (cI, 40, .inl (fun _ => 0))), (q_2, .inl (cI, 8, .inl (fun _ => 0))), (q_3, .inl (cI, 8, .inl (fun _ => 0)))] H := hP
  have hD : va_D A [(h, .inr (5, [.ref q_1, .ref q_2, .ref q_3])), (q_1, .inl (cJ, 8, .inr (.inr (.inr (.inr (fun i => if i < 8 then some (q_1 + 1 + i) else none)))))), ((q_1 + 1 + 0), .inl (cI, 40, .inl (fun _ => 0))), ((q_1 + 1 + 1), .inl (cI, 40, .inl (fun _ => 0))), ((q_1 + 1 + 2), .inl (cI, 40, .inl (fun _ => 0))), ((q_1 + 1 + 3), .inl (cI, 40, .inl (fun _ => 0))), ((q_1 + 1 + 4), .inl (cI, 40, .inl (fun _ => 0))), ((q_1 + 1 + 5), .inl (cI, 40, .inl (fun _ => 0))), ((q_1 + 1 + 6), .inl (cI, 40, .inl (fun _ => 0))), ((q_1 + 1 + 7), .inl (cI, 40, .inl (fun _ => 0))), (q_2, .inl (cI, 8, .inl (fun _ => 0))), (q_3, .inl (cI, 8, .inl (fun _ => 0)))] := hD
  refine lv_aload_n hx hb dX5_init_32 rfl (lv_at hl 0 rfl) ?_
  refine va_get (D := (dC, dI)) (ci := 5) (v := .ref q_2) (C := RX5) (T := TX5) (N := 3) hx hb hts i_X5_init_X5 hown hK hP 0 rfl rfl 1 (by decide) (hts (.fieldLink RX5 16 "MillTalk$Rows" "lanes" "[I") (by decide +kernel)) (fun _ h9 => h9) rfl dX5_init_33 ?_
  refine lv_iconst (v := (-1)) hx hb dX5_init_36 (by decide) ?_
  have hPc_4 := hP.sub (ws' := [(q_2, .inl (cI, 8, .inl (fun _ => 0)))]) [10] rfl
  have hDc_4 := hD.sub (ws' := [(q_2, .inl (cI, 8, .inl (fun _ => 0)))]) [10] (by decide) rfl
  have hFc_4 := va_free (wc := [(q_2, .inl (cI, 8, .inl (fun _ => 0)))]) hD hS hA [10] rfl
  refine va_callv (va_runS (As := [.ref q_2, .int (-1)]) (rest := []) ⟨hx, hb, hml, hown, hts⟩ (c_J7_fill l dC dI cI cZ cL cJ H.size q_2 8 (fun _ => 0) (-1) (by decide)) (va_cwS 2 hts gX5_init_J7_fill_53178 rfl rfl rfl (by decide +kernel) ⟨Nat.le_of_ble_eq_true rfl, Nat.le_of_ble_eq_true rfl⟩) ⟨fun a U g mk q => by obtain ⟨q0, q1, qP, qK, qD⟩ := q; exact ⟨q0, q1, qP, va_K.moved (u := U) (U := U.calling g mk a) (Vm.Alike.refl U.vm) qK, qD⟩, fun U hU hW => ⟨rfl, by rw [hU], by rw [hU]; exact hPc_4, va_K.moved hW.alike hK, hDc_4.weaken (fun _ _ _ _ => trivial)⟩⟩ rfl rfl hl.1 rfl (lv_room (Nat.le_of_ble_eq_true rfl)) dX5_init_37 ⟨Nat.le_of_ble_eq_true rfl, Nat.le_of_ble_eq_true rfl⟩) hS (fun q _ h => hFc_4 q h) hFc_4 (fun u_4 t_4 H1 locs ht hvm h_4 hB hz1 hk1 hS => ?_)
  obtain ⟨g_4, hP1, hD1, hF_4_0⟩ := hB
  rw [ht] at hP1
  obtain ⟨hP, hD⟩ := va_join (wr := [(h, .inr (5, [.ref q_1, .ref q_2, .ref q_3])), (q_1, .inl (cJ, 8, .inr (.inr (.inr (.inr (fun i => if i < 8 then some (q_1 + 1 + i) else none)))))), ((q_1 + 1 + 0), .inl (cI, 40, .inl (fun _ => 0))), ((q_1 + 1 + 1), .inl (cI, 40, .inl (fun _ => 0))), ((q_1 + 1 + 2), .inl (cI, 40, .inl (fun _ => 0))), ((q_1 + 1 + 3), .inl (cI, 40, .inl (fun _ => 0))), ((q_1 + 1 + 4), .inl (cI, 40, .inl (fun _ => 0))), ((q_1 + 1 + 5), .inl (cI, 40, .inl (fun _ => 0))), ((q_1 + 1 + 6), .inl (cI, 40, .inl (fun _ => 0))), ((q_1 + 1 + 7), .inl (cI, 40, .inl (fun _ => 0))), (q_3, .inl (cI, 8, .inl (fun _ => 0)))]) (w1 := [(q_2, .inl (cI, 8, .inl g_4))]) hP hD [10] [0, 1, 2, 3, 4, 5, 6, 7, 8, 9, 11] rfl rfl (by decide) (by decide) hk1 hFc_4 hP1 hD1
  generalize H1 = H at hP hS ⊢
  have hP : va_P (dC, dI) vwCl [(h, .inr (5, [.ref q_1, .ref q_2, .ref q_3])), (q_1, .inl (cJ, 8, .inr (.inr (.inr (.inr (fun i => if i < 8 then some (q_1 + 1 + i) else none)))))), ((q_1 + 1 + 0), .inl (cI, 40, .inl (fun _ => 0))), ((q_1 + 1 + 1), .inl (cI, 40, .inl (fun _ => 0))), ((q_1 + 1 + 2), .inl (cI, 40, .inl (fun _ => 0))), ((q_1 + 1 + 3), .inl (cI, 40, .inl (fun _ => 0))), ((q_1 + 1 + 4), .inl (cI, 40, .inl (fun _ => 0))), ((q_1 + 1 + 5), .inl (cI, 40, .inl (fun _ => 0))), ((q_1 + 1 + 6), .inl (cI, 40, .inl (fun _ => 0))), ((q_1 + 1 + 7), .inl (cI, 40, .inl (fun _ => 0))), (q_3, .inl (cI, 8, .inl (fun _ => 0))), (q_2, .inl (cI, 8, .inl g_4))] H := hP
  have hD : va_D A [(h, .inr (5, [.ref q_1, .ref q_2, .ref q_3])), (q_1, .inl (cJ, 8, .inr (.inr (.inr (.inr (fun i => if i < 8 then some (q_1 + 1 + i) else none)))))), ((q_1 + 1 + 0), .inl (cI, 40, .inl (fun _ => 0))), ((q_1 + 1 + 1), .inl (cI, 40, .inl (fun _ => 0))), ((q_1 + 1 + 2), .inl (cI, 40, .inl (fun _ => 0))), ((q_1 + 1 + 3), .inl (cI, 40, .inl (fun _ => 0))), ((q_1 + 1 + 4), .inl (cI, 40, .inl (fun _ => 0))), ((q_1 + 1 + 5), .inl (cI, 40, .inl (fun _ => 0))), ((q_1 + 1 + 6), .inl (cI, 40, .inl (fun _ => 0))), ((q_1 + 1 + 7), .inl (cI, 40, .inl (fun _ => 0))), (q_3, .inl (cI, 8, .inl (fun _ => 0))), (q_2, .inl (cI, 8, .inl g_4))] := hD
  have hP9 := hP.sub (ws' := [(h, .inr (5, [.ref q_1, .ref q_2, .ref q_3])), (q_2, .inl (cI, 8, .inl g_4)), (q_3, .inl (cI, 8, .inl (fun _ => 0))), (q_1, .inl (cJ, 8, .inr (.inr (.inr (.inr (fun i => if i < 8 then some (q_1 + 1 + i) else none)))))), ((q_1 + 1 + 0), .inl (cI, 40, .inl (fun _ => 0))), ((q_1 + 1 + 1), .inl (cI, 40, .inl (fun _ => 0))), ((q_1 + 1 + 2), .inl (cI, 40, .inl (fun _ => 0))), ((q_1 + 1 + 3), .inl (cI, 40, .inl (fun _ => 0))), ((q_1 + 1 + 4), .inl (cI, 40, .inl (fun _ => 0))), ((q_1 + 1 + 5), .inl (cI, 40, .inl (fun _ => 0))), ((q_1 + 1 + 6), .inl (cI, 40, .inl (fun _ => 0))), ((q_1 + 1 + 7), .inl (cI, 40, .inl (fun _ => 0)))]) [0, 11, 10, 1, 2, 3, 4, 5, 6, 7, 8, 9] rfl
  have hD9 := hD.sub (ws' := [(h, .inr (5, [.ref q_1, .ref q_2, .ref q_3])), (q_2, .inl (cI, 8, .inl g_4)), (q_3, .inl (cI, 8, .inl (fun _ => 0))), (q_1, .inl (cJ, 8, .inr (.inr (.inr (.inr (fun i => if i < 8 then some (q_1 + 1 + i) else none)))))), ((q_1 + 1 + 0), .inl (cI, 40, .inl (fun _ => 0))), ((q_1 + 1 + 1), .inl (cI, 40, .inl (fun _ => 0))), ((q_1 + 1 + 2), .inl (cI, 40, .inl (fun _ => 0))), ((q_1 + 1 + 3), .inl (cI, 40, .inl (fun _ => 0))), ((q_1 + 1 + 4), .inl (cI, 40, .inl (fun _ => 0))), ((q_1 + 1 + 5), .inl (cI, 40, .inl (fun _ => 0))), ((q_1 + 1 + 6), .inl (cI, 40, .inl (fun _ => 0))), ((q_1 + 1 + 7), .inl (cI, 40, .inl (fun _ => 0)))]) [0, 11, 10, 1, 2, 3, 4, 5, 6, 7, 8, 9] (by decide) rfl
  exact W.vret hx hb hr (fun t ht hW => ⟨⟨(), rfl, trivial, ⟨q_1, q_2, q_3, g_4, by rw [ht]; exact hP9, hD9, hF_4_0⟩⟩, hS.F ht⟩) hS.2.2 dX5_init_40
