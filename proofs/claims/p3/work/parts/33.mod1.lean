set_option maxHeartbeats 4000000 in
set_option maxRecDepth 100000 in
theorem r_X8_in (l : Launch) (dC : Nat → ClassId) (dI : Nat → Nat → Nat) (cI cZ cL cJ : ClassId) (v : Int64) (lo : Int64) (hi : Int64)  : Met l yX8_in wsX8_in ({ frames := 0, cells := 0, slots := 0, locals := 0 }) (va_Pc [.long v, .long lo, .long hi] (fun U => va_P (dC, dI) vwCl [] U.heap ∧ va_K (dC, dI) vwCl [(cI, .int), (cZ, .boolean), (cL, .object RX3), (cJ, .array .int)] U)) (vp_Si (fun r => (r = 0 ∧ (v < lo ∨ hi < v)) ∨ (r = 1 ∧ (¬ (v < lo ∨ hi < v))))) 0 0 (fun _ => False) := by
  refine Met.ofW (cc := cX8_in) (maxL := 6) (ret := (some .boolean)) (by decide) rfl ?_
  intro p e s m args below meth c s₁ B hml hv
  obtain ⟨rfl, hP, hK⟩ := hv
  have hx := B.exec
  have hb := B.bytes
  have hr := B.returns
  have hts := atoms_spec (ws := wsX8_in) B.pre
  have hown : s.vm.findClass RX8 = some m.cls := findClass_of_methodNamed B.named
  have hlocks := B.notSynchronized
  have hP : va_P (dC, dI) vwCl [] s.heap := hP
  have hl := lv_entry ([.long v, .long lo, .long hi]) (n := 6) (Nat.le_of_ble_eq_true rfl)
  rw [lg_entry_eq]
  generalize (lg_sl ([.long v, .long lo, .long hi]) ++ List.replicate (6 - (lg_sl ([.long v, .long lo, .long hi])).length) Slot.unset).toArray = ls at hl ⊢
  have hl : lv_has ls 6 [(0, .long v), (2, .long lo), (4, .long hi)] := hl
  refine lv_lload_n hx hb dX8_in_0 rfl (lv_at hl 0 rfl) ?_
  refine lv_lload_n hx hb dX8_in_1 rfl (lv_at hl 1 rfl) ?_
  refine W.lcmp hx hb dX8_in_2 ?_
  refine lv_if_lt (tgt := 17) hx hb dX8_in_3 (by decide) (fun c_1 => ?_) (fun c_1 => ?_)
  · have c_1 : (v < lo : Prop) := (lg_cmp_lt _ _).mp c_1
    refine lv_iconst (v := 0) hx hb dX8_in_17 (by decide) ?_
    exact W.zret (v := 0) hx hb hr (by decide) (fun t ht hW => ⟨0, rfl, Or.inl (⟨rfl, (by first | assumption | grind)⟩), ht⟩) (fun _ h => by cases h) dX8_in_18
  · have c_1 : ¬ (v < lo) := fun h => c_1 ((lg_cmp_lt _ _).mpr h)
    refine lv_lload_n hx hb dX8_in_6 rfl (lv_at hl 0 rfl) ?_
    refine lv_lload hx hb dX8_in_7 (lv_at hl 2 rfl) ?_
    refine W.lcmp hx hb dX8_in_9 ?_
    refine lv_if_gt (tgt := 17) hx hb dX8_in_10 (by decide) (fun c_2 => ?_) (fun c_2 => ?_)
    · have c_2 : (hi < v : Prop) := (lg_cmp_gt _ _).mp c_2
      refine lv_iconst (v := 0) hx hb dX8_in_17 (by decide) ?_
      exact W.zret (v := 0) hx hb hr (by decide) (fun t ht hW => ⟨0, rfl, Or.inl (⟨rfl, (by first | assumption | grind)⟩), ht⟩) (fun _ h => by cases h) dX8_in_18
    · have c_2 : ¬ (hi < v) := fun h => c_2 ((lg_cmp_gt _ _).mpr h)
      refine lv_iconst (v := 1) hx hb dX8_in_13 (by decide) ?_
      refine lv_goto (tgt := 18) hx hb dX8_in_14 (by decide) ?_
      exact W.zret (v := 1) hx hb hr (by decide) (fun t ht hW => ⟨1, rfl, Or.inr (⟨rfl, (by first | assumption | grind)⟩), ht⟩) (fun _ h => by cases h) dX8_in_18
set_option maxHeartbeats 4000000 in
set_option maxRecDepth 100000 in
theorem r_X8_has (l : Launch) (dC : Nat → ClassId) (dI : Nat → Nat → Nat) (cI cZ cL cJ : ClassId) (x : Int32) (y : Int32)  : Met l yX8_has wsX8_has ({ frames := 0, cells := 0, slots := 0, locals := 0 }) (va_Pc [.int x, .int y] (fun U => va_P (dC, dI) vwCl [] U.heap ∧ va_K (dC, dI) vwCl [(cI, .int), (cZ, .boolean), (cL, .object RX3), (cJ, .array .int)] U)) (vp_Si (fun r => (r = 0 ∧ ¬ hasB x y) ∨ (r = 1 ∧ hasB x y))) 0 0 (fun _ => False) := by
  refine Met.ofW (cc := cX8_has) (maxL := 2) (ret := (some .boolean)) (by decide) rfl ?_
  intro p e s m args below meth c s₁ B hml hv
  obtain ⟨rfl, hP, hK⟩ := hv
  have hx := B.exec
  have hb := B.bytes
  have hr := B.returns
  have hts := atoms_spec (ws := wsX8_has) B.pre
  have hown : s.vm.findClass RX8 = some m.cls := findClass_of_methodNamed B.named
  have hlocks := B.notSynchronized
  have hP : va_P (dC, dI) vwCl [] s.heap := hP
  have hl := lv_entry ([.int x, .int y]) (n := 2) (Nat.le_of_ble_eq_true rfl)
  rw [lg_entry_eq]
  generalize (lg_sl ([.int x, .int y]) ++ List.replicate (2 - (lg_sl ([.int x, .int y])).length) Slot.unset).toArray = ls at hl ⊢
  have hl : lv_has ls 2 [(0, .int x), (1, .int y)] := hl
  refine lv_iload_n hx hb dX8_has_0 rfl (lv_at hl 0 rfl) ?_
  refine lv_iload_n hx hb dX8_has_1 rfl (lv_at hl 1 rfl) ?_
  refine lv_ishr hx hb dX8_has_2 ?_
  refine lv_topi (fun v_1 e_1 => ?_)
  refine lv_iconst (v := 1) hx hb dX8_has_3 (by decide) ?_
  refine lv_iand hx hb dX8_has_4 ?_
  refine lv_topi (fun v_2 e_2 => ?_)
  refine lv_iconst (v := 1) hx hb dX8_has_5 (by decide) ?_
  refine lv_icmp_ne (tgt := 13) hx hb dX8_has_6 (by decide) (fun c_3 => ?_) (fun c_3 => ?_)
  · skip
    refine lv_iconst (v := 0) hx hb dX8_has_13 (by decide) ?_
    exact W.zret (v := 0) hx hb hr (by decide) (fun t ht hW => ⟨0, rfl, Or.inl ⟨rfl, fun q_ => c_3 (by rw [e_2, e_1]; exact q_)⟩, ht⟩) (fun _ h => by cases h) dX8_has_14
  · skip
    refine lv_iconst (v := 1) hx hb dX8_has_9 (by decide) ?_
    refine lv_goto (tgt := 14) hx hb dX8_has_10 (by decide) ?_
    exact W.zret (v := 1) hx hb hr (by decide) (fun t ht hW => ⟨1, rfl, Or.inr ⟨rfl, by rw [e_2, e_1] at c_3; exact c_3⟩, ht⟩) (fun _ h => by cases h) dX8_has_14
set_option maxHeartbeats 4000000 in
set_option maxRecDepth 100000 in
theorem r_X8_drifts (l : Launch) (dC : Nat → ClassId) (dI : Nat → Nat → Nat) (cI cZ cL cJ : ClassId) (x : Int32) (y : Int32)  : Met l yX8_drifts wsX8_drifts ({ frames := 0, cells := 0, slots := 0, locals := 0 }) (va_Pc [.int x, .int y] (fun U => va_P (dC, dI) vwCl [] U.heap ∧ va_K (dC, dI) vwCl [(cI, .int), (cZ, .boolean), (cL, .object RX3), (cJ, .array .int)] U)) (vp_Si (fun r => True)) 0 0 (fun _ => False) := by
  refine Met.ofW (cc := cX8_drifts) (maxL := 2) (ret := (some .int)) (by decide) rfl ?_
  intro p e s m args below meth c s₁ B hml hv
  obtain ⟨rfl, hP, hK⟩ := hv
  have hx := B.exec
  have hb := B.bytes
  have hr := B.returns
  have hts := atoms_spec (ws := wsX8_drifts) B.pre
  have hown : s.vm.findClass RX8 = some m.cls := findClass_of_methodNamed B.named
  have hlocks := B.notSynchronized
  have hP : va_P (dC, dI) vwCl [] s.heap := hP
  have hl := lv_entry ([.int x, .int y]) (n := 2) (Nat.le_of_ble_eq_true rfl)
  rw [lg_entry_eq]
  generalize (lg_sl ([.int x, .int y]) ++ List.replicate (2 - (lg_sl ([.int x, .int y])).length) Slot.unset).toArray = ls at hl ⊢
  have hl : lv_has ls 2 [(0, .int x), (1, .int y)] := hl
  refine lv_iload_n hx hb dX8_drifts_0 rfl (lv_at hl 0 rfl) ?_
  refine lv_iconst (v := 1) hx hb dX8_drifts_1 (by decide) ?_
  refine lv_icmp_ne (tgt := 9) hx hb dX8_drifts_2 (by decide) (fun c_1 => ?_) (fun c_1 => ?_)
  · skip
    refine lv_iload_n hx hb dX8_drifts_9 rfl (lv_at hl 0 rfl) ?_
    refine lv_iconst (v := 2) hx hb dX8_drifts_10 (by decide) ?_
    refine lv_icmp_ne (tgt := 20) hx hb dX8_drifts_11 (by decide) (fun c_2 => ?_) (fun c_2 => ?_)
    · skip
      refine lv_iload_n hx hb dX8_drifts_20 rfl (lv_at hl 0 rfl) ?_
      refine lv_iconst (v := 3) hx hb dX8_drifts_21 (by decide) ?_
      refine lv_icmp_ne (tgt := 31) hx hb dX8_drifts_22 (by decide) (fun c_3 => ?_) (fun c_3 => ?_)
      · skip
        refine lv_iload_n hx hb dX8_drifts_31 rfl (lv_at hl 0 rfl) ?_
        refine lv_iconst (v := 4) hx hb dX8_drifts_32 (by decide) ?_
        refine lv_icmp_ne (tgt := 41) hx hb dX8_drifts_33 (by decide) (fun c_4 => ?_) (fun c_4 => ?_)
        · skip
          refine lv_iconst (v := 0) hx hb dX8_drifts_41 (by decide) ?_
          exact W.iret (v := 0) hx hb hr (fun t ht hW => ⟨0, rfl, trivial, ht⟩) (fun _ h => by cases h) dX8_drifts_42
        · skip
          refine lv_iload_n hx hb dX8_drifts_36 rfl (lv_at hl 1 rfl) ?_
          refine lv_ineg hx hb dX8_drifts_37 ?_
          refine lv_topi (fun v_5 e_5 => ?_)
          refine lv_goto (tgt := 42) hx hb dX8_drifts_38 (by decide) ?_
          exact W.iret (v := v_5) hx hb hr (fun t ht hW => ⟨v_5, rfl, trivial, ht⟩) (fun _ h => by cases h) dX8_drifts_42
      · skip
        refine lv_iconst (v := 2) hx hb dX8_drifts_25 (by decide) ?_
        refine lv_iload_n hx hb dX8_drifts_26 rfl (lv_at hl 1 rfl) ?_
        refine lv_imul hx hb dX8_drifts_27 ?_
        refine lv_topi (fun v_6 e_6 => ?_)
        refine lv_goto (tgt := 42) hx hb dX8_drifts_28 (by decide) ?_
        exact W.iret (v := v_6) hx hb hr (fun t ht hW => ⟨v_6, rfl, trivial, ht⟩) (fun _ h => by cases h) dX8_drifts_42
    · skip
      refine lv_iload_n hx hb dX8_drifts_14 rfl (lv_at hl 1 rfl) ?_
      refine lv_iconst (v := 2) hx hb dX8_drifts_15 (by decide) ?_
      refine lv_idiv hx hb dX8_drifts_16 (by decide) ?_
      refine lv_topi (fun v_7 e_7 => ?_)
      refine lv_goto (tgt := 42) hx hb dX8_drifts_17 (by decide) ?_
      exact W.iret (v := v_7) hx hb hr (fun t ht hW => ⟨v_7, rfl, trivial, ht⟩) (fun _ h => by cases h) dX8_drifts_42
  · skip
    refine lv_iload_n hx hb dX8_drifts_5 rfl (lv_at hl 1 rfl) ?_
    refine lv_goto (tgt := 42) hx hb dX8_drifts_6 (by decide) ?_
    exact W.iret (v := y) hx hb hr (fun t ht hW => ⟨y, rfl, trivial, ht⟩) (fun _ h => by cases h) dX8_drifts_42
set_option maxHeartbeats 4000000 in
set_option maxRecDepth 100000 in
theorem r_X8_kindBy (l : Launch) (dC : Nat → ClassId) (dI : Nat → Nat → Nat) (cI cZ cL cJ : ClassId) (x : Int32)  : Met l yX8_kindBy wsX8_kindBy ({ frames := 0, cells := 0, slots := 0, locals := 0 }) (va_Pc [.int x] (fun U => va_P (dC, dI) vwCl [] U.heap ∧ va_K (dC, dI) vwCl [(cI, .int), (cZ, .boolean), (cL, .object RX3), (cJ, .array .int)] U)) (vp_Si (fun r => True)) 0 0 (fun _ => False) := by
  refine Met.ofW (cc := cX8_kindBy) (maxL := 1) (ret := (some .int)) (by decide) rfl ?_
  intro p e s m args below meth c s₁ B hml hv
  obtain ⟨rfl, hP, hK⟩ := hv
  have hx := B.exec
  have hb := B.bytes
  have hr := B.returns
  have hts := atoms_spec (ws := wsX8_kindBy) B.pre
  have hown : s.vm.findClass RX8 = some m.cls := findClass_of_methodNamed B.named
  have hlocks := B.notSynchronized
  have hP : va_P (dC, dI) vwCl [] s.heap := hP
  have hl := lv_entry ([.int x]) (n := 1) (Nat.le_of_ble_eq_true rfl)
  rw [lg_entry_eq]
  generalize (lg_sl ([.int x]) ++ List.replicate (1 - (lg_sl ([.int x])).length) Slot.unset).toArray = ls at hl ⊢
  have hl : lv_has ls 1 [(0, .int x)] := hl
  refine lv_iload_n hx hb dX8_kindBy_0 rfl (lv_at hl 0 rfl) ?_
  refine lv_bipush (v := 118) hx hb dX8_kindBy_1 (by decide) ?_
  refine lv_icmp_ne (tgt := 10) hx hb dX8_kindBy_3 (by decide) (fun c_1 => ?_) (fun c_1 => ?_)
  · skip
    refine lv_iload_n hx hb dX8_kindBy_10 rfl (lv_at hl 0 rfl) ?_
    refine lv_bipush (v := 98) hx hb dX8_kindBy_11 (by decide) ?_
    refine lv_icmp_ne (tgt := 20) hx hb dX8_kindBy_13 (by decide) (fun c_2 => ?_) (fun c_2 => ?_)
    · skip
      refine lv_iload_n hx hb dX8_kindBy_20 rfl (lv_at hl 0 rfl) ?_
      refine lv_bipush (v := 104) hx hb dX8_kindBy_21 (by decide) ?_
      refine lv_icmp_ne (tgt := 30) hx hb dX8_kindBy_23 (by decide) (fun c_3 => ?_) (fun c_3 => ?_)
      · skip
        refine lv_iload_n hx hb dX8_kindBy_30 rfl (lv_at hl 0 rfl) ?_
        refine lv_bipush (v := 100) hx hb dX8_kindBy_31 (by decide) ?_
        refine lv_icmp_ne (tgt := 40) hx hb dX8_kindBy_33 (by decide) (fun c_4 => ?_) (fun c_4 => ?_)
        · skip
          refine lv_iload_n hx hb dX8_kindBy_40 rfl (lv_at hl 0 rfl) ?_
          refine lv_bipush (v := 115) hx hb dX8_kindBy_41 (by decide) ?_
          refine lv_icmp_ne (tgt := 50) hx hb dX8_kindBy_43 (by decide) (fun c_5 => ?_) (fun c_5 => ?_)
          · skip
            refine lv_iconst (v := 0) hx hb dX8_kindBy_50 (by decide) ?_
            exact W.iret (v := 0) hx hb hr (fun t ht hW => ⟨0, rfl, trivial, ht⟩) (fun _ h => by cases h) dX8_kindBy_51
          · skip
            refine lv_iconst (v := 5) hx hb dX8_kindBy_46 (by decide) ?_
            refine lv_goto (tgt := 51) hx hb dX8_kindBy_47 (by decide) ?_
            exact W.iret (v := 5) hx hb hr (fun t ht hW => ⟨5, rfl, trivial, ht⟩) (fun _ h => by cases h) dX8_kindBy_51
        · skip
          refine lv_iconst (v := 4) hx hb dX8_kindBy_36 (by decide) ?_
          refine lv_goto (tgt := 51) hx hb dX8_kindBy_37 (by decide) ?_
          exact W.iret (v := 4) hx hb hr (fun t ht hW => ⟨4, rfl, trivial, ht⟩) (fun _ h => by cases h) dX8_kindBy_51
      · skip
        refine lv_iconst (v := 3) hx hb dX8_kindBy_26 (by decide) ?_
        refine lv_goto (tgt := 51) hx hb dX8_kindBy_27 (by decide) ?_
        exact W.iret (v := 3) hx hb hr (fun t ht hW => ⟨3, rfl, trivial, ht⟩) (fun _ h => by cases h) dX8_kindBy_51
    · skip
      refine lv_iconst (v := 2) hx hb dX8_kindBy_16 (by decide) ?_
      refine lv_goto (tgt := 51) hx hb dX8_kindBy_17 (by decide) ?_
      exact W.iret (v := 2) hx hb hr (fun t ht hW => ⟨2, rfl, trivial, ht⟩) (fun _ h => by cases h) dX8_kindBy_51
  · skip
    refine lv_iconst (v := 1) hx hb dX8_kindBy_6 (by decide) ?_
    refine lv_goto (tgt := 51) hx hb dX8_kindBy_7 (by decide) ?_
    exact W.iret (v := 1) hx hb hr (fun t ht hW => ⟨1, rfl, trivial, ht⟩) (fun _ h => by cases h) dX8_kindBy_51
set_option maxHeartbeats 4000000 in
set_option maxRecDepth 100000 in
theorem r_X8_isKind (l : Launch) (dC : Nat → ClassId) (dI : Nat → Nat → Nat) (cI cZ cL cJ : ClassId) (x : Int32) (y : Int32)  : Met l yX8_isKind wsX8_isKind ({ frames := 0, cells := 0, slots := 0, locals := 0 }) (va_Pc [.int x, .int y] (fun U => va_P (dC, dI) vwCl [] U.heap ∧ va_K (dC, dI) vwCl [(cI, .int), (cZ, .boolean), (cL, .object RX3), (cJ, .array .int)] U)) (vp_Si (fun r => True)) 0 0 (fun _ => False) := by
  refine Met.ofW (cc := cX8_isKind) (maxL := 2) (ret := (some .boolean)) (by decide) rfl ?_
  intro p e s m args below meth c s₁ B hml hv
  obtain ⟨rfl, hP, hK⟩ := hv
  have hx := B.exec
  have hb := B.bytes
  have hr := B.returns
  have hts := atoms_spec (ws := wsX8_isKind) B.pre
  have hown : s.vm.findClass RX8 = some m.cls := findClass_of_methodNamed B.named
  have hlocks := B.notSynchronized
  have hP : va_P (dC, dI) vwCl [] s.heap := hP
  have hl := lv_entry ([.int x, .int y]) (n := 2) (Nat.le_of_ble_eq_true rfl)
  rw [lg_entry_eq]
  generalize (lg_sl ([.int x, .int y]) ++ List.replicate (2 - (lg_sl ([.int x, .int y])).length) Slot.unset).toArray = ls at hl ⊢
  have hl : lv_has ls 2 [(0, .int x), (1, .int y)] := hl
  refine lv_iload_n hx hb dX8_isKind_0 rfl (lv_at hl 1 rfl) ?_
  refine lv_if_eq (tgt := 29) hx hb dX8_isKind_1 (by decide) (fun c_1 => ?_) (fun c_1 => ?_)
  · skip
    refine lv_iconst (v := 1) hx hb dX8_isKind_29 (by decide) ?_
    refine lv_goto (tgt := 34) hx hb dX8_isKind_30 (by decide) ?_
    exact W.zret (v := 1) hx hb hr (by decide) (fun t ht hW => ⟨1, rfl, trivial, ht⟩) (fun _ h => by cases h) dX8_isKind_34
  · skip
    refine lv_iload_n hx hb dX8_isKind_4 rfl (lv_at hl 0 rfl) ?_
    refine lv_iload_n hx hb dX8_isKind_5 rfl (lv_at hl 1 rfl) ?_
    refine lv_icmp_eq (tgt := 29) hx hb dX8_isKind_6 (by decide) (fun c_2 => ?_) (fun c_2 => ?_)
    · skip
      refine lv_iconst (v := 1) hx hb dX8_isKind_29 (by decide) ?_
      refine lv_goto (tgt := 34) hx hb dX8_isKind_30 (by decide) ?_
      exact W.zret (v := 1) hx hb hr (by decide) (fun t ht hW => ⟨1, rfl, trivial, ht⟩) (fun _ h => by cases h) dX8_isKind_34
    · skip
      refine lv_iload_n hx hb dX8_isKind_9 rfl (lv_at hl 1 rfl) ?_
      refine lv_iconst (v := 1) hx hb dX8_isKind_10 (by decide) ?_
      refine lv_icmp_ne (tgt := 19) hx hb dX8_isKind_11 (by decide) (fun c_3 => ?_) (fun c_3 => ?_)
      · skip
        refine lv_iload_n hx hb dX8_isKind_19 rfl (lv_at hl 1 rfl) ?_
        refine lv_iconst (v := 4) hx hb dX8_isKind_20 (by decide) ?_
        refine lv_icmp_ne (tgt := 33) hx hb dX8_isKind_21 (by decide) (fun c_4 => ?_) (fun c_4 => ?_)
        · skip
          refine lv_iconst (v := 0) hx hb dX8_isKind_33 (by decide) ?_
          exact W.zret (v := 0) hx hb hr (by decide) (fun t ht hW => ⟨0, rfl, trivial, ht⟩) (fun _ h => by cases h) dX8_isKind_34
        · skip
          refine lv_iload_n hx hb dX8_isKind_24 rfl (lv_at hl 0 rfl) ?_
          refine lv_iconst (v := 5) hx hb dX8_isKind_25 (by decide) ?_
          refine lv_icmp_ne (tgt := 33) hx hb dX8_isKind_26 (by decide) (fun c_5 => ?_) (fun c_5 => ?_)
          · skip
            refine lv_iconst (v := 0) hx hb dX8_isKind_33 (by decide) ?_
            exact W.zret (v := 0) hx hb hr (by decide) (fun t ht hW => ⟨0, rfl, trivial, ht⟩) (fun _ h => by cases h) dX8_isKind_34
          · skip
            refine lv_iconst (v := 1) hx hb dX8_isKind_29 (by decide) ?_
            refine lv_goto (tgt := 34) hx hb dX8_isKind_30 (by decide) ?_
            exact W.zret (v := 1) hx hb hr (by decide) (fun t ht hW => ⟨1, rfl, trivial, ht⟩) (fun _ h => by cases h) dX8_isKind_34
      · skip
        refine lv_iload_n hx hb dX8_isKind_14 rfl (lv_at hl 0 rfl) ?_
        refine lv_iconst (v := 4) hx hb dX8_isKind_15 (by decide) ?_
        refine lv_icmp_lt (tgt := 29) hx hb dX8_isKind_16 (by decide) (fun c_6 => ?_) (fun c_6 => ?_)
        · skip
          refine lv_iconst (v := 1) hx hb dX8_isKind_29 (by decide) ?_
          refine lv_goto (tgt := 34) hx hb dX8_isKind_30 (by decide) ?_
          exact W.zret (v := 1) hx hb hr (by decide) (fun t ht hW => ⟨1, rfl, trivial, ht⟩) (fun _ h => by cases h) dX8_isKind_34
        · skip
          refine lv_iload_n hx hb dX8_isKind_19 rfl (lv_at hl 1 rfl) ?_
          refine lv_iconst (v := 4) hx hb dX8_isKind_20 (by decide) ?_
          refine lv_icmp_ne (tgt := 33) hx hb dX8_isKind_21 (by decide) (fun c_7 => ?_) (fun c_7 => ?_)
          · skip
            refine lv_iconst (v := 0) hx hb dX8_isKind_33 (by decide) ?_
            exact W.zret (v := 0) hx hb hr (by decide) (fun t ht hW => ⟨0, rfl, trivial, ht⟩) (fun _ h => by cases h) dX8_isKind_34
          · skip
            refine lv_iload_n hx hb dX8_isKind_24 rfl (lv_at hl 0 rfl) ?_
            refine lv_iconst (v := 5) hx hb dX8_isKind_25 (by decide) ?_
            refine lv_icmp_ne (tgt := 33) hx hb dX8_isKind_26 (by decide) (fun c_8 => ?_) (fun c_8 => ?_)
            · skip
              refine lv_iconst (v := 0) hx hb dX8_isKind_33 (by decide) ?_
              exact W.zret (v := 0) hx hb hr (by decide) (fun t ht hW => ⟨0, rfl, trivial, ht⟩) (fun _ h => by cases h) dX8_isKind_34
            · skip
              refine lv_iconst (v := 1) hx hb dX8_isKind_29 (by decide) ?_
              refine lv_goto (tgt := 34) hx hb dX8_isKind_30 (by decide) ?_
              exact W.zret (v := 1) hx hb hr (by decide) (fun t ht hW => ⟨1, rfl, trivial, ht⟩) (fun _ h => by cases h) dX8_isKind_34
theorem lf_X8_asLane_1 {x : Int32} {y : Int32} (c_1 : ¬ (x = 0)) (c_2 : ¬ (x = 1)) : y = (laneM x y) := by
  unfold laneM; grind
theorem lf_X8_asLane_2 {x : Int32} {y : Int32} {v_3 : Int32} {v_4 : Int32} (c_1 : ¬ (x = 0)) (c_2 : x = 1) (e_3 : v_3 = (y <<< (16 &&& 31))) (e_4 : v_4 = (v_3 >>> (16 &&& 31))) : v_4 = (laneM x y) := by
  unfold laneM; grind
theorem lf_X8_asLane_3 {x : Int32} {y : Int32} {v_5 : Int32} {v_6 : Int32} (c_1 : x = 0) (e_5 : v_5 = (y <<< (24 &&& 31))) (e_6 : v_6 = (v_5 >>> (24 &&& 31))) : v_6 = (laneM x y) := by
  unfold laneM; grind
set_option maxHeartbeats 4000000 in
set_option maxRecDepth 100000 in
theorem r_X8_asLane (l : Launch) (dC : Nat → ClassId) (dI : Nat → Nat → Nat) (cI cZ cL cJ : ClassId) (x : Int32) (y : Int32)  : Met l yX8_asLane wsX8_asLane ({ frames := 0, cells := 0, slots := 0, locals := 0 }) (va_Pc [.int x, .int y] (fun U => va_P (dC, dI) vwCl [] U.heap ∧ va_K (dC, dI) vwCl [(cI, .int), (cZ, .boolean), (cL, .object RX3), (cJ, .array .int)] U)) (vp_Si (fun r => r = (laneM x y))) 0 0 (fun _ => False) := by
  refine Met.ofW (cc := cX8_asLane) (maxL := 2) (ret := (some .int)) (by decide) rfl ?_
  intro p e s m args below meth c s₁ B hml hv
  obtain ⟨rfl, hP, hK⟩ := hv
  have hx := B.exec
  have hb := B.bytes
  have hr := B.returns
  have hts := atoms_spec (ws := wsX8_asLane) B.pre
  have hown : s.vm.findClass RX8 = some m.cls := findClass_of_methodNamed B.named
  have hlocks := B.notSynchronized
  have hP : va_P (dC, dI) vwCl [] s.heap := hP
  have hl := lv_entry ([.int x, .int y]) (n := 2) (Nat.le_of_ble_eq_true rfl)
  rw [lg_entry_eq]
  generalize (lg_sl ([.int x, .int y]) ++ List.replicate (2 - (lg_sl ([.int x, .int y])).length) Slot.unset).toArray = ls at hl ⊢
  have hl : lv_has ls 2 [(0, .int x), (1, .int y)] := hl
  refine lv_iload_n hx hb dX8_asLane_0 rfl (lv_at hl 0 rfl) ?_
  refine lv_if_ne (tgt := 14) hx hb dX8_asLane_1 (by decide) (fun c_1 => ?_) (fun c_1 => ?_)
  · skip
    refine lv_iload_n hx hb dX8_asLane_14 rfl (lv_at hl 0 rfl) ?_
    refine lv_iconst (v := 1) hx hb dX8_asLane_15 (by decide) ?_
    refine lv_icmp_ne (tgt := 29) hx hb dX8_asLane_16 (by decide) (fun c_2 => ?_) (fun c_2 => ?_)
    · skip
      refine lv_iload_n hx hb dX8_asLane_29 rfl (lv_at hl 1 rfl) ?_
      exact W.iret (v := y) hx hb hr (fun t ht hW => ⟨y, rfl, (lf_X8_asLane_1 c_1 c_2), ht⟩) (fun _ h => by cases h) dX8_asLane_30
    · skip
      refine lv_iload_n hx hb dX8_asLane_19 rfl (lv_at hl 1 rfl) ?_
      refine lv_bipush (v := 16) hx hb dX8_asLane_20 (by decide) ?_
      refine lv_ishl hx hb dX8_asLane_22 ?_
      refine lv_topi (fun v_3 e_3 => ?_)
      refine lv_bipush (v := 16) hx hb dX8_asLane_23 (by decide) ?_
      refine lv_ishr hx hb dX8_asLane_25 ?_
      refine lv_topi (fun v_4 e_4 => ?_)
      refine lv_goto (tgt := 30) hx hb dX8_asLane_26 (by decide) ?_
      exact W.iret (v := v_4) hx hb hr (fun t ht hW => ⟨v_4, rfl, (lf_X8_asLane_2 c_1 c_2 e_3 e_4), ht⟩) (fun _ h => by cases h) dX8_asLane_30
  · skip
    refine lv_iload_n hx hb dX8_asLane_4 rfl (lv_at hl 1 rfl) ?_
    refine lv_bipush (v := 24) hx hb dX8_asLane_5 (by decide) ?_
    refine lv_ishl hx hb dX8_asLane_7 ?_
    refine lv_topi (fun v_5 e_5 => ?_)
    refine lv_bipush (v := 24) hx hb dX8_asLane_8 (by decide) ?_
    refine lv_ishr hx hb dX8_asLane_10 ?_
    refine lv_topi (fun v_6 e_6 => ?_)
    refine lv_goto (tgt := 30) hx hb dX8_asLane_11 (by decide) ?_
    exact W.iret (v := v_6) hx hb hr (fun t ht hW => ⟨v_6, rfl, (lf_X8_asLane_3 c_1 e_5 e_6), ht⟩) (fun _ h => by cases h) dX8_asLane_30
set_option maxHeartbeats 4000000 in
set_option maxRecDepth 100000 in
theorem r_X8_isWhat (l : Launch) (dC : Nat → ClassId) (dI : Nat → Nat → Nat) (cI cZ cL cJ : ClassId) (x : Int32)  : Met l yX8_isWhat wsX8_isWhat ({ frames := 1, cells := 0, slots := 0, locals := 25 }) (va_Pc [.int x] (fun U => va_P (dC, dI) vwCl [] U.heap ∧ va_K (dC, dI) vwCl [(cI, .int), (cZ, .boolean), (cL, .object RX3), (cJ, .array .int)] U)) (vp_Si (fun r => True)) 0 0 (fun _ => False) := by
  refine Met.ofW (cc := cX8_isWhat) (maxL := 1) (ret := (some .boolean)) (by decide) rfl ?_
  intro p e s m args below meth c s₁ B hml hv
  obtain ⟨rfl, hP, hK⟩ := hv
  have hx := B.exec
  have hb := B.bytes
  have hr := B.returns
  have hts := atoms_spec (ws := wsX8_isWhat) B.pre
  have hown : s.vm.findClass RX8 = some m.cls := findClass_of_methodNamed B.named
  have hlocks := B.notSynchronized
  have hP : va_P (dC, dI) vwCl [] s.heap := hP
  have hl := lv_entry ([.int x]) (n := 1) (Nat.le_of_ble_eq_true rfl)
  rw [lg_entry_eq]
  generalize (lg_sl ([.int x]) ++ List.replicate (1 - (lg_sl ([.int x])).length) Slot.unset).toArray = ls at hl ⊢
  have hl : lv_has ls 1 [(0, .int x)] := hl
  refine lv_iload_n hx hb dX8_isWhat_0 rfl (lv_at hl 0 rfl) ?_
  refine lv_i2l hx hb dX8_isWhat_1 rfl ?_
  refine lv_lconst (v := 0) hx hb dX8_isWhat_2 (by decide) ?_
  refine lv_lconst (v := 1) hx hb dX8_isWhat_3 (by decide) ?_
  have hPc_1 := hP.sub (ws' := []) [] rfl
  refine vp_callSi (W.runS (As := [.long (x).toInt64, .long 0, .long 1]) (rest := []) ⟨hx, hb, hml, hown, hts⟩ (r_X8_in l dC dI cI cZ cL cJ ((x).toInt64) 0 1 ) (va_cwS 3 hts gX8_isWhat_X8_in rfl rfl rfl (by decide +kernel) ⟨Nat.le_of_ble_eq_true rfl, Nat.le_of_ble_eq_true rfl⟩) ⟨fun a U g mk q => by obtain ⟨q0, qP, qK⟩ := q; exact ⟨q0, qP, va_K.moved (u := U) (U := U.calling g mk a) (Vm.Alike.refl U.vm) qK⟩, fun U hU hW => ⟨rfl, by rw [hU]; exact hPc_1, va_K.moved hW.alike hK⟩⟩ rfl rfl hl.1 rfl (lv_room (Nat.le_of_ble_eq_true rfl)) dX8_isWhat_4 ⟨Nat.le_of_ble_eq_true rfl, Nat.le_of_ble_eq_true rfl⟩) (fun r_1 h_1 => ?_)
  rcases h_1 with ⟨h_1, f_1_0_0⟩ | ⟨h_1, f_1_1_0⟩
  · subst h_1
    exact W.zret (v := 0) hx hb hr (by decide) (fun t ht hW => ⟨0, rfl, trivial, ht⟩) (fun _ h => by cases h) dX8_isWhat_7
  · subst h_1
    exact W.zret (v := 1) hx hb hr (by decide) (fun t ht hW => ⟨1, rfl, trivial, ht⟩) (fun _ h => by cases h) dX8_isWhat_7
set_option maxHeartbeats 4000000 in
set_option maxRecDepth 100000 in
theorem r_X8_isRow (l : Launch) (dC : Nat → ClassId) (dI : Nat → Nat → Nat) (cI cZ cL cJ : ClassId) (a : Int32)  : Met l yX8_isRow wsX8_isRow ({ frames := 1, cells := 0, slots := 0, locals := 25 }) (va_Pc [.int a] (fun U => va_P (dC, dI) vwCl [] U.heap ∧ va_K (dC, dI) vwCl [(cI, .int), (cZ, .boolean), (cL, .object RX3), (cJ, .array .int)] U)) (vp_Si (fun r => (r = 0 ∧ (a < 0 ∨ 8 ≤ a)) ∨ (r = 1 ∧ vp_in a 8))) 0 0 (fun _ => False) := by
  refine Met.ofW (cc := cX8_isRow) (maxL := 1) (ret := (some .boolean)) (by decide) rfl ?_
  intro p e s m args below meth c s₁ B hml hv
  obtain ⟨rfl, hP, hK⟩ := hv
  have hx := B.exec
  have hb := B.bytes
  have hr := B.returns
  have hts := atoms_spec (ws := wsX8_isRow) B.pre
  have hown : s.vm.findClass RX8 = some m.cls := findClass_of_methodNamed B.named
  have hlocks := B.notSynchronized
  have hP : va_P (dC, dI) vwCl [] s.heap := hP
  have hl := lv_entry ([.int a]) (n := 1) (Nat.le_of_ble_eq_true rfl)
  rw [lg_entry_eq]
  generalize (lg_sl ([.int a]) ++ List.replicate (1 - (lg_sl ([.int a])).length) Slot.unset).toArray = ls at hl ⊢
  have hl : lv_has ls 1 [(0, .int a)] := hl
  refine lv_iload_n hx hb dX8_isRow_0 rfl (lv_at hl 0 rfl) ?_
  refine lv_i2l hx hb dX8_isRow_1 rfl ?_
  refine lv_lconst (v := 0) hx hb dX8_isRow_2 (by decide) ?_
  refine lv_ldc2 (own := RX8) (v := 7) hx hb hown (hts (.constantLong RX8 55 (7)) (by decide +kernel)) dX8_isRow_3 ?_
  have hPc_1 := hP.sub (ws' := []) [] rfl
  refine vp_callSi (W.runS (As := [.long (a).toInt64, .long 0, .long 7]) (rest := []) ⟨hx, hb, hml, hown, hts⟩ (r_X8_in l dC dI cI cZ cL cJ ((a).toInt64) 0 7 ) (va_cwS 3 hts gX8_isRow_X8_in rfl rfl rfl (by decide +kernel) ⟨Nat.le_of_ble_eq_true rfl, Nat.le_of_ble_eq_true rfl⟩) ⟨fun a U g mk q => by obtain ⟨q0, qP, qK⟩ := q; exact ⟨q0, qP, va_K.moved (u := U) (U := U.calling g mk a) (Vm.Alike.refl U.vm) qK⟩, fun U hU hW => ⟨rfl, by rw [hU]; exact hPc_1, va_K.moved hW.alike hK⟩⟩ rfl rfl hl.1 rfl (lv_room (Nat.le_of_ble_eq_true rfl)) dX8_isRow_6 ⟨Nat.le_of_ble_eq_true rfl, Nat.le_of_ble_eq_true rfl⟩) (fun r_1 h_1 => ?_)
  rcases h_1 with ⟨h_1, f_1_0_0⟩ | ⟨h_1, f_1_1_0⟩
  · subst h_1
    exact W.zret (v := 0) hx hb hr (by decide) (fun t ht hW => ⟨0, rfl, Or.inl ⟨rfl, row64.mp f_1_0_0⟩, ht⟩) (fun _ h => by cases h) dX8_isRow_9
  · subst h_1
    exact W.zret (v := 1) hx hb hr (by decide) (fun t ht hW => ⟨1, rfl, Or.inr ⟨rfl, in_8 (fun q => f_1_1_0 (row64.mpr q))⟩, ht⟩) (fun _ h => by cases h) dX8_isRow_9
set_option maxHeartbeats 4000000 in
set_option maxRecDepth 100000 in
theorem r_X8_find (l : Launch) (dC : Nat → ClassId) (dI : Nat → Nat → Nat) (cI cZ cL cJ : ClassId) (sz : Nat) (mo : Nat) (m_la : Nat) (m_sz : Nat) (m_it : Nat) (m_st : Nat) (m_mv : Nat) (m_tp : Nat) (m_rd : Nat) (m_ac : Nat) (m_as : Nat) (m_wo : Nat) (m_ik : Nat) (m_ke : Nat) (m_tr : Nat) (ms : Int32) (mt : Int32) (ml : Int32) (mk : Int32) (mv : Int32) (mb : Int32) (mw : Int32) (mz : Nat) (mp : Nat) (ma : Nat) (mx : Nat) (n : Int32)  : Met l yX8_find wsX8_find ({ frames := 0, cells := 0, slots := 0, locals := 0 }) (va_Pc [.ref mo, .int n] (fun U => U.heap.size = sz ∧ va_P (dC, dI) vwCl [(mo, .inr (8, [.ref m_la, .ref m_sz, .ref m_it, .int ms, .int mt, .ref m_st, .ref m_mv, .ref m_tp, .int (nI mz), .int ml, .int (nI mp), .int mk, .int mv, .int mb, .int mw, .ref m_rd, .ref m_ac, .int (nI ma), .ref m_as, .ref m_wo, .ref m_ik, .ref m_ke, .ref m_tr, .int (nI mx)]))] U.heap ∧ va_K (dC, dI) vwCl [(cI, .int), (cZ, .boolean), (cL, .object RX3), (cJ, .array .int)] U ∧ va_D (fun _ => True) [(mo, .inr (8, [.ref m_la, .ref m_sz, .ref m_it, .int ms, .int mt, .ref m_st, .ref m_mv, .ref m_tp, .int (nI mz), .int ml, .int (nI mp), .int mk, .int mv, .int mb, .int mw, .ref m_rd, .ref m_ac, .int (nI ma), .ref m_as, .ref m_wo, .ref m_ik, .ref m_ke, .ref m_tr, .int (nI mx)]))])) (va_Qi (fun r (_ : Unit) => r = (-1000010 - n)) (fun (_ : Unit) t => ∃ (msn : Int32), va_P (dC, dI) vwCl [(mo, .inr (8, [.ref m_la, .ref m_sz, .ref m_it, .int msn, .int mt, .ref m_st, .ref m_mv, .ref m_tp, .int (nI mz), .int ml, .int (nI mp), .int mk, .int mv, .int mb, .int mw, .ref m_rd, .ref m_ac, .int (nI ma), .ref m_as, .ref m_wo, .ref m_ik, .ref m_ke, .ref m_tr, .int (nI mx)]))] t.heap ∧ va_D (va_A [(mo, .inr (8, [.ref m_la, .ref m_sz, .ref m_it, .int ms, .int mt, .ref m_st, .ref m_mv, .ref m_tp, .int (nI mz), .int ml, .int (nI mp), .int mk, .int mv, .int mb, .int mw, .ref m_rd, .ref m_ac, .int (nI ma), .ref m_as, .ref m_wo, .ref m_ik, .ref m_ke, .ref m_tr, .int (nI mx)]))] sz) [(mo, .inr (8, [.ref m_la, .ref m_sz, .ref m_it, .int msn, .int mt, .ref m_st, .ref m_mv, .ref m_tp, .int (nI mz), .int ml, .int (nI mp), .int mk, .int mv, .int mb, .int mw, .ref m_rd, .ref m_ac, .int (nI ma), .ref m_as, .ref m_wo, .ref m_ik, .ref m_ke, .ref m_tr, .int (nI mx)]))]) (va_A [(mo, .inr (8, [.ref m_la, .ref m_sz, .ref m_it, .int ms, .int mt, .ref m_st, .ref m_mv, .ref m_tp, .int (nI mz), .int ml, .int (nI mp), .int mk, .int mv, .int mb, .int mw, .ref m_rd, .ref m_ac, .int (nI ma), .ref m_as, .ref m_wo, .ref m_ik, .ref m_ke, .ref m_tr, .int (nI mx)]))] sz)) 0 0 (va_A [(mo, .inr (8, [.ref m_la, .ref m_sz, .ref m_it, .int ms, .int mt, .ref m_st, .ref m_mv, .ref m_tp, .int (nI mz), .int ml, .int (nI mp), .int mk, .int mv, .int mb, .int mw, .ref m_rd, .ref m_ac, .int (nI ma), .ref m_as, .ref m_wo, .ref m_ik, .ref m_ke, .ref m_tr, .int (nI mx)]))] sz) := by
  refine Met.ofW (cc := cX8_find) (maxL := 2) (ret := (some .int)) (by decide) rfl ?_
  intro p e s m args below meth c s₁ B hml hv
  obtain ⟨rfl, hsz, hP, hK, hD0⟩ := hv
  have hx := B.exec
  have hb := B.bytes
  have hr := B.returns
  have hts := atoms_spec (ws := wsX8_find) B.pre
  have hown : s.vm.findClass RX8 = some m.cls := findClass_of_methodNamed B.named
  have hlocks := B.notSynchronized
  subst hsz
  have hD := hD0.self (sz := s.heap.size)
  generalize hAe : va_A [(mo, .inr (8, [.ref m_la, .ref m_sz, .ref m_it, .int ms, .int mt, .ref m_st, .ref m_mv, .ref m_tp, .int (nI mz), .int ml, .int (nI mp), .int mk, .int mv, .int mb, .int mw, .ref m_rd, .ref m_ac, .int (nI ma), .ref m_as, .ref m_wo, .ref m_ik, .ref m_ke, .ref m_tr, .int (nI mx)]))] s.heap.size = A at hD ⊢
  have hA : ∀ q : Nat, s.heap.size ≤ q → A q := fun q h => by rw [← hAe]; exact Or.inr h
  have hS : va_S A s.heap s.heap [] := va_S.rf
  have hP : va_P (dC, dI) vwCl [(mo, .inr (8, [.ref m_la, .ref m_sz, .ref m_it, .int ms, .int mt, .ref m_st, .ref m_mv, .ref m_tp, .int (nI mz), .int ml, .int (nI mp), .int mk, .int mv, .int mb, .int mw, .ref m_rd, .ref m_ac, .int (nI ma), .ref m_as, .ref m_wo, .ref m_ik, .ref m_ke, .ref m_tr, .int (nI mx)]))] s.heap := hP
  have hl := lv_entry ([.ref mo, .int n]) (n := 2) (Nat.le_of_ble_eq_true rfl)
  rw [lg_entry_eq]
  generalize (lg_sl ([.ref mo, .int n]) ++ List.replicate (2 - (lg_sl ([.ref mo, .int n])).length) Slot.unset).toArray = ls at hl ⊢
  have hl : lv_has ls 2 [(0, .ref mo), (1, .int n)] := hl
  refine lv_aload_n hx hb dX8_find_0 rfl (lv_at hl 0 rfl) ?_
  refine lv_iload_n hx hb dX8_find_1 rfl (lv_at hl 1 rfl) ?_
  refine va_put (D := (dC, dI)) (ci := 8) (v := .int n) (ty := .int) (C := RX8) (T := TX8) (N := 24) hx hb hts i_X8_find_X8 tyX8 tyX8_ok nmX8 hown hK hP hD hS 0 rfl rfl 3 (by decide) (hts (.fieldLink RX8 50 "MillTalkModel" "status" "I") (by decide +kernel)) (fun _ h9 => h9) rfl (by decide +kernel) rfl rfl (Nat.le_of_ble_eq_true rfl) dX8_find_2 (fun H locs hP hD hS => ?_)
  have hP : va_P (dC, dI) vwCl [(mo, .inr (8, [.ref m_la, .ref m_sz, .ref m_it, .int n, .int mt, .ref m_st, .ref m_mv, .ref m_tp, .int (nI mz), .int ml, .int (nI mp), .int mk, .int mv, .int mb, .int mw, .ref m_rd, .ref m_ac, .int (nI ma), .ref m_as, .ref m_wo, .ref m_ik, .ref m_ke, .ref m_tr, .int (nI mx)]))] H := hP
  have hD : va_D A [(mo, .inr (8, [.ref m_la, .ref m_sz, .ref m_it, .int n, .int mt, .ref m_st, .ref m_mv, .ref m_tp, .int (nI mz), .int ml, .int (nI mp), .int mk, .int mv, .int mb, .int mw, .ref m_rd, .ref m_ac, .int (nI ma), .ref m_as, .ref m_wo, .ref m_ik, .ref m_ke, .ref m_tr, .int (nI mx)]))] := hD
  refine lv_ldc (own := RX8) (v := (-1000010)) hx hb hown (hts (.constant RX8 54 (-1000010)) (by decide +kernel)) dX8_find_5 ?_
  refine lv_iload_n hx hb dX8_find_7 rfl (lv_at hl 1 rfl) ?_
  refine lv_isub hx hb dX8_find_8 ?_
  refine lv_topi (fun v_1 e_1 => ?_)
  have hP9 := hP.sub (ws' := [(mo, .inr (8, [.ref m_la, .ref m_sz, .ref m_it, .int n, .int mt, .ref m_st, .ref m_mv, .ref m_tp, .int (nI mz), .int ml, .int (nI mp), .int mk, .int mv, .int mb, .int mw, .ref m_rd, .ref m_ac, .int (nI ma), .ref m_as, .ref m_wo, .ref m_ik, .ref m_ke, .ref m_tr, .int (nI mx)]))]) [0] rfl
  have hD9 := hD.sub (ws' := [(mo, .inr (8, [.ref m_la, .ref m_sz, .ref m_it, .int n, .int mt, .ref m_st, .ref m_mv, .ref m_tp, .int (nI mz), .int ml, .int (nI mp), .int mk, .int mv, .int mb, .int mw, .ref m_rd, .ref m_ac, .int (nI ma), .ref m_as, .ref m_wo, .ref m_ik, .ref m_ke, .ref m_tr, .int (nI mx)]))]) [0] (by decide) rfl
  exact W.iret (v := v_1) hx hb hr (fun t ht hW => ⟨⟨v_1, (), rfl, e_1, ⟨n, by rw [ht]; exact hP9, hD9⟩⟩, hS.F ht⟩) hS.2.2 dX8_find_9
set_option maxHeartbeats 4000000 in
set_option maxRecDepth 100000 in
theorem r_X8_well (l : Launch) (dC : Nat → ClassId) (dI : Nat → Nat → Nat) (cI cZ cL cJ : ClassId) (sz : Nat) (mo : Nat) (m_la : Nat) (m_sz : Nat) (m_it : Nat) (m_st : Nat) (m_mv : Nat) (m_tp : Nat) (m_rd : Nat) (m_ac : Nat) (m_as : Nat) (m_wo : Nat) (m_ik : Nat) (m_ke : Nat) (m_tr : Nat) (ms : Int32) (mt : Int32) (ml : Int32) (mk : Int32) (mv : Int32) (mb : Int32) (mw : Int32) (mz : Nat) (mp : Nat) (ma : Nat) (mx : Nat) (n : Int32)  : Met l yX8_well wsX8_well ({ frames := 0, cells := 0, slots := 0, locals := 0 }) (va_Pc [.ref mo, .int n] (fun U => U.heap.size = sz ∧ va_P (dC, dI) vwCl [(mo, .inr (8, [.ref m_la, .ref m_sz, .ref m_it, .int ms, .int mt, .ref m_st, .ref m_mv, .ref m_tp, .int (nI mz), .int ml, .int (nI mp), .int mk, .int mv, .int mb, .int mw, .ref m_rd, .ref m_ac, .int (nI ma), .ref m_as, .ref m_wo, .ref m_ik, .ref m_ke, .ref m_tr, .int (nI mx)]))] U.heap ∧ va_K (dC, dI) vwCl [(cI, .int), (cZ, .boolean), (cL, .object RX3), (cJ, .array .int)] U ∧ va_D (fun _ => True) [(mo, .inr (8, [.ref m_la, .ref m_sz, .ref m_it, .int ms, .int mt, .ref m_st, .ref m_mv, .ref m_tp, .int (nI mz), .int ml, .int (nI mp), .int mk, .int mv, .int mb, .int mw, .ref m_rd, .ref m_ac, .int (nI ma), .ref m_as, .ref m_wo, .ref m_ik, .ref m_ke, .ref m_tr, .int (nI mx)]))])) (va_Qi (fun r (_ : Unit) => r = n) (fun (_ : Unit) t => ∃ (msn : Int32), va_P (dC, dI) vwCl [(mo, .inr (8, [.ref m_la, .ref m_sz, .ref m_it, .int msn, .int mt, .ref m_st, .ref m_mv, .ref m_tp, .int (nI mz), .int ml, .int (nI mp), .int mk, .int mv, .int mb, .int mw, .ref m_rd, .ref m_ac, .int (nI ma), .ref m_as, .ref m_wo, .ref m_ik, .ref m_ke, .ref m_tr, .int (nI mx)]))] t.heap ∧ va_D (va_A [(mo, .inr (8, [.ref m_la, .ref m_sz, .ref m_it, .int ms, .int mt, .ref m_st, .ref m_mv, .ref m_tp, .int (nI mz), .int ml, .int (nI mp), .int mk, .int mv, .int mb, .int mw, .ref m_rd, .ref m_ac, .int (nI ma), .ref m_as, .ref m_wo, .ref m_ik, .ref m_ke, .ref m_tr, .int (nI mx)]))] sz) [(mo, .inr (8, [.ref m_la, .ref m_sz, .ref m_it, .int msn, .int mt, .ref m_st, .ref m_mv, .ref m_tp, .int (nI mz), .int ml, .int (nI mp), .int mk, .int mv, .int mb, .int mw, .ref m_rd, .ref m_ac, .int (nI ma), .ref m_as, .ref m_wo, .ref m_ik, .ref m_ke, .ref m_tr, .int (nI mx)]))]) (va_A [(mo, .inr (8, [.ref m_la, .ref m_sz, .ref m_it, .int ms, .int mt, .ref m_st, .ref m_mv, .ref m_tp, .int (nI mz), .int ml, .int (nI mp), .int mk, .int mv, .int mb, .int mw, .ref m_rd, .ref m_ac, .int (nI ma), .ref m_as, .ref m_wo, .ref m_ik, .ref m_ke, .ref m_tr, .int (nI mx)]))] sz)) 0 0 (va_A [(mo, .inr (8, [.ref m_la, .ref m_sz, .ref m_it, .int ms, .int mt, .ref m_st, .ref m_mv, .ref m_tp, .int (nI mz), .int ml, .int (nI mp), .int mk, .int mv, .int mb, .int mw, .ref m_rd, .ref m_ac, .int (nI ma), .ref m_as, .ref m_wo, .ref m_ik, .ref m_ke, .ref m_tr, .int (nI mx)]))] sz) := by
  refine Met.ofW (cc := cX8_well) (maxL := 2) (ret := (some .int)) (by decide) rfl ?_
  intro p e s m args below meth c s₁ B hml hv
  obtain ⟨rfl, hsz, hP, hK, hD0⟩ := hv
  have hx := B.exec
  have hb := B.bytes
  have hr := B.returns
  have hts := atoms_spec (ws := wsX8_well) B.pre
  have hown : s.vm.findClass RX8 = some m.cls := findClass_of_methodNamed B.named
  have hlocks := B.notSynchronized
  subst hsz
  have hD := hD0.self (sz := s.heap.size)
  generalize hAe : va_A [(mo, .inr (8, [.ref m_la, .ref m_sz, .ref m_it, .int ms, .int mt, .ref m_st, .ref m_mv, .ref m_tp, .int (nI mz), .int ml, .int (nI mp), .int mk, .int mv, .int mb, .int mw, .ref m_rd, .ref m_ac, .int (nI ma), .ref m_as, .ref m_wo, .ref m_ik, .ref m_ke, .ref m_tr, .int (nI mx)]))] s.heap.size = A at hD ⊢
  have hA : ∀ q : Nat, s.heap.size ≤ q → A q := fun q h => by rw [← hAe]; exact Or.inr h
  have hS : va_S A s.heap s.heap [] := va_S.rf
  have hP : va_P (dC, dI) vwCl [(mo, .inr (8, [.ref m_la, .ref m_sz, .ref m_it, .int ms, .int mt, .ref m_st, .ref m_mv, .ref m_tp, .int (nI mz), .int ml, .int (nI mp), .int mk, .int mv, .int mb, .int mw, .ref m_rd, .ref m_ac, .int (nI ma), .ref m_as, .ref m_wo, .ref m_ik, .ref m_ke, .ref m_tr, .int (nI mx)]))] s.heap := hP
  have hl := lv_entry ([.ref mo, .int n]) (n := 2) (Nat.le_of_ble_eq_true rfl)
  rw [lg_entry_eq]
  generalize (lg_sl ([.ref mo, .int n]) ++ List.replicate (2 - (lg_sl ([.ref mo, .int n])).length) Slot.unset).toArray = ls at hl ⊢
  have hl : lv_has ls 2 [(0, .ref mo), (1, .int n)] := hl
  refine lv_aload_n hx hb dX8_well_0 rfl (lv_at hl 0 rfl) ?_
  refine lv_iconst (v := 0) hx hb dX8_well_1 (by decide) ?_
  refine va_put (D := (dC, dI)) (ci := 8) (v := .int 0) (ty := .int) (C := RX8) (T := TX8) (N := 24) hx hb hts i_X8_well_X8 tyX8 tyX8_ok nmX8 hown hK hP hD hS 0 rfl rfl 3 (by decide) (hts (.fieldLink RX8 50 "MillTalkModel" "status" "I") (by decide +kernel)) (fun _ h9 => h9) rfl (by decide +kernel) rfl rfl (Nat.le_of_ble_eq_true rfl) dX8_well_2 (fun H locs hP hD hS => ?_)
  have hP : va_P (dC, dI) vwCl [(mo, .inr (8, [.ref m_la, .ref m_sz, .ref m_it, .int 0, .int mt, .ref m_st, .ref m_mv, .ref m_tp, .int (nI mz), .int ml, .int (nI mp), .int mk, .int mv, .int mb, .int mw, .ref m_rd, .ref m_ac, .int (nI ma), .ref m_as, .ref m_wo, .ref m_ik, .ref m_ke, .ref m_tr, .int (nI mx)]))] H := hP
  have hD : va_D A [(mo, .inr (8, [.ref m_la, .ref m_sz, .ref m_it, .int 0, .int mt, .ref m_st, .ref m_mv, .ref m_tp, .int (nI mz), .int ml, .int (nI mp), .int mk, .int mv, .int mb, .int mw, .ref m_rd, .ref m_ac, .int (nI ma), .ref m_as, .ref m_wo, .ref m_ik, .ref m_ke, .ref m_tr, .int (nI mx)]))] := hD
  refine lv_iload_n hx hb dX8_well_5 rfl (lv_at hl 1 rfl) ?_
  have hP9 := hP.sub (ws' := [(mo, .inr (8, [.ref m_la, .ref m_sz, .ref m_it, .int 0, .int mt, .ref m_st, .ref m_mv, .ref m_tp, .int (nI mz), .int ml, .int (nI mp), .int mk, .int mv, .int mb, .int mw, .ref m_rd, .ref m_ac, .int (nI ma), .ref m_as, .ref m_wo, .ref m_ik, .ref m_ke, .ref m_tr, .int (nI mx)]))]) [0] rfl
  have hD9 := hD.sub (ws' := [(mo, .inr (8, [.ref m_la, .ref m_sz, .ref m_it, .int 0, .int mt, .ref m_st, .ref m_mv, .ref m_tp, .int (nI mz), .int ml, .int (nI mp), .int mk, .int mv, .int mb, .int mw, .ref m_rd, .ref m_ac, .int (nI ma), .ref m_as, .ref m_wo, .ref m_ik, .ref m_ke, .ref m_tr, .int (nI mx)]))]) [0] (by decide) rfl
  exact W.iret (v := n) hx hb hr (fun t ht hW => ⟨⟨n, (), rfl, rfl, ⟨0, by rw [ht]; exact hP9, hD9⟩⟩, hS.F ht⟩) hS.2.2 dX8_well_6
set_option maxHeartbeats 4000000 in
set_option maxRecDepth 100000 in
theorem r_X8_isSound (l : Launch) (dC : Nat → ClassId) (dI : Nat → Nat → Nat) (cI cZ cL cJ : ClassId) (mo : Nat) (m_la : Nat) (m_sz : Nat) (m_it : Nat) (m_st : Nat) (m_mv : Nat) (m_tp : Nat) (m_rd : Nat) (m_ac : Nat) (m_as : Nat) (m_wo : Nat) (m_ik : Nat) (m_ke : Nat) (m_tr : Nat) (ms : Int32) (mt : Int32) (ml : Int32) (mk : Int32) (mv : Int32) (mb : Int32) (mw : Int32) (mz : Nat) (mp : Nat) (ma : Nat) (mx : Nat) (fs : Nat → Int32) (w9 : Nat) (k9 : Nat) (h9 : Nat) (n : Int32) (hM : okM fs w9 k9 h9) : Met l yX8_isSound wsX8_isSound ({ frames := 1, cells := 0, slots := 0, locals := 25 }) (va_Pc [.ref mo, .int n] (fun U => va_P (dC, dI) vwCl [(mo, .inr (8, [.ref m_la, .ref m_sz, .ref m_it, .int ms, .int mt, .ref m_st, .ref m_mv, .ref m_tp, .int (nI mz), .int ml, .int (nI mp), .int mk, .int mv, .int mb, .int mw, .ref m_rd, .ref m_ac, .int (nI ma), .ref m_as, .ref m_wo, .ref m_ik, .ref m_ke, .ref m_tr, .int (nI mx)])), (m_st, .inl (cI, 38, .inl fs))] U.heap ∧ va_K (dC, dI) vwCl [(cI, .int), (cZ, .boolean), (cL, .object RX3), (cJ, .array .int)] U)) (vp_Si (fun r => (r = 0) ∨ (r = 1 ∧ vp_in n k9))) 0 0 (fun _ => False) := by
  refine Met.ofW (cc := cX8_isSound) (maxL := 2) (ret := (some .boolean)) (by decide) rfl ?_
  intro p e s m args below meth c s₁ B hml hv
  obtain ⟨rfl, hP, hK⟩ := hv
  have hx := B.exec
  have hb := B.bytes
  have hr := B.returns
  have hts := atoms_spec (ws := wsX8_isSound) B.pre
  have hown : s.vm.findClass RX8 = some m.cls := findClass_of_methodNamed B.named
  have hlocks := B.notSynchronized
  have hP : va_P (dC, dI) vwCl [(mo, .inr (8, [.ref m_la, .ref m_sz, .ref m_it, .int ms, .int mt, .ref m_st, .ref m_mv, .ref m_tp, .int (nI mz), .int ml, .int (nI mp), .int mk, .int mv, .int mb, .int mw, .ref m_rd, .ref m_ac, .int (nI ma), .ref m_as, .ref m_wo, .ref m_ik, .ref m_ke, .ref m_tr, .int (nI mx)])), (m_st, .inl (cI, 38, .inl fs))] s.heap := hP
  have hl := lv_entry ([.ref mo, .int n]) (n := 2) (Nat.le_of_ble_eq_true rfl)
  rw [lg_entry_eq]
  generalize (lg_sl ([.ref mo, .int n]) ++ List.replicate (2 - (lg_sl ([.ref mo, .int n])).length) Slot.unset).toArray = ls at hl ⊢
  have hl : lv_has ls 2 [(0, .ref mo), (1, .int n)] := hl
  refine lv_iload_n hx hb dX8_isSound_0 rfl (lv_at hl 1 rfl) ?_
  refine lv_i2l hx hb dX8_isSound_1 rfl ?_
  refine lv_lconst (v := 0) hx hb dX8_isSound_2 (by decide) ?_
  refine lv_aload_n hx hb dX8_isSound_3 rfl (lv_at hl 0 rfl) ?_
  refine va_get (D := (dC, dI)) (ci := 8) (v := .ref m_st) (C := RX8) (T := TX8) (N := 24) hx hb hts i_X8_isSound_X8 hown hK hP 0 rfl rfl 5 (by decide) (hts (.fieldLink RX8 19 "MillTalkModel" "st" "[I") (by decide +kernel)) (fun _ h9 => h9) rfl dX8_isSound_4 ?_
  refine lv_iconst (v := 4) hx hb dX8_isSound_7 (by decide) ?_
  refine va_iald hx hb hK hP 1 0 rfl rfl (by unfold vp_in; decide) dX8_isSound_8 ?_
  refine lv_topi (fun v_1 e_1 => ?_)
  obtain rfl : v_1 = (nI k9) := (e_1).trans hM.2.1
  refine lv_iconst (v := 1) hx hb dX8_isSound_9 (by decide) ?_
  refine lv_isub hx hb dX8_isSound_10 ?_
  refine lv_topi (fun v_2 e_2 => ?_)
  refine lv_i2l hx hb dX8_isSound_11 rfl ?_
  have hPc_3 := hP.sub (ws' := []) [] rfl
  refine vp_callSi (W.runS (As := [.long (n).toInt64, .long 0, .long (v_2).toInt64]) (rest := []) ⟨hx, hb, hml, hown, hts⟩ (r_X8_in l dC dI cI cZ cL cJ ((n).toInt64) 0 ((v_2).toInt64) ) (va_cwS 3 hts gX8_isSound_X8_in rfl rfl rfl (by decide +kernel) ⟨Nat.le_of_ble_eq_true rfl, Nat.le_of_ble_eq_true rfl⟩) ⟨fun a U g mk q => by obtain ⟨q0, qP, qK⟩ := q; exact ⟨q0, qP, va_K.moved (u := U) (U := U.calling g mk a) (Vm.Alike.refl U.vm) qK⟩, fun U hU hW => ⟨rfl, by rw [hU]; exact hPc_3, va_K.moved hW.alike hK⟩⟩ rfl rfl hl.1 rfl (lv_room (Nat.le_of_ble_eq_true rfl)) dX8_isSound_12 ⟨Nat.le_of_ble_eq_true rfl, Nat.le_of_ble_eq_true rfl⟩) (fun r_3 h_3 => ?_)
  rcases h_3 with ⟨h_3, f_3_0_0⟩ | ⟨h_3, f_3_1_0⟩
  · subst h_3
    exact W.zret (v := 0) hx hb hr (by decide) (fun t ht hW => ⟨0, rfl, Or.inl rfl, ht⟩) (fun _ h => by cases h) dX8_isSound_15
  · subst h_3
    exact W.zret (v := 1) hx hb hr (by decide) (fun t ht hW => ⟨1, rfl, Or.inr ⟨rfl, snd_in (Nat.le_trans hM.2.2.2.2.1 (by decide)) e_2 f_3_1_0⟩, ht⟩) (fun _ h => by cases h) dX8_isSound_15
set_option maxHeartbeats 4000000 in
set_option maxRecDepth 100000 in
theorem r_X8_isCell (l : Launch) (dC : Nat → ClassId) (dI : Nat → Nat → Nat) (cI cZ cL cJ : ClassId) (mo : Nat) (m_la : Nat) (m_sz : Nat) (m_it : Nat) (m_st : Nat) (m_mv : Nat) (m_tp : Nat) (m_rd : Nat) (m_ac : Nat) (m_as : Nat) (m_wo : Nat) (m_ik : Nat) (m_ke : Nat) (m_tr : Nat) (ms : Int32) (mt : Int32) (ml : Int32) (mk : Int32) (mv : Int32) (mb : Int32) (mw : Int32) (mz : Nat) (mp : Nat) (ma : Nat) (mx : Nat) (fs : Nat → Int32) (w9 : Nat) (k9 : Nat) (h9 : Nat) (n : Int32) (hM : okM fs w9 k9 h9) : Met l yX8_isCell wsX8_isCell ({ frames := 1, cells := 0, slots := 0, locals := 25 }) (va_Pc [.ref mo, .int n] (fun U => va_P (dC, dI) vwCl [(mo, .inr (8, [.ref m_la, .ref m_sz, .ref m_it, .int ms, .int mt, .ref m_st, .ref m_mv, .ref m_tp, .int (nI mz), .int ml, .int (nI mp), .int mk, .int mv, .int mb, .int mw, .ref m_rd, .ref m_ac, .int (nI ma), .ref m_as, .ref m_wo, .ref m_ik, .ref m_ke, .ref m_tr, .int (nI mx)])), (m_st, .inl (cI, 38, .inl fs))] U.heap ∧ va_K (dC, dI) vwCl [(cI, .int), (cZ, .boolean), (cL, .object RX3), (cJ, .array .int)] U)) (vp_Si (fun r => True)) 0 0 (fun _ => False) := by
  refine Met.ofW (cc := cX8_isCell) (maxL := 2) (ret := (some .boolean)) (by decide) rfl ?_
  intro p e s m args below meth c s₁ B hml hv
  obtain ⟨rfl, hP, hK⟩ := hv
  have hx := B.exec
  have hb := B.bytes
  have hr := B.returns
  have hts := atoms_spec (ws := wsX8_isCell) B.pre
  have hown : s.vm.findClass RX8 = some m.cls := findClass_of_methodNamed B.named
  have hlocks := B.notSynchronized
  have hP : va_P (dC, dI) vwCl [(mo, .inr (8, [.ref m_la, .ref m_sz, .ref m_it, .int ms, .int mt, .ref m_st, .ref m_mv, .ref m_tp, .int (nI mz), .int ml, .int (nI mp), .int mk, .int mv, .int mb, .int mw, .ref m_rd, .ref m_ac, .int (nI ma), .ref m_as, .ref m_wo, .ref m_ik, .ref m_ke, .ref m_tr, .int (nI mx)])), (m_st, .inl (cI, 38, .inl fs))] s.heap := hP
  have hl := lv_entry ([.ref mo, .int n]) (n := 2) (Nat.le_of_ble_eq_true rfl)
  rw [lg_entry_eq]
  generalize (lg_sl ([.ref mo, .int n]) ++ List.replicate (2 - (lg_sl ([.ref mo, .int n])).length) Slot.unset).toArray = ls at hl ⊢
  have hl : lv_has ls 2 [(0, .ref mo), (1, .int n)] := hl
  refine lv_iload_n hx hb dX8_isCell_0 rfl (lv_at hl 1 rfl) ?_
  refine lv_i2l hx hb dX8_isCell_1 rfl ?_
  refine lv_lconst (v := 0) hx hb dX8_isCell_2 (by decide) ?_
  refine lv_aload_n hx hb dX8_isCell_3 rfl (lv_at hl 0 rfl) ?_
  refine va_get (D := (dC, dI)) (ci := 8) (v := .ref m_st) (C := RX8) (T := TX8) (N := 24) hx hb hts i_X8_isCell_X8 hown hK hP 0 rfl rfl 5 (by decide) (hts (.fieldLink RX8 19 "MillTalkModel" "st" "[I") (by decide +kernel)) (fun _ h9 => h9) rfl dX8_isCell_4 ?_
  refine lv_iconst (v := 0) hx hb dX8_isCell_7 (by decide) ?_
  refine va_iald hx hb hK hP 1 0 rfl rfl (by unfold vp_in; decide) dX8_isCell_8 ?_
  refine lv_topi (fun v_1 e_1 => ?_)
  refine lv_iconst (v := 1) hx hb dX8_isCell_9 (by decide) ?_
  refine lv_isub hx hb dX8_isCell_10 ?_
  refine lv_topi (fun v_2 e_2 => ?_)
  refine lv_i2l hx hb dX8_isCell_11 rfl ?_
  have hPc_3 := hP.sub (ws' := []) [] rfl
  refine vp_callSi (W.runS (As := [.long (n).toInt64, .long 0, .long (v_2).toInt64]) (rest := []) ⟨hx, hb, hml, hown, hts⟩ (r_X8_in l dC dI cI cZ cL cJ ((n).toInt64) 0 ((v_2).toInt64) ) (va_cwS 3 hts gX8_isCell_X8_in rfl rfl rfl (by decide +kernel) ⟨Nat.le_of_ble_eq_true rfl, Nat.le_of_ble_eq_true rfl⟩) ⟨fun a U g mk q => by obtain ⟨q0, qP, qK⟩ := q; exact ⟨q0, qP, va_K.moved (u := U) (U := U.calling g mk a) (Vm.Alike.refl U.vm) qK⟩, fun U hU hW => ⟨rfl, by rw [hU]; exact hPc_3, va_K.moved hW.alike hK⟩⟩ rfl rfl hl.1 rfl (lv_room (Nat.le_of_ble_eq_true rfl)) dX8_isCell_12 ⟨Nat.le_of_ble_eq_true rfl, Nat.le_of_ble_eq_true rfl⟩) (fun r_3 h_3 => ?_)
  rcases h_3 with ⟨h_3, f_3_0_0⟩ | ⟨h_3, f_3_1_0⟩
  · subst h_3
    exact W.zret (v := 0) hx hb hr (by decide) (fun t ht hW => ⟨0, rfl, trivial, ht⟩) (fun _ h => by cases h) dX8_isCell_15
  · subst h_3
    exact W.zret (v := 1) hx hb hr (by decide) (fun t ht hW => ⟨1, rfl, trivial, ht⟩) (fun _ h => by cases h) dX8_isCell_15
set_option maxHeartbeats 4000000 in
set_option maxRecDepth 100000 in
theorem r_X8_gustOf (l : Launch) (dC : Nat → ClassId) (dI : Nat → Nat → Nat) (cI cZ cL cJ : ClassId) (mo : Nat) (m_la : Nat) (m_sz : Nat) (m_it : Nat) (m_st : Nat) (m_mv : Nat) (m_tp : Nat) (m_rd : Nat) (m_ac : Nat) (m_as : Nat) (m_wo : Nat) (m_ik : Nat) (m_ke : Nat) (m_tr : Nat) (ms : Int32) (mt : Int32) (ml : Int32) (mk : Int32) (mv : Int32) (mb : Int32) (mw : Int32) (mz : Nat) (mp : Nat) (ma : Nat) (mx : Nat) (fs : Nat → Int32) (w9 : Nat) (k9 : Nat) (h9 : Nat) (j : Nat) (hM : okM fs w9 k9 h9) (hj : j < 2000000000) (hw1 : 1 ≤ w9) : Met l yX8_gustOf wsX8_gustOf ({ frames := 0, cells := 0, slots := 0, locals := 0 }) (va_Pc [.ref mo, .int (nI j)] (fun U => va_P (dC, dI) vwCl [(mo, .inr (8, [.ref m_la, .ref m_sz, .ref m_it, .int ms, .int mt, .ref m_st, .ref m_mv, .ref m_tp, .int (nI mz), .int ml, .int (nI mp), .int mk, .int mv, .int mb, .int mw, .ref m_rd, .ref m_ac, .int (nI ma), .ref m_as, .ref m_wo, .ref m_ik, .ref m_ke, .ref m_tr, .int (nI mx)])), (m_st, .inl (cI, 38, .inl fs))] U.heap ∧ va_K (dC, dI) vwCl [(cI, .int), (cZ, .boolean), (cL, .object RX3), (cJ, .array .int)] U)) (vp_Si (fun r => True)) 0 0 (fun _ => False) := by
  refine Met.ofW (cc := cX8_gustOf) (maxL := 2) (ret := (some .int)) (by decide) rfl ?_
  intro p e s m args below meth c s₁ B hml hv
  obtain ⟨rfl, hP, hK⟩ := hv
  have hx := B.exec
  have hb := B.bytes
  have hr := B.returns
  have hts := atoms_spec (ws := wsX8_gustOf) B.pre
  have hown : s.vm.findClass RX8 = some m.cls := findClass_of_methodNamed B.named
  have hlocks := B.notSynchronized
  have hP : va_P (dC, dI) vwCl [(mo, .inr (8, [.ref m_la, .ref m_sz, .ref m_it, .int ms, .int mt, .ref m_st, .ref m_mv, .ref m_tp, .int (nI mz), .int ml, .int (nI mp), .int mk, .int mv, .int mb, .int mw, .ref m_rd, .ref m_ac, .int (nI ma), .ref m_as, .ref m_wo, .ref m_ik, .ref m_ke, .ref m_tr, .int (nI mx)])), (m_st, .inl (cI, 38, .inl fs))] s.heap := hP
  have hl := lv_entry ([.ref mo, .int (nI j)]) (n := 2) (Nat.le_of_ble_eq_true rfl)
  rw [lg_entry_eq]
  generalize (lg_sl ([.ref mo, .int (nI j)]) ++ List.replicate (2 - (lg_sl ([.ref mo, .int (nI j)])).length) Slot.unset).toArray = ls at hl ⊢
  have hl : lv_has ls 2 [(0, .ref mo), (1, .int (nI j))] := hl
  have hw6 := hM.2.2.2.1
  refine lv_aload_n hx hb dX8_gustOf_0 rfl (lv_at hl 0 rfl) ?_
  refine va_get (D := (dC, dI)) (ci := 8) (v := .ref m_st) (C := RX8) (T := TX8) (N := 24) hx hb hts i_X8_gustOf_X8 hown hK hP 0 rfl rfl 5 (by decide) (hts (.fieldLink RX8 19 "MillTalkModel" "st" "[I") (by decide +kernel)) (fun _ h9 => h9) rfl dX8_gustOf_1 ?_
  refine lv_bipush (v := 8) hx hb dX8_gustOf_4 (by decide) ?_
  refine lv_iload_n hx hb dX8_gustOf_6 rfl (lv_at hl 1 rfl) ?_
  refine lv_aload_n hx hb dX8_gustOf_7 rfl (lv_at hl 0 rfl) ?_
  refine va_get (D := (dC, dI)) (ci := 8) (v := .ref m_st) (C := RX8) (T := TX8) (N := 24) hx hb hts i_X8_gustOf_X8 hown hK hP 0 rfl rfl 5 (by decide) (hts (.fieldLink RX8 19 "MillTalkModel" "st" "[I") (by decide +kernel)) (fun _ h9 => h9) rfl dX8_gustOf_8 ?_
  refine lv_iconst (v := 3) hx hb dX8_gustOf_11 (by decide) ?_
  refine va_iald hx hb hK hP 1 0 rfl rfl (by unfold vp_in; decide) dX8_gustOf_12 ?_
  refine lv_topi (fun v_1 e_1 => ?_)
  obtain rfl : v_1 = (nI w9) := (e_1).trans hM.1
  refine lv_irem hx hb dX8_gustOf_13 (nI_ne0 (by omega) (by omega)) ?_
  refine lv_topi (fun v_2 e_2 => ?_)
  obtain ⟨z_2, hz_2, rfl⟩ : ∃ z : Nat, z < w9 ∧ v_2 = nI z := ⟨j % w9, Nat.mod_lt _ (by omega), e_2.trans (pk_rem (a := j) (d := w9) (by omega) (by omega) (by omega))⟩
  refine lv_iadd hx hb dX8_gustOf_14 ?_
  refine lv_topi (fun v_3 e_3 => ?_)
  obtain rfl : v_3 = (nI (8 + z_2)) := (e_3).trans (nI_add 8 z_2)
  refine va_iald hx hb hK hP 1 0 rfl rfl (vp_in_nI (by omega) (by omega)) dX8_gustOf_15 ?_
  refine lv_topi (fun v_4 e_4 => ?_)
  exact W.iret (v := v_4) hx hb hr (fun t ht hW => ⟨v_4, rfl, trivial, ht⟩) (fun _ h => by cases h) dX8_gustOf_16
set_option maxHeartbeats 4000000 in
set_option maxRecDepth 100000 in
theorem r_X8_isAtMill (l : Launch) (dC : Nat → ClassId) (dI : Nat → Nat → Nat) (cI cZ cL cJ : ClassId) (mo : Nat) (m_la : Nat) (m_sz : Nat) (m_it : Nat) (m_st : Nat) (m_mv : Nat) (m_tp : Nat) (m_rd : Nat) (m_ac : Nat) (m_as : Nat) (m_wo : Nat) (m_ik : Nat) (m_ke : Nat) (m_tr : Nat) (ms : Int32) (mt : Int32) (ml : Int32) (mk : Int32) (mv : Int32) (mb : Int32) (mw : Int32) (mz : Nat) (mp : Nat) (ma : Nat) (mx : Nat) (fs : Nat → Int32) (w9 : Nat) (k9 : Nat) (h9 : Nat) (i : Nat) (hM : okM fs w9 k9 h9) (hi : i < 6) : Met l yX8_isAtMill wsX8_isAtMill ({ frames := 1, cells := 0, slots := 0, locals := 25 }) (va_Pc [.ref mo, .int (nI i)] (fun U => va_P (dC, dI) vwCl [(mo, .inr (8, [.ref m_la, .ref m_sz, .ref m_it, .int ms, .int mt, .ref m_st, .ref m_mv, .ref m_tp, .int (nI mz), .int ml, .int (nI mp), .int mk, .int mv, .int mb, .int mw, .ref m_rd, .ref m_ac, .int (nI ma), .ref m_as, .ref m_wo, .ref m_ik, .ref m_ke, .ref m_tr, .int (nI mx)])), (m_st, .inl (cI, 38, .inl fs))] U.heap ∧ va_K (dC, dI) vwCl [(cI, .int), (cZ, .boolean), (cL, .object RX3), (cJ, .array .int)] U)) (vp_Si (fun r => True)) 0 0 (fun _ => False) := by
  refine Met.ofW (cc := cX8_isAtMill) (maxL := 3) (ret := (some .boolean)) (by decide) rfl ?_
  intro p e s m args below meth c s₁ B hml hv
  obtain ⟨rfl, hP, hK⟩ := hv
  have hx := B.exec
  have hb := B.bytes
  have hr := B.returns
  have hts := atoms_spec (ws := wsX8_isAtMill) B.pre
  have hown : s.vm.findClass RX8 = some m.cls := findClass_of_methodNamed B.named
  have hlocks := B.notSynchronized
  have hP : va_P (dC, dI) vwCl [(mo, .inr (8, [.ref m_la, .ref m_sz, .ref m_it, .int ms, .int mt, .ref m_st, .ref m_mv, .ref m_tp, .int (nI mz), .int ml, .int (nI mp), .int mk, .int mv, .int mb, .int mw, .ref m_rd, .ref m_ac, .int (nI ma), .ref m_as, .ref m_wo, .ref m_ik, .ref m_ke, .ref m_tr, .int (nI mx)])), (m_st, .inl (cI, 38, .inl fs))] s.heap := hP
  have hl := lv_entry ([.ref mo, .int (nI i)]) (n := 3) (Nat.le_of_ble_eq_true rfl)
  rw [lg_entry_eq]
  generalize (lg_sl ([.ref mo, .int (nI i)]) ++ List.replicate (3 - (lg_sl ([.ref mo, .int (nI i)])).length) Slot.unset).toArray = ls at hl ⊢
  have hl : lv_has ls 3 [(0, .ref mo), (1, .int (nI i))] := hl
  refine lv_aload_n hx hb dX8_isAtMill_0 rfl (lv_at hl 0 rfl) ?_
  refine va_get (D := (dC, dI)) (ci := 8) (v := .ref m_st) (C := RX8) (T := TX8) (N := 24) hx hb hts i_X8_isAtMill_X8 hown hK hP 0 rfl rfl 5 (by decide) (hts (.fieldLink RX8 19 "MillTalkModel" "st" "[I") (by decide +kernel)) (fun _ h9 => h9) rfl dX8_isAtMill_1 ?_
  refine lv_bipush (v := 6) hx hb dX8_isAtMill_4 (by decide) ?_
  refine va_iald hx hb hK hP 1 0 rfl rfl (by unfold vp_in; decide) dX8_isAtMill_6 ?_
  refine lv_topi (fun v_1 e_1 => ?_)
  refine lv_iconst (v := 1) hx hb dX8_isAtMill_7 (by decide) ?_
  refine jn (σ := (Int32)) (fun (st : (Int32)) H locs g => match st with | w_11 => ∃ ls : Array Slot, g = F0 m 46 ls [.int w_11] ∧ lv_has ls 3 [(0, .ref mo), (1, .int (nI i))] ∧ H = s.heap ∧ locs = []) ?_ ?_
  · rintro w_11 H locs _ ⟨ls, rfl, hl, rfl, rfl⟩
    refine lv_istore_n (lv' := [(2, .int w_11), (0, .ref mo), (1, .int (nI i))]) hx hb dX8_isAtMill_46 rfl hl (by decide) rfl (fun ls hl => ?_)
    refine lv_iload_n hx hb dX8_isAtMill_47 rfl (lv_at hl 0 rfl) ?_
    refine lv_i2l hx hb dX8_isAtMill_48 rfl ?_
    refine lv_lconst (v := 0) hx hb dX8_isAtMill_49 (by decide) ?_
    refine lv_aload_n hx hb dX8_isAtMill_50 rfl (lv_at hl 1 rfl) ?_
    refine va_get (D := (dC, dI)) (ci := 8) (v := .ref m_st) (C := RX8) (T := TX8) (N := 24) hx hb hts i_X8_isAtMill_X8 hown hK hP 0 rfl rfl 5 (by decide) (hts (.fieldLink RX8 19 "MillTalkModel" "st" "[I") (by decide +kernel)) (fun _ h9 => h9) rfl dX8_isAtMill_51 ?_
    refine lv_iconst (v := 2) hx hb dX8_isAtMill_54 (by decide) ?_
    refine va_iald hx hb hK hP 1 0 rfl rfl (by unfold vp_in; decide) dX8_isAtMill_55 ?_
    refine lv_topi (fun v_13 e_13 => ?_)
    refine lv_i2l hx hb dX8_isAtMill_56 rfl ?_
    have hPc_14 := hP.sub (ws' := []) [] rfl
    refine vp_callSi (W.runS (As := [.long (w_11).toInt64, .long 0, .long (v_13).toInt64]) (rest := []) ⟨hx, hb, hml, hown, hts⟩ (r_X8_in l dC dI cI cZ cL cJ ((w_11).toInt64) 0 ((v_13).toInt64) ) (va_cwS 3 hts gX8_isAtMill_X8_in rfl rfl rfl (by decide +kernel) ⟨Nat.le_of_ble_eq_true rfl, Nat.le_of_ble_eq_true rfl⟩) ⟨fun a U g mk q => by obtain ⟨q0, qP, qK⟩ := q; exact ⟨q0, qP, va_K.moved (u := U) (U := U.calling g mk a) (Vm.Alike.refl U.vm) qK⟩, fun U hU hW => ⟨rfl, by rw [hU]; exact hPc_14, va_K.moved hW.alike hK⟩⟩ rfl rfl hl.1 rfl (lv_room (Nat.le_of_ble_eq_true rfl)) dX8_isAtMill_57 ⟨Nat.le_of_ble_eq_true rfl, Nat.le_of_ble_eq_true rfl⟩) (fun r_14 h_14 => ?_)
    rcases h_14 with ⟨h_14, f_14_0_0⟩ | ⟨h_14, f_14_1_0⟩
    · subst h_14
      exact W.zret (v := 0) hx hb hr (by decide) (fun t ht hW => ⟨0, rfl, trivial, ht⟩) (fun _ h => by cases h) dX8_isAtMill_60
    · subst h_14
      exact W.zret (v := 1) hx hb hr (by decide) (fun t ht hW => ⟨1, rfl, trivial, ht⟩) (fun _ h => by cases h) dX8_isAtMill_60
  · intro jk_12
    refine lv_icmp_ne (tgt := 30) hx hb dX8_isAtMill_8 (by decide) (fun c_15 => ?_) (fun c_15 => ?_)
    · skip
      refine lv_aload_n hx hb dX8_isAtMill_30 rfl (lv_at hl 0 rfl) ?_
      refine va_get (D := (dC, dI)) (ci := 8) (v := .ref m_st) (C := RX8) (T := TX8) (N := 24) hx hb hts i_X8_isAtMill_X8 hown hK hP 0 rfl rfl 5 (by decide) (hts (.fieldLink RX8 19 "MillTalkModel" "st" "[I") (by decide +kernel)) (fun _ h9 => h9) rfl dX8_isAtMill_31 ?_
      refine lv_iconst (v := 1) hx hb dX8_isAtMill_34 (by decide) ?_
      refine va_iald hx hb hK hP 1 0 rfl rfl (by unfold vp_in; decide) dX8_isAtMill_35 ?_
      refine lv_topi (fun v_16 e_16 => ?_)
      refine lv_aload_n hx hb dX8_isAtMill_36 rfl (lv_at hl 0 rfl) ?_
      refine va_get (D := (dC, dI)) (ci := 8) (v := .ref m_st) (C := RX8) (T := TX8) (N := 24) hx hb hts i_X8_isAtMill_X8 hown hK hP 0 rfl rfl 5 (by decide) (hts (.fieldLink RX8 19 "MillTalkModel" "st" "[I") (by decide +kernel)) (fun _ h9 => h9) rfl dX8_isAtMill_37 ?_
      refine lv_bipush (v := 20) hx hb dX8_isAtMill_40 (by decide) ?_
      refine lv_iload_n hx hb dX8_isAtMill_42 rfl (lv_at hl 1 rfl) ?_
      refine lv_iadd hx hb dX8_isAtMill_43 ?_
      refine lv_topi (fun v_17 e_17 => ?_)
      obtain rfl : v_17 = (nI (20 + i)) := (e_17).trans (nI_add 20 i)
      refine va_iald hx hb hK hP 1 0 rfl rfl (vp_in_nI (by omega) (by omega)) dX8_isAtMill_44 ?_
      refine lv_topi (fun v_18 e_18 => ?_)
      refine lv_isub hx hb dX8_isAtMill_45 ?_
      refine lv_topi (fun v_19 e_19 => ?_)
      exact jk_12 (v_19) _ _ _ ⟨ls, rfl, lv_sub hl [0, 1] rfl, rfl, rfl⟩
    · skip
      refine lv_aload_n hx hb dX8_isAtMill_11 rfl (lv_at hl 0 rfl) ?_
      refine va_get (D := (dC, dI)) (ci := 8) (v := .ref m_st) (C := RX8) (T := TX8) (N := 24) hx hb hts i_X8_isAtMill_X8 hown hK hP 0 rfl rfl 5 (by decide) (hts (.fieldLink RX8 19 "MillTalkModel" "st" "[I") (by decide +kernel)) (fun _ h9 => h9) rfl dX8_isAtMill_12 ?_
      refine lv_bipush (v := 20) hx hb dX8_isAtMill_15 (by decide) ?_
      refine lv_iload_n hx hb dX8_isAtMill_17 rfl (lv_at hl 1 rfl) ?_
      refine lv_iadd hx hb dX8_isAtMill_18 ?_
      refine lv_topi (fun v_20 e_20 => ?_)
      obtain rfl : v_20 = (nI (20 + i)) := (e_20).trans (nI_add 20 i)
      refine va_iald hx hb hK hP 1 0 rfl rfl (vp_in_nI (by omega) (by omega)) dX8_isAtMill_19 ?_
      refine lv_topi (fun v_21 e_21 => ?_)
      refine lv_aload_n hx hb dX8_isAtMill_20 rfl (lv_at hl 0 rfl) ?_
      refine va_get (D := (dC, dI)) (ci := 8) (v := .ref m_st) (C := RX8) (T := TX8) (N := 24) hx hb hts i_X8_isAtMill_X8 hown hK hP 0 rfl rfl 5 (by decide) (hts (.fieldLink RX8 19 "MillTalkModel" "st" "[I") (by decide +kernel)) (fun _ h9 => h9) rfl dX8_isAtMill_21 ?_
      refine lv_iconst (v := 1) hx hb dX8_isAtMill_24 (by decide) ?_
      refine va_iald hx hb hK hP 1 0 rfl rfl (by unfold vp_in; decide) dX8_isAtMill_25 ?_
      refine lv_topi (fun v_22 e_22 => ?_)
      refine lv_isub hx hb dX8_isAtMill_26 ?_
      refine lv_topi (fun v_23 e_23 => ?_)
      refine lv_goto (tgt := 46) hx hb dX8_isAtMill_27 (by decide) ?_
      exact jk_12 (v_23) _ _ _ ⟨ls, rfl, lv_sub hl [0, 1] rfl, rfl, rfl⟩
set_option maxHeartbeats 4000000 in
set_option maxRecDepth 100000 in
theorem r_X8_those (l : Launch) (dC : Nat → ClassId) (dI : Nat → Nat → Nat) (cI cZ cL cJ : ClassId) (mo : Nat) (m_la : Nat) (m_sz : Nat) (m_it : Nat) (m_st : Nat) (m_mv : Nat) (m_tp : Nat) (m_rd : Nat) (m_ac : Nat) (m_as : Nat) (m_wo : Nat) (m_ik : Nat) (m_ke : Nat) (m_tr : Nat) (ms : Int32) (mt : Int32) (ml : Int32) (mk : Int32) (mv : Int32) (mb : Int32) (mw : Int32) (mz : Nat) (mp : Nat) (ma : Nat) (mx : Nat) (fs : Nat → Int32) (w9 : Nat) (k9 : Nat) (h9 : Nat) (n : Int32) (hM : okM fs w9 k9 h9) : Met l yX8_those wsX8_those ({ frames := 0, cells := 0, slots := 0, locals := 0 }) (va_Pc [.ref mo, .int n] (fun U => va_P (dC, dI) vwCl [(mo, .inr (8, [.ref m_la, .ref m_sz, .ref m_it, .int ms, .int mt, .ref m_st, .ref m_mv, .ref m_tp, .int (nI mz), .int ml, .int (nI mp), .int mk, .int mv, .int mb, .int mw, .ref m_rd, .ref m_ac, .int (nI ma), .ref m_as, .ref m_wo, .ref m_ik, .ref m_ke, .ref m_tr, .int (nI mx)])), (m_st, .inl (cI, 38, .inl fs))] U.heap ∧ va_K (dC, dI) vwCl [(cI, .int), (cZ, .boolean), (cL, .object RX3), (cJ, .array .int)] U)) (vp_Si (fun r => vp_in r 64)) 0 0 (fun _ => False) := by
  refine Met.ofW (cc := cX8_those) (maxL := 4) (ret := (some .int)) (by decide) rfl ?_
  intro p e s m args below meth c s₁ B hml hv
  obtain ⟨rfl, hP, hK⟩ := hv
  have hx := B.exec
  have hb := B.bytes
  have hr := B.returns
  have hts := atoms_spec (ws := wsX8_those) B.pre
  have hown : s.vm.findClass RX8 = some m.cls := findClass_of_methodNamed B.named
  have hlocks := B.notSynchronized
  have hP : va_P (dC, dI) vwCl [(mo, .inr (8, [.ref m_la, .ref m_sz, .ref m_it, .int ms, .int mt, .ref m_st, .ref m_mv, .ref m_tp, .int (nI mz), .int ml, .int (nI mp), .int mk, .int mv, .int mb, .int mw, .ref m_rd, .ref m_ac, .int (nI ma), .ref m_as, .ref m_wo, .ref m_ik, .ref m_ke, .ref m_tr, .int (nI mx)])), (m_st, .inl (cI, 38, .inl fs))] s.heap := hP
  have hl := lv_entry ([.ref mo, .int n]) (n := 4) (Nat.le_of_ble_eq_true rfl)
  rw [lg_entry_eq]
  generalize (lg_sl ([.ref mo, .int n]) ++ List.replicate (4 - (lg_sl ([.ref mo, .int n])).length) Slot.unset).toArray = ls at hl ⊢
  have hl : lv_has ls 4 [(0, .ref mo), (1, .int n)] := hl
  have hk6 := hM.2.2.2.2.1
  refine lv_iconst (v := 0) hx hb dX8_those_0 (by decide) ?_
  refine lv_istore_n (lv' := [(2, .int 0), (0, .ref mo), (1, .int n)]) hx hb dX8_those_1 rfl hl (by decide) rfl (fun ls hl => ?_)
  refine lv_iconst (v := 0) hx hb dX8_those_2 (by decide) ?_
  refine lv_istore_n (lv' := [(3, .int 0), (2, .int 0), (0, .ref mo), (1, .int n)]) hx hb dX8_those_3 rfl hl (by decide) rfl (fun ls hl => ?_)
  refine lp_go (σ := (Nat)) (fun ii (st : (Nat)) H locs ls => match st with | w_9 => lv_has ls 4 [(3, .int (nI ii)), (2, .int (nI w_9)), (0, .ref mo), (1, .int n)] ∧ H = s.heap ∧ locs = [] ∧ w_9 ≤ 63) k9 ?_ ?_ 0 (by omega) (0) ⟨lv_sub hl [0, 1, 2, 3] rfl, rfl, rfl, (by omega)⟩
  · rintro ii w_9 H locs ls hii ⟨hl, rfl, rfl, hnb_w_9⟩ ih
    refine lv_iload_n hx hb dX8_those_4 rfl (lv_at hl 0 rfl) ?_
    refine lv_aload_n hx hb dX8_those_5 rfl (lv_at hl 2 rfl) ?_
    refine va_get (D := (dC, dI)) (ci := 8) (v := .ref m_st) (C := RX8) (T := TX8) (N := 24) hx hb hts i_X8_those_X8 hown hK hP 0 rfl rfl 5 (by decide) (hts (.fieldLink RX8 19 "MillTalkModel" "st" "[I") (by decide +kernel)) (fun _ h9 => h9) rfl dX8_those_6 ?_
    refine lv_iconst (v := 4) hx hb dX8_those_9 (by decide) ?_
    refine va_iald hx hb hK hP 1 0 rfl rfl (by unfold vp_in; decide) dX8_those_10 ?_
    refine lv_topi (fun v_19 e_19 => ?_)
    obtain rfl : v_19 = (nI k9) := (e_19).trans hM.2.1
    refine lv_icmp_ge (tgt := 43) hx hb dX8_those_11 (by decide) (fun c_ => absurd c_ (fun q_ => absurd ((nI_leI (a := k9) (b := ii) (by omega) (by omega)).mp q_) (by omega))) (fun _ => ?_)
    refine lv_iload_n hx hb dX8_those_14 rfl (lv_at hl 1 rfl) ?_
    refine lv_aload_n hx hb dX8_those_15 rfl (lv_at hl 2 rfl) ?_
    refine va_get (D := (dC, dI)) (ci := 8) (v := .ref m_st) (C := RX8) (T := TX8) (N := 24) hx hb hts i_X8_those_X8 hown hK hP 0 rfl rfl 5 (by decide) (hts (.fieldLink RX8 19 "MillTalkModel" "st" "[I") (by decide +kernel)) (fun _ h9 => h9) rfl dX8_those_16 ?_
    refine lv_bipush (v := 26) hx hb dX8_those_19 (by decide) ?_
    refine lv_iload_n hx hb dX8_those_21 rfl (lv_at hl 0 rfl) ?_
    refine lv_iadd hx hb dX8_those_22 ?_
    refine lv_topi (fun v_21 e_21 => ?_)
    obtain rfl : v_21 = (nI (26 + ii)) := (e_21).trans (nI_add 26 ii)
    refine va_iald hx hb hK hP 1 0 rfl rfl (vp_in_nI (by omega) (by omega)) dX8_those_23 ?_
    refine lv_topi (fun v_22 e_22 => ?_)
    refine lv_iload_n hx hb dX8_those_24 rfl (lv_at hl 3 rfl) ?_
    refine lv_icmp_ne (tgt := 34) hx hb dX8_those_25 (by decide) (fun c_23 => ?_) (fun c_23 => ?_)
    · skip
      refine lv_iconst (v := 0) hx hb dX8_those_34 (by decide) ?_
      refine lv_ior hx hb dX8_those_35 ?_
      refine lv_topi (fun v_24 e_24 => ?_)
      obtain ⟨z_24, hz_24, e2_24⟩ := or63 (a := w_9) (b := 0) (by omega) (by omega)
      obtain rfl : v_24 = nI z_24 := e_24.trans e2_24
      refine lv_istore_n (lv' := [(2, .int (nI z_24)), (3, .int (nI ii)), (0, .ref mo), (1, .int n)]) hx hb dX8_those_36 rfl hl (by decide) rfl (fun ls hl => ?_)
      refine lv_iinc (v := (nI (ii + 1))) (lv' := [(3, .int (nI (ii + 1))), (2, .int (nI z_24)), (0, .ref mo), (1, .int n)]) hx hb dX8_those_37 hl (k := 1) rfl (nI_add ii 1) (by decide) rfl (fun ls hl => ?_)
      refine lv_goto (tgt := 4) hx hb dX8_those_40 (by decide) ?_
      exact ih (z_24) _ _ _ ⟨lv_sub hl [0, 1, 2, 3] rfl, rfl, rfl, (by omega)⟩
    · skip
      obtain ⟨sh, hsh, hsb, -, hsb5, -⟩ := shl8 ii (by omega)
      refine lv_iconst (v := 1) hx hb dX8_those_28 (by decide) ?_
      refine lv_iload_n hx hb dX8_those_29 rfl (lv_at hl 0 rfl) ?_
      refine lv_ishl hx hb dX8_those_30 ?_
      refine lv_topi (fun v_25 e_25 => ?_)
      obtain rfl : v_25 = (nI sh) := (e_25).trans hsh
      refine lv_goto (tgt := 35) hx hb dX8_those_31 (by decide) ?_
      refine lv_ior hx hb dX8_those_35 ?_
      refine lv_topi (fun v_26 e_26 => ?_)
      obtain ⟨z_26, hz_26, e2_26⟩ := or63 (a := w_9) (b := sh) (by omega) (by omega)
      obtain rfl : v_26 = nI z_26 := e_26.trans e2_26
      refine lv_istore_n (lv' := [(2, .int (nI z_26)), (3, .int (nI ii)), (0, .ref mo), (1, .int n)]) hx hb dX8_those_36 rfl hl (by decide) rfl (fun ls hl => ?_)
      refine lv_iinc (v := (nI (ii + 1))) (lv' := [(3, .int (nI (ii + 1))), (2, .int (nI z_26)), (0, .ref mo), (1, .int n)]) hx hb dX8_those_37 hl (k := 1) rfl (nI_add ii 1) (by decide) rfl (fun ls hl => ?_)
      refine lv_goto (tgt := 4) hx hb dX8_those_40 (by decide) ?_
      exact ih (z_26) _ _ _ ⟨lv_sub hl [0, 1, 2, 3] rfl, rfl, rfl, (by omega)⟩
  · rintro w_9 H locs ls ⟨hl, rfl, rfl, hnb_w_9⟩
    refine lv_iload_n hx hb dX8_those_4 rfl (lv_at hl 0 rfl) ?_
    refine lv_aload_n hx hb dX8_those_5 rfl (lv_at hl 2 rfl) ?_
    refine va_get (D := (dC, dI)) (ci := 8) (v := .ref m_st) (C := RX8) (T := TX8) (N := 24) hx hb hts i_X8_those_X8 hown hK hP 0 rfl rfl 5 (by decide) (hts (.fieldLink RX8 19 "MillTalkModel" "st" "[I") (by decide +kernel)) (fun _ h9 => h9) rfl dX8_those_6 ?_
    refine lv_iconst (v := 4) hx hb dX8_those_9 (by decide) ?_
    refine va_iald hx hb hK hP 1 0 rfl rfl (by unfold vp_in; decide) dX8_those_10 ?_
    refine lv_topi (fun v_27 e_27 => ?_)
    obtain rfl : v_27 = (nI k9) := (e_27).trans hM.2.1
    refine lv_icmp_ge (tgt := 43) hx hb dX8_those_11 (by decide) (fun _ => ?_) (fun c_ => absurd ((nI_leI (a := k9) (b := k9) (by omega) (by omega)).mpr (by omega)) c_)
    refine lv_iload_n hx hb dX8_those_43 rfl (lv_at hl 1 rfl) ?_
    exact W.iret (v := (nI w_9)) hx hb hr (fun t ht hW => ⟨(nI w_9), rfl, (vp_in_nI (by omega) (by decide)), ht⟩) (fun _ h => by cases h) dX8_those_44
set_option maxHeartbeats 4000000 in
set_option maxRecDepth 100000 in
theorem r_X8_loudOf (l : Launch) (dC : Nat → ClassId) (dI : Nat → Nat → Nat) (cI cZ cL cJ : ClassId) (mo : Nat) (m_la : Nat) (m_sz : Nat) (m_it : Nat) (m_st : Nat) (m_mv : Nat) (m_tp : Nat) (m_rd : Nat) (m_ac : Nat) (m_as : Nat) (m_wo : Nat) (m_ik : Nat) (m_ke : Nat) (m_tr : Nat) (ms : Int32) (mt : Int32) (ml : Int32) (mk : Int32) (mv : Int32) (mb : Int32) (mw : Int32) (mz : Nat) (mp : Nat) (ma : Nat) (mx : Nat) (fs : Nat → Int32) (w9 : Nat) (k9 : Nat) (h9 : Nat) (n : Int32) (hM : okM fs w9 k9 h9) : Met l yX8_loudOf wsX8_loudOf ({ frames := 1, cells := 0, slots := 0, locals := 21 }) (va_Pc [.ref mo, .int n] (fun U => va_P (dC, dI) vwCl [(mo, .inr (8, [.ref m_la, .ref m_sz, .ref m_it, .int ms, .int mt, .ref m_st, .ref m_mv, .ref m_tp, .int (nI mz), .int ml, .int (nI mp), .int mk, .int mv, .int mb, .int mw, .ref m_rd, .ref m_ac, .int (nI ma), .ref m_as, .ref m_wo, .ref m_ik, .ref m_ke, .ref m_tr, .int (nI mx)])), (m_st, .inl (cI, 38, .inl fs))] U.heap ∧ va_K (dC, dI) vwCl [(cI, .int), (cZ, .boolean), (cL, .object RX3), (cJ, .array .int)] U)) (vp_Si (fun r => ∃ z : Nat, r = nI z ∧ z ≤ 120 ∧ (∀ s : Nat, s < k9 → hasB n (nI s) → 1 ≤ z))) 0 0 (fun _ => False) := by
  refine Met.ofW (cc := cX8_loudOf) (maxL := 4) (ret := (some .int)) (by decide) rfl ?_
  intro p e s m args below meth c s₁ B hml hv
  obtain ⟨rfl, hP, hK⟩ := hv
  have hx := B.exec
  have hb := B.bytes
  have hr := B.returns
  have hts := atoms_spec (ws := wsX8_loudOf) B.pre
  have hown : s.vm.findClass RX8 = some m.cls := findClass_of_methodNamed B.named
  have hlocks := B.notSynchronized
  have hP : va_P (dC, dI) vwCl [(mo, .inr (8, [.ref m_la, .ref m_sz, .ref m_it, .int ms, .int mt, .ref m_st, .ref m_mv, .ref m_tp, .int (nI mz), .int ml, .int (nI mp), .int mk, .int mv, .int mb, .int mw, .ref m_rd, .ref m_ac, .int (nI ma), .ref m_as, .ref m_wo, .ref m_ik, .ref m_ke, .ref m_tr, .int (nI mx)])), (m_st, .inl (cI, 38, .inl fs))] s.heap := hP
  have hl := lv_entry ([.ref mo, .int n]) (n := 4) (Nat.le_of_ble_eq_true rfl)
  rw [lg_entry_eq]
  generalize (lg_sl ([.ref mo, .int n]) ++ List.replicate (4 - (lg_sl ([.ref mo, .int n])).length) Slot.unset).toArray = ls at hl ⊢
  have hl : lv_has ls 4 [(0, .ref mo), (1, .int n)] := hl
  have hk6 := hM.2.2.2.2.1
  refine lv_iconst (v := 0) hx hb dX8_loudOf_0 (by decide) ?_
  refine lv_istore_n (lv' := [(2, .int 0), (0, .ref mo), (1, .int n)]) hx hb dX8_loudOf_1 rfl hl (by decide) rfl (fun ls hl => ?_)
  refine lv_iconst (v := 0) hx hb dX8_loudOf_2 (by decide) ?_
  refine lv_istore_n (lv' := [(3, .int 0), (2, .int 0), (0, .ref mo), (1, .int n)]) hx hb dX8_loudOf_3 rfl hl (by decide) rfl (fun ls hl => ?_)
  refine lp_go (σ := (Nat)) (fun ii (st : (Nat)) H locs ls => match st with | w_10 => lv_has ls 4 [(3, .int (nI ii)), (2, .int (nI w_10)), (0, .ref mo), (1, .int n)] ∧ H = s.heap ∧ locs = [] ∧ (∀ s : Nat, s < ii → hasB n (nI s) → 1 ≤ w_10) ∧ w_10 ≤ 20 * ii) k9 ?_ ?_ 0 (by omega) (0) ⟨lv_sub hl [0, 1, 2, 3] rfl, rfl, rfl, (fun s hs => absurd hs (Nat.not_lt_zero s)), (by omega)⟩
  · rintro ii w_10 H locs ls hii ⟨hl, rfl, rfl, haf_0, hnb_w_10⟩ ih
    refine lv_iload_n hx hb dX8_loudOf_4 rfl (lv_at hl 0 rfl) ?_
    refine lv_aload_n hx hb dX8_loudOf_5 rfl (lv_at hl 2 rfl) ?_
    refine va_get (D := (dC, dI)) (ci := 8) (v := .ref m_st) (C := RX8) (T := TX8) (N := 24) hx hb hts i_X8_loudOf_X8 hown hK hP 0 rfl rfl 5 (by decide) (hts (.fieldLink RX8 19 "MillTalkModel" "st" "[I") (by decide +kernel)) (fun _ h9 => h9) rfl dX8_loudOf_6 ?_
    refine lv_iconst (v := 4) hx hb dX8_loudOf_9 (by decide) ?_
    refine va_iald hx hb hK hP 1 0 rfl rfl (by unfold vp_in; decide) dX8_loudOf_10 ?_
    refine lv_topi (fun v_21 e_21 => ?_)
    obtain rfl : v_21 = (nI k9) := (e_21).trans hM.2.1
    refine lv_icmp_ge (tgt := 44) hx hb dX8_loudOf_11 (by decide) (fun c_ => absurd c_ (fun q_ => absurd ((nI_leI (a := k9) (b := ii) (by omega) (by omega)).mp q_) (by omega))) (fun _ => ?_)
    refine lv_iload_n hx hb dX8_loudOf_14 rfl (lv_at hl 1 rfl) ?_
    refine lv_iload_n hx hb dX8_loudOf_15 rfl (lv_at hl 3 rfl) ?_
    refine lv_iload_n hx hb dX8_loudOf_16 rfl (lv_at hl 0 rfl) ?_
    have hPc_23 := hP.sub (ws' := []) [] rfl
    refine vp_callSi (W.runS (As := [.int n, .int (nI ii)]) (rest := [.int (nI w_10)]) ⟨hx, hb, hml, hown, hts⟩ (r_X8_has l dC dI cI cZ cL cJ n (nI ii) ) (va_cwS 2 hts gX8_loudOf_X8_has rfl rfl rfl (by decide +kernel) ⟨Nat.le_of_ble_eq_true rfl, Nat.le_of_ble_eq_true rfl⟩) ⟨fun a U g mk q => by obtain ⟨q0, qP, qK⟩ := q; exact ⟨q0, qP, va_K.moved (u := U) (U := U.calling g mk a) (Vm.Alike.refl U.vm) qK⟩, fun U hU hW => ⟨rfl, by rw [hU]; exact hPc_23, va_K.moved hW.alike hK⟩⟩ rfl rfl hl.1 rfl (lv_room (Nat.le_of_ble_eq_true rfl)) dX8_loudOf_17 ⟨Nat.le_of_ble_eq_true rfl, Nat.le_of_ble_eq_true rfl⟩) (fun r_23 h_23 => ?_)
    rcases h_23 with ⟨h_23, f_23_0_0⟩ | ⟨h_23, f_23_1_0⟩
    · subst h_23
      refine lv_if_eq (tgt := 35) hx hb dX8_loudOf_20 (by decide) (fun _ => ?_) (fun c_ => absurd (by decide) c_)
      refine lv_iconst (v := 0) hx hb dX8_loudOf_35 (by decide) ?_
      refine lv_iadd hx hb dX8_loudOf_36 ?_
      refine lv_topi (fun v_25 e_25 => ?_)
      obtain rfl : v_25 = (nI (w_10 + 0)) := (e_25).trans (nI_add w_10 0)
      refine lv_istore_n (lv' := [(2, .int (nI (w_10 + 0))), (3, .int (nI ii)), (0, .ref mo), (1, .int n)]) hx hb dX8_loudOf_37 rfl hl (by decide) rfl (fun ls hl => ?_)
      refine lv_iinc (v := (nI (ii + 1))) (lv' := [(3, .int (nI (ii + 1))), (2, .int (nI (w_10 + 0))), (0, .ref mo), (1, .int n)]) hx hb dX8_loudOf_38 hl (k := 1) rfl (nI_add ii 1) (by decide) rfl (fun ls hl => ?_)
      refine lv_goto (tgt := 4) hx hb dX8_loudOf_41 (by decide) ?_
      exact ih ((w_10 + 0)) _ _ _ ⟨lv_sub hl [0, 1, 2, 3] rfl, rfl, rfl, (lsum_n haf_0 f_23_0_0), (by omega)⟩
    · subst h_23
      refine lv_if_eq (tgt := 35) hx hb dX8_loudOf_20 (by decide) (fun c_ => absurd c_ (by decide)) (fun _ => ?_)
      refine lv_aload_n hx hb dX8_loudOf_23 rfl (lv_at hl 2 rfl) ?_
      refine va_get (D := (dC, dI)) (ci := 8) (v := .ref m_st) (C := RX8) (T := TX8) (N := 24) hx hb hts i_X8_loudOf_X8 hown hK hP 0 rfl rfl 5 (by decide) (hts (.fieldLink RX8 19 "MillTalkModel" "st" "[I") (by decide +kernel)) (fun _ h9 => h9) rfl dX8_loudOf_24 ?_
      refine lv_bipush (v := 32) hx hb dX8_loudOf_27 (by decide) ?_
      refine lv_iload_n hx hb dX8_loudOf_29 rfl (lv_at hl 0 rfl) ?_
      refine lv_iadd hx hb dX8_loudOf_30 ?_
      refine lv_topi (fun v_27 e_27 => ?_)
      obtain rfl : v_27 = (nI (32 + ii)) := (e_27).trans (nI_add 32 ii)
      refine va_iald hx hb hK hP 1 0 rfl rfl (vp_in_nI (by omega) (by omega)) dX8_loudOf_31 ?_
      obtain ⟨L_28, hL1_28, hL2_28, hLe_28⟩ := hM.2.2.2.2.2.2.2 ii (by omega)
      refine lv_topi (fun v_28 e_28 => ?_)
      obtain rfl : v_28 = nI L_28 := e_28.trans (by rw [nI_clamp (by omega)]; exact hLe_28)
      refine lv_goto (tgt := 36) hx hb dX8_loudOf_32 (by decide) ?_
      refine lv_iadd hx hb dX8_loudOf_36 ?_
      refine lv_topi (fun v_29 e_29 => ?_)
      obtain rfl : v_29 = (nI (w_10 + L_28)) := (e_29).trans (nI_add w_10 L_28)
      refine lv_istore_n (lv' := [(2, .int (nI (w_10 + L_28))), (3, .int (nI ii)), (0, .ref mo), (1, .int n)]) hx hb dX8_loudOf_37 rfl hl (by decide) rfl (fun ls hl => ?_)
      refine lv_iinc (v := (nI (ii + 1))) (lv' := [(3, .int (nI (ii + 1))), (2, .int (nI (w_10 + L_28))), (0, .ref mo), (1, .int n)]) hx hb dX8_loudOf_38 hl (k := 1) rfl (nI_add ii 1) (by decide) rfl (fun ls hl => ?_)
      refine lv_goto (tgt := 4) hx hb dX8_loudOf_41 (by decide) ?_
      exact ih ((w_10 + L_28)) _ _ _ ⟨lv_sub hl [0, 1, 2, 3] rfl, rfl, rfl, (fun s hs hb_ => by omega), (by omega)⟩
  · rintro w_10 H locs ls ⟨hl, rfl, rfl, haf_0, hnb_w_10⟩
    refine lv_iload_n hx hb dX8_loudOf_4 rfl (lv_at hl 0 rfl) ?_
    refine lv_aload_n hx hb dX8_loudOf_5 rfl (lv_at hl 2 rfl) ?_
    refine va_get (D := (dC, dI)) (ci := 8) (v := .ref m_st) (C := RX8) (T := TX8) (N := 24) hx hb hts i_X8_loudOf_X8 hown hK hP 0 rfl rfl 5 (by decide) (hts (.fieldLink RX8 19 "MillTalkModel" "st" "[I") (by decide +kernel)) (fun _ h9 => h9) rfl dX8_loudOf_6 ?_
    refine lv_iconst (v := 4) hx hb dX8_loudOf_9 (by decide) ?_
    refine va_iald hx hb hK hP 1 0 rfl rfl (by unfold vp_in; decide) dX8_loudOf_10 ?_
    refine lv_topi (fun v_30 e_30 => ?_)
    obtain rfl : v_30 = (nI k9) := (e_30).trans hM.2.1
    refine lv_icmp_ge (tgt := 44) hx hb dX8_loudOf_11 (by decide) (fun _ => ?_) (fun c_ => absurd ((nI_leI (a := k9) (b := k9) (by omega) (by omega)).mpr (by omega)) c_)
    refine lv_iload_n hx hb dX8_loudOf_44 rfl (lv_at hl 1 rfl) ?_
    exact W.iret (v := (nI w_10)) hx hb hr (fun t ht hW => ⟨(nI w_10), rfl, ⟨w_10, rfl, (by omega), haf_0⟩, ht⟩) (fun _ h => by cases h) dX8_loudOf_45
set_option maxHeartbeats 4000000 in
set_option maxRecDepth 100000 in
theorem r_X8_letLoose (l : Launch) (dC : Nat → ClassId) (dI : Nat → Nat → Nat) (cI cZ cL cJ : ClassId) (sz : Nat) (mo : Nat) (m_la : Nat) (m_sz : Nat) (m_it : Nat) (m_st : Nat) (m_mv : Nat) (m_tp : Nat) (m_rd : Nat) (m_ac : Nat) (m_as : Nat) (m_wo : Nat) (m_ik : Nat) (m_ke : Nat) (m_tr : Nat) (ms : Int32) (mt : Int32) (ml : Int32) (mk : Int32) (mv : Int32) (mb : Int32) (mw : Int32) (mz : Nat) (mp : Nat) (ma : Nat) (mx : Nat) (fs : Nat → Int32) (w9 : Nat) (k9 : Nat) (h9 : Nat) (i : Nat) (L : Nat) (n : Int32) (hM : okM fs w9 k9 h9) (hi : i < 6) (hL1 : 1 ≤ L) (hL2 : L ≤ 20) : Met l yX8_letLoose wsX8_letLoose ({ frames := 0, cells := 0, slots := 0, locals := 0 }) (va_Pc [.ref mo, .int (nI i), .int n, .int (nI L)] (fun U => U.heap.size = sz ∧ va_P (dC, dI) vwCl [(mo, .inr (8, [.ref m_la, .ref m_sz, .ref m_it, .int ms, .int mt, .ref m_st, .ref m_mv, .ref m_tp, .int (nI mz), .int ml, .int (nI mp), .int mk, .int mv, .int mb, .int mw, .ref m_rd, .ref m_ac, .int (nI ma), .ref m_as, .ref m_wo, .ref m_ik, .ref m_ke, .ref m_tr, .int (nI mx)])), (m_st, .inl (cI, 38, .inl fs))] U.heap ∧ va_K (dC, dI) vwCl [(cI, .int), (cZ, .boolean), (cL, .object RX3), (cJ, .array .int)] U ∧ va_D (fun _ => True) [(mo, .inr (8, [.ref m_la, .ref m_sz, .ref m_it, .int ms, .int mt, .ref m_st, .ref m_mv, .ref m_tp, .int (nI mz), .int ml, .int (nI mp), .int mk, .int mv, .int mb, .int mw, .ref m_rd, .ref m_ac, .int (nI ma), .ref m_as, .ref m_wo, .ref m_ik, .ref m_ke, .ref m_tr, .int (nI mx)])), (m_st, .inl (cI, 38, .inl fs))])) (va_Qv (fun (_ : Unit) => True) (fun (_ : Unit) t => ∃ (fsn : Nat → Int32), va_P (dC, dI) vwCl [(mo, .inr (8, [.ref m_la, .ref m_sz, .ref m_it, .int ms, .int mt, .ref m_st, .ref m_mv, .ref m_tp, .int (nI mz), .int ml, .int (nI mp), .int mk, .int mv, .int mb, .int mw, .ref m_rd, .ref m_ac, .int (nI ma), .ref m_as, .ref m_wo, .ref m_ik, .ref m_ke, .ref m_tr, .int (nI mx)])), (m_st, .inl (cI, 38, .inl fsn))] t.heap ∧ va_D (va_A [(mo, .inr (8, [.ref m_la, .ref m_sz, .ref m_it, .int ms, .int mt, .ref m_st, .ref m_mv, .ref m_tp, .int (nI mz), .int ml, .int (nI mp), .int mk, .int mv, .int mb, .int mw, .ref m_rd, .ref m_ac, .int (nI ma), .ref m_as, .ref m_wo, .ref m_ik, .ref m_ke, .ref m_tr, .int (nI mx)])), (m_st, .inl (cI, 38, .inl fs))] sz) [(mo, .inr (8, [.ref m_la, .ref m_sz, .ref m_it, .int ms, .int mt, .ref m_st, .ref m_mv, .ref m_tp, .int (nI mz), .int ml, .int (nI mp), .int mk, .int mv, .int mb, .int mw, .ref m_rd, .ref m_ac, .int (nI ma), .ref m_as, .ref m_wo, .ref m_ik, .ref m_ke, .ref m_tr, .int (nI mx)])), (m_st, .inl (cI, 38, .inl fsn))] ∧ okM fsn w9 k9 h9) (va_A [(mo, .inr (8, [.ref m_la, .ref m_sz, .ref m_it, .int ms, .int mt, .ref m_st, .ref m_mv, .ref m_tp, .int (nI mz), .int ml, .int (nI mp), .int mk, .int mv, .int mb, .int mw, .ref m_rd, .ref m_ac, .int (nI ma), .ref m_as, .ref m_wo, .ref m_ik, .ref m_ke, .ref m_tr, .int (nI mx)])), (m_st, .inl (cI, 38, .inl fs))] sz)) 0 0 (va_A [(mo, .inr (8, [.ref m_la, .ref m_sz, .ref m_it, .int ms, .int mt, .ref m_st, .ref m_mv, .ref m_tp, .int (nI mz), .int ml, .int (nI mp), .int mk, .int mv, .int mb, .int mw, .ref m_rd, .ref m_ac, .int (nI ma), .ref m_as, .ref m_wo, .ref m_ik, .ref m_ke, .ref m_tr, .int (nI mx)])), (m_st, .inl (cI, 38, .inl fs))] sz) := by
  refine Met.ofW (cc := cX8_letLoose) (maxL := 4) (ret := none) (by decide) rfl ?_
  intro p e s m args below meth c s₁ B hml hv
  obtain ⟨rfl, hsz, hP, hK, hD0⟩ := hv
  have hx := B.exec
  have hb := B.bytes
  have hr := B.returns
  have hts := atoms_spec (ws := wsX8_letLoose) B.pre
  have hown : s.vm.findClass RX8 = some m.cls := findClass_of_methodNamed B.named
  have hlocks := B.notSynchronized
  subst hsz
  have hD := hD0.self (sz := s.heap.size)
  generalize hAe : va_A [(mo, .inr (8, [.ref m_la, .ref m_sz, .ref m_it, .int ms, .int mt, .ref m_st, .ref m_mv, .ref m_tp, .int (nI mz), .int ml, .int (nI mp), .int mk, .int mv, .int mb, .int mw, .ref m_rd, .ref m_ac, .int (nI ma), .ref m_as, .ref m_wo, .ref m_ik, .ref m_ke, .ref m_tr, .int (nI mx)])), (m_st, .inl (cI, 38, .inl fs))] s.heap.size = A at hD ⊢
  have hA : ∀ q : Nat, s.heap.size ≤ q → A q := fun q h => by rw [← hAe]; exact Or.inr h
  have hS : va_S A s.heap s.heap [] := va_S.rf
  have hP : va_P (dC, dI) vwCl [(mo, .inr (8, [.ref m_la, .ref m_sz, .ref m_it, .int ms, .int mt, .ref m_st, .ref m_mv, .ref m_tp, .int (nI mz), .int ml, .int (nI mp), .int mk, .int mv, .int mb, .int mw, .ref m_rd, .ref m_ac, .int (nI ma), .ref m_as, .ref m_wo, .ref m_ik, .ref m_ke, .ref m_tr, .int (nI mx)])), (m_st, .inl (cI, 38, .inl fs))] s.heap := hP
  have hl := lv_entry ([.ref mo, .int (nI i), .int n, .int (nI L)]) (n := 4) (Nat.le_of_ble_eq_true rfl)
  rw [lg_entry_eq]
  generalize (lg_sl ([.ref mo, .int (nI i), .int n, .int (nI L)]) ++ List.replicate (4 - (lg_sl ([.ref mo, .int (nI i), .int n, .int (nI L)])).length) Slot.unset).toArray = ls at hl ⊢
  have hl : lv_has ls 4 [(0, .ref mo), (1, .int (nI i)), (2, .int n), (3, .int (nI L))] := hl
  have hk6 := hM.2.2.2.2.1
  have hw6 := hM.2.2.2.1
  refine lv_aload_n hx hb dX8_letLoose_0 rfl (lv_at hl 0 rfl) ?_
  refine va_get (D := (dC, dI)) (ci := 8) (v := .ref m_st) (C := RX8) (T := TX8) (N := 24) hx hb hts i_X8_letLoose_X8 hown hK hP 0 rfl rfl 5 (by decide) (hts (.fieldLink RX8 19 "MillTalkModel" "st" "[I") (by decide +kernel)) (fun _ h9 => h9) rfl dX8_letLoose_1 ?_
  refine lv_bipush (v := 26) hx hb dX8_letLoose_4 (by decide) ?_
  refine lv_iload_n hx hb dX8_letLoose_6 rfl (lv_at hl 1 rfl) ?_
  refine lv_iadd hx hb dX8_letLoose_7 ?_
  refine lv_topi (fun v_1 e_1 => ?_)
  obtain rfl : v_1 = (nI (26 + i)) := (e_1).trans (nI_add 26 i)
  refine lv_iconst (v := 0) hx hb dX8_letLoose_8 (by decide) ?_
  refine va_iast hx hb hK hP hD hS 1 0 rfl rfl (vp_in_nI (by omega) (by omega)) dX8_letLoose_9 (fun H locs hP hD hS => ?_)
  generalize hg_2 : upd fs ((nI (26 + i)) : Int32).toNatClampNeg 0 = g_2 at hP hD
  have hM_2 : okM g_2 w9 k9 h9 := okM_off (i := (26 + i)) hM hg_2 (by omega) (by omega) (by omega) (by omega) (by omega)
  have hP : va_P (dC, dI) vwCl [(mo, .inr (8, [.ref m_la, .ref m_sz, .ref m_it, .int ms, .int mt, .ref m_st, .ref m_mv, .ref m_tp, .int (nI mz), .int ml, .int (nI mp), .int mk, .int mv, .int mb, .int mw, .ref m_rd, .ref m_ac, .int (nI ma), .ref m_as, .ref m_wo, .ref m_ik, .ref m_ke, .ref m_tr, .int (nI mx)])), (m_st, .inl (cI, 38, .inl g_2))] H := hP
  have hD : va_D A [(mo, .inr (8, [.ref m_la, .ref m_sz, .ref m_it, .int ms, .int mt, .ref m_st, .ref m_mv, .ref m_tp, .int (nI mz), .int ml, .int (nI mp), .int mk, .int mv, .int mb, .int mw, .ref m_rd, .ref m_ac, .int (nI ma), .ref m_as, .ref m_wo, .ref m_ik, .ref m_ke, .ref m_tr, .int (nI mx)])), (m_st, .inl (cI, 38, .inl g_2))] := hD
  refine lv_aload_n hx hb dX8_letLoose_10 rfl (lv_at hl 0 rfl) ?_
  refine va_get (D := (dC, dI)) (ci := 8) (v := .ref m_st) (C := RX8) (T := TX8) (N := 24) hx hb hts i_X8_letLoose_X8 hown hK hP 0 rfl rfl 5 (by decide) (hts (.fieldLink RX8 19 "MillTalkModel" "st" "[I") (by decide +kernel)) (fun _ h9 => h9) rfl dX8_letLoose_11 ?_
  refine lv_bipush (v := 20) hx hb dX8_letLoose_14 (by decide) ?_
  refine lv_iload_n hx hb dX8_letLoose_16 rfl (lv_at hl 1 rfl) ?_
  refine lv_iadd hx hb dX8_letLoose_17 ?_
  refine lv_topi (fun v_3 e_3 => ?_)
  obtain rfl : v_3 = (nI (20 + i)) := (e_3).trans (nI_add 20 i)
  refine lv_iload_n hx hb dX8_letLoose_18 rfl (lv_at hl 2 rfl) ?_
  refine va_iast hx hb hK hP hD hS 1 0 rfl rfl (vp_in_nI (by omega) (by omega)) dX8_letLoose_19 (fun H locs hP hD hS => ?_)
  generalize hg_4 : upd g_2 ((nI (20 + i)) : Int32).toNatClampNeg n = g_4 at hP hD
  have hM_4 : okM g_4 w9 k9 h9 := okM_off (i := (20 + i)) hM_2 hg_4 (by omega) (by omega) (by omega) (by omega) (by omega)
  have hP : va_P (dC, dI) vwCl [(mo, .inr (8, [.ref m_la, .ref m_sz, .ref m_it, .int ms, .int mt, .ref m_st, .ref m_mv, .ref m_tp, .int (nI mz), .int ml, .int (nI mp), .int mk, .int mv, .int mb, .int mw, .ref m_rd, .ref m_ac, .int (nI ma), .ref m_as, .ref m_wo, .ref m_ik, .ref m_ke, .ref m_tr, .int (nI mx)])), (m_st, .inl (cI, 38, .inl g_4))] H := hP
  have hD : va_D A [(mo, .inr (8, [.ref m_la, .ref m_sz, .ref m_it, .int ms, .int mt, .ref m_st, .ref m_mv, .ref m_tp, .int (nI mz), .int ml, .int (nI mp), .int mk, .int mv, .int mb, .int mw, .ref m_rd, .ref m_ac, .int (nI ma), .ref m_as, .ref m_wo, .ref m_ik, .ref m_ke, .ref m_tr, .int (nI mx)])), (m_st, .inl (cI, 38, .inl g_4))] := hD
  refine lv_aload_n hx hb dX8_letLoose_20 rfl (lv_at hl 0 rfl) ?_
  refine va_get (D := (dC, dI)) (ci := 8) (v := .ref m_st) (C := RX8) (T := TX8) (N := 24) hx hb hts i_X8_letLoose_X8 hown hK hP 0 rfl rfl 5 (by decide) (hts (.fieldLink RX8 19 "MillTalkModel" "st" "[I") (by decide +kernel)) (fun _ h9 => h9) rfl dX8_letLoose_21 ?_
  refine lv_bipush (v := 32) hx hb dX8_letLoose_24 (by decide) ?_
  refine lv_iload_n hx hb dX8_letLoose_26 rfl (lv_at hl 1 rfl) ?_
  refine lv_iadd hx hb dX8_letLoose_27 ?_
  refine lv_topi (fun v_5 e_5 => ?_)
  obtain rfl : v_5 = (nI (32 + i)) := (e_5).trans (nI_add 32 i)
  refine lv_iload_n hx hb dX8_letLoose_28 rfl (lv_at hl 3 rfl) ?_
  refine va_iast hx hb hK hP hD hS 1 0 rfl rfl (vp_in_nI (by omega) (by omega)) dX8_letLoose_29 (fun H locs hP hD hS => ?_)
  generalize hg_6 : upd g_4 ((nI (32 + i)) : Int32).toNatClampNeg (nI L) = g_6 at hP hD
  have hM_6 : okM g_6 w9 k9 h9 := okM_loud hM_4 hg_6 (by omega) (by omega) (by omega)
  have hP : va_P (dC, dI) vwCl [(mo, .inr (8, [.ref m_la, .ref m_sz, .ref m_it, .int ms, .int mt, .ref m_st, .ref m_mv, .ref m_tp, .int (nI mz), .int ml, .int (nI mp), .int mk, .int mv, .int mb, .int mw, .ref m_rd, .ref m_ac, .int (nI ma), .ref m_as, .ref m_wo, .ref m_ik, .ref m_ke, .ref m_tr, .int (nI mx)])), (m_st, .inl (cI, 38, .inl g_6))] H := hP
  have hD : va_D A [(mo, .inr (8, [.ref m_la, .ref m_sz, .ref m_it, .int ms, .int mt, .ref m_st, .ref m_mv, .ref m_tp, .int (nI mz), .int ml, .int (nI mp), .int mk, .int mv, .int mb, .int mw, .ref m_rd, .ref m_ac, .int (nI ma), .ref m_as, .ref m_wo, .ref m_ik, .ref m_ke, .ref m_tr, .int (nI mx)])), (m_st, .inl (cI, 38, .inl g_6))] := hD
  have hP9 := hP.sub (ws' := [(mo, .inr (8, [.ref m_la, .ref m_sz, .ref m_it, .int ms, .int mt, .ref m_st, .ref m_mv, .ref m_tp, .int (nI mz), .int ml, .int (nI mp), .int mk, .int mv, .int mb, .int mw, .ref m_rd, .ref m_ac, .int (nI ma), .ref m_as, .ref m_wo, .ref m_ik, .ref m_ke, .ref m_tr, .int (nI mx)])), (m_st, .inl (cI, 38, .inl g_6))]) [0, 1] rfl
  have hD9 := hD.sub (ws' := [(mo, .inr (8, [.ref m_la, .ref m_sz, .ref m_it, .int ms, .int mt, .ref m_st, .ref m_mv, .ref m_tp, .int (nI mz), .int ml, .int (nI mp), .int mk, .int mv, .int mb, .int mw, .ref m_rd, .ref m_ac, .int (nI ma), .ref m_as, .ref m_wo, .ref m_ik, .ref m_ke, .ref m_tr, .int (nI mx)])), (m_st, .inl (cI, 38, .inl g_6))]) [0, 1] (by decide) rfl
  exact W.vret hx hb hr (fun t ht hW => ⟨⟨(), rfl, trivial, ⟨g_6, by rw [ht]; exact hP9, hD9, hM_6⟩⟩, hS.F ht⟩) hS.2.2 dX8_letLoose_30
set_option maxHeartbeats 4000000 in
set_option maxRecDepth 100000 in
theorem r_X8_drift (l : Launch) (dC : Nat → ClassId) (dI : Nat → Nat → Nat) (cI cZ cL cJ : ClassId) (sz : Nat) (mo : Nat) (m_la : Nat) (m_sz : Nat) (m_it : Nat) (m_st : Nat) (m_mv : Nat) (m_tp : Nat) (m_rd : Nat) (m_ac : Nat) (m_as : Nat) (m_wo : Nat) (m_ik : Nat) (m_ke : Nat) (m_tr : Nat) (ms : Int32) (mt : Int32) (ml : Int32) (mk : Int32) (mv : Int32) (mb : Int32) (mw : Int32) (mz : Nat) (mp : Nat) (ma : Nat) (mx : Nat) (fs : Nat → Int32) (w9 : Nat) (k9 : Nat) (h9 : Nat) (i : Nat) (n : Int32) (hM : okM fs w9 k9 h9) (hi : i < k9) : Met l yX8_drift wsX8_drift ({ frames := 2, cells := 0, slots := 0, locals := 46 }) (va_Pc [.ref mo, .int (nI i), .int n] (fun U => U.heap.size = sz ∧ va_P (dC, dI) vwCl [(mo, .inr (8, [.ref m_la, .ref m_sz, .ref m_it, .int ms, .int mt, .ref m_st, .ref m_mv, .ref m_tp, .int (nI mz), .int ml, .int (nI mp), .int mk, .int mv, .int mb, .int mw, .ref m_rd, .ref m_ac, .int (nI ma), .ref m_as, .ref m_wo, .ref m_ik, .ref m_ke, .ref m_tr, .int (nI mx)])), (m_st, .inl (cI, 38, .inl fs))] U.heap ∧ va_K (dC, dI) vwCl [(cI, .int), (cZ, .boolean), (cL, .object RX3), (cJ, .array .int)] U ∧ va_D (fun _ => True) [(mo, .inr (8, [.ref m_la, .ref m_sz, .ref m_it, .int ms, .int mt, .ref m_st, .ref m_mv, .ref m_tp, .int (nI mz), .int ml, .int (nI mp), .int mk, .int mv, .int mb, .int mw, .ref m_rd, .ref m_ac, .int (nI ma), .ref m_as, .ref m_wo, .ref m_ik, .ref m_ke, .ref m_tr, .int (nI mx)])), (m_st, .inl (cI, 38, .inl fs))])) (va_Qv (fun (_ : Unit) => True) (fun (_ : Unit) t => ∃ (fsn : Nat → Int32), va_P (dC, dI) vwCl [(mo, .inr (8, [.ref m_la, .ref m_sz, .ref m_it, .int ms, .int mt, .ref m_st, .ref m_mv, .ref m_tp, .int (nI mz), .int ml, .int (nI mp), .int mk, .int mv, .int mb, .int mw, .ref m_rd, .ref m_ac, .int (nI ma), .ref m_as, .ref m_wo, .ref m_ik, .ref m_ke, .ref m_tr, .int (nI mx)])), (m_st, .inl (cI, 38, .inl fsn))] t.heap ∧ va_D (va_A [(mo, .inr (8, [.ref m_la, .ref m_sz, .ref m_it, .int ms, .int mt, .ref m_st, .ref m_mv, .ref m_tp, .int (nI mz), .int ml, .int (nI mp), .int mk, .int mv, .int mb, .int mw, .ref m_rd, .ref m_ac, .int (nI ma), .ref m_as, .ref m_wo, .ref m_ik, .ref m_ke, .ref m_tr, .int (nI mx)])), (m_st, .inl (cI, 38, .inl fs))] sz) [(mo, .inr (8, [.ref m_la, .ref m_sz, .ref m_it, .int ms, .int mt, .ref m_st, .ref m_mv, .ref m_tp, .int (nI mz), .int ml, .int (nI mp), .int mk, .int mv, .int mb, .int mw, .ref m_rd, .ref m_ac, .int (nI ma), .ref m_as, .ref m_wo, .ref m_ik, .ref m_ke, .ref m_tr, .int (nI mx)])), (m_st, .inl (cI, 38, .inl fsn))] ∧ okM fsn w9 k9 h9) (va_A [(mo, .inr (8, [.ref m_la, .ref m_sz, .ref m_it, .int ms, .int mt, .ref m_st, .ref m_mv, .ref m_tp, .int (nI mz), .int ml, .int (nI mp), .int mk, .int mv, .int mb, .int mw, .ref m_rd, .ref m_ac, .int (nI ma), .ref m_as, .ref m_wo, .ref m_ik, .ref m_ke, .ref m_tr, .int (nI mx)])), (m_st, .inl (cI, 38, .inl fs))] sz)) 0 0 (va_A [(mo, .inr (8, [.ref m_la, .ref m_sz, .ref m_it, .int ms, .int mt, .ref m_st, .ref m_mv, .ref m_tp, .int (nI mz), .int ml, .int (nI mp), .int mk, .int mv, .int mb, .int mw, .ref m_rd, .ref m_ac, .int (nI ma), .ref m_as, .ref m_wo, .ref m_ik, .ref m_ke, .ref m_tr, .int (nI mx)])), (m_st, .inl (cI, 38, .inl fs))] sz) := by
  refine Met.ofW (cc := cX8_drift) (maxL := 7) (ret := none) (by decide) rfl ?_
  intro p e s m args below meth c s₁ B hml hv
  obtain ⟨rfl, hsz, hP, hK, hD0⟩ := hv
  have hx := B.exec
  have hb := B.bytes
  have hr := B.returns
  have hts := atoms_spec (ws := wsX8_drift) B.pre
  have hown : s.vm.findClass RX8 = some m.cls := findClass_of_methodNamed B.named
  have hlocks := B.notSynchronized
  subst hsz
  have hD := hD0.self (sz := s.heap.size)
  generalize hAe : va_A [(mo, .inr (8, [.ref m_la, .ref m_sz, .ref m_it, .int ms, .int mt, .ref m_st, .ref m_mv, .ref m_tp, .int (nI mz), .int ml, .int (nI mp), .int mk, .int mv, .int mb, .int mw, .ref m_rd, .ref m_ac, .int (nI ma), .ref m_as, .ref m_wo, .ref m_ik, .ref m_ke, .ref m_tr, .int (nI mx)])), (m_st, .inl (cI, 38, .inl fs))] s.heap.size = A at hD ⊢
  have hA : ∀ q : Nat, s.heap.size ≤ q → A q := fun q h => by rw [← hAe]; exact Or.inr h
  have hS : va_S A s.heap s.heap [] := va_S.rf
  have hP : va_P (dC, dI) vwCl [(mo, .inr (8, [.ref m_la, .ref m_sz, .ref m_it, .int ms, .int mt, .ref m_st, .ref m_mv, .ref m_tp, .int (nI mz), .int ml, .int (nI mp), .int mk, .int mv, .int mb, .int mw, .ref m_rd, .ref m_ac, .int (nI ma), .ref m_as, .ref m_wo, .ref m_ik, .ref m_ke, .ref m_tr, .int (nI mx)])), (m_st, .inl (cI, 38, .inl fs))] s.heap := hP
  have hl := lv_entry ([.ref mo, .int (nI i), .int n]) (n := 7) (Nat.le_of_ble_eq_true rfl)
  rw [lg_entry_eq]
  generalize (lg_sl ([.ref mo, .int (nI i), .int n]) ++ List.replicate (7 - (lg_sl ([.ref mo, .int (nI i), .int n])).length) Slot.unset).toArray = ls at hl ⊢
  have hl : lv_has ls 7 [(0, .ref mo), (1, .int (nI i)), (2, .int n)] := hl
  have hk6 := hM.2.2.2.2.1
  have hw6 := hM.2.2.2.1
  refine lv_aload_n hx hb dX8_drift_0 rfl (lv_at hl 0 rfl) ?_
  refine va_get (D := (dC, dI)) (ci := 8) (v := .ref m_st) (C := RX8) (T := TX8) (N := 24) hx hb hts i_X8_drift_X8 hown hK hP 0 rfl rfl 5 (by decide) (hts (.fieldLink RX8 19 "MillTalkModel" "st" "[I") (by decide +kernel)) (fun _ h9 => h9) rfl dX8_drift_1 ?_
  refine lv_bipush (v := 14) hx hb dX8_drift_4 (by decide) ?_
  refine lv_iload_n hx hb dX8_drift_6 rfl (lv_at hl 1 rfl) ?_
  refine lv_iadd hx hb dX8_drift_7 ?_
  refine lv_topi (fun v_1 e_1 => ?_)
  obtain rfl : v_1 = (nI (14 + i)) := (e_1).trans (nI_add 14 i)
  refine va_iald hx hb hK hP 1 0 rfl rfl (vp_in_nI (by omega) (by omega)) dX8_drift_8 ?_
  refine lv_topi (fun v_2 e_2 => ?_)
  refine lv_istore_n (lv' := [(3, .int v_2), (0, .ref mo), (1, .int (nI i)), (2, .int n)]) hx hb dX8_drift_9 rfl hl (by decide) rfl (fun ls hl => ?_)
  refine lv_aload_n hx hb dX8_drift_10 rfl (lv_at hl 1 rfl) ?_
  refine va_get (D := (dC, dI)) (ci := 8) (v := .ref m_st) (C := RX8) (T := TX8) (N := 24) hx hb hts i_X8_drift_X8 hown hK hP 0 rfl rfl 5 (by decide) (hts (.fieldLink RX8 19 "MillTalkModel" "st" "[I") (by decide +kernel)) (fun _ h9 => h9) rfl dX8_drift_11 ?_
  refine lv_bipush (v := 20) hx hb dX8_drift_14 (by decide) ?_
  refine lv_iload_n hx hb dX8_drift_16 rfl (lv_at hl 2 rfl) ?_
  refine lv_iadd hx hb dX8_drift_17 ?_
  refine lv_topi (fun v_3 e_3 => ?_)
  obtain rfl : v_3 = (nI (20 + i)) := (e_3).trans (nI_add 20 i)
  refine va_iald hx hb hK hP 1 0 rfl rfl (vp_in_nI (by omega) (by omega)) dX8_drift_18 ?_
  refine lv_topi (fun v_4 e_4 => ?_)
  refine lv_iload_n hx hb dX8_drift_19 rfl (lv_at hl 0 rfl) ?_
  refine lv_iload_n hx hb dX8_drift_20 rfl (lv_at hl 3 rfl) ?_
  have hPc_5 := hP.sub (ws' := []) [] rfl
  refine vp_callSi (W.runS (As := [.int v_2, .int n]) (rest := [.int v_4]) ⟨hx, hb, hml, hown, hts⟩ (r_X8_drifts l dC dI cI cZ cL cJ v_2 n ) (va_cwS 2 hts gX8_drift_X8_drifts rfl rfl rfl (by decide +kernel) ⟨Nat.le_of_ble_eq_true rfl, Nat.le_of_ble_eq_true rfl⟩) ⟨fun a U g mk q => by obtain ⟨q0, qP, qK⟩ := q; exact ⟨q0, qP, va_K.moved (u := U) (U := U.calling g mk a) (Vm.Alike.refl U.vm) qK⟩, fun U hU hW => ⟨rfl, by rw [hU]; exact hPc_5, va_K.moved hW.alike hK⟩⟩ rfl rfl hl.1 rfl (lv_room (Nat.le_of_ble_eq_true rfl)) dX8_drift_21 ⟨Nat.le_of_ble_eq_true rfl, Nat.le_of_ble_eq_true rfl⟩) (fun r_5 h_5 => ?_)
  refine lv_iadd hx hb dX8_drift_24 ?_
  refine lv_topi (fun v_6 e_6 => ?_)
  refine lv_istore (lv' := [(4, .int v_6), (3, .int v_2), (0, .ref mo), (1, .int (nI i)), (2, .int n)]) hx hb dX8_drift_25 hl (by decide) rfl (fun ls hl => ?_)
  refine lv_iload_n hx hb dX8_drift_27 rfl (lv_at hl 1 rfl) ?_
  refine lv_iconst (v := 4) hx hb dX8_drift_28 (by decide) ?_
  refine lv_icmp_ne (tgt := 46) hx hb dX8_drift_29 (by decide) (fun c_7 => ?_) (fun c_7 => ?_)
  · skip
    refine lv_iload_n hx hb dX8_drift_46 rfl (lv_at hl 1 rfl) ?_
    refine lv_iconst (v := 5) hx hb dX8_drift_47 (by decide) ?_
    refine lv_icmp_ne (tgt := 79) hx hb dX8_drift_48 (by decide) (fun c_8 => ?_) (fun c_8 => ?_)
    · skip
      refine lv_aload_n hx hb dX8_drift_79 rfl (lv_at hl 2 rfl) ?_
      refine va_get (D := (dC, dI)) (ci := 8) (v := .ref m_st) (C := RX8) (T := TX8) (N := 24) hx hb hts i_X8_drift_X8 hown hK hP 0 rfl rfl 5 (by decide) (hts (.fieldLink RX8 19 "MillTalkModel" "st" "[I") (by decide +kernel)) (fun _ h9 => h9) rfl dX8_drift_80 ?_
      refine lv_bipush (v := 32) hx hb dX8_drift_83 (by decide) ?_
      refine lv_iload_n hx hb dX8_drift_85 rfl (lv_at hl 3 rfl) ?_
      refine lv_iadd hx hb dX8_drift_86 ?_
      refine lv_topi (fun v_9 e_9 => ?_)
      obtain rfl : v_9 = (nI (32 + i)) := (e_9).trans (nI_add 32 i)
      refine va_iald hx hb hK hP 1 0 rfl rfl (vp_in_nI (by omega) (by omega)) dX8_drift_87 ?_
      obtain ⟨L_10, hL1_10, hL2_10, hLe_10⟩ := hM.2.2.2.2.2.2.2 i (by omega)
      refine lv_topi (fun v_10 e_10 => ?_)
      obtain rfl : v_10 = nI L_10 := e_10.trans (by rw [nI_clamp (by omega)]; exact hLe_10)
      refine lv_istore (lv' := [(5, .int (nI L_10)), (4, .int v_6), (3, .int v_2), (0, .ref mo), (1, .int (nI i)), (2, .int n)]) hx hb dX8_drift_88 hl (by decide) rfl (fun ls hl => ?_)
      refine lv_aload_n hx hb dX8_drift_90 rfl (lv_at hl 3 rfl) ?_
      refine lv_iload hx hb dX8_drift_91 (lv_at hl 1 rfl) ?_
      have hPc_11 := hP.sub (ws' := [(mo, .inr (8, [.ref m_la, .ref m_sz, .ref m_it, .int ms, .int mt, .ref m_st, .ref m_mv, .ref m_tp, .int (nI mz), .int ml, .int (nI mp), .int mk, .int mv, .int mb, .int mw, .ref m_rd, .ref m_ac, .int (nI ma), .ref m_as, .ref m_wo, .ref m_ik, .ref m_ke, .ref m_tr, .int (nI mx)])), (m_st, .inl (cI, 38, .inl fs))]) [0, 1] rfl
      refine vp_callSi (W.runV (As := [.int v_6]) (rest := []) ⟨hx, hb, hml, hown, hts⟩ (r_X8_isCell l dC dI cI cZ cL cJ mo m_la m_sz m_it m_st m_mv m_tp m_rd m_ac m_as m_wo m_ik m_ke m_tr ms mt ml mk mv mb mw mz mp ma mx fs w9 k9 h9 v_6 (hM)) (cwV 1 hts gX8_drift_X8_isCell rfl rfl rfl (by decide +kernel) ⟨Nat.le_of_ble_eq_true rfl, Nat.le_of_ble_eq_true rfl⟩) ⟨fun a U g mk q => by obtain ⟨q0, qP, qK⟩ := q; exact ⟨q0, qP, va_K.moved (u := U) (U := U.calling g mk a) (Vm.Alike.refl U.vm) qK⟩, va_recv hK hP (ci := 8) (q0 := 0) rfl rfl, fun U hU hW => ⟨rfl, by rw [hU]; exact hPc_11, va_K.moved hW.alike hK⟩⟩ rfl rfl hl.1 rfl (lv_room (Nat.le_of_ble_eq_true rfl)) dX8_drift_93 ⟨Nat.le_of_ble_eq_true rfl, Nat.le_of_ble_eq_true rfl⟩) (fun r_11 h_11 => ?_)
      refine lv_if_eq (tgt := 104) hx hb dX8_drift_96 (by decide) (fun c_12 => ?_) (fun c_12 => ?_)
      · skip
        refine lv_iconst (v := 1) hx hb dX8_drift_104 (by decide) ?_
        refine lv_goto (tgt := 109) hx hb dX8_drift_105 (by decide) ?_
        refine lv_istore (lv' := [(6, .int 1), (5, .int (nI L_10)), (4, .int v_6), (3, .int v_2), (0, .ref mo), (1, .int (nI i)), (2, .int n)]) hx hb dX8_drift_109 hl (by decide) rfl (fun ls hl => ?_)
        refine lv_aload_n hx hb dX8_drift_111 rfl (lv_at hl 4 rfl) ?_
        refine va_get (D := (dC, dI)) (ci := 8) (v := .ref m_st) (C := RX8) (T := TX8) (N := 24) hx hb hts i_X8_drift_X8 hown hK hP 0 rfl rfl 5 (by decide) (hts (.fieldLink RX8 19 "MillTalkModel" "st" "[I") (by decide +kernel)) (fun _ h9 => h9) rfl dX8_drift_112 ?_
        refine lv_bipush (v := 26) hx hb dX8_drift_115 (by decide) ?_
        refine lv_iload_n hx hb dX8_drift_117 rfl (lv_at hl 5 rfl) ?_
        refine lv_iadd hx hb dX8_drift_118 ?_
        refine lv_topi (fun v_13 e_13 => ?_)
        obtain rfl : v_13 = (nI (26 + i)) := (e_13).trans (nI_add 26 i)
        refine lv_iload hx hb dX8_drift_119 (lv_at hl 0 rfl) ?_
        refine lv_if_eq (tgt := 128) hx hb dX8_drift_121 (by decide) (fun c_ => absurd c_ (by decide)) (fun _ => ?_)
        refine lv_iconst (v := 2) hx hb dX8_drift_124 (by decide) ?_
        refine lv_goto (tgt := 129) hx hb dX8_drift_125 (by decide) ?_
        refine va_iast hx hb hK hP hD hS 1 0 rfl rfl (vp_in_nI (by omega) (by omega)) dX8_drift_129 (fun H locs hP hD hS => ?_)
        generalize hg_15 : upd fs ((nI (26 + i)) : Int32).toNatClampNeg 2 = g_15 at hP hD
        have hM_15 : okM g_15 w9 k9 h9 := okM_off (i := (26 + i)) hM hg_15 (by omega) (by omega) (by omega) (by omega) (by omega)
        have hP : va_P (dC, dI) vwCl [(mo, .inr (8, [.ref m_la, .ref m_sz, .ref m_it, .int ms, .int mt, .ref m_st, .ref m_mv, .ref m_tp, .int (nI mz), .int ml, .int (nI mp), .int mk, .int mv, .int mb, .int mw, .ref m_rd, .ref m_ac, .int (nI ma), .ref m_as, .ref m_wo, .ref m_ik, .ref m_ke, .ref m_tr, .int (nI mx)])), (m_st, .inl (cI, 38, .inl g_15))] H := hP
        have hD : va_D A [(mo, .inr (8, [.ref m_la, .ref m_sz, .ref m_it, .int ms, .int mt, .ref m_st, .ref m_mv, .ref m_tp, .int (nI mz), .int ml, .int (nI mp), .int mk, .int mv, .int mb, .int mw, .ref m_rd, .ref m_ac, .int (nI ma), .ref m_as, .ref m_wo, .ref m_ik, .ref m_ke, .ref m_tr, .int (nI mx)])), (m_st, .inl (cI, 38, .inl g_15))] := hD
        refine lv_aload_n hx hb dX8_drift_130 rfl (lv_at hl 4 rfl) ?_
        refine va_get (D := (dC, dI)) (ci := 8) (v := .ref m_st) (C := RX8) (T := TX8) (N := 24) hx hb hts i_X8_drift_X8 hown hK hP 0 rfl rfl 5 (by decide) (hts (.fieldLink RX8 19 "MillTalkModel" "st" "[I") (by decide +kernel)) (fun _ h9 => h9) rfl dX8_drift_131 ?_
        refine lv_bipush (v := 20) hx hb dX8_drift_134 (by decide) ?_
        refine lv_iload_n hx hb dX8_drift_136 rfl (lv_at hl 5 rfl) ?_
        refine lv_iadd hx hb dX8_drift_137 ?_
        refine lv_topi (fun v_16 e_16 => ?_)
        obtain rfl : v_16 = (nI (20 + i)) := (e_16).trans (nI_add 20 i)
        refine lv_iload hx hb dX8_drift_138 (lv_at hl 0 rfl) ?_
        refine lv_if_eq (tgt := 155) hx hb dX8_drift_140 (by decide) (fun c_ => absurd c_ (by decide)) (fun _ => ?_)
        refine lv_aload_n hx hb dX8_drift_143 rfl (lv_at hl 4 rfl) ?_
        refine va_get (D := (dC, dI)) (ci := 8) (v := .ref m_st) (C := RX8) (T := TX8) (N := 24) hx hb hts i_X8_drift_X8 hown hK hP 0 rfl rfl 5 (by decide) (hts (.fieldLink RX8 19 "MillTalkModel" "st" "[I") (by decide +kernel)) (fun _ h9 => h9) rfl dX8_drift_144 ?_
        refine lv_bipush (v := 20) hx hb dX8_drift_147 (by decide) ?_
        refine lv_iload_n hx hb dX8_drift_149 rfl (lv_at hl 5 rfl) ?_
        refine lv_iadd hx hb dX8_drift_150 ?_
        refine lv_topi (fun v_18 e_18 => ?_)
        obtain rfl : v_18 = (nI (20 + i)) := (e_18).trans (nI_add 20 i)
        refine va_iald hx hb hK hP 1 0 rfl rfl (vp_in_nI (by omega) (by omega)) dX8_drift_151 ?_
        refine lv_topi (fun v_19 e_19 => ?_)
        refine lv_goto (tgt := 157) hx hb dX8_drift_152 (by decide) ?_
        refine va_iast hx hb hK hP hD hS 1 0 rfl rfl (vp_in_nI (by omega) (by omega)) dX8_drift_157 (fun H locs hP hD hS => ?_)
        generalize hg_20 : upd g_15 ((nI (20 + i)) : Int32).toNatClampNeg v_19 = g_20 at hP hD
        have hM_20 : okM g_20 w9 k9 h9 := okM_off (i := (20 + i)) hM_15 hg_20 (by omega) (by omega) (by omega) (by omega) (by omega)
        have hP : va_P (dC, dI) vwCl [(mo, .inr (8, [.ref m_la, .ref m_sz, .ref m_it, .int ms, .int mt, .ref m_st, .ref m_mv, .ref m_tp, .int (nI mz), .int ml, .int (nI mp), .int mk, .int mv, .int mb, .int mw, .ref m_rd, .ref m_ac, .int (nI ma), .ref m_as, .ref m_wo, .ref m_ik, .ref m_ke, .ref m_tr, .int (nI mx)])), (m_st, .inl (cI, 38, .inl g_20))] H := hP
        have hD : va_D A [(mo, .inr (8, [.ref m_la, .ref m_sz, .ref m_it, .int ms, .int mt, .ref m_st, .ref m_mv, .ref m_tp, .int (nI mz), .int ml, .int (nI mp), .int mk, .int mv, .int mb, .int mw, .ref m_rd, .ref m_ac, .int (nI ma), .ref m_as, .ref m_wo, .ref m_ik, .ref m_ke, .ref m_tr, .int (nI mx)])), (m_st, .inl (cI, 38, .inl g_20))] := hD
        refine lv_aload_n hx hb dX8_drift_158 rfl (lv_at hl 4 rfl) ?_
        refine va_get (D := (dC, dI)) (ci := 8) (v := .ref m_st) (C := RX8) (T := TX8) (N := 24) hx hb hts i_X8_drift_X8 hown hK hP 0 rfl rfl 5 (by decide) (hts (.fieldLink RX8 19 "MillTalkModel" "st" "[I") (by decide +kernel)) (fun _ h9 => h9) rfl dX8_drift_159 ?_
        refine lv_bipush (v := 32) hx hb dX8_drift_162 (by decide) ?_
        refine lv_iload_n hx hb dX8_drift_164 rfl (lv_at hl 5 rfl) ?_
        refine lv_iadd hx hb dX8_drift_165 ?_
        refine lv_topi (fun v_21 e_21 => ?_)
        obtain rfl : v_21 = (nI (32 + i)) := (e_21).trans (nI_add 32 i)
        refine lv_iload hx hb dX8_drift_166 (lv_at hl 0 rfl) ?_
        refine lv_if_eq (tgt := 183) hx hb dX8_drift_168 (by decide) (fun c_ => absurd c_ (by decide)) (fun _ => ?_)
        refine lv_aload_n hx hb dX8_drift_171 rfl (lv_at hl 4 rfl) ?_
        refine va_get (D := (dC, dI)) (ci := 8) (v := .ref m_st) (C := RX8) (T := TX8) (N := 24) hx hb hts i_X8_drift_X8 hown hK hP 0 rfl rfl 5 (by decide) (hts (.fieldLink RX8 19 "MillTalkModel" "st" "[I") (by decide +kernel)) (fun _ h9 => h9) rfl dX8_drift_172 ?_
        refine lv_bipush (v := 32) hx hb dX8_drift_175 (by decide) ?_
        refine lv_iload_n hx hb dX8_drift_177 rfl (lv_at hl 5 rfl) ?_
        refine lv_iadd hx hb dX8_drift_178 ?_
        refine lv_topi (fun v_23 e_23 => ?_)
        obtain rfl : v_23 = (nI (32 + i)) := (e_23).trans (nI_add 32 i)
        refine va_iald hx hb hK hP 1 0 rfl rfl (vp_in_nI (by omega) (by omega)) dX8_drift_179 ?_
        obtain ⟨L_24, hL1_24, hL2_24, hLe_24⟩ := hM_20.2.2.2.2.2.2.2 i (by omega)
        refine lv_topi (fun v_24 e_24 => ?_)
        obtain rfl : v_24 = nI L_24 := e_24.trans (by rw [nI_clamp (by omega)]; exact hLe_24)
        refine lv_goto (tgt := 185) hx hb dX8_drift_180 (by decide) ?_
        refine va_iast hx hb hK hP hD hS 1 0 rfl rfl (vp_in_nI (by omega) (by omega)) dX8_drift_185 (fun H locs hP hD hS => ?_)
        generalize hg_25 : upd g_20 ((nI (32 + i)) : Int32).toNatClampNeg (nI L_24) = g_25 at hP hD
        have hM_25 : okM g_25 w9 k9 h9 := okM_loud hM_20 hg_25 (by omega) (by omega) (by omega)
        have hP : va_P (dC, dI) vwCl [(mo, .inr (8, [.ref m_la, .ref m_sz, .ref m_it, .int ms, .int mt, .ref m_st, .ref m_mv, .ref m_tp, .int (nI mz), .int ml, .int (nI mp), .int mk, .int mv, .int mb, .int mw, .ref m_rd, .ref m_ac, .int (nI ma), .ref m_as, .ref m_wo, .ref m_ik, .ref m_ke, .ref m_tr, .int (nI mx)])), (m_st, .inl (cI, 38, .inl g_25))] H := hP
        have hD : va_D A [(mo, .inr (8, [.ref m_la, .ref m_sz, .ref m_it, .int ms, .int mt, .ref m_st, .ref m_mv, .ref m_tp, .int (nI mz), .int ml, .int (nI mp), .int mk, .int mv, .int mb, .int mw, .ref m_rd, .ref m_ac, .int (nI ma), .ref m_as, .ref m_wo, .ref m_ik, .ref m_ke, .ref m_tr, .int (nI mx)])), (m_st, .inl (cI, 38, .inl g_25))] := hD
        have hP9 := hP.sub (ws' := [(mo, .inr (8, [.ref m_la, .ref m_sz, .ref m_it, .int ms, .int mt, .ref m_st, .ref m_mv, .ref m_tp, .int (nI mz), .int ml, .int (nI mp), .int mk, .int mv, .int mb, .int mw, .ref m_rd, .ref m_ac, .int (nI ma), .ref m_as, .ref m_wo, .ref m_ik, .ref m_ke, .ref m_tr, .int (nI mx)])), (m_st, .inl (cI, 38, .inl g_25))]) [0, 1] rfl
        have hD9 := hD.sub (ws' := [(mo, .inr (8, [.ref m_la, .ref m_sz, .ref m_it, .int ms, .int mt, .ref m_st, .ref m_mv, .ref m_tp, .int (nI mz), .int ml, .int (nI mp), .int mk, .int mv, .int mb, .int mw, .ref m_rd, .ref m_ac, .int (nI ma), .ref m_as, .ref m_wo, .ref m_ik, .ref m_ke, .ref m_tr, .int (nI mx)])), (m_st, .inl (cI, 38, .inl g_25))]) [0, 1] (by decide) rfl
        exact W.vret hx hb hr (fun t ht hW => ⟨⟨(), rfl, trivial, ⟨g_25, by rw [ht]; exact hP9, hD9, hM_25⟩⟩, hS.F ht⟩) hS.2.2 dX8_drift_186
      · skip
        refine lv_iload hx hb dX8_drift_99 (lv_at hl 0 rfl) ?_
        refine lv_if_ne (tgt := 108) hx hb dX8_drift_101 (by decide) (fun c_26 => ?_) (fun c_26 => ?_)
        · have c_26 : ¬ (L_10 = 0) := fun q_ => c_26 ((nI_eq (a := L_10) (b := 0) (by omega) (by omega)).mpr q_)
          refine lv_iconst (v := 0) hx hb dX8_drift_108 (by decide) ?_
          refine lv_istore (lv' := [(6, .int 0), (5, .int (nI L_10)), (4, .int v_6), (3, .int v_2), (0, .ref mo), (1, .int (nI i)), (2, .int n)]) hx hb dX8_drift_109 hl (by decide) rfl (fun ls hl => ?_)
          refine lv_aload_n hx hb dX8_drift_111 rfl (lv_at hl 4 rfl) ?_
          refine va_get (D := (dC, dI)) (ci := 8) (v := .ref m_st) (C := RX8) (T := TX8) (N := 24) hx hb hts i_X8_drift_X8 hown hK hP 0 rfl rfl 5 (by decide) (hts (.fieldLink RX8 19 "MillTalkModel" "st" "[I") (by decide +kernel)) (fun _ h9 => h9) rfl dX8_drift_112 ?_
          refine lv_bipush (v := 26) hx hb dX8_drift_115 (by decide) ?_
          refine lv_iload_n hx hb dX8_drift_117 rfl (lv_at hl 5 rfl) ?_
          refine lv_iadd hx hb dX8_drift_118 ?_
          refine lv_topi (fun v_27 e_27 => ?_)
          obtain rfl : v_27 = (nI (26 + i)) := (e_27).trans (nI_add 26 i)
          refine lv_iload hx hb dX8_drift_119 (lv_at hl 0 rfl) ?_
          refine lv_if_eq (tgt := 128) hx hb dX8_drift_121 (by decide) (fun _ => ?_) (fun c_ => absurd (by decide) c_)
          refine lv_iconst (v := 0) hx hb dX8_drift_128 (by decide) ?_
          refine va_iast hx hb hK hP hD hS 1 0 rfl rfl (vp_in_nI (by omega) (by omega)) dX8_drift_129 (fun H locs hP hD hS => ?_)
          generalize hg_29 : upd fs ((nI (26 + i)) : Int32).toNatClampNeg 0 = g_29 at hP hD
          have hM_29 : okM g_29 w9 k9 h9 := okM_off (i := (26 + i)) hM hg_29 (by omega) (by omega) (by omega) (by omega) (by omega)
          have hP : va_P (dC, dI) vwCl [(mo, .inr (8, [.ref m_la, .ref m_sz, .ref m_it, .int ms, .int mt, .ref m_st, .ref m_mv, .ref m_tp, .int (nI mz), .int ml, .int (nI mp), .int mk, .int mv, .int mb, .int mw, .ref m_rd, .ref m_ac, .int (nI ma), .ref m_as, .ref m_wo, .ref m_ik, .ref m_ke, .ref m_tr, .int (nI mx)])), (m_st, .inl (cI, 38, .inl g_29))] H := hP
          have hD : va_D A [(mo, .inr (8, [.ref m_la, .ref m_sz, .ref m_it, .int ms, .int mt, .ref m_st, .ref m_mv, .ref m_tp, .int (nI mz), .int ml, .int (nI mp), .int mk, .int mv, .int mb, .int mw, .ref m_rd, .ref m_ac, .int (nI ma), .ref m_as, .ref m_wo, .ref m_ik, .ref m_ke, .ref m_tr, .int (nI mx)])), (m_st, .inl (cI, 38, .inl g_29))] := hD
          refine lv_aload_n hx hb dX8_drift_130 rfl (lv_at hl 4 rfl) ?_
          refine va_get (D := (dC, dI)) (ci := 8) (v := .ref m_st) (C := RX8) (T := TX8) (N := 24) hx hb hts i_X8_drift_X8 hown hK hP 0 rfl rfl 5 (by decide) (hts (.fieldLink RX8 19 "MillTalkModel" "st" "[I") (by decide +kernel)) (fun _ h9 => h9) rfl dX8_drift_131 ?_
          refine lv_bipush (v := 20) hx hb dX8_drift_134 (by decide) ?_
          refine lv_iload_n hx hb dX8_drift_136 rfl (lv_at hl 5 rfl) ?_
          refine lv_iadd hx hb dX8_drift_137 ?_
          refine lv_topi (fun v_30 e_30 => ?_)
          obtain rfl : v_30 = (nI (20 + i)) := (e_30).trans (nI_add 20 i)
          refine lv_iload hx hb dX8_drift_138 (lv_at hl 0 rfl) ?_
          refine lv_if_eq (tgt := 155) hx hb dX8_drift_140 (by decide) (fun _ => ?_) (fun c_ => absurd (by decide) c_)
          refine lv_iload hx hb dX8_drift_155 (lv_at hl 2 rfl) ?_
          refine va_iast hx hb hK hP hD hS 1 0 rfl rfl (vp_in_nI (by omega) (by omega)) dX8_drift_157 (fun H locs hP hD hS => ?_)
          generalize hg_32 : upd g_29 ((nI (20 + i)) : Int32).toNatClampNeg v_6 = g_32 at hP hD
          have hM_32 : okM g_32 w9 k9 h9 := okM_off (i := (20 + i)) hM_29 hg_32 (by omega) (by omega) (by omega) (by omega) (by omega)
          have hP : va_P (dC, dI) vwCl [(mo, .inr (8, [.ref m_la, .ref m_sz, .ref m_it, .int ms, .int mt, .ref m_st, .ref m_mv, .ref m_tp, .int (nI mz), .int ml, .int (nI mp), .int mk, .int mv, .int mb, .int mw, .ref m_rd, .ref m_ac, .int (nI ma), .ref m_as, .ref m_wo, .ref m_ik, .ref m_ke, .ref m_tr, .int (nI mx)])), (m_st, .inl (cI, 38, .inl g_32))] H := hP
          have hD : va_D A [(mo, .inr (8, [.ref m_la, .ref m_sz, .ref m_it, .int ms, .int mt, .ref m_st, .ref m_mv, .ref m_tp, .int (nI mz), .int ml, .int (nI mp), .int mk, .int mv, .int mb, .int mw, .ref m_rd, .ref m_ac, .int (nI ma), .ref m_as, .ref m_wo, .ref m_ik, .ref m_ke, .ref m_tr, .int (nI mx)])), (m_st, .inl (cI, 38, .inl g_32))] := hD
          refine lv_aload_n hx hb dX8_drift_158 rfl (lv_at hl 4 rfl) ?_
          refine va_get (D := (dC, dI)) (ci := 8) (v := .ref m_st) (C := RX8) (T := TX8) (N := 24) hx hb hts i_X8_drift_X8 hown hK hP 0 rfl rfl 5 (by decide) (hts (.fieldLink RX8 19 "MillTalkModel" "st" "[I") (by decide +kernel)) (fun _ h9 => h9) rfl dX8_drift_159 ?_
          refine lv_bipush (v := 32) hx hb dX8_drift_162 (by decide) ?_
          refine lv_iload_n hx hb dX8_drift_164 rfl (lv_at hl 5 rfl) ?_
          refine lv_iadd hx hb dX8_drift_165 ?_
          refine lv_topi (fun v_33 e_33 => ?_)
          obtain rfl : v_33 = (nI (32 + i)) := (e_33).trans (nI_add 32 i)
          refine lv_iload hx hb dX8_drift_166 (lv_at hl 0 rfl) ?_
          refine lv_if_eq (tgt := 183) hx hb dX8_drift_168 (by decide) (fun _ => ?_) (fun c_ => absurd (by decide) c_)
          refine lv_iload hx hb dX8_drift_183 (lv_at hl 1 rfl) ?_
          refine va_iast hx hb hK hP hD hS 1 0 rfl rfl (vp_in_nI (by omega) (by omega)) dX8_drift_185 (fun H locs hP hD hS => ?_)
          generalize hg_35 : upd g_32 ((nI (32 + i)) : Int32).toNatClampNeg (nI L_10) = g_35 at hP hD
          have hM_35 : okM g_35 w9 k9 h9 := okM_loud hM_32 hg_35 (by omega) (by omega) (by omega)
          have hP : va_P (dC, dI) vwCl [(mo, .inr (8, [.ref m_la, .ref m_sz, .ref m_it, .int ms, .int mt, .ref m_st, .ref m_mv, .ref m_tp, .int (nI mz), .int ml, .int (nI mp), .int mk, .int mv, .int mb, .int mw, .ref m_rd, .ref m_ac, .int (nI ma), .ref m_as, .ref m_wo, .ref m_ik, .ref m_ke, .ref m_tr, .int (nI mx)])), (m_st, .inl (cI, 38, .inl g_35))] H := hP
          have hD : va_D A [(mo, .inr (8, [.ref m_la, .ref m_sz, .ref m_it, .int ms, .int mt, .ref m_st, .ref m_mv, .ref m_tp, .int (nI mz), .int ml, .int (nI mp), .int mk, .int mv, .int mb, .int mw, .ref m_rd, .ref m_ac, .int (nI ma), .ref m_as, .ref m_wo, .ref m_ik, .ref m_ke, .ref m_tr, .int (nI mx)])), (m_st, .inl (cI, 38, .inl g_35))] := hD
          have hP9 := hP.sub (ws' := [(mo, .inr (8, [.ref m_la, .ref m_sz, .ref m_it, .int ms, .int mt, .ref m_st, .ref m_mv, .ref m_tp, .int (nI mz), .int ml, .int (nI mp), .int mk, .int mv, .int mb, .int mw, .ref m_rd, .ref m_ac, .int (nI ma), .ref m_as, .ref m_wo, .ref m_ik, .ref m_ke, .ref m_tr, .int (nI mx)])), (m_st, .inl (cI, 38, .inl g_35))]) [0, 1] rfl
          have hD9 := hD.sub (ws' := [(mo, .inr (8, [.ref m_la, .ref m_sz, .ref m_it, .int ms, .int mt, .ref m_st, .ref m_mv, .ref m_tp, .int (nI mz), .int ml, .int (nI mp), .int mk, .int mv, .int mb, .int mw, .ref m_rd, .ref m_ac, .int (nI ma), .ref m_as, .ref m_wo, .ref m_ik, .ref m_ke, .ref m_tr, .int (nI mx)])), (m_st, .inl (cI, 38, .inl g_35))]) [0, 1] (by decide) rfl
          exact W.vret hx hb hr (fun t ht hW => ⟨⟨(), rfl, trivial, ⟨g_35, by rw [ht]; exact hP9, hD9, hM_35⟩⟩, hS.F ht⟩) hS.2.2 dX8_drift_186
        · have c_26 : L_10 = 0 := (nI_eq (a := L_10) (b := 0) (by omega) (by omega)).mp c_26
          refine lv_iconst (v := 1) hx hb dX8_drift_104 (by decide) ?_
          refine lv_goto (tgt := 109) hx hb dX8_drift_105 (by decide) ?_
          refine lv_istore (lv' := [(6, .int 1), (5, .int (nI L_10)), (4, .int v_6), (3, .int v_2), (0, .ref mo), (1, .int (nI i)), (2, .int n)]) hx hb dX8_drift_109 hl (by decide) rfl (fun ls hl => ?_)
          refine lv_aload_n hx hb dX8_drift_111 rfl (lv_at hl 4 rfl) ?_
          refine va_get (D := (dC, dI)) (ci := 8) (v := .ref m_st) (C := RX8) (T := TX8) (N := 24) hx hb hts i_X8_drift_X8 hown hK hP 0 rfl rfl 5 (by decide) (hts (.fieldLink RX8 19 "MillTalkModel" "st" "[I") (by decide +kernel)) (fun _ h9 => h9) rfl dX8_drift_112 ?_
          refine lv_bipush (v := 26) hx hb dX8_drift_115 (by decide) ?_
          refine lv_iload_n hx hb dX8_drift_117 rfl (lv_at hl 5 rfl) ?_
          refine lv_iadd hx hb dX8_drift_118 ?_
          refine lv_topi (fun v_36 e_36 => ?_)
          obtain rfl : v_36 = (nI (26 + i)) := (e_36).trans (nI_add 26 i)
          refine lv_iload hx hb dX8_drift_119 (lv_at hl 0 rfl) ?_
          refine lv_if_eq (tgt := 128) hx hb dX8_drift_121 (by decide) (fun c_ => absurd c_ (by decide)) (fun _ => ?_)
          refine lv_iconst (v := 2) hx hb dX8_drift_124 (by decide) ?_
          refine lv_goto (tgt := 129) hx hb dX8_drift_125 (by decide) ?_
          refine va_iast hx hb hK hP hD hS 1 0 rfl rfl (vp_in_nI (by omega) (by omega)) dX8_drift_129 (fun H locs hP hD hS => ?_)
          generalize hg_38 : upd fs ((nI (26 + i)) : Int32).toNatClampNeg 2 = g_38 at hP hD
          have hM_38 : okM g_38 w9 k9 h9 := okM_off (i := (26 + i)) hM hg_38 (by omega) (by omega) (by omega) (by omega) (by omega)
          have hP : va_P (dC, dI) vwCl [(mo, .inr (8, [.ref m_la, .ref m_sz, .ref m_it, .int ms, .int mt, .ref m_st, .ref m_mv, .ref m_tp, .int (nI mz), .int ml, .int (nI mp), .int mk, .int mv, .int mb, .int mw, .ref m_rd, .ref m_ac, .int (nI ma), .ref m_as, .ref m_wo, .ref m_ik, .ref m_ke, .ref m_tr, .int (nI mx)])), (m_st, .inl (cI, 38, .inl g_38))] H := hP
          have hD : va_D A [(mo, .inr (8, [.ref m_la, .ref m_sz, .ref m_it, .int ms, .int mt, .ref m_st, .ref m_mv, .ref m_tp, .int (nI mz), .int ml, .int (nI mp), .int mk, .int mv, .int mb, .int mw, .ref m_rd, .ref m_ac, .int (nI ma), .ref m_as, .ref m_wo, .ref m_ik, .ref m_ke, .ref m_tr, .int (nI mx)])), (m_st, .inl (cI, 38, .inl g_38))] := hD
          refine lv_aload_n hx hb dX8_drift_130 rfl (lv_at hl 4 rfl) ?_
          refine va_get (D := (dC, dI)) (ci := 8) (v := .ref m_st) (C := RX8) (T := TX8) (N := 24) hx hb hts i_X8_drift_X8 hown hK hP 0 rfl rfl 5 (by decide) (hts (.fieldLink RX8 19 "MillTalkModel" "st" "[I") (by decide +kernel)) (fun _ h9 => h9) rfl dX8_drift_131 ?_
          refine lv_bipush (v := 20) hx hb dX8_drift_134 (by decide) ?_
          refine lv_iload_n hx hb dX8_drift_136 rfl (lv_at hl 5 rfl) ?_
          refine lv_iadd hx hb dX8_drift_137 ?_
          refine lv_topi (fun v_39 e_39 => ?_)
          obtain rfl : v_39 = (nI (20 + i)) := (e_39).trans (nI_add 20 i)
          refine lv_iload hx hb dX8_drift_138 (lv_at hl 0 rfl) ?_
          refine lv_if_eq (tgt := 155) hx hb dX8_drift_140 (by decide) (fun c_ => absurd c_ (by decide)) (fun _ => ?_)
          refine lv_aload_n hx hb dX8_drift_143 rfl (lv_at hl 4 rfl) ?_
          refine va_get (D := (dC, dI)) (ci := 8) (v := .ref m_st) (C := RX8) (T := TX8) (N := 24) hx hb hts i_X8_drift_X8 hown hK hP 0 rfl rfl 5 (by decide) (hts (.fieldLink RX8 19 "MillTalkModel" "st" "[I") (by decide +kernel)) (fun _ h9 => h9) rfl dX8_drift_144 ?_
          refine lv_bipush (v := 20) hx hb dX8_drift_147 (by decide) ?_
          refine lv_iload_n hx hb dX8_drift_149 rfl (lv_at hl 5 rfl) ?_
          refine lv_iadd hx hb dX8_drift_150 ?_
          refine lv_topi (fun v_41 e_41 => ?_)
          obtain rfl : v_41 = (nI (20 + i)) := (e_41).trans (nI_add 20 i)
          refine va_iald hx hb hK hP 1 0 rfl rfl (vp_in_nI (by omega) (by omega)) dX8_drift_151 ?_
          refine lv_topi (fun v_42 e_42 => ?_)
          refine lv_goto (tgt := 157) hx hb dX8_drift_152 (by decide) ?_
          refine va_iast hx hb hK hP hD hS 1 0 rfl rfl (vp_in_nI (by omega) (by omega)) dX8_drift_157 (fun H locs hP hD hS => ?_)
          generalize hg_43 : upd g_38 ((nI (20 + i)) : Int32).toNatClampNeg v_42 = g_43 at hP hD
          have hM_43 : okM g_43 w9 k9 h9 := okM_off (i := (20 + i)) hM_38 hg_43 (by omega) (by omega) (by omega) (by omega) (by omega)
          have hP : va_P (dC, dI) vwCl [(mo, .inr (8, [.ref m_la, .ref m_sz, .ref m_it, .int ms, .int mt, .ref m_st, .ref m_mv, .ref m_tp, .int (nI mz), .int ml, .int (nI mp), .int mk, .int mv, .int mb, .int mw, .ref m_rd, .ref m_ac, .int (nI ma), .ref m_as, .ref m_wo, .ref m_ik, .ref m_ke, .ref m_tr, .int (nI mx)])), (m_st, .inl (cI, 38, .inl g_43))] H := hP
          have hD : va_D A [(mo, .inr (8, [.ref m_la, .ref m_sz, .ref m_it, .int ms, .int mt, .ref m_st, .ref m_mv, .ref m_tp, .int (nI mz), .int ml, .int (nI mp), .int mk, .int mv, .int mb, .int mw, .ref m_rd, .ref m_ac, .int (nI ma), .ref m_as, .ref m_wo, .ref m_ik, .ref m_ke, .ref m_tr, .int (nI mx)])), (m_st, .inl (cI, 38, .inl g_43))] := hD
          refine lv_aload_n hx hb dX8_drift_158 rfl (lv_at hl 4 rfl) ?_
          refine va_get (D := (dC, dI)) (ci := 8) (v := .ref m_st) (C := RX8) (T := TX8) (N := 24) hx hb hts i_X8_drift_X8 hown hK hP 0 rfl rfl 5 (by decide) (hts (.fieldLink RX8 19 "MillTalkModel" "st" "[I") (by decide +kernel)) (fun _ h9 => h9) rfl dX8_drift_159 ?_
          refine lv_bipush (v := 32) hx hb dX8_drift_162 (by decide) ?_
          refine lv_iload_n hx hb dX8_drift_164 rfl (lv_at hl 5 rfl) ?_
          refine lv_iadd hx hb dX8_drift_165 ?_
          refine lv_topi (fun v_44 e_44 => ?_)
          obtain rfl : v_44 = (nI (32 + i)) := (e_44).trans (nI_add 32 i)
          refine lv_iload hx hb dX8_drift_166 (lv_at hl 0 rfl) ?_
          refine lv_if_eq (tgt := 183) hx hb dX8_drift_168 (by decide) (fun c_ => absurd c_ (by decide)) (fun _ => ?_)
          refine lv_aload_n hx hb dX8_drift_171 rfl (lv_at hl 4 rfl) ?_
          refine va_get (D := (dC, dI)) (ci := 8) (v := .ref m_st) (C := RX8) (T := TX8) (N := 24) hx hb hts i_X8_drift_X8 hown hK hP 0 rfl rfl 5 (by decide) (hts (.fieldLink RX8 19 "MillTalkModel" "st" "[I") (by decide +kernel)) (fun _ h9 => h9) rfl dX8_drift_172 ?_
          refine lv_bipush (v := 32) hx hb dX8_drift_175 (by decide) ?_
          refine lv_iload_n hx hb dX8_drift_177 rfl (lv_at hl 5 rfl) ?_
          refine lv_iadd hx hb dX8_drift_178 ?_
          refine lv_topi (fun v_46 e_46 => ?_)
          obtain rfl : v_46 = (nI (32 + i)) := (e_46).trans (nI_add 32 i)
          refine va_iald hx hb hK hP 1 0 rfl rfl (vp_in_nI (by omega) (by omega)) dX8_drift_179 ?_
          obtain ⟨L_47, hL1_47, hL2_47, hLe_47⟩ := hM_43.2.2.2.2.2.2.2 i (by omega)
          refine lv_topi (fun v_47 e_47 => ?_)
          obtain rfl : v_47 = nI L_47 := e_47.trans (by rw [nI_clamp (by omega)]; exact hLe_47)
          refine lv_goto (tgt := 185) hx hb dX8_drift_180 (by decide) ?_
          refine va_iast hx hb hK hP hD hS 1 0 rfl rfl (vp_in_nI (by omega) (by omega)) dX8_drift_185 (fun H locs hP hD hS => ?_)
          generalize hg_48 : upd g_43 ((nI (32 + i)) : Int32).toNatClampNeg (nI L_47) = g_48 at hP hD
          have hM_48 : okM g_48 w9 k9 h9 := okM_loud hM_43 hg_48 (by omega) (by omega) (by omega)
          have hP : va_P (dC, dI) vwCl [(mo, .inr (8, [.ref m_la, .ref m_sz, .ref m_it, .int ms, .int mt, .ref m_st, .ref m_mv, .ref m_tp, .int (nI mz), .int ml, .int (nI mp), .int mk, .int mv, .int mb, .int mw, .ref m_rd, .ref m_ac, .int (nI ma), .ref m_as, .ref m_wo, .ref m_ik, .ref m_ke, .ref m_tr, .int (nI mx)])), (m_st, .inl (cI, 38, .inl g_48))] H := hP
          have hD : va_D A [(mo, .inr (8, [.ref m_la, .ref m_sz, .ref m_it, .int ms, .int mt, .ref m_st, .ref m_mv, .ref m_tp, .int (nI mz), .int ml, .int (nI mp), .int mk, .int mv, .int mb, .int mw, .ref m_rd, .ref m_ac, .int (nI ma), .ref m_as, .ref m_wo, .ref m_ik, .ref m_ke, .ref m_tr, .int (nI mx)])), (m_st, .inl (cI, 38, .inl g_48))] := hD
          have hP9 := hP.sub (ws' := [(mo, .inr (8, [.ref m_la, .ref m_sz, .ref m_it, .int ms, .int mt, .ref m_st, .ref m_mv, .ref m_tp, .int (nI mz), .int ml, .int (nI mp), .int mk, .int mv, .int mb, .int mw, .ref m_rd, .ref m_ac, .int (nI ma), .ref m_as, .ref m_wo, .ref m_ik, .ref m_ke, .ref m_tr, .int (nI mx)])), (m_st, .inl (cI, 38, .inl g_48))]) [0, 1] rfl
          have hD9 := hD.sub (ws' := [(mo, .inr (8, [.ref m_la, .ref m_sz, .ref m_it, .int ms, .int mt, .ref m_st, .ref m_mv, .ref m_tp, .int (nI mz), .int ml, .int (nI mp), .int mk, .int mv, .int mb, .int mw, .ref m_rd, .ref m_ac, .int (nI ma), .ref m_as, .ref m_wo, .ref m_ik, .ref m_ke, .ref m_tr, .int (nI mx)])), (m_st, .inl (cI, 38, .inl g_48))]) [0, 1] (by decide) rfl
          exact W.vret hx hb hr (fun t ht hW => ⟨⟨(), rfl, trivial, ⟨g_48, by rw [ht]; exact hP9, hD9, hM_48⟩⟩, hS.F ht⟩) hS.2.2 dX8_drift_186
    · skip
      refine lv_aload_n hx hb dX8_drift_51 rfl (lv_at hl 2 rfl) ?_
      refine va_get (D := (dC, dI)) (ci := 8) (v := .ref m_st) (C := RX8) (T := TX8) (N := 24) hx hb hts i_X8_drift_X8 hown hK hP 0 rfl rfl 5 (by decide) (hts (.fieldLink RX8 19 "MillTalkModel" "st" "[I") (by decide +kernel)) (fun _ h9 => h9) rfl dX8_drift_52 ?_
      refine lv_bipush (v := 32) hx hb dX8_drift_55 (by decide) ?_
      refine lv_iload_n hx hb dX8_drift_57 rfl (lv_at hl 3 rfl) ?_
      refine lv_iadd hx hb dX8_drift_58 ?_
      refine lv_topi (fun v_49 e_49 => ?_)
      obtain rfl : v_49 = (nI (32 + i)) := (e_49).trans (nI_add 32 i)
      refine va_iald hx hb hK hP 1 0 rfl rfl (vp_in_nI (by omega) (by omega)) dX8_drift_59 ?_
      obtain ⟨L_50, hL1_50, hL2_50, hLe_50⟩ := hM.2.2.2.2.2.2.2 i (by omega)
      refine lv_topi (fun v_50 e_50 => ?_)
      obtain rfl : v_50 = nI L_50 := e_50.trans (by rw [nI_clamp (by omega)]; exact hLe_50)
      refine lv_bipush (v := 20) hx hb dX8_drift_60 (by decide) ?_
      refine lv_icmp_ge (tgt := 79) hx hb dX8_drift_62 (by decide) (fun c_51 => ?_) (fun c_51 => ?_)
      · have c_51 : 20 ≤ L_50 := (nI_leI (a := 20) (b := L_50) (by omega) (by omega)).mp c_51
        refine lv_aload_n hx hb dX8_drift_79 rfl (lv_at hl 2 rfl) ?_
        refine va_get (D := (dC, dI)) (ci := 8) (v := .ref m_st) (C := RX8) (T := TX8) (N := 24) hx hb hts i_X8_drift_X8 hown hK hP 0 rfl rfl 5 (by decide) (hts (.fieldLink RX8 19 "MillTalkModel" "st" "[I") (by decide +kernel)) (fun _ h9 => h9) rfl dX8_drift_80 ?_
        refine lv_bipush (v := 32) hx hb dX8_drift_83 (by decide) ?_
        refine lv_iload_n hx hb dX8_drift_85 rfl (lv_at hl 3 rfl) ?_
        refine lv_iadd hx hb dX8_drift_86 ?_
        refine lv_topi (fun v_52 e_52 => ?_)
        obtain rfl : v_52 = (nI (32 + i)) := (e_52).trans (nI_add 32 i)
        refine va_iald hx hb hK hP 1 0 rfl rfl (vp_in_nI (by omega) (by omega)) dX8_drift_87 ?_
        refine lv_topi (fun v_53 e_53 => ?_)
        obtain rfl : v_53 = nI L_50 := e_53.trans (by rw [nI_clamp (by omega)]; exact hLe_50)
        refine lv_istore (lv' := [(5, .int (nI L_50)), (4, .int v_6), (3, .int v_2), (0, .ref mo), (1, .int (nI i)), (2, .int n)]) hx hb dX8_drift_88 hl (by decide) rfl (fun ls hl => ?_)
        refine lv_aload_n hx hb dX8_drift_90 rfl (lv_at hl 3 rfl) ?_
        refine lv_iload hx hb dX8_drift_91 (lv_at hl 1 rfl) ?_
        have hPc_54 := hP.sub (ws' := [(mo, .inr (8, [.ref m_la, .ref m_sz, .ref m_it, .int ms, .int mt, .ref m_st, .ref m_mv, .ref m_tp, .int (nI mz), .int ml, .int (nI mp), .int mk, .int mv, .int mb, .int mw, .ref m_rd, .ref m_ac, .int (nI ma), .ref m_as, .ref m_wo, .ref m_ik, .ref m_ke, .ref m_tr, .int (nI mx)])), (m_st, .inl (cI, 38, .inl fs))]) [0, 1] rfl
        refine vp_callSi (W.runV (As := [.int v_6]) (rest := []) ⟨hx, hb, hml, hown, hts⟩ (r_X8_isCell l dC dI cI cZ cL cJ mo m_la m_sz m_it m_st m_mv m_tp m_rd m_ac m_as m_wo m_ik m_ke m_tr ms mt ml mk mv mb mw mz mp ma mx fs w9 k9 h9 v_6 (hM)) (cwV 1 hts gX8_drift_X8_isCell rfl rfl rfl (by decide +kernel) ⟨Nat.le_of_ble_eq_true rfl, Nat.le_of_ble_eq_true rfl⟩) ⟨fun a U g mk q => by obtain ⟨q0, qP, qK⟩ := q; exact ⟨q0, qP, va_K.moved (u := U) (U := U.calling g mk a) (Vm.Alike.refl U.vm) qK⟩, va_recv hK hP (ci := 8) (q0 := 0) rfl rfl, fun U hU hW => ⟨rfl, by rw [hU]; exact hPc_54, va_K.moved hW.alike hK⟩⟩ rfl rfl hl.1 rfl (lv_room (Nat.le_of_ble_eq_true rfl)) dX8_drift_93 ⟨Nat.le_of_ble_eq_true rfl, Nat.le_of_ble_eq_true rfl⟩) (fun r_54 h_54 => ?_)
        refine lv_if_eq (tgt := 104) hx hb dX8_drift_96 (by decide) (fun c_55 => ?_) (fun c_55 => ?_)
        · skip
          refine lv_iconst (v := 1) hx hb dX8_drift_104 (by decide) ?_
          refine lv_goto (tgt := 109) hx hb dX8_drift_105 (by decide) ?_
          refine lv_istore (lv' := [(6, .int 1), (5, .int (nI L_50)), (4, .int v_6), (3, .int v_2), (0, .ref mo), (1, .int (nI i)), (2, .int n)]) hx hb dX8_drift_109 hl (by decide) rfl (fun ls hl => ?_)
          refine lv_aload_n hx hb dX8_drift_111 rfl (lv_at hl 4 rfl) ?_
          refine va_get (D := (dC, dI)) (ci := 8) (v := .ref m_st) (C := RX8) (T := TX8) (N := 24) hx hb hts i_X8_drift_X8 hown hK hP 0 rfl rfl 5 (by decide) (hts (.fieldLink RX8 19 "MillTalkModel" "st" "[I") (by decide +kernel)) (fun _ h9 => h9) rfl dX8_drift_112 ?_
          refine lv_bipush (v := 26) hx hb dX8_drift_115 (by decide) ?_
          refine lv_iload_n hx hb dX8_drift_117 rfl (lv_at hl 5 rfl) ?_
          refine lv_iadd hx hb dX8_drift_118 ?_
          refine lv_topi (fun v_56 e_56 => ?_)
          obtain rfl : v_56 = (nI (26 + i)) := (e_56).trans (nI_add 26 i)
          refine lv_iload hx hb dX8_drift_119 (lv_at hl 0 rfl) ?_
          refine lv_if_eq (tgt := 128) hx hb dX8_drift_121 (by decide) (fun c_ => absurd c_ (by decide)) (fun _ => ?_)
          refine lv_iconst (v := 2) hx hb dX8_drift_124 (by decide) ?_
          refine lv_goto (tgt := 129) hx hb dX8_drift_125 (by decide) ?_
          refine va_iast hx hb hK hP hD hS 1 0 rfl rfl (vp_in_nI (by omega) (by omega)) dX8_drift_129 (fun H locs hP hD hS => ?_)
          generalize hg_58 : upd fs ((nI (26 + i)) : Int32).toNatClampNeg 2 = g_58 at hP hD
          have hM_58 : okM g_58 w9 k9 h9 := okM_off (i := (26 + i)) hM hg_58 (by omega) (by omega) (by omega) (by omega) (by omega)
          have hP : va_P (dC, dI) vwCl [(mo, .inr (8, [.ref m_la, .ref m_sz, .ref m_it, .int ms, .int mt, .ref m_st, .ref m_mv, .ref m_tp, .int (nI mz), .int ml, .int (nI mp), .int mk, .int mv, .int mb, .int mw, .ref m_rd, .ref m_ac, .int (nI ma), .ref m_as, .ref m_wo, .ref m_ik, .ref m_ke, .ref m_tr, .int (nI mx)])), (m_st, .inl (cI, 38, .inl g_58))] H := hP
          have hD : va_D A [(mo, .inr (8, [.ref m_la, .ref m_sz, .ref m_it, .int ms, .int mt, .ref m_st, .ref m_mv, .ref m_tp, .int (nI mz), .int ml, .int (nI mp), .int mk, .int mv, .int mb, .int mw, .ref m_rd, .ref m_ac, .int (nI ma), .ref m_as, .ref m_wo, .ref m_ik, .ref m_ke, .ref m_tr, .int (nI mx)])), (m_st, .inl (cI, 38, .inl g_58))] := hD
          refine lv_aload_n hx hb dX8_drift_130 rfl (lv_at hl 4 rfl) ?_
          refine va_get (D := (dC, dI)) (ci := 8) (v := .ref m_st) (C := RX8) (T := TX8) (N := 24) hx hb hts i_X8_drift_X8 hown hK hP 0 rfl rfl 5 (by decide) (hts (.fieldLink RX8 19 "MillTalkModel" "st" "[I") (by decide +kernel)) (fun _ h9 => h9) rfl dX8_drift_131 ?_
          refine lv_bipush (v := 20) hx hb dX8_drift_134 (by decide) ?_
          refine lv_iload_n hx hb dX8_drift_136 rfl (lv_at hl 5 rfl) ?_
          refine lv_iadd hx hb dX8_drift_137 ?_
          refine lv_topi (fun v_59 e_59 => ?_)
          obtain rfl : v_59 = (nI (20 + i)) := (e_59).trans (nI_add 20 i)
          refine lv_iload hx hb dX8_drift_138 (lv_at hl 0 rfl) ?_
          refine lv_if_eq (tgt := 155) hx hb dX8_drift_140 (by decide) (fun c_ => absurd c_ (by decide)) (fun _ => ?_)
          refine lv_aload_n hx hb dX8_drift_143 rfl (lv_at hl 4 rfl) ?_
          refine va_get (D := (dC, dI)) (ci := 8) (v := .ref m_st) (C := RX8) (T := TX8) (N := 24) hx hb hts i_X8_drift_X8 hown hK hP 0 rfl rfl 5 (by decide) (hts (.fieldLink RX8 19 "MillTalkModel" "st" "[I") (by decide +kernel)) (fun _ h9 => h9) rfl dX8_drift_144 ?_
          refine lv_bipush (v := 20) hx hb dX8_drift_147 (by decide) ?_
          refine lv_iload_n hx hb dX8_drift_149 rfl (lv_at hl 5 rfl) ?_
          refine lv_iadd hx hb dX8_drift_150 ?_
          refine lv_topi (fun v_61 e_61 => ?_)
          obtain rfl : v_61 = (nI (20 + i)) := (e_61).trans (nI_add 20 i)
          refine va_iald hx hb hK hP 1 0 rfl rfl (vp_in_nI (by omega) (by omega)) dX8_drift_151 ?_
          refine lv_topi (fun v_62 e_62 => ?_)
          refine lv_goto (tgt := 157) hx hb dX8_drift_152 (by decide) ?_
          refine va_iast hx hb hK hP hD hS 1 0 rfl rfl (vp_in_nI (by omega) (by omega)) dX8_drift_157 (fun H locs hP hD hS => ?_)
          generalize hg_63 : upd g_58 ((nI (20 + i)) : Int32).toNatClampNeg v_62 = g_63 at hP hD
          have hM_63 : okM g_63 w9 k9 h9 := okM_off (i := (20 + i)) hM_58 hg_63 (by omega) (by omega) (by omega) (by omega) (by omega)
          have hP : va_P (dC, dI) vwCl [(mo, .inr (8, [.ref m_la, .ref m_sz, .ref m_it, .int ms, .int mt, .ref m_st, .ref m_mv, .ref m_tp, .int (nI mz), .int ml, .int (nI mp), .int mk, .int mv, .int mb, .int mw, .ref m_rd, .ref m_ac, .int (nI ma), .ref m_as, .ref m_wo, .ref m_ik, .ref m_ke, .ref m_tr, .int (nI mx)])), (m_st, .inl (cI, 38, .inl g_63))] H := hP
          have hD : va_D A [(mo, .inr (8, [.ref m_la, .ref m_sz, .ref m_it, .int ms, .int mt, .ref m_st, .ref m_mv, .ref m_tp, .int (nI mz), .int ml, .int (nI mp), .int mk, .int mv, .int mb, .int mw, .ref m_rd, .ref m_ac, .int (nI ma), .ref m_as, .ref m_wo, .ref m_ik, .ref m_ke, .ref m_tr, .int (nI mx)])), (m_st, .inl (cI, 38, .inl g_63))] := hD
          refine lv_aload_n hx hb dX8_drift_158 rfl (lv_at hl 4 rfl) ?_
          refine va_get (D := (dC, dI)) (ci := 8) (v := .ref m_st) (C := RX8) (T := TX8) (N := 24) hx hb hts i_X8_drift_X8 hown hK hP 0 rfl rfl 5 (by decide) (hts (.fieldLink RX8 19 "MillTalkModel" "st" "[I") (by decide +kernel)) (fun _ h9 => h9) rfl dX8_drift_159 ?_
          refine lv_bipush (v := 32) hx hb dX8_drift_162 (by decide) ?_
          refine lv_iload_n hx hb dX8_drift_164 rfl (lv_at hl 5 rfl) ?_
          refine lv_iadd hx hb dX8_drift_165 ?_
          refine lv_topi (fun v_64 e_64 => ?_)
          obtain rfl : v_64 = (nI (32 + i)) := (e_64).trans (nI_add 32 i)
          refine lv_iload hx hb dX8_drift_166 (lv_at hl 0 rfl) ?_
          refine lv_if_eq (tgt := 183) hx hb dX8_drift_168 (by decide) (fun c_ => absurd c_ (by decide)) (fun _ => ?_)
          refine lv_aload_n hx hb dX8_drift_171 rfl (lv_at hl 4 rfl) ?_
          refine va_get (D := (dC, dI)) (ci := 8) (v := .ref m_st) (C := RX8) (T := TX8) (N := 24) hx hb hts i_X8_drift_X8 hown hK hP 0 rfl rfl 5 (by decide) (hts (.fieldLink RX8 19 "MillTalkModel" "st" "[I") (by decide +kernel)) (fun _ h9 => h9) rfl dX8_drift_172 ?_
          refine lv_bipush (v := 32) hx hb dX8_drift_175 (by decide) ?_
          refine lv_iload_n hx hb dX8_drift_177 rfl (lv_at hl 5 rfl) ?_
          refine lv_iadd hx hb dX8_drift_178 ?_
          refine lv_topi (fun v_66 e_66 => ?_)
          obtain rfl : v_66 = (nI (32 + i)) := (e_66).trans (nI_add 32 i)
          refine va_iald hx hb hK hP 1 0 rfl rfl (vp_in_nI (by omega) (by omega)) dX8_drift_179 ?_
          obtain ⟨L_67, hL1_67, hL2_67, hLe_67⟩ := hM_63.2.2.2.2.2.2.2 i (by omega)
          refine lv_topi (fun v_67 e_67 => ?_)
          obtain rfl : v_67 = nI L_67 := e_67.trans (by rw [nI_clamp (by omega)]; exact hLe_67)
          refine lv_goto (tgt := 185) hx hb dX8_drift_180 (by decide) ?_
          refine va_iast hx hb hK hP hD hS 1 0 rfl rfl (vp_in_nI (by omega) (by omega)) dX8_drift_185 (fun H locs hP hD hS => ?_)
          generalize hg_68 : upd g_63 ((nI (32 + i)) : Int32).toNatClampNeg (nI L_67) = g_68 at hP hD
          have hM_68 : okM g_68 w9 k9 h9 := okM_loud hM_63 hg_68 (by omega) (by omega) (by omega)
          have hP : va_P (dC, dI) vwCl [(mo, .inr (8, [.ref m_la, .ref m_sz, .ref m_it, .int ms, .int mt, .ref m_st, .ref m_mv, .ref m_tp, .int (nI mz), .int ml, .int (nI mp), .int mk, .int mv, .int mb, .int mw, .ref m_rd, .ref m_ac, .int (nI ma), .ref m_as, .ref m_wo, .ref m_ik, .ref m_ke, .ref m_tr, .int (nI mx)])), (m_st, .inl (cI, 38, .inl g_68))] H := hP
          have hD : va_D A [(mo, .inr (8, [.ref m_la, .ref m_sz, .ref m_it, .int ms, .int mt, .ref m_st, .ref m_mv, .ref m_tp, .int (nI mz), .int ml, .int (nI mp), .int mk, .int mv, .int mb, .int mw, .ref m_rd, .ref m_ac, .int (nI ma), .ref m_as, .ref m_wo, .ref m_ik, .ref m_ke, .ref m_tr, .int (nI mx)])), (m_st, .inl (cI, 38, .inl g_68))] := hD
          have hP9 := hP.sub (ws' := [(mo, .inr (8, [.ref m_la, .ref m_sz, .ref m_it, .int ms, .int mt, .ref m_st, .ref m_mv, .ref m_tp, .int (nI mz), .int ml, .int (nI mp), .int mk, .int mv, .int mb, .int mw, .ref m_rd, .ref m_ac, .int (nI ma), .ref m_as, .ref m_wo, .ref m_ik, .ref m_ke, .ref m_tr, .int (nI mx)])), (m_st, .inl (cI, 38, .inl g_68))]) [0, 1] rfl
          have hD9 := hD.sub (ws' := [(mo, .inr (8, [.ref m_la, .ref m_sz, .ref m_it, .int ms, .int mt, .ref m_st, .ref m_mv, .ref m_tp, .int (nI mz), .int ml, .int (nI mp), .int mk, .int mv, .int mb, .int mw, .ref m_rd, .ref m_ac, .int (nI ma), .ref m_as, .ref m_wo, .ref m_ik, .ref m_ke, .ref m_tr, .int (nI mx)])), (m_st, .inl (cI, 38, .inl g_68))]) [0, 1] (by decide) rfl
          exact W.vret hx hb hr (fun t ht hW => ⟨⟨(), rfl, trivial, ⟨g_68, by rw [ht]; exact hP9, hD9, hM_68⟩⟩, hS.F ht⟩) hS.2.2 dX8_drift_186
        · skip
          refine lv_iload hx hb dX8_drift_99 (lv_at hl 0 rfl) ?_
          refine lv_if_ne (tgt := 108) hx hb dX8_drift_101 (by decide) (fun c_69 => ?_) (fun c_69 => ?_)
          · have c_69 : ¬ (L_50 = 0) := fun q_ => c_69 ((nI_eq (a := L_50) (b := 0) (by omega) (by omega)).mpr q_)
            refine lv_iconst (v := 0) hx hb dX8_drift_108 (by decide) ?_
            refine lv_istore (lv' := [(6, .int 0), (5, .int (nI L_50)), (4, .int v_6), (3, .int v_2), (0, .ref mo), (1, .int (nI i)), (2, .int n)]) hx hb dX8_drift_109 hl (by decide) rfl (fun ls hl => ?_)
            refine lv_aload_n hx hb dX8_drift_111 rfl (lv_at hl 4 rfl) ?_
            refine va_get (D := (dC, dI)) (ci := 8) (v := .ref m_st) (C := RX8) (T := TX8) (N := 24) hx hb hts i_X8_drift_X8 hown hK hP 0 rfl rfl 5 (by decide) (hts (.fieldLink RX8 19 "MillTalkModel" "st" "[I") (by decide +kernel)) (fun _ h9 => h9) rfl dX8_drift_112 ?_
            refine lv_bipush (v := 26) hx hb dX8_drift_115 (by decide) ?_
            refine lv_iload_n hx hb dX8_drift_117 rfl (lv_at hl 5 rfl) ?_
            refine lv_iadd hx hb dX8_drift_118 ?_
            refine lv_topi (fun v_70 e_70 => ?_)
            obtain rfl : v_70 = (nI (26 + i)) := (e_70).trans (nI_add 26 i)
            refine lv_iload hx hb dX8_drift_119 (lv_at hl 0 rfl) ?_
            refine lv_if_eq (tgt := 128) hx hb dX8_drift_121 (by decide) (fun _ => ?_) (fun c_ => absurd (by decide) c_)
            refine lv_iconst (v := 0) hx hb dX8_drift_128 (by decide) ?_
            refine va_iast hx hb hK hP hD hS 1 0 rfl rfl (vp_in_nI (by omega) (by omega)) dX8_drift_129 (fun H locs hP hD hS => ?_)
            generalize hg_72 : upd fs ((nI (26 + i)) : Int32).toNatClampNeg 0 = g_72 at hP hD
            have hM_72 : okM g_72 w9 k9 h9 := okM_off (i := (26 + i)) hM hg_72 (by omega) (by omega) (by omega) (by omega) (by omega)
            have hP : va_P (dC, dI) vwCl [(mo, .inr (8, [.ref m_la, .ref m_sz, .ref m_it, .int ms, .int mt, .ref m_st, .ref m_mv, .ref m_tp, .int (nI mz), .int ml, .int (nI mp), .int mk, .int mv, .int mb, .int mw, .ref m_rd, .ref m_ac, .int (nI ma), .ref m_as, .ref m_wo, .ref m_ik, .ref m_ke, .ref m_tr, .int (nI mx)])), (m_st, .inl (cI, 38, .inl g_72))] H := hP
            have hD : va_D A [(mo, .inr (8, [.ref m_la, .ref m_sz, .ref m_it, .int ms, .int mt, .ref m_st, .ref m_mv, .ref m_tp, .int (nI mz), .int ml, .int (nI mp), .int mk, .int mv, .int mb, .int mw, .ref m_rd, .ref m_ac, .int (nI ma), .ref m_as, .ref m_wo, .ref m_ik, .ref m_ke, .ref m_tr, .int (nI mx)])), (m_st, .inl (cI, 38, .inl g_72))] := hD
            refine lv_aload_n hx hb dX8_drift_130 rfl (lv_at hl 4 rfl) ?_
            refine va_get (D := (dC, dI)) (ci := 8) (v := .ref m_st) (C := RX8) (T := TX8) (N := 24) hx hb hts i_X8_drift_X8 hown hK hP 0 rfl rfl 5 (by decide) (hts (.fieldLink RX8 19 "MillTalkModel" "st" "[I") (by decide +kernel)) (fun _ h9 => h9) rfl dX8_drift_131 ?_
            refine lv_bipush (v := 20) hx hb dX8_drift_134 (by decide) ?_
            refine lv_iload_n hx hb dX8_drift_136 rfl (lv_at hl 5 rfl) ?_
            refine lv_iadd hx hb dX8_drift_137 ?_
            refine lv_topi (fun v_73 e_73 => ?_)
            obtain rfl : v_73 = (nI (20 + i)) := (e_73).trans (nI_add 20 i)
            refine lv_iload hx hb dX8_drift_138 (lv_at hl 0 rfl) ?_
            refine lv_if_eq (tgt := 155) hx hb dX8_drift_140 (by decide) (fun _ => ?_) (fun c_ => absurd (by decide) c_)
            refine lv_iload hx hb dX8_drift_155 (lv_at hl 2 rfl) ?_
            refine va_iast hx hb hK hP hD hS 1 0 rfl rfl (vp_in_nI (by omega) (by omega)) dX8_drift_157 (fun H locs hP hD hS => ?_)
            generalize hg_75 : upd g_72 ((nI (20 + i)) : Int32).toNatClampNeg v_6 = g_75 at hP hD
            have hM_75 : okM g_75 w9 k9 h9 := okM_off (i := (20 + i)) hM_72 hg_75 (by omega) (by omega) (by omega) (by omega) (by omega)
            have hP : va_P (dC, dI) vwCl [(mo, .inr (8, [.ref m_la, .ref m_sz, .ref m_it, .int ms, .int mt, .ref m_st, .ref m_mv, .ref m_tp, .int (nI mz), .int ml, .int (nI mp), .int mk, .int mv, .int mb, .int mw, .ref m_rd, .ref m_ac, .int (nI ma), .ref m_as, .ref m_wo, .ref m_ik, .ref m_ke, .ref m_tr, .int (nI mx)])), (m_st, .inl (cI, 38, .inl g_75))] H := hP
            have hD : va_D A [(mo, .inr (8, [.ref m_la, .ref m_sz, .ref m_it, .int ms, .int mt, .ref m_st, .ref m_mv, .ref m_tp, .int (nI mz), .int ml, .int (nI mp), .int mk, .int mv, .int mb, .int mw, .ref m_rd, .ref m_ac, .int (nI ma), .ref m_as, .ref m_wo, .ref m_ik, .ref m_ke, .ref m_tr, .int (nI mx)])), (m_st, .inl (cI, 38, .inl g_75))] := hD
            refine lv_aload_n hx hb dX8_drift_158 rfl (lv_at hl 4 rfl) ?_
            refine va_get (D := (dC, dI)) (ci := 8) (v := .ref m_st) (C := RX8) (T := TX8) (N := 24) hx hb hts i_X8_drift_X8 hown hK hP 0 rfl rfl 5 (by decide) (hts (.fieldLink RX8 19 "MillTalkModel" "st" "[I") (by decide +kernel)) (fun _ h9 => h9) rfl dX8_drift_159 ?_
            refine lv_bipush (v := 32) hx hb dX8_drift_162 (by decide) ?_
            refine lv_iload_n hx hb dX8_drift_164 rfl (lv_at hl 5 rfl) ?_
            refine lv_iadd hx hb dX8_drift_165 ?_
            refine lv_topi (fun v_76 e_76 => ?_)
            obtain rfl : v_76 = (nI (32 + i)) := (e_76).trans (nI_add 32 i)
            refine lv_iload hx hb dX8_drift_166 (lv_at hl 0 rfl) ?_
            refine lv_if_eq (tgt := 183) hx hb dX8_drift_168 (by decide) (fun _ => ?_) (fun c_ => absurd (by decide) c_)
            refine lv_iload hx hb dX8_drift_183 (lv_at hl 1 rfl) ?_
            refine va_iast hx hb hK hP hD hS 1 0 rfl rfl (vp_in_nI (by omega) (by omega)) dX8_drift_185 (fun H locs hP hD hS => ?_)
            generalize hg_78 : upd g_75 ((nI (32 + i)) : Int32).toNatClampNeg (nI L_50) = g_78 at hP hD
            have hM_78 : okM g_78 w9 k9 h9 := okM_loud hM_75 hg_78 (by omega) (by omega) (by omega)
            have hP : va_P (dC, dI) vwCl [(mo, .inr (8, [.ref m_la, .ref m_sz, .ref m_it, .int ms, .int mt, .ref m_st, .ref m_mv, .ref m_tp, .int (nI mz), .int ml, .int (nI mp), .int mk, .int mv, .int mb, .int mw, .ref m_rd, .ref m_ac, .int (nI ma), .ref m_as, .ref m_wo, .ref m_ik, .ref m_ke, .ref m_tr, .int (nI mx)])), (m_st, .inl (cI, 38, .inl g_78))] H := hP
            have hD : va_D A [(mo, .inr (8, [.ref m_la, .ref m_sz, .ref m_it, .int ms, .int mt, .ref m_st, .ref m_mv, .ref m_tp, .int (nI mz), .int ml, .int (nI mp), .int mk, .int mv, .int mb, .int mw, .ref m_rd, .ref m_ac, .int (nI ma), .ref m_as, .ref m_wo, .ref m_ik, .ref m_ke, .ref m_tr, .int (nI mx)])), (m_st, .inl (cI, 38, .inl g_78))] := hD
            have hP9 := hP.sub (ws' := [(mo, .inr (8, [.ref m_la, .ref m_sz, .ref m_it, .int ms, .int mt, .ref m_st, .ref m_mv, .ref m_tp, .int (nI mz), .int ml, .int (nI mp), .int mk, .int mv, .int mb, .int mw, .ref m_rd, .ref m_ac, .int (nI ma), .ref m_as, .ref m_wo, .ref m_ik, .ref m_ke, .ref m_tr, .int (nI mx)])), (m_st, .inl (cI, 38, .inl g_78))]) [0, 1] rfl
            have hD9 := hD.sub (ws' := [(mo, .inr (8, [.ref m_la, .ref m_sz, .ref m_it, .int ms, .int mt, .ref m_st, .ref m_mv, .ref m_tp, .int (nI mz), .int ml, .int (nI mp), .int mk, .int mv, .int mb, .int mw, .ref m_rd, .ref m_ac, .int (nI ma), .ref m_as, .ref m_wo, .ref m_ik, .ref m_ke, .ref m_tr, .int (nI mx)])), (m_st, .inl (cI, 38, .inl g_78))]) [0, 1] (by decide) rfl
            exact W.vret hx hb hr (fun t ht hW => ⟨⟨(), rfl, trivial, ⟨g_78, by rw [ht]; exact hP9, hD9, hM_78⟩⟩, hS.F ht⟩) hS.2.2 dX8_drift_186
          · have c_69 : L_50 = 0 := (nI_eq (a := L_50) (b := 0) (by omega) (by omega)).mp c_69
            refine lv_iconst (v := 1) hx hb dX8_drift_104 (by decide) ?_
            refine lv_goto (tgt := 109) hx hb dX8_drift_105 (by decide) ?_
            refine lv_istore (lv' := [(6, .int 1), (5, .int (nI L_50)), (4, .int v_6), (3, .int v_2), (0, .ref mo), (1, .int (nI i)), (2, .int n)]) hx hb dX8_drift_109 hl (by decide) rfl (fun ls hl => ?_)
            refine lv_aload_n hx hb dX8_drift_111 rfl (lv_at hl 4 rfl) ?_
            refine va_get (D := (dC, dI)) (ci := 8) (v := .ref m_st) (C := RX8) (T := TX8) (N := 24) hx hb hts i_X8_drift_X8 hown hK hP 0 rfl rfl 5 (by decide) (hts (.fieldLink RX8 19 "MillTalkModel" "st" "[I") (by decide +kernel)) (fun _ h9 => h9) rfl dX8_drift_112 ?_
            refine lv_bipush (v := 26) hx hb dX8_drift_115 (by decide) ?_
            refine lv_iload_n hx hb dX8_drift_117 rfl (lv_at hl 5 rfl) ?_
            refine lv_iadd hx hb dX8_drift_118 ?_
            refine lv_topi (fun v_79 e_79 => ?_)
            obtain rfl : v_79 = (nI (26 + i)) := (e_79).trans (nI_add 26 i)
            refine lv_iload hx hb dX8_drift_119 (lv_at hl 0 rfl) ?_
            refine lv_if_eq (tgt := 128) hx hb dX8_drift_121 (by decide) (fun c_ => absurd c_ (by decide)) (fun _ => ?_)
            refine lv_iconst (v := 2) hx hb dX8_drift_124 (by decide) ?_
            refine lv_goto (tgt := 129) hx hb dX8_drift_125 (by decide) ?_
            refine va_iast hx hb hK hP hD hS 1 0 rfl rfl (vp_in_nI (by omega) (by omega)) dX8_drift_129 (fun H locs hP hD hS => ?_)
            generalize hg_81 : upd fs ((nI (26 + i)) : Int32).toNatClampNeg 2 = g_81 at hP hD
            have hM_81 : okM g_81 w9 k9 h9 := okM_off (i := (26 + i)) hM hg_81 (by omega) (by omega) (by omega) (by omega) (by omega)
            have hP : va_P (dC, dI) vwCl [(mo, .inr (8, [.ref m_la, .ref m_sz, .ref m_it, .int ms, .int mt, .ref m_st, .ref m_mv, .ref m_tp, .int (nI mz), .int ml, .int (nI mp), .int mk, .int mv, .int mb, .int mw, .ref m_rd, .ref m_ac, .int (nI ma), .ref m_as, .ref m_wo, .ref m_ik, .ref m_ke, .ref m_tr, .int (nI mx)])), (m_st, .inl (cI, 38, .inl g_81))] H := hP
            have hD : va_D A [(mo, .inr (8, [.ref m_la, .ref m_sz, .ref m_it, .int ms, .int mt, .ref m_st, .ref m_mv, .ref m_tp, .int (nI mz), .int ml, .int (nI mp), .int mk, .int mv, .int mb, .int mw, .ref m_rd, .ref m_ac, .int (nI ma), .ref m_as, .ref m_wo, .ref m_ik, .ref m_ke, .ref m_tr, .int (nI mx)])), (m_st, .inl (cI, 38, .inl g_81))] := hD
            refine lv_aload_n hx hb dX8_drift_130 rfl (lv_at hl 4 rfl) ?_
            refine va_get (D := (dC, dI)) (ci := 8) (v := .ref m_st) (C := RX8) (T := TX8) (N := 24) hx hb hts i_X8_drift_X8 hown hK hP 0 rfl rfl 5 (by decide) (hts (.fieldLink RX8 19 "MillTalkModel" "st" "[I") (by decide +kernel)) (fun _ h9 => h9) rfl dX8_drift_131 ?_
            refine lv_bipush (v := 20) hx hb dX8_drift_134 (by decide) ?_
            refine lv_iload_n hx hb dX8_drift_136 rfl (lv_at hl 5 rfl) ?_
            refine lv_iadd hx hb dX8_drift_137 ?_
            refine lv_topi (fun v_82 e_82 => ?_)
            obtain rfl : v_82 = (nI (20 + i)) := (e_82).trans (nI_add 20 i)
            refine lv_iload hx hb dX8_drift_138 (lv_at hl 0 rfl) ?_
            refine lv_if_eq (tgt := 155) hx hb dX8_drift_140 (by decide) (fun c_ => absurd c_ (by decide)) (fun _ => ?_)
            refine lv_aload_n hx hb dX8_drift_143 rfl (lv_at hl 4 rfl) ?_
            refine va_get (D := (dC, dI)) (ci := 8) (v := .ref m_st) (C := RX8) (T := TX8) (N := 24) hx hb hts i_X8_drift_X8 hown hK hP 0 rfl rfl 5 (by decide) (hts (.fieldLink RX8 19 "MillTalkModel" "st" "[I") (by decide +kernel)) (fun _ h9 => h9) rfl dX8_drift_144 ?_
            refine lv_bipush (v := 20) hx hb dX8_drift_147 (by decide) ?_
            refine lv_iload_n hx hb dX8_drift_149 rfl (lv_at hl 5 rfl) ?_
            refine lv_iadd hx hb dX8_drift_150 ?_
            refine lv_topi (fun v_84 e_84 => ?_)
            obtain rfl : v_84 = (nI (20 + i)) := (e_84).trans (nI_add 20 i)
            refine va_iald hx hb hK hP 1 0 rfl rfl (vp_in_nI (by omega) (by omega)) dX8_drift_151 ?_
            refine lv_topi (fun v_85 e_85 => ?_)
            refine lv_goto (tgt := 157) hx hb dX8_drift_152 (by decide) ?_
            refine va_iast hx hb hK hP hD hS 1 0 rfl rfl (vp_in_nI (by omega) (by omega)) dX8_drift_157 (fun H locs hP hD hS => ?_)
            generalize hg_86 : upd g_81 ((nI (20 + i)) : Int32).toNatClampNeg v_85 = g_86 at hP hD
            have hM_86 : okM g_86 w9 k9 h9 := okM_off (i := (20 + i)) hM_81 hg_86 (by omega) (by omega) (by omega) (by omega) (by omega)
            have hP : va_P (dC, dI) vwCl [(mo, .inr (8, [.ref m_la, .ref m_sz, .ref m_it, .int ms, .int mt, .ref m_st, .ref m_mv, .ref m_tp, .int (nI mz), .int ml, .int (nI mp), .int mk, .int mv, .int mb, .int mw, .ref m_rd, .ref m_ac, .int (nI ma), .ref m_as, .ref m_wo, .ref m_ik, .ref m_ke, .ref m_tr, .int (nI mx)])), (m_st, .inl (cI, 38, .inl g_86))] H := hP
            have hD : va_D A [(mo, .inr (8, [.ref m_la, .ref m_sz, .ref m_it, .int ms, .int mt, .ref m_st, .ref m_mv, .ref m_tp, .int (nI mz), .int ml, .int (nI mp), .int mk, .int mv, .int mb, .int mw, .ref m_rd, .ref m_ac, .int (nI ma), .ref m_as, .ref m_wo, .ref m_ik, .ref m_ke, .ref m_tr, .int (nI mx)])), (m_st, .inl (cI, 38, .inl g_86))] := hD
            refine lv_aload_n hx hb dX8_drift_158 rfl (lv_at hl 4 rfl) ?_
            refine va_get (D := (dC, dI)) (ci := 8) (v := .ref m_st) (C := RX8) (T := TX8) (N := 24) hx hb hts i_X8_drift_X8 hown hK hP 0 rfl rfl 5 (by decide) (hts (.fieldLink RX8 19 "MillTalkModel" "st" "[I") (by decide +kernel)) (fun _ h9 => h9) rfl dX8_drift_159 ?_
            refine lv_bipush (v := 32) hx hb dX8_drift_162 (by decide) ?_
            refine lv_iload_n hx hb dX8_drift_164 rfl (lv_at hl 5 rfl) ?_
            refine lv_iadd hx hb dX8_drift_165 ?_
            refine lv_topi (fun v_87 e_87 => ?_)
            obtain rfl : v_87 = (nI (32 + i)) := (e_87).trans (nI_add 32 i)
            refine lv_iload hx hb dX8_drift_166 (lv_at hl 0 rfl) ?_
            refine lv_if_eq (tgt := 183) hx hb dX8_drift_168 (by decide) (fun c_ => absurd c_ (by decide)) (fun _ => ?_)
            refine lv_aload_n hx hb dX8_drift_171 rfl (lv_at hl 4 rfl) ?_
            refine va_get (D := (dC, dI)) (ci := 8) (v := .ref m_st) (C := RX8) (T := TX8) (N := 24) hx hb hts i_X8_drift_X8 hown hK hP 0 rfl rfl 5 (by decide) (hts (.fieldLink RX8 19 "MillTalkModel" "st" "[I") (by decide +kernel)) (fun _ h9 => h9) rfl dX8_drift_172 ?_
            refine lv_bipush (v := 32) hx hb dX8_drift_175 (by decide) ?_
            refine lv_iload_n hx hb dX8_drift_177 rfl (lv_at hl 5 rfl) ?_
            refine lv_iadd hx hb dX8_drift_178 ?_
            refine lv_topi (fun v_89 e_89 => ?_)
            obtain rfl : v_89 = (nI (32 + i)) := (e_89).trans (nI_add 32 i)
            refine va_iald hx hb hK hP 1 0 rfl rfl (vp_in_nI (by omega) (by omega)) dX8_drift_179 ?_
            obtain ⟨L_90, hL1_90, hL2_90, hLe_90⟩ := hM_86.2.2.2.2.2.2.2 i (by omega)
            refine lv_topi (fun v_90 e_90 => ?_)
            obtain rfl : v_90 = nI L_90 := e_90.trans (by rw [nI_clamp (by omega)]; exact hLe_90)
            refine lv_goto (tgt := 185) hx hb dX8_drift_180 (by decide) ?_
            refine va_iast hx hb hK hP hD hS 1 0 rfl rfl (vp_in_nI (by omega) (by omega)) dX8_drift_185 (fun H locs hP hD hS => ?_)
            generalize hg_91 : upd g_86 ((nI (32 + i)) : Int32).toNatClampNeg (nI L_90) = g_91 at hP hD
            have hM_91 : okM g_91 w9 k9 h9 := okM_loud hM_86 hg_91 (by omega) (by omega) (by omega)
            have hP : va_P (dC, dI) vwCl [(mo, .inr (8, [.ref m_la, .ref m_sz, .ref m_it, .int ms, .int mt, .ref m_st, .ref m_mv, .ref m_tp, .int (nI mz), .int ml, .int (nI mp), .int mk, .int mv, .int mb, .int mw, .ref m_rd, .ref m_ac, .int (nI ma), .ref m_as, .ref m_wo, .ref m_ik, .ref m_ke, .ref m_tr, .int (nI mx)])), (m_st, .inl (cI, 38, .inl g_91))] H := hP
            have hD : va_D A [(mo, .inr (8, [.ref m_la, .ref m_sz, .ref m_it, .int ms, .int mt, .ref m_st, .ref m_mv, .ref m_tp, .int (nI mz), .int ml, .int (nI mp), .int mk, .int mv, .int mb, .int mw, .ref m_rd, .ref m_ac, .int (nI ma), .ref m_as, .ref m_wo, .ref m_ik, .ref m_ke, .ref m_tr, .int (nI mx)])), (m_st, .inl (cI, 38, .inl g_91))] := hD
            have hP9 := hP.sub (ws' := [(mo, .inr (8, [.ref m_la, .ref m_sz, .ref m_it, .int ms, .int mt, .ref m_st, .ref m_mv, .ref m_tp, .int (nI mz), .int ml, .int (nI mp), .int mk, .int mv, .int mb, .int mw, .ref m_rd, .ref m_ac, .int (nI ma), .ref m_as, .ref m_wo, .ref m_ik, .ref m_ke, .ref m_tr, .int (nI mx)])), (m_st, .inl (cI, 38, .inl g_91))]) [0, 1] rfl
            have hD9 := hD.sub (ws' := [(mo, .inr (8, [.ref m_la, .ref m_sz, .ref m_it, .int ms, .int mt, .ref m_st, .ref m_mv, .ref m_tp, .int (nI mz), .int ml, .int (nI mp), .int mk, .int mv, .int mb, .int mw, .ref m_rd, .ref m_ac, .int (nI ma), .ref m_as, .ref m_wo, .ref m_ik, .ref m_ke, .ref m_tr, .int (nI mx)])), (m_st, .inl (cI, 38, .inl g_91))]) [0, 1] (by decide) rfl
            exact W.vret hx hb hr (fun t ht hW => ⟨⟨(), rfl, trivial, ⟨g_91, by rw [ht]; exact hP9, hD9, hM_91⟩⟩, hS.F ht⟩) hS.2.2 dX8_drift_186
      · have c_51 : ¬ (20 ≤ L_50) := fun q_ => c_51 ((nI_leI (a := 20) (b := L_50) (by omega) (by omega)).mpr q_)
        refine lv_aload_n hx hb dX8_drift_65 rfl (lv_at hl 2 rfl) ?_
        refine va_get (D := (dC, dI)) (ci := 8) (v := .ref m_st) (C := RX8) (T := TX8) (N := 24) hx hb hts i_X8_drift_X8 hown hK hP 0 rfl rfl 5 (by decide) (hts (.fieldLink RX8 19 "MillTalkModel" "st" "[I") (by decide +kernel)) (fun _ h9 => h9) rfl dX8_drift_66 ?_
        refine lv_bipush (v := 32) hx hb dX8_drift_69 (by decide) ?_
        refine lv_iload_n hx hb dX8_drift_71 rfl (lv_at hl 3 rfl) ?_
        refine lv_iadd hx hb dX8_drift_72 ?_
        refine lv_topi (fun v_92 e_92 => ?_)
        obtain rfl : v_92 = (nI (32 + i)) := (e_92).trans (nI_add 32 i)
        refine va_iald hx hb hK hP 1 0 rfl rfl (vp_in_nI (by omega) (by omega)) dX8_drift_73 ?_
        refine lv_topi (fun v_93 e_93 => ?_)
        obtain rfl : v_93 = nI L_50 := e_93.trans (by rw [nI_clamp (by omega)]; exact hLe_50)
        refine lv_iconst (v := 1) hx hb dX8_drift_74 (by decide) ?_
        refine lv_iadd hx hb dX8_drift_75 ?_
        refine lv_topi (fun v_94 e_94 => ?_)
        obtain rfl : v_94 = (nI (L_50 + 1)) := (e_94).trans (nI_add L_50 1)
        refine lv_goto (tgt := 88) hx hb dX8_drift_76 (by decide) ?_
        refine lv_istore (lv' := [(5, .int (nI (L_50 + 1))), (4, .int v_6), (3, .int v_2), (0, .ref mo), (1, .int (nI i)), (2, .int n)]) hx hb dX8_drift_88 hl (by decide) rfl (fun ls hl => ?_)
        refine lv_aload_n hx hb dX8_drift_90 rfl (lv_at hl 3 rfl) ?_
        refine lv_iload hx hb dX8_drift_91 (lv_at hl 1 rfl) ?_
        have hPc_95 := hP.sub (ws' := [(mo, .inr (8, [.ref m_la, .ref m_sz, .ref m_it, .int ms, .int mt, .ref m_st, .ref m_mv, .ref m_tp, .int (nI mz), .int ml, .int (nI mp), .int mk, .int mv, .int mb, .int mw, .ref m_rd, .ref m_ac, .int (nI ma), .ref m_as, .ref m_wo, .ref m_ik, .ref m_ke, .ref m_tr, .int (nI mx)])), (m_st, .inl (cI, 38, .inl fs))]) [0, 1] rfl
        refine vp_callSi (W.runV (As := [.int v_6]) (rest := []) ⟨hx, hb, hml, hown, hts⟩ (r_X8_isCell l dC dI cI cZ cL cJ mo m_la m_sz m_it m_st m_mv m_tp m_rd m_ac m_as m_wo m_ik m_ke m_tr ms mt ml mk mv mb mw mz mp ma mx fs w9 k9 h9 v_6 (hM)) (cwV 1 hts gX8_drift_X8_isCell rfl rfl rfl (by decide +kernel) ⟨Nat.le_of_ble_eq_true rfl, Nat.le_of_ble_eq_true rfl⟩) ⟨fun a U g mk q => by obtain ⟨q0, qP, qK⟩ := q; exact ⟨q0, qP, va_K.moved (u := U) (U := U.calling g mk a) (Vm.Alike.refl U.vm) qK⟩, va_recv hK hP (ci := 8) (q0 := 0) rfl rfl, fun U hU hW => ⟨rfl, by rw [hU]; exact hPc_95, va_K.moved hW.alike hK⟩⟩ rfl rfl hl.1 rfl (lv_room (Nat.le_of_ble_eq_true rfl)) dX8_drift_93 ⟨Nat.le_of_ble_eq_true rfl, Nat.le_of_ble_eq_true rfl⟩) (fun r_95 h_95 => ?_)
        refine lv_if_eq (tgt := 104) hx hb dX8_drift_96 (by decide) (fun c_96 => ?_) (fun c_96 => ?_)
        · skip
          refine lv_iconst (v := 1) hx hb dX8_drift_104 (by decide) ?_
          refine lv_goto (tgt := 109) hx hb dX8_drift_105 (by decide) ?_
          refine lv_istore (lv' := [(6, .int 1), (5, .int (nI (L_50 + 1))), (4, .int v_6), (3, .int v_2), (0, .ref mo), (1, .int (nI i)), (2, .int n)]) hx hb dX8_drift_109 hl (by decide) rfl (fun ls hl => ?_)
          refine lv_aload_n hx hb dX8_drift_111 rfl (lv_at hl 4 rfl) ?_
          refine va_get (D := (dC, dI)) (ci := 8) (v := .ref m_st) (C := RX8) (T := TX8) (N := 24) hx hb hts i_X8_drift_X8 hown hK hP 0 rfl rfl 5 (by decide) (hts (.fieldLink RX8 19 "MillTalkModel" "st" "[I") (by decide +kernel)) (fun _ h9 => h9) rfl dX8_drift_112 ?_
          refine lv_bipush (v := 26) hx hb dX8_drift_115 (by decide) ?_
          refine lv_iload_n hx hb dX8_drift_117 rfl (lv_at hl 5 rfl) ?_
          refine lv_iadd hx hb dX8_drift_118 ?_
          refine lv_topi (fun v_97 e_97 => ?_)
          obtain rfl : v_97 = (nI (26 + i)) := (e_97).trans (nI_add 26 i)
          refine lv_iload hx hb dX8_drift_119 (lv_at hl 0 rfl) ?_
          refine lv_if_eq (tgt := 128) hx hb dX8_drift_121 (by decide) (fun c_ => absurd c_ (by decide)) (fun _ => ?_)
          refine lv_iconst (v := 2) hx hb dX8_drift_124 (by decide) ?_
          refine lv_goto (tgt := 129) hx hb dX8_drift_125 (by decide) ?_
          refine va_iast hx hb hK hP hD hS 1 0 rfl rfl (vp_in_nI (by omega) (by omega)) dX8_drift_129 (fun H locs hP hD hS => ?_)
          generalize hg_99 : upd fs ((nI (26 + i)) : Int32).toNatClampNeg 2 = g_99 at hP hD
          have hM_99 : okM g_99 w9 k9 h9 := okM_off (i := (26 + i)) hM hg_99 (by omega) (by omega) (by omega) (by omega) (by omega)
          have hP : va_P (dC, dI) vwCl [(mo, .inr (8, [.ref m_la, .ref m_sz, .ref m_it, .int ms, .int mt, .ref m_st, .ref m_mv, .ref m_tp, .int (nI mz), .int ml, .int (nI mp), .int mk, .int mv, .int mb, .int mw, .ref m_rd, .ref m_ac, .int (nI ma), .ref m_as, .ref m_wo, .ref m_ik, .ref m_ke, .ref m_tr, .int (nI mx)])), (m_st, .inl (cI, 38, .inl g_99))] H := hP
          have hD : va_D A [(mo, .inr (8, [.ref m_la, .ref m_sz, .ref m_it, .int ms, .int mt, .ref m_st, .ref m_mv, .ref m_tp, .int (nI mz), .int ml, .int (nI mp), .int mk, .int mv, .int mb, .int mw, .ref m_rd, .ref m_ac, .int (nI ma), .ref m_as, .ref m_wo, .ref m_ik, .ref m_ke, .ref m_tr, .int (nI mx)])), (m_st, .inl (cI, 38, .inl g_99))] := hD
          refine lv_aload_n hx hb dX8_drift_130 rfl (lv_at hl 4 rfl) ?_
          refine va_get (D := (dC, dI)) (ci := 8) (v := .ref m_st) (C := RX8) (T := TX8) (N := 24) hx hb hts i_X8_drift_X8 hown hK hP 0 rfl rfl 5 (by decide) (hts (.fieldLink RX8 19 "MillTalkModel" "st" "[I") (by decide +kernel)) (fun _ h9 => h9) rfl dX8_drift_131 ?_
          refine lv_bipush (v := 20) hx hb dX8_drift_134 (by decide) ?_
          refine lv_iload_n hx hb dX8_drift_136 rfl (lv_at hl 5 rfl) ?_
          refine lv_iadd hx hb dX8_drift_137 ?_
          refine lv_topi (fun v_100 e_100 => ?_)
          obtain rfl : v_100 = (nI (20 + i)) := (e_100).trans (nI_add 20 i)
          refine lv_iload hx hb dX8_drift_138 (lv_at hl 0 rfl) ?_
          refine lv_if_eq (tgt := 155) hx hb dX8_drift_140 (by decide) (fun c_ => absurd c_ (by decide)) (fun _ => ?_)
          refine lv_aload_n hx hb dX8_drift_143 rfl (lv_at hl 4 rfl) ?_
          refine va_get (D := (dC, dI)) (ci := 8) (v := .ref m_st) (C := RX8) (T := TX8) (N := 24) hx hb hts i_X8_drift_X8 hown hK hP 0 rfl rfl 5 (by decide) (hts (.fieldLink RX8 19 "MillTalkModel" "st" "[I") (by decide +kernel)) (fun _ h9 => h9) rfl dX8_drift_144 ?_
          refine lv_bipush (v := 20) hx hb dX8_drift_147 (by decide) ?_
          refine lv_iload_n hx hb dX8_drift_149 rfl (lv_at hl 5 rfl) ?_
          refine lv_iadd hx hb dX8_drift_150 ?_
          refine lv_topi (fun v_102 e_102 => ?_)
          obtain rfl : v_102 = (nI (20 + i)) := (e_102).trans (nI_add 20 i)
          refine va_iald hx hb hK hP 1 0 rfl rfl (vp_in_nI (by omega) (by omega)) dX8_drift_151 ?_
          refine lv_topi (fun v_103 e_103 => ?_)
          refine lv_goto (tgt := 157) hx hb dX8_drift_152 (by decide) ?_
          refine va_iast hx hb hK hP hD hS 1 0 rfl rfl (vp_in_nI (by omega) (by omega)) dX8_drift_157 (fun H locs hP hD hS => ?_)
          generalize hg_104 : upd g_99 ((nI (20 + i)) : Int32).toNatClampNeg v_103 = g_104 at hP hD
          have hM_104 : okM g_104 w9 k9 h9 := okM_off (i := (20 + i)) hM_99 hg_104 (by omega) (by omega) (by omega) (by omega) (by omega)
          have hP : va_P (dC, dI) vwCl [(mo, .inr (8, [.ref m_la, .ref m_sz, .ref m_it, .int ms, .int mt, .ref m_st, .ref m_mv, .ref m_tp, .int (nI mz), .int ml, .int (nI mp), .int mk, .int mv, .int mb, .int mw, .ref m_rd, .ref m_ac, .int (nI ma), .ref m_as, .ref m_wo, .ref m_ik, .ref m_ke, .ref m_tr, .int (nI mx)])), (m_st, .inl (cI, 38, .inl g_104))] H := hP
          have hD : va_D A [(mo, .inr (8, [.ref m_la, .ref m_sz, .ref m_it, .int ms, .int mt, .ref m_st, .ref m_mv, .ref m_tp, .int (nI mz), .int ml, .int (nI mp), .int mk, .int mv, .int mb, .int mw, .ref m_rd, .ref m_ac, .int (nI ma), .ref m_as, .ref m_wo, .ref m_ik, .ref m_ke, .ref m_tr, .int (nI mx)])), (m_st, .inl (cI, 38, .inl g_104))] := hD
          refine lv_aload_n hx hb dX8_drift_158 rfl (lv_at hl 4 rfl) ?_
          refine va_get (D := (dC, dI)) (ci := 8) (v := .ref m_st) (C := RX8) (T := TX8) (N := 24) hx hb hts i_X8_drift_X8 hown hK hP 0 rfl rfl 5 (by decide) (hts (.fieldLink RX8 19 "MillTalkModel" "st" "[I") (by decide +kernel)) (fun _ h9 => h9) rfl dX8_drift_159 ?_
          refine lv_bipush (v := 32) hx hb dX8_drift_162 (by decide) ?_
          refine lv_iload_n hx hb dX8_drift_164 rfl (lv_at hl 5 rfl) ?_
          refine lv_iadd hx hb dX8_drift_165 ?_
          refine lv_topi (fun v_105 e_105 => ?_)
          obtain rfl : v_105 = (nI (32 + i)) := (e_105).trans (nI_add 32 i)
          refine lv_iload hx hb dX8_drift_166 (lv_at hl 0 rfl) ?_
          refine lv_if_eq (tgt := 183) hx hb dX8_drift_168 (by decide) (fun c_ => absurd c_ (by decide)) (fun _ => ?_)
          refine lv_aload_n hx hb dX8_drift_171 rfl (lv_at hl 4 rfl) ?_
          refine va_get (D := (dC, dI)) (ci := 8) (v := .ref m_st) (C := RX8) (T := TX8) (N := 24) hx hb hts i_X8_drift_X8 hown hK hP 0 rfl rfl 5 (by decide) (hts (.fieldLink RX8 19 "MillTalkModel" "st" "[I") (by decide +kernel)) (fun _ h9 => h9) rfl dX8_drift_172 ?_
          refine lv_bipush (v := 32) hx hb dX8_drift_175 (by decide) ?_
          refine lv_iload_n hx hb dX8_drift_177 rfl (lv_at hl 5 rfl) ?_
          refine lv_iadd hx hb dX8_drift_178 ?_
          refine lv_topi (fun v_107 e_107 => ?_)
          obtain rfl : v_107 = (nI (32 + i)) := (e_107).trans (nI_add 32 i)
          refine va_iald hx hb hK hP 1 0 rfl rfl (vp_in_nI (by omega) (by omega)) dX8_drift_179 ?_
          obtain ⟨L_108, hL1_108, hL2_108, hLe_108⟩ := hM_104.2.2.2.2.2.2.2 i (by omega)
          refine lv_topi (fun v_108 e_108 => ?_)
          obtain rfl : v_108 = nI L_108 := e_108.trans (by rw [nI_clamp (by omega)]; exact hLe_108)
          refine lv_goto (tgt := 185) hx hb dX8_drift_180 (by decide) ?_
          refine va_iast hx hb hK hP hD hS 1 0 rfl rfl (vp_in_nI (by omega) (by omega)) dX8_drift_185 (fun H locs hP hD hS => ?_)
          generalize hg_109 : upd g_104 ((nI (32 + i)) : Int32).toNatClampNeg (nI L_108) = g_109 at hP hD
          have hM_109 : okM g_109 w9 k9 h9 := okM_loud hM_104 hg_109 (by omega) (by omega) (by omega)
          have hP : va_P (dC, dI) vwCl [(mo, .inr (8, [.ref m_la, .ref m_sz, .ref m_it, .int ms, .int mt, .ref m_st, .ref m_mv, .ref m_tp, .int (nI mz), .int ml, .int (nI mp), .int mk, .int mv, .int mb, .int mw, .ref m_rd, .ref m_ac, .int (nI ma), .ref m_as, .ref m_wo, .ref m_ik, .ref m_ke, .ref m_tr, .int (nI mx)])), (m_st, .inl (cI, 38, .inl g_109))] H := hP
          have hD : va_D A [(mo, .inr (8, [.ref m_la, .ref m_sz, .ref m_it, .int ms, .int mt, .ref m_st, .ref m_mv, .ref m_tp, .int (nI mz), .int ml, .int (nI mp), .int mk, .int mv, .int mb, .int mw, .ref m_rd, .ref m_ac, .int (nI ma), .ref m_as, .ref m_wo, .ref m_ik, .ref m_ke, .ref m_tr, .int (nI mx)])), (m_st, .inl (cI, 38, .inl g_109))] := hD
          have hP9 := hP.sub (ws' := [(mo, .inr (8, [.ref m_la, .ref m_sz, .ref m_it, .int ms, .int mt, .ref m_st, .ref m_mv, .ref m_tp, .int (nI mz), .int ml, .int (nI mp), .int mk, .int mv, .int mb, .int mw, .ref m_rd, .ref m_ac, .int (nI ma), .ref m_as, .ref m_wo, .ref m_ik, .ref m_ke, .ref m_tr, .int (nI mx)])), (m_st, .inl (cI, 38, .inl g_109))]) [0, 1] rfl
          have hD9 := hD.sub (ws' := [(mo, .inr (8, [.ref m_la, .ref m_sz, .ref m_it, .int ms, .int mt, .ref m_st, .ref m_mv, .ref m_tp, .int (nI mz), .int ml, .int (nI mp), .int mk, .int mv, .int mb, .int mw, .ref m_rd, .ref m_ac, .int (nI ma), .ref m_as, .ref m_wo, .ref m_ik, .ref m_ke, .ref m_tr, .int (nI mx)])), (m_st, .inl (cI, 38, .inl g_109))]) [0, 1] (by decide) rfl
          exact W.vret hx hb hr (fun t ht hW => ⟨⟨(), rfl, trivial, ⟨g_109, by rw [ht]; exact hP9, hD9, hM_109⟩⟩, hS.F ht⟩) hS.2.2 dX8_drift_186
        · skip
          refine lv_iload hx hb dX8_drift_99 (lv_at hl 0 rfl) ?_
          refine lv_if_ne (tgt := 108) hx hb dX8_drift_101 (by decide) (fun c_110 => ?_) (fun c_110 => ?_)
          · have c_110 : ¬ ((L_50 + 1) = 0) := fun q_ => c_110 ((nI_eq (a := (L_50 + 1)) (b := 0) (by omega) (by omega)).mpr q_)
            refine lv_iconst (v := 0) hx hb dX8_drift_108 (by decide) ?_
            refine lv_istore (lv' := [(6, .int 0), (5, .int (nI (L_50 + 1))), (4, .int v_6), (3, .int v_2), (0, .ref mo), (1, .int (nI i)), (2, .int n)]) hx hb dX8_drift_109 hl (by decide) rfl (fun ls hl => ?_)
            refine lv_aload_n hx hb dX8_drift_111 rfl (lv_at hl 4 rfl) ?_
            refine va_get (D := (dC, dI)) (ci := 8) (v := .ref m_st) (C := RX8) (T := TX8) (N := 24) hx hb hts i_X8_drift_X8 hown hK hP 0 rfl rfl 5 (by decide) (hts (.fieldLink RX8 19 "MillTalkModel" "st" "[I") (by decide +kernel)) (fun _ h9 => h9) rfl dX8_drift_112 ?_
            refine lv_bipush (v := 26) hx hb dX8_drift_115 (by decide) ?_
            refine lv_iload_n hx hb dX8_drift_117 rfl (lv_at hl 5 rfl) ?_
            refine lv_iadd hx hb dX8_drift_118 ?_
            refine lv_topi (fun v_111 e_111 => ?_)
            obtain rfl : v_111 = (nI (26 + i)) := (e_111).trans (nI_add 26 i)
            refine lv_iload hx hb dX8_drift_119 (lv_at hl 0 rfl) ?_
            refine lv_if_eq (tgt := 128) hx hb dX8_drift_121 (by decide) (fun _ => ?_) (fun c_ => absurd (by decide) c_)
            refine lv_iconst (v := 0) hx hb dX8_drift_128 (by decide) ?_
            refine va_iast hx hb hK hP hD hS 1 0 rfl rfl (vp_in_nI (by omega) (by omega)) dX8_drift_129 (fun H locs hP hD hS => ?_)
            generalize hg_113 : upd fs ((nI (26 + i)) : Int32).toNatClampNeg 0 = g_113 at hP hD
            have hM_113 : okM g_113 w9 k9 h9 := okM_off (i := (26 + i)) hM hg_113 (by omega) (by omega) (by omega) (by omega) (by omega)
            have hP : va_P (dC, dI) vwCl [(mo, .inr (8, [.ref m_la, .ref m_sz, .ref m_it, .int ms, .int mt, .ref m_st, .ref m_mv, .ref m_tp, .int (nI mz), .int ml, .int (nI mp), .int mk, .int mv, .int mb, .int mw, .ref m_rd, .ref m_ac, .int (nI ma), .ref m_as, .ref m_wo, .ref m_ik, .ref m_ke, .ref m_tr, .int (nI mx)])), (m_st, .inl (cI, 38, .inl g_113))] H := hP
            have hD : va_D A [(mo, .inr (8, [.ref m_la, .ref m_sz, .ref m_it, .int ms, .int mt, .ref m_st, .ref m_mv, .ref m_tp, .int (nI mz), .int ml, .int (nI mp), .int mk, .int mv, .int mb, .int mw, .ref m_rd, .ref m_ac, .int (nI ma), .ref m_as, .ref m_wo, .ref m_ik, .ref m_ke, .ref m_tr, .int (nI mx)])), (m_st, .inl (cI, 38, .inl g_113))] := hD
            refine lv_aload_n hx hb dX8_drift_130 rfl (lv_at hl 4 rfl) ?_
            refine va_get (D := (dC, dI)) (ci := 8) (v := .ref m_st) (C := RX8) (T := TX8) (N := 24) hx hb hts i_X8_drift_X8 hown hK hP 0 rfl rfl 5 (by decide) (hts (.fieldLink RX8 19 "MillTalkModel" "st" "[I") (by decide +kernel)) (fun _ h9 => h9) rfl dX8_drift_131 ?_
            refine lv_bipush (v := 20) hx hb dX8_drift_134 (by decide) ?_
            refine lv_iload_n hx hb dX8_drift_136 rfl (lv_at hl 5 rfl) ?_
            refine lv_iadd hx hb dX8_drift_137 ?_
            refine lv_topi (fun v_114 e_114 => ?_)
            obtain rfl : v_114 = (nI (20 + i)) := (e_114).trans (nI_add 20 i)
            refine lv_iload hx hb dX8_drift_138 (lv_at hl 0 rfl) ?_
            refine lv_if_eq (tgt := 155) hx hb dX8_drift_140 (by decide) (fun _ => ?_) (fun c_ => absurd (by decide) c_)
            refine lv_iload hx hb dX8_drift_155 (lv_at hl 2 rfl) ?_
            refine va_iast hx hb hK hP hD hS 1 0 rfl rfl (vp_in_nI (by omega) (by omega)) dX8_drift_157 (fun H locs hP hD hS => ?_)
            generalize hg_116 : upd g_113 ((nI (20 + i)) : Int32).toNatClampNeg v_6 = g_116 at hP hD
            have hM_116 : okM g_116 w9 k9 h9 := okM_off (i := (20 + i)) hM_113 hg_116 (by omega) (by omega) (by omega) (by omega) (by omega)
            have hP : va_P (dC, dI) vwCl [(mo, .inr (8, [.ref m_la, .ref m_sz, .ref m_it, .int ms, .int mt, .ref m_st, .ref m_mv, .ref m_tp, .int (nI mz), .int ml, .int (nI mp), .int mk, .int mv, .int mb, .int mw, .ref m_rd, .ref m_ac, .int (nI ma), .ref m_as, .ref m_wo, .ref m_ik, .ref m_ke, .ref m_tr, .int (nI mx)])), (m_st, .inl (cI, 38, .inl g_116))] H := hP
            have hD : va_D A [(mo, .inr (8, [.ref m_la, .ref m_sz, .ref m_it, .int ms, .int mt, .ref m_st, .ref m_mv, .ref m_tp, .int (nI mz), .int ml, .int (nI mp), .int mk, .int mv, .int mb, .int mw, .ref m_rd, .ref m_ac, .int (nI ma), .ref m_as, .ref m_wo, .ref m_ik, .ref m_ke, .ref m_tr, .int (nI mx)])), (m_st, .inl (cI, 38, .inl g_116))] := hD
            refine lv_aload_n hx hb dX8_drift_158 rfl (lv_at hl 4 rfl) ?_
            refine va_get (D := (dC, dI)) (ci := 8) (v := .ref m_st) (C := RX8) (T := TX8) (N := 24) hx hb hts i_X8_drift_X8 hown hK hP 0 rfl rfl 5 (by decide) (hts (.fieldLink RX8 19 "MillTalkModel" "st" "[I") (by decide +kernel)) (fun _ h9 => h9) rfl dX8_drift_159 ?_
            refine lv_bipush (v := 32) hx hb dX8_drift_162 (by decide) ?_
            refine lv_iload_n hx hb dX8_drift_164 rfl (lv_at hl 5 rfl) ?_
            refine lv_iadd hx hb dX8_drift_165 ?_
            refine lv_topi (fun v_117 e_117 => ?_)
            obtain rfl : v_117 = (nI (32 + i)) := (e_117).trans (nI_add 32 i)
            refine lv_iload hx hb dX8_drift_166 (lv_at hl 0 rfl) ?_
            refine lv_if_eq (tgt := 183) hx hb dX8_drift_168 (by decide) (fun _ => ?_) (fun c_ => absurd (by decide) c_)
            refine lv_iload hx hb dX8_drift_183 (lv_at hl 1 rfl) ?_
            refine va_iast hx hb hK hP hD hS 1 0 rfl rfl (vp_in_nI (by omega) (by omega)) dX8_drift_185 (fun H locs hP hD hS => ?_)
            generalize hg_119 : upd g_116 ((nI (32 + i)) : Int32).toNatClampNeg (nI (L_50 + 1)) = g_119 at hP hD
            have hM_119 : okM g_119 w9 k9 h9 := okM_loud hM_116 hg_119 (by omega) (by omega) (by omega)
            have hP : va_P (dC, dI) vwCl [(mo, .inr (8, [.ref m_la, .ref m_sz, .ref m_it, .int ms, .int mt, .ref m_st, .ref m_mv, .ref m_tp, .int (nI mz), .int ml, .int (nI mp), .int mk, .int mv, .int mb, .int mw, .ref m_rd, .ref m_ac, .int (nI ma), .ref m_as, .ref m_wo, .ref m_ik, .ref m_ke, .ref m_tr, .int (nI mx)])), (m_st, .inl (cI, 38, .inl g_119))] H := hP
            have hD : va_D A [(mo, .inr (8, [.ref m_la, .ref m_sz, .ref m_it, .int ms, .int mt, .ref m_st, .ref m_mv, .ref m_tp, .int (nI mz), .int ml, .int (nI mp), .int mk, .int mv, .int mb, .int mw, .ref m_rd, .ref m_ac, .int (nI ma), .ref m_as, .ref m_wo, .ref m_ik, .ref m_ke, .ref m_tr, .int (nI mx)])), (m_st, .inl (cI, 38, .inl g_119))] := hD
            have hP9 := hP.sub (ws' := [(mo, .inr (8, [.ref m_la, .ref m_sz, .ref m_it, .int ms, .int mt, .ref m_st, .ref m_mv, .ref m_tp, .int (nI mz), .int ml, .int (nI mp), .int mk, .int mv, .int mb, .int mw, .ref m_rd, .ref m_ac, .int (nI ma), .ref m_as, .ref m_wo, .ref m_ik, .ref m_ke, .ref m_tr, .int (nI mx)])), (m_st, .inl (cI, 38, .inl g_119))]) [0, 1] rfl
            have hD9 := hD.sub (ws' := [(mo, .inr (8, [.ref m_la, .ref m_sz, .ref m_it, .int ms, .int mt, .ref m_st, .ref m_mv, .ref m_tp, .int (nI mz), .int ml, .int (nI mp), .int mk, .int mv, .int mb, .int mw, .ref m_rd, .ref m_ac, .int (nI ma), .ref m_as, .ref m_wo, .ref m_ik, .ref m_ke, .ref m_tr, .int (nI mx)])), (m_st, .inl (cI, 38, .inl g_119))]) [0, 1] (by decide) rfl
            exact W.vret hx hb hr (fun t ht hW => ⟨⟨(), rfl, trivial, ⟨g_119, by rw [ht]; exact hP9, hD9, hM_119⟩⟩, hS.F ht⟩) hS.2.2 dX8_drift_186
          · have c_110 : (L_50 + 1) = 0 := (nI_eq (a := (L_50 + 1)) (b := 0) (by omega) (by omega)).mp c_110
            refine lv_iconst (v := 1) hx hb dX8_drift_104 (by decide) ?_
            refine lv_goto (tgt := 109) hx hb dX8_drift_105 (by decide) ?_
            refine lv_istore (lv' := [(6, .int 1), (5, .int (nI (L_50 + 1))), (4, .int v_6), (3, .int v_2), (0, .ref mo), (1, .int (nI i)), (2, .int n)]) hx hb dX8_drift_109 hl (by decide) rfl (fun ls hl => ?_)
            refine lv_aload_n hx hb dX8_drift_111 rfl (lv_at hl 4 rfl) ?_
            refine va_get (D := (dC, dI)) (ci := 8) (v := .ref m_st) (C := RX8) (T := TX8) (N := 24) hx hb hts i_X8_drift_X8 hown hK hP 0 rfl rfl 5 (by decide) (hts (.fieldLink RX8 19 "MillTalkModel" "st" "[I") (by decide +kernel)) (fun _ h9 => h9) rfl dX8_drift_112 ?_
            refine lv_bipush (v := 26) hx hb dX8_drift_115 (by decide) ?_
            refine lv_iload_n hx hb dX8_drift_117 rfl (lv_at hl 5 rfl) ?_
            refine lv_iadd hx hb dX8_drift_118 ?_
            refine lv_topi (fun v_120 e_120 => ?_)
            obtain rfl : v_120 = (nI (26 + i)) := (e_120).trans (nI_add 26 i)
            refine lv_iload hx hb dX8_drift_119 (lv_at hl 0 rfl) ?_
            refine lv_if_eq (tgt := 128) hx hb dX8_drift_121 (by decide) (fun c_ => absurd c_ (by decide)) (fun _ => ?_)
            refine lv_iconst (v := 2) hx hb dX8_drift_124 (by decide) ?_
            refine lv_goto (tgt := 129) hx hb dX8_drift_125 (by decide) ?_
            refine va_iast hx hb hK hP hD hS 1 0 rfl rfl (vp_in_nI (by omega) (by omega)) dX8_drift_129 (fun H locs hP hD hS => ?_)
            generalize hg_122 : upd fs ((nI (26 + i)) : Int32).toNatClampNeg 2 = g_122 at hP hD
            have hM_122 : okM g_122 w9 k9 h9 := okM_off (i := (26 + i)) hM hg_122 (by omega) (by omega) (by omega) (by omega) (by omega)
            have hP : va_P (dC, dI) vwCl [(mo, .inr (8, [.ref m_la, .ref m_sz, .ref m_it, .int ms, .int mt, .ref m_st, .ref m_mv, .ref m_tp, .int (nI mz), .int ml, .int (nI mp), .int mk, .int mv, .int mb, .int mw, .ref m_rd, .ref m_ac, .int (nI ma), .ref m_as, .ref m_wo, .ref m_ik, .ref m_ke, .ref m_tr, .int (nI mx)])), (m_st, .inl (cI, 38, .inl g_122))] H := hP
            have hD : va_D A [(mo, .inr (8, [.ref m_la, .ref m_sz, .ref m_it, .int ms, .int mt, .ref m_st, .ref m_mv, .ref m_tp, .int (nI mz), .int ml, .int (nI mp), .int mk, .int mv, .int mb, .int mw, .ref m_rd, .ref m_ac, .int (nI ma), .ref m_as, .ref m_wo, .ref m_ik, .ref m_ke, .ref m_tr, .int (nI mx)])), (m_st, .inl (cI, 38, .inl g_122))] := hD
            refine lv_aload_n hx hb dX8_drift_130 rfl (lv_at hl 4 rfl) ?_
            refine va_get (D := (dC, dI)) (ci := 8) (v := .ref m_st) (C := RX8) (T := TX8) (N := 24) hx hb hts i_X8_drift_X8 hown hK hP 0 rfl rfl 5 (by decide) (hts (.fieldLink RX8 19 "MillTalkModel" "st" "[I") (by decide +kernel)) (fun _ h9 => h9) rfl dX8_drift_131 ?_
            refine lv_bipush (v := 20) hx hb dX8_drift_134 (by decide) ?_
            refine lv_iload_n hx hb dX8_drift_136 rfl (lv_at hl 5 rfl) ?_
            refine lv_iadd hx hb dX8_drift_137 ?_
            refine lv_topi (fun v_123 e_123 => ?_)
            obtain rfl : v_123 = (nI (20 + i)) := (e_123).trans (nI_add 20 i)
            refine lv_iload hx hb dX8_drift_138 (lv_at hl 0 rfl) ?_
            refine lv_if_eq (tgt := 155) hx hb dX8_drift_140 (by decide) (fun c_ => absurd c_ (by decide)) (fun _ => ?_)
            refine lv_aload_n hx hb dX8_drift_143 rfl (lv_at hl 4 rfl) ?_
            refine va_get (D := (dC, dI)) (ci := 8) (v := .ref m_st) (C := RX8) (T := TX8) (N := 24) hx hb hts i_X8_drift_X8 hown hK hP 0 rfl rfl 5 (by decide) (hts (.fieldLink RX8 19 "MillTalkModel" "st" "[I") (by decide +kernel)) (fun _ h9 => h9) rfl dX8_drift_144 ?_
            refine lv_bipush (v := 20) hx hb dX8_drift_147 (by decide) ?_
            refine lv_iload_n hx hb dX8_drift_149 rfl (lv_at hl 5 rfl) ?_
            refine lv_iadd hx hb dX8_drift_150 ?_
            refine lv_topi (fun v_125 e_125 => ?_)
            obtain rfl : v_125 = (nI (20 + i)) := (e_125).trans (nI_add 20 i)
            refine va_iald hx hb hK hP 1 0 rfl rfl (vp_in_nI (by omega) (by omega)) dX8_drift_151 ?_
            refine lv_topi (fun v_126 e_126 => ?_)
            refine lv_goto (tgt := 157) hx hb dX8_drift_152 (by decide) ?_
            refine va_iast hx hb hK hP hD hS 1 0 rfl rfl (vp_in_nI (by omega) (by omega)) dX8_drift_157 (fun H locs hP hD hS => ?_)
            generalize hg_127 : upd g_122 ((nI (20 + i)) : Int32).toNatClampNeg v_126 = g_127 at hP hD
            have hM_127 : okM g_127 w9 k9 h9 := okM_off (i := (20 + i)) hM_122 hg_127 (by omega) (by omega) (by omega) (by omega) (by omega)
            have hP : va_P (dC, dI) vwCl [(mo, .inr (8, [.ref m_la, .ref m_sz, .ref m_it, .int ms, .int mt, .ref m_st, .ref m_mv, .ref m_tp, .int (nI mz), .int ml, .int (nI mp), .int mk, .int mv, .int mb, .int mw, .ref m_rd, .ref m_ac, .int (nI ma), .ref m_as, .ref m_wo, .ref m_ik, .ref m_ke, .ref m_tr, .int (nI mx)])), (m_st, .inl (cI, 38, .inl g_127))] H := hP
            have hD : va_D A [(mo, .inr (8, [.ref m_la, .ref m_sz, .ref m_it, .int ms, .int mt, .ref m_st, .ref m_mv, .ref m_tp, .int (nI mz), .int ml, .int (nI mp), .int mk, .int mv, .int mb, .int mw, .ref m_rd, .ref m_ac, .int (nI ma), .ref m_as, .ref m_wo, .ref m_ik, .ref m_ke, .ref m_tr, .int (nI mx)])), (m_st, .inl (cI, 38, .inl g_127))] := hD
            refine lv_aload_n hx hb dX8_drift_158 rfl (lv_at hl 4 rfl) ?_
            refine va_get (D := (dC, dI)) (ci := 8) (v := .ref m_st) (C := RX8) (T := TX8) (N := 24) hx hb hts i_X8_drift_X8 hown hK hP 0 rfl rfl 5 (by decide) (hts (.fieldLink RX8 19 "MillTalkModel" "st" "[I") (by decide +kernel)) (fun _ h9 => h9) rfl dX8_drift_159 ?_
            refine lv_bipush (v := 32) hx hb dX8_drift_162 (by decide) ?_
            refine lv_iload_n hx hb dX8_drift_164 rfl (lv_at hl 5 rfl) ?_
            refine lv_iadd hx hb dX8_drift_165 ?_
            refine lv_topi (fun v_128 e_128 => ?_)
            obtain rfl : v_128 = (nI (32 + i)) := (e_128).trans (nI_add 32 i)
            refine lv_iload hx hb dX8_drift_166 (lv_at hl 0 rfl) ?_
            refine lv_if_eq (tgt := 183) hx hb dX8_drift_168 (by decide) (fun c_ => absurd c_ (by decide)) (fun _ => ?_)
            refine lv_aload_n hx hb dX8_drift_171 rfl (lv_at hl 4 rfl) ?_
            refine va_get (D := (dC, dI)) (ci := 8) (v := .ref m_st) (C := RX8) (T := TX8) (N := 24) hx hb hts i_X8_drift_X8 hown hK hP 0 rfl rfl 5 (by decide) (hts (.fieldLink RX8 19 "MillTalkModel" "st" "[I") (by decide +kernel)) (fun _ h9 => h9) rfl dX8_drift_172 ?_
            refine lv_bipush (v := 32) hx hb dX8_drift_175 (by decide) ?_
            refine lv_iload_n hx hb dX8_drift_177 rfl (lv_at hl 5 rfl) ?_
            refine lv_iadd hx hb dX8_drift_178 ?_
            refine lv_topi (fun v_130 e_130 => ?_)
            obtain rfl : v_130 = (nI (32 + i)) := (e_130).trans (nI_add 32 i)
            refine va_iald hx hb hK hP 1 0 rfl rfl (vp_in_nI (by omega) (by omega)) dX8_drift_179 ?_
            obtain ⟨L_131, hL1_131, hL2_131, hLe_131⟩ := hM_127.2.2.2.2.2.2.2 i (by omega)
            refine lv_topi (fun v_131 e_131 => ?_)
            obtain rfl : v_131 = nI L_131 := e_131.trans (by rw [nI_clamp (by omega)]; exact hLe_131)
            refine lv_goto (tgt := 185) hx hb dX8_drift_180 (by decide) ?_
            refine va_iast hx hb hK hP hD hS 1 0 rfl rfl (vp_in_nI (by omega) (by omega)) dX8_drift_185 (fun H locs hP hD hS => ?_)
            generalize hg_132 : upd g_127 ((nI (32 + i)) : Int32).toNatClampNeg (nI L_131) = g_132 at hP hD
            have hM_132 : okM g_132 w9 k9 h9 := okM_loud hM_127 hg_132 (by omega) (by omega) (by omega)
            have hP : va_P (dC, dI) vwCl [(mo, .inr (8, [.ref m_la, .ref m_sz, .ref m_it, .int ms, .int mt, .ref m_st, .ref m_mv, .ref m_tp, .int (nI mz), .int ml, .int (nI mp), .int mk, .int mv, .int mb, .int mw, .ref m_rd, .ref m_ac, .int (nI ma), .ref m_as, .ref m_wo, .ref m_ik, .ref m_ke, .ref m_tr, .int (nI mx)])), (m_st, .inl (cI, 38, .inl g_132))] H := hP
            have hD : va_D A [(mo, .inr (8, [.ref m_la, .ref m_sz, .ref m_it, .int ms, .int mt, .ref m_st, .ref m_mv, .ref m_tp, .int (nI mz), .int ml, .int (nI mp), .int mk, .int mv, .int mb, .int mw, .ref m_rd, .ref m_ac, .int (nI ma), .ref m_as, .ref m_wo, .ref m_ik, .ref m_ke, .ref m_tr, .int (nI mx)])), (m_st, .inl (cI, 38, .inl g_132))] := hD
            have hP9 := hP.sub (ws' := [(mo, .inr (8, [.ref m_la, .ref m_sz, .ref m_it, .int ms, .int mt, .ref m_st, .ref m_mv, .ref m_tp, .int (nI mz), .int ml, .int (nI mp), .int mk, .int mv, .int mb, .int mw, .ref m_rd, .ref m_ac, .int (nI ma), .ref m_as, .ref m_wo, .ref m_ik, .ref m_ke, .ref m_tr, .int (nI mx)])), (m_st, .inl (cI, 38, .inl g_132))]) [0, 1] rfl
            have hD9 := hD.sub (ws' := [(mo, .inr (8, [.ref m_la, .ref m_sz, .ref m_it, .int ms, .int mt, .ref m_st, .ref m_mv, .ref m_tp, .int (nI mz), .int ml, .int (nI mp), .int mk, .int mv, .int mb, .int mw, .ref m_rd, .ref m_ac, .int (nI ma), .ref m_as, .ref m_wo, .ref m_ik, .ref m_ke, .ref m_tr, .int (nI mx)])), (m_st, .inl (cI, 38, .inl g_132))]) [0, 1] (by decide) rfl
            exact W.vret hx hb hr (fun t ht hW => ⟨⟨(), rfl, trivial, ⟨g_132, by rw [ht]; exact hP9, hD9, hM_132⟩⟩, hS.F ht⟩) hS.2.2 dX8_drift_186
  · skip
    refine lv_aload_n hx hb dX8_drift_32 rfl (lv_at hl 2 rfl) ?_
    refine va_get (D := (dC, dI)) (ci := 8) (v := .ref m_st) (C := RX8) (T := TX8) (N := 24) hx hb hts i_X8_drift_X8 hown hK hP 0 rfl rfl 5 (by decide) (hts (.fieldLink RX8 19 "MillTalkModel" "st" "[I") (by decide +kernel)) (fun _ h9 => h9) rfl dX8_drift_33 ?_
    refine lv_bipush (v := 32) hx hb dX8_drift_36 (by decide) ?_
    refine lv_iload_n hx hb dX8_drift_38 rfl (lv_at hl 3 rfl) ?_
    refine lv_iadd hx hb dX8_drift_39 ?_
    refine lv_topi (fun v_133 e_133 => ?_)
    obtain rfl : v_133 = (nI (32 + i)) := (e_133).trans (nI_add 32 i)
    refine va_iald hx hb hK hP 1 0 rfl rfl (vp_in_nI (by omega) (by omega)) dX8_drift_40 ?_
    obtain ⟨L_134, hL1_134, hL2_134, hLe_134⟩ := hM.2.2.2.2.2.2.2 i (by omega)
    refine lv_topi (fun v_134 e_134 => ?_)
    obtain rfl : v_134 = nI L_134 := e_134.trans (by rw [nI_clamp (by omega)]; exact hLe_134)
    refine lv_iconst (v := 1) hx hb dX8_drift_41 (by decide) ?_
    refine lv_isub hx hb dX8_drift_42 ?_
    refine lv_topi (fun v_135 e_135 => ?_)
    obtain rfl : v_135 = (nI (L_134 - 1)) := (e_135).trans (pk_sub (a := L_134) (b := 1) (by omega))
    refine lv_goto (tgt := 88) hx hb dX8_drift_43 (by decide) ?_
    refine lv_istore (lv' := [(5, .int (nI (L_134 - 1))), (4, .int v_6), (3, .int v_2), (0, .ref mo), (1, .int (nI i)), (2, .int n)]) hx hb dX8_drift_88 hl (by decide) rfl (fun ls hl => ?_)
    refine lv_aload_n hx hb dX8_drift_90 rfl (lv_at hl 3 rfl) ?_
    refine lv_iload hx hb dX8_drift_91 (lv_at hl 1 rfl) ?_
    have hPc_136 := hP.sub (ws' := [(mo, .inr (8, [.ref m_la, .ref m_sz, .ref m_it, .int ms, .int mt, .ref m_st, .ref m_mv, .ref m_tp, .int (nI mz), .int ml, .int (nI mp), .int mk, .int mv, .int mb, .int mw, .ref m_rd, .ref m_ac, .int (nI ma), .ref m_as, .ref m_wo, .ref m_ik, .ref m_ke, .ref m_tr, .int (nI mx)])), (m_st, .inl (cI, 38, .inl fs))]) [0, 1] rfl
    refine vp_callSi (W.runV (As := [.int v_6]) (rest := []) ⟨hx, hb, hml, hown, hts⟩ (r_X8_isCell l dC dI cI cZ cL cJ mo m_la m_sz m_it m_st m_mv m_tp m_rd m_ac m_as m_wo m_ik m_ke m_tr ms mt ml mk mv mb mw mz mp ma mx fs w9 k9 h9 v_6 (hM)) (cwV 1 hts gX8_drift_X8_isCell rfl rfl rfl (by decide +kernel) ⟨Nat.le_of_ble_eq_true rfl, Nat.le_of_ble_eq_true rfl⟩) ⟨fun a U g mk q => by obtain ⟨q0, qP, qK⟩ := q; exact ⟨q0, qP, va_K.moved (u := U) (U := U.calling g mk a) (Vm.Alike.refl U.vm) qK⟩, va_recv hK hP (ci := 8) (q0 := 0) rfl rfl, fun U hU hW => ⟨rfl, by rw [hU]; exact hPc_136, va_K.moved hW.alike hK⟩⟩ rfl rfl hl.1 rfl (lv_room (Nat.le_of_ble_eq_true rfl)) dX8_drift_93 ⟨Nat.le_of_ble_eq_true rfl, Nat.le_of_ble_eq_true rfl⟩) (fun r_136 h_136 => ?_)
    refine lv_if_eq (tgt := 104) hx hb dX8_drift_96 (by decide) (fun c_137 => ?_) (fun c_137 => ?_)
    · skip
      refine lv_iconst (v := 1) hx hb dX8_drift_104 (by decide) ?_
      refine lv_goto (tgt := 109) hx hb dX8_drift_105 (by decide) ?_
      refine lv_istore (lv' := [(6, .int 1), (5, .int (nI (L_134 - 1))), (4, .int v_6), (3, .int v_2), (0, .ref mo), (1, .int (nI i)), (2, .int n)]) hx hb dX8_drift_109 hl (by decide) rfl (fun ls hl => ?_)
      refine lv_aload_n hx hb dX8_drift_111 rfl (lv_at hl 4 rfl) ?_
      refine va_get (D := (dC, dI)) (ci := 8) (v := .ref m_st) (C := RX8) (T := TX8) (N := 24) hx hb hts i_X8_drift_X8 hown hK hP 0 rfl rfl 5 (by decide) (hts (.fieldLink RX8 19 "MillTalkModel" "st" "[I") (by decide +kernel)) (fun _ h9 => h9) rfl dX8_drift_112 ?_
      refine lv_bipush (v := 26) hx hb dX8_drift_115 (by decide) ?_
      refine lv_iload_n hx hb dX8_drift_117 rfl (lv_at hl 5 rfl) ?_
      refine lv_iadd hx hb dX8_drift_118 ?_
      refine lv_topi (fun v_138 e_138 => ?_)
      obtain rfl : v_138 = (nI (26 + i)) := (e_138).trans (nI_add 26 i)
      refine lv_iload hx hb dX8_drift_119 (lv_at hl 0 rfl) ?_
      refine lv_if_eq (tgt := 128) hx hb dX8_drift_121 (by decide) (fun c_ => absurd c_ (by decide)) (fun _ => ?_)
      refine lv_iconst (v := 2) hx hb dX8_drift_124 (by decide) ?_
      refine lv_goto (tgt := 129) hx hb dX8_drift_125 (by decide) ?_
      refine va_iast hx hb hK hP hD hS 1 0 rfl rfl (vp_in_nI (by omega) (by omega)) dX8_drift_129 (fun H locs hP hD hS => ?_)
      generalize hg_140 : upd fs ((nI (26 + i)) : Int32).toNatClampNeg 2 = g_140 at hP hD
      have hM_140 : okM g_140 w9 k9 h9 := okM_off (i := (26 + i)) hM hg_140 (by omega) (by omega) (by omega) (by omega) (by omega)
      have hP : va_P (dC, dI) vwCl [(mo, .inr (8, [.ref m_la, .ref m_sz, .ref m_it, .int ms, .int mt, .ref m_st, .ref m_mv, .ref m_tp, .int (nI mz), .int ml, .int (nI mp), .int mk, .int mv, .int mb, .int mw, .ref m_rd, .ref m_ac, .int (nI ma), .ref m_as, .ref m_wo, .ref m_ik, .ref m_ke, .ref m_tr, .int (nI mx)])), (m_st, .inl (cI, 38, .inl g_140))] H := hP
      have hD : va_D A [(mo, .inr (8, [.ref m_la, .ref m_sz, .ref m_it, .int ms, .int mt, .ref m_st, .ref m_mv, .ref m_tp, .int (nI mz), .int ml, .int (nI mp), .int mk, .int mv, .int mb, .int mw, .ref m_rd, .ref m_ac, .int (nI ma), .ref m_as, .ref m_wo, .ref m_ik, .ref m_ke, .ref m_tr, .int (nI mx)])), (m_st, .inl (cI, 38, .inl g_140))] := hD
      refine lv_aload_n hx hb dX8_drift_130 rfl (lv_at hl 4 rfl) ?_
      refine va_get (D := (dC, dI)) (ci := 8) (v := .ref m_st) (C := RX8) (T := TX8) (N := 24) hx hb hts i_X8_drift_X8 hown hK hP 0 rfl rfl 5 (by decide) (hts (.fieldLink RX8 19 "MillTalkModel" "st" "[I") (by decide +kernel)) (fun _ h9 => h9) rfl dX8_drift_131 ?_
      refine lv_bipush (v := 20) hx hb dX8_drift_134 (by decide) ?_
      refine lv_iload_n hx hb dX8_drift_136 rfl (lv_at hl 5 rfl) ?_
      refine lv_iadd hx hb dX8_drift_137 ?_
      refine lv_topi (fun v_141 e_141 => ?_)
      obtain rfl : v_141 = (nI (20 + i)) := (e_141).trans (nI_add 20 i)
      refine lv_iload hx hb dX8_drift_138 (lv_at hl 0 rfl) ?_
      refine lv_if_eq (tgt := 155) hx hb dX8_drift_140 (by decide) (fun c_ => absurd c_ (by decide)) (fun _ => ?_)
      refine lv_aload_n hx hb dX8_drift_143 rfl (lv_at hl 4 rfl) ?_
      refine va_get (D := (dC, dI)) (ci := 8) (v := .ref m_st) (C := RX8) (T := TX8) (N := 24) hx hb hts i_X8_drift_X8 hown hK hP 0 rfl rfl 5 (by decide) (hts (.fieldLink RX8 19 "MillTalkModel" "st" "[I") (by decide +kernel)) (fun _ h9 => h9) rfl dX8_drift_144 ?_
      refine lv_bipush (v := 20) hx hb dX8_drift_147 (by decide) ?_
      refine lv_iload_n hx hb dX8_drift_149 rfl (lv_at hl 5 rfl) ?_
      refine lv_iadd hx hb dX8_drift_150 ?_
      refine lv_topi (fun v_143 e_143 => ?_)
      obtain rfl : v_143 = (nI (20 + i)) := (e_143).trans (nI_add 20 i)
      refine va_iald hx hb hK hP 1 0 rfl rfl (vp_in_nI (by omega) (by omega)) dX8_drift_151 ?_
      refine lv_topi (fun v_144 e_144 => ?_)
      refine lv_goto (tgt := 157) hx hb dX8_drift_152 (by decide) ?_
      refine va_iast hx hb hK hP hD hS 1 0 rfl rfl (vp_in_nI (by omega) (by omega)) dX8_drift_157 (fun H locs hP hD hS => ?_)
      generalize hg_145 : upd g_140 ((nI (20 + i)) : Int32).toNatClampNeg v_144 = g_145 at hP hD
      have hM_145 : okM g_145 w9 k9 h9 := okM_off (i := (20 + i)) hM_140 hg_145 (by omega) (by omega) (by omega) (by omega) (by omega)
      have hP : va_P (dC, dI) vwCl [(mo, .inr (8, [.ref m_la, .ref m_sz, .ref m_it, .int ms, .int mt, .ref m_st, .ref m_mv, .ref m_tp, .int (nI mz), .int ml, .int (nI mp), .int mk, .int mv, .int mb, .int mw, .ref m_rd, .ref m_ac, .int (nI ma), .ref m_as, .ref m_wo, .ref m_ik, .ref m_ke, .ref m_tr, .int (nI mx)])), (m_st, .inl (cI, 38, .inl g_145))] H := hP
      have hD : va_D A [(mo, .inr (8, [.ref m_la, .ref m_sz, .ref m_it, .int ms, .int mt, .ref m_st, .ref m_mv, .ref m_tp, .int (nI mz), .int ml, .int (nI mp), .int mk, .int mv, .int mb, .int mw, .ref m_rd, .ref m_ac, .int (nI ma), .ref m_as, .ref m_wo, .ref m_ik, .ref m_ke, .ref m_tr, .int (nI mx)])), (m_st, .inl (cI, 38, .inl g_145))] := hD
      refine lv_aload_n hx hb dX8_drift_158 rfl (lv_at hl 4 rfl) ?_
      refine va_get (D := (dC, dI)) (ci := 8) (v := .ref m_st) (C := RX8) (T := TX8) (N := 24) hx hb hts i_X8_drift_X8 hown hK hP 0 rfl rfl 5 (by decide) (hts (.fieldLink RX8 19 "MillTalkModel" "st" "[I") (by decide +kernel)) (fun _ h9 => h9) rfl dX8_drift_159 ?_
      refine lv_bipush (v := 32) hx hb dX8_drift_162 (by decide) ?_
      refine lv_iload_n hx hb dX8_drift_164 rfl (lv_at hl 5 rfl) ?_
      refine lv_iadd hx hb dX8_drift_165 ?_
      refine lv_topi (fun v_146 e_146 => ?_)
      obtain rfl : v_146 = (nI (32 + i)) := (e_146).trans (nI_add 32 i)
      refine lv_iload hx hb dX8_drift_166 (lv_at hl 0 rfl) ?_
      refine lv_if_eq (tgt := 183) hx hb dX8_drift_168 (by decide) (fun c_ => absurd c_ (by decide)) (fun _ => ?_)
      refine lv_aload_n hx hb dX8_drift_171 rfl (lv_at hl 4 rfl) ?_
      refine va_get (D := (dC, dI)) (ci := 8) (v := .ref m_st) (C := RX8) (T := TX8) (N := 24) hx hb hts i_X8_drift_X8 hown hK hP 0 rfl rfl 5 (by decide) (hts (.fieldLink RX8 19 "MillTalkModel" "st" "[I") (by decide +kernel)) (fun _ h9 => h9) rfl dX8_drift_172 ?_
      refine lv_bipush (v := 32) hx hb dX8_drift_175 (by decide) ?_
      refine lv_iload_n hx hb dX8_drift_177 rfl (lv_at hl 5 rfl) ?_
      refine lv_iadd hx hb dX8_drift_178 ?_
      refine lv_topi (fun v_148 e_148 => ?_)
      obtain rfl : v_148 = (nI (32 + i)) := (e_148).trans (nI_add 32 i)
      refine va_iald hx hb hK hP 1 0 rfl rfl (vp_in_nI (by omega) (by omega)) dX8_drift_179 ?_
      obtain ⟨L_149, hL1_149, hL2_149, hLe_149⟩ := hM_145.2.2.2.2.2.2.2 i (by omega)
      refine lv_topi (fun v_149 e_149 => ?_)
      obtain rfl : v_149 = nI L_149 := e_149.trans (by rw [nI_clamp (by omega)]; exact hLe_149)
      refine lv_goto (tgt := 185) hx hb dX8_drift_180 (by decide) ?_
      refine va_iast hx hb hK hP hD hS 1 0 rfl rfl (vp_in_nI (by omega) (by omega)) dX8_drift_185 (fun H locs hP hD hS => ?_)
      generalize hg_150 : upd g_145 ((nI (32 + i)) : Int32).toNatClampNeg (nI L_149) = g_150 at hP hD
      have hM_150 : okM g_150 w9 k9 h9 := okM_loud hM_145 hg_150 (by omega) (by omega) (by omega)
      have hP : va_P (dC, dI) vwCl [(mo, .inr (8, [.ref m_la, .ref m_sz, .ref m_it, .int ms, .int mt, .ref m_st, .ref m_mv, .ref m_tp, .int (nI mz), .int ml, .int (nI mp), .int mk, .int mv, .int mb, .int mw, .ref m_rd, .ref m_ac, .int (nI ma), .ref m_as, .ref m_wo, .ref m_ik, .ref m_ke, .ref m_tr, .int (nI mx)])), (m_st, .inl (cI, 38, .inl g_150))] H := hP
      have hD : va_D A [(mo, .inr (8, [.ref m_la, .ref m_sz, .ref m_it, .int ms, .int mt, .ref m_st, .ref m_mv, .ref m_tp, .int (nI mz), .int ml, .int (nI mp), .int mk, .int mv, .int mb, .int mw, .ref m_rd, .ref m_ac, .int (nI ma), .ref m_as, .ref m_wo, .ref m_ik, .ref m_ke, .ref m_tr, .int (nI mx)])), (m_st, .inl (cI, 38, .inl g_150))] := hD
      have hP9 := hP.sub (ws' := [(mo, .inr (8, [.ref m_la, .ref m_sz, .ref m_it, .int ms, .int mt, .ref m_st, .ref m_mv, .ref m_tp, .int (nI mz), .int ml, .int (nI mp), .int mk, .int mv, .int mb, .int mw, .ref m_rd, .ref m_ac, .int (nI ma), .ref m_as, .ref m_wo, .ref m_ik, .ref m_ke, .ref m_tr, .int (nI mx)])), (m_st, .inl (cI, 38, .inl g_150))]) [0, 1] rfl
      have hD9 := hD.sub (ws' := [(mo, .inr (8, [.ref m_la, .ref m_sz, .ref m_it, .int ms, .int mt, .ref m_st, .ref m_mv, .ref m_tp, .int (nI mz), .int ml, .int (nI mp), .int mk, .int mv, .int mb, .int mw, .ref m_rd, .ref m_ac, .int (nI ma), .ref m_as, .ref m_wo, .ref m_ik, .ref m_ke, .ref m_tr, .int (nI mx)])), (m_st, .inl (cI, 38, .inl g_150))]) [0, 1] (by decide) rfl
      exact W.vret hx hb hr (fun t ht hW => ⟨⟨(), rfl, trivial, ⟨g_150, by rw [ht]; exact hP9, hD9, hM_150⟩⟩, hS.F ht⟩) hS.2.2 dX8_drift_186
    · skip
      refine lv_iload hx hb dX8_drift_99 (lv_at hl 0 rfl) ?_
      refine lv_if_ne (tgt := 108) hx hb dX8_drift_101 (by decide) (fun c_151 => ?_) (fun c_151 => ?_)
      · have c_151 : ¬ ((L_134 - 1) = 0) := fun q_ => c_151 ((nI_eq (a := (L_134 - 1)) (b := 0) (by omega) (by omega)).mpr q_)
        refine lv_iconst (v := 0) hx hb dX8_drift_108 (by decide) ?_
        refine lv_istore (lv' := [(6, .int 0), (5, .int (nI (L_134 - 1))), (4, .int v_6), (3, .int v_2), (0, .ref mo), (1, .int (nI i)), (2, .int n)]) hx hb dX8_drift_109 hl (by decide) rfl (fun ls hl => ?_)
        refine lv_aload_n hx hb dX8_drift_111 rfl (lv_at hl 4 rfl) ?_
        refine va_get (D := (dC, dI)) (ci := 8) (v := .ref m_st) (C := RX8) (T := TX8) (N := 24) hx hb hts i_X8_drift_X8 hown hK hP 0 rfl rfl 5 (by decide) (hts (.fieldLink RX8 19 "MillTalkModel" "st" "[I") (by decide +kernel)) (fun _ h9 => h9) rfl dX8_drift_112 ?_
        refine lv_bipush (v := 26) hx hb dX8_drift_115 (by decide) ?_
        refine lv_iload_n hx hb dX8_drift_117 rfl (lv_at hl 5 rfl) ?_
        refine lv_iadd hx hb dX8_drift_118 ?_
        refine lv_topi (fun v_152 e_152 => ?_)
        obtain rfl : v_152 = (nI (26 + i)) := (e_152).trans (nI_add 26 i)
        refine lv_iload hx hb dX8_drift_119 (lv_at hl 0 rfl) ?_
        refine lv_if_eq (tgt := 128) hx hb dX8_drift_121 (by decide) (fun _ => ?_) (fun c_ => absurd (by decide) c_)
        refine lv_iconst (v := 0) hx hb dX8_drift_128 (by decide) ?_
        refine va_iast hx hb hK hP hD hS 1 0 rfl rfl (vp_in_nI (by omega) (by omega)) dX8_drift_129 (fun H locs hP hD hS => ?_)
        generalize hg_154 : upd fs ((nI (26 + i)) : Int32).toNatClampNeg 0 = g_154 at hP hD
        have hM_154 : okM g_154 w9 k9 h9 := okM_off (i := (26 + i)) hM hg_154 (by omega) (by omega) (by omega) (by omega) (by omega)
        have hP : va_P (dC, dI) vwCl [(mo, .inr (8, [.ref m_la, .ref m_sz, .ref m_it, .int ms, .int mt, .ref m_st, .ref m_mv, .ref m_tp, .int (nI mz), .int ml, .int (nI mp), .int mk, .int mv, .int mb, .int mw, .ref m_rd, .ref m_ac, .int (nI ma), .ref m_as, .ref m_wo, .ref m_ik, .ref m_ke, .ref m_tr, .int (nI mx)])), (m_st, .inl (cI, 38, .inl g_154))] H := hP
        have hD : va_D A [(mo, .inr (8, [.ref m_la, .ref m_sz, .ref m_it, .int ms, .int mt, .ref m_st, .ref m_mv, .ref m_tp, .int (nI mz), .int ml, .int (nI mp), .int mk, .int mv, .int mb, .int mw, .ref m_rd, .ref m_ac, .int (nI ma), .ref m_as, .ref m_wo, .ref m_ik, .ref m_ke, .ref m_tr, .int (nI mx)])), (m_st, .inl (cI, 38, .inl g_154))] := hD
        refine lv_aload_n hx hb dX8_drift_130 rfl (lv_at hl 4 rfl) ?_
        refine va_get (D := (dC, dI)) (ci := 8) (v := .ref m_st) (C := RX8) (T := TX8) (N := 24) hx hb hts i_X8_drift_X8 hown hK hP 0 rfl rfl 5 (by decide) (hts (.fieldLink RX8 19 "MillTalkModel" "st" "[I") (by decide +kernel)) (fun _ h9 => h9) rfl dX8_drift_131 ?_
        refine lv_bipush (v := 20) hx hb dX8_drift_134 (by decide) ?_
        refine lv_iload_n hx hb dX8_drift_136 rfl (lv_at hl 5 rfl) ?_
        refine lv_iadd hx hb dX8_drift_137 ?_
        refine lv_topi (fun v_155 e_155 => ?_)
        obtain rfl : v_155 = (nI (20 + i)) := (e_155).trans (nI_add 20 i)
        refine lv_iload hx hb dX8_drift_138 (lv_at hl 0 rfl) ?_
        refine lv_if_eq (tgt := 155) hx hb dX8_drift_140 (by decide) (fun _ => ?_) (fun c_ => absurd (by decide) c_)
        refine lv_iload hx hb dX8_drift_155 (lv_at hl 2 rfl) ?_
        refine va_iast hx hb hK hP hD hS 1 0 rfl rfl (vp_in_nI (by omega) (by omega)) dX8_drift_157 (fun H locs hP hD hS => ?_)
        generalize hg_157 : upd g_154 ((nI (20 + i)) : Int32).toNatClampNeg v_6 = g_157 at hP hD
        have hM_157 : okM g_157 w9 k9 h9 := okM_off (i := (20 + i)) hM_154 hg_157 (by omega) (by omega) (by omega) (by omega) (by omega)
        have hP : va_P (dC, dI) vwCl [(mo, .inr (8, [.ref m_la, .ref m_sz, .ref m_it, .int ms, .int mt, .ref m_st, .ref m_mv, .ref m_tp, .int (nI mz), .int ml, .int (nI mp), .int mk, .int mv, .int mb, .int mw, .ref m_rd, .ref m_ac, .int (nI ma), .ref m_as, .ref m_wo, .ref m_ik, .ref m_ke, .ref m_tr, .int (nI mx)])), (m_st, .inl (cI, 38, .inl g_157))] H := hP
        have hD : va_D A [(mo, .inr (8, [.ref m_la, .ref m_sz, .ref m_it, .int ms, .int mt, .ref m_st, .ref m_mv, .ref m_tp, .int (nI mz), .int ml, .int (nI mp), .int mk, .int mv, .int mb, .int mw, .ref m_rd, .ref m_ac, .int (nI ma), .ref m_as, .ref m_wo, .ref m_ik, .ref m_ke, .ref m_tr, .int (nI mx)])), (m_st, .inl (cI, 38, .inl g_157))] := hD
        refine lv_aload_n hx hb dX8_drift_158 rfl (lv_at hl 4 rfl) ?_
        refine va_get (D := (dC, dI)) (ci := 8) (v := .ref m_st) (C := RX8) (T := TX8) (N := 24) hx hb hts i_X8_drift_X8 hown hK hP 0 rfl rfl 5 (by decide) (hts (.fieldLink RX8 19 "MillTalkModel" "st" "[I") (by decide +kernel)) (fun _ h9 => h9) rfl dX8_drift_159 ?_
        refine lv_bipush (v := 32) hx hb dX8_drift_162 (by decide) ?_
        refine lv_iload_n hx hb dX8_drift_164 rfl (lv_at hl 5 rfl) ?_
        refine lv_iadd hx hb dX8_drift_165 ?_
        refine lv_topi (fun v_158 e_158 => ?_)
        obtain rfl : v_158 = (nI (32 + i)) := (e_158).trans (nI_add 32 i)
        refine lv_iload hx hb dX8_drift_166 (lv_at hl 0 rfl) ?_
        refine lv_if_eq (tgt := 183) hx hb dX8_drift_168 (by decide) (fun _ => ?_) (fun c_ => absurd (by decide) c_)
        refine lv_iload hx hb dX8_drift_183 (lv_at hl 1 rfl) ?_
        refine va_iast hx hb hK hP hD hS 1 0 rfl rfl (vp_in_nI (by omega) (by omega)) dX8_drift_185 (fun H locs hP hD hS => ?_)
        generalize hg_160 : upd g_157 ((nI (32 + i)) : Int32).toNatClampNeg (nI (L_134 - 1)) = g_160 at hP hD
        have hM_160 : okM g_160 w9 k9 h9 := okM_loud hM_157 hg_160 (by omega) (by omega) (by omega)
        have hP : va_P (dC, dI) vwCl [(mo, .inr (8, [.ref m_la, .ref m_sz, .ref m_it, .int ms, .int mt, .ref m_st, .ref m_mv, .ref m_tp, .int (nI mz), .int ml, .int (nI mp), .int mk, .int mv, .int mb, .int mw, .ref m_rd, .ref m_ac, .int (nI ma), .ref m_as, .ref m_wo, .ref m_ik, .ref m_ke, .ref m_tr, .int (nI mx)])), (m_st, .inl (cI, 38, .inl g_160))] H := hP
        have hD : va_D A [(mo, .inr (8, [.ref m_la, .ref m_sz, .ref m_it, .int ms, .int mt, .ref m_st, .ref m_mv, .ref m_tp, .int (nI mz), .int ml, .int (nI mp), .int mk, .int mv, .int mb, .int mw, .ref m_rd, .ref m_ac, .int (nI ma), .ref m_as, .ref m_wo, .ref m_ik, .ref m_ke, .ref m_tr, .int (nI mx)])), (m_st, .inl (cI, 38, .inl g_160))] := hD
        have hP9 := hP.sub (ws' := [(mo, .inr (8, [.ref m_la, .ref m_sz, .ref m_it, .int ms, .int mt, .ref m_st, .ref m_mv, .ref m_tp, .int (nI mz), .int ml, .int (nI mp), .int mk, .int mv, .int mb, .int mw, .ref m_rd, .ref m_ac, .int (nI ma), .ref m_as, .ref m_wo, .ref m_ik, .ref m_ke, .ref m_tr, .int (nI mx)])), (m_st, .inl (cI, 38, .inl g_160))]) [0, 1] rfl
        have hD9 := hD.sub (ws' := [(mo, .inr (8, [.ref m_la, .ref m_sz, .ref m_it, .int ms, .int mt, .ref m_st, .ref m_mv, .ref m_tp, .int (nI mz), .int ml, .int (nI mp), .int mk, .int mv, .int mb, .int mw, .ref m_rd, .ref m_ac, .int (nI ma), .ref m_as, .ref m_wo, .ref m_ik, .ref m_ke, .ref m_tr, .int (nI mx)])), (m_st, .inl (cI, 38, .inl g_160))]) [0, 1] (by decide) rfl
        exact W.vret hx hb hr (fun t ht hW => ⟨⟨(), rfl, trivial, ⟨g_160, by rw [ht]; exact hP9, hD9, hM_160⟩⟩, hS.F ht⟩) hS.2.2 dX8_drift_186
      · have c_151 : (L_134 - 1) = 0 := (nI_eq (a := (L_134 - 1)) (b := 0) (by omega) (by omega)).mp c_151
        refine lv_iconst (v := 1) hx hb dX8_drift_104 (by decide) ?_
        refine lv_goto (tgt := 109) hx hb dX8_drift_105 (by decide) ?_
        refine lv_istore (lv' := [(6, .int 1), (5, .int (nI (L_134 - 1))), (4, .int v_6), (3, .int v_2), (0, .ref mo), (1, .int (nI i)), (2, .int n)]) hx hb dX8_drift_109 hl (by decide) rfl (fun ls hl => ?_)
        refine lv_aload_n hx hb dX8_drift_111 rfl (lv_at hl 4 rfl) ?_
        refine va_get (D := (dC, dI)) (ci := 8) (v := .ref m_st) (C := RX8) (T := TX8) (N := 24) hx hb hts i_X8_drift_X8 hown hK hP 0 rfl rfl 5 (by decide) (hts (.fieldLink RX8 19 "MillTalkModel" "st" "[I") (by decide +kernel)) (fun _ h9 => h9) rfl dX8_drift_112 ?_
        refine lv_bipush (v := 26) hx hb dX8_drift_115 (by decide) ?_
        refine lv_iload_n hx hb dX8_drift_117 rfl (lv_at hl 5 rfl) ?_
        refine lv_iadd hx hb dX8_drift_118 ?_
        refine lv_topi (fun v_161 e_161 => ?_)
        obtain rfl : v_161 = (nI (26 + i)) := (e_161).trans (nI_add 26 i)
        refine lv_iload hx hb dX8_drift_119 (lv_at hl 0 rfl) ?_
        refine lv_if_eq (tgt := 128) hx hb dX8_drift_121 (by decide) (fun c_ => absurd c_ (by decide)) (fun _ => ?_)
        refine lv_iconst (v := 2) hx hb dX8_drift_124 (by decide) ?_
        refine lv_goto (tgt := 129) hx hb dX8_drift_125 (by decide) ?_
        refine va_iast hx hb hK hP hD hS 1 0 rfl rfl (vp_in_nI (by omega) (by omega)) dX8_drift_129 (fun H locs hP hD hS => ?_)
        generalize hg_163 : upd fs ((nI (26 + i)) : Int32).toNatClampNeg 2 = g_163 at hP hD
        have hM_163 : okM g_163 w9 k9 h9 := okM_off (i := (26 + i)) hM hg_163 (by omega) (by omega) (by omega) (by omega) (by omega)
        have hP : va_P (dC, dI) vwCl [(mo, .inr (8, [.ref m_la, .ref m_sz, .ref m_it, .int ms, .int mt, .ref m_st, .ref m_mv, .ref m_tp, .int (nI mz), .int ml, .int (nI mp), .int mk, .int mv, .int mb, .int mw, .ref m_rd, .ref m_ac, .int (nI ma), .ref m_as, .ref m_wo, .ref m_ik, .ref m_ke, .ref m_tr, .int (nI mx)])), (m_st, .inl (cI, 38, .inl g_163))] H := hP
        have hD : va_D A [(mo, .inr (8, [.ref m_la, .ref m_sz, .ref m_it, .int ms, .int mt, .ref m_st, .ref m_mv, .ref m_tp, .int (nI mz), .int ml, .int (nI mp), .int mk, .int mv, .int mb, .int mw, .ref m_rd, .ref m_ac, .int (nI ma), .ref m_as, .ref m_wo, .ref m_ik, .ref m_ke, .ref m_tr, .int (nI mx)])), (m_st, .inl (cI, 38, .inl g_163))] := hD
        refine lv_aload_n hx hb dX8_drift_130 rfl (lv_at hl 4 rfl) ?_
        refine va_get (D := (dC, dI)) (ci := 8) (v := .ref m_st) (C := RX8) (T := TX8) (N := 24) hx hb hts i_X8_drift_X8 hown hK hP 0 rfl rfl 5 (by decide) (hts (.fieldLink RX8 19 "MillTalkModel" "st" "[I") (by decide +kernel)) (fun _ h9 => h9) rfl dX8_drift_131 ?_
        refine lv_bipush (v := 20) hx hb dX8_drift_134 (by decide) ?_
        refine lv_iload_n hx hb dX8_drift_136 rfl (lv_at hl 5 rfl) ?_
        refine lv_iadd hx hb dX8_drift_137 ?_
        refine lv_topi (fun v_164 e_164 => ?_)
        obtain rfl : v_164 = (nI (20 + i)) := (e_164).trans (nI_add 20 i)
        refine lv_iload hx hb dX8_drift_138 (lv_at hl 0 rfl) ?_
        refine lv_if_eq (tgt := 155) hx hb dX8_drift_140 (by decide) (fun c_ => absurd c_ (by decide)) (fun _ => ?_)
        refine lv_aload_n hx hb dX8_drift_143 rfl (lv_at hl 4 rfl) ?_
        refine va_get (D := (dC, dI)) (ci := 8) (v := .ref m_st) (C := RX8) (T := TX8) (N := 24) hx hb hts i_X8_drift_X8 hown hK hP 0 rfl rfl 5 (by decide) (hts (.fieldLink RX8 19 "MillTalkModel" "st" "[I") (by decide +kernel)) (fun _ h9 => h9) rfl dX8_drift_144 ?_
        refine lv_bipush (v := 20) hx hb dX8_drift_147 (by decide) ?_
        refine lv_iload_n hx hb dX8_drift_149 rfl (lv_at hl 5 rfl) ?_
        refine lv_iadd hx hb dX8_drift_150 ?_
        refine lv_topi (fun v_166 e_166 => ?_)
        obtain rfl : v_166 = (nI (20 + i)) := (e_166).trans (nI_add 20 i)
        refine va_iald hx hb hK hP 1 0 rfl rfl (vp_in_nI (by omega) (by omega)) dX8_drift_151 ?_
        refine lv_topi (fun v_167 e_167 => ?_)
        refine lv_goto (tgt := 157) hx hb dX8_drift_152 (by decide) ?_
        refine va_iast hx hb hK hP hD hS 1 0 rfl rfl (vp_in_nI (by omega) (by omega)) dX8_drift_157 (fun H locs hP hD hS => ?_)
        generalize hg_168 : upd g_163 ((nI (20 + i)) : Int32).toNatClampNeg v_167 = g_168 at hP hD
        have hM_168 : okM g_168 w9 k9 h9 := okM_off (i := (20 + i)) hM_163 hg_168 (by omega) (by omega) (by omega) (by omega) (by omega)
        have hP : va_P (dC, dI) vwCl [(mo, .inr (8, [.ref m_la, .ref m_sz, .ref m_it, .int ms, .int mt, .ref m_st, .ref m_mv, .ref m_tp, .int (nI mz), .int ml, .int (nI mp), .int mk, .int mv, .int mb, .int mw, .ref m_rd, .ref m_ac, .int (nI ma), .ref m_as, .ref m_wo, .ref m_ik, .ref m_ke, .ref m_tr, .int (nI mx)])), (m_st, .inl (cI, 38, .inl g_168))] H := hP
        have hD : va_D A [(mo, .inr (8, [.ref m_la, .ref m_sz, .ref m_it, .int ms, .int mt, .ref m_st, .ref m_mv, .ref m_tp, .int (nI mz), .int ml, .int (nI mp), .int mk, .int mv, .int mb, .int mw, .ref m_rd, .ref m_ac, .int (nI ma), .ref m_as, .ref m_wo, .ref m_ik, .ref m_ke, .ref m_tr, .int (nI mx)])), (m_st, .inl (cI, 38, .inl g_168))] := hD
        refine lv_aload_n hx hb dX8_drift_158 rfl (lv_at hl 4 rfl) ?_
        refine va_get (D := (dC, dI)) (ci := 8) (v := .ref m_st) (C := RX8) (T := TX8) (N := 24) hx hb hts i_X8_drift_X8 hown hK hP 0 rfl rfl 5 (by decide) (hts (.fieldLink RX8 19 "MillTalkModel" "st" "[I") (by decide +kernel)) (fun _ h9 => h9) rfl dX8_drift_159 ?_
        refine lv_bipush (v := 32) hx hb dX8_drift_162 (by decide) ?_
        refine lv_iload_n hx hb dX8_drift_164 rfl (lv_at hl 5 rfl) ?_
        refine lv_iadd hx hb dX8_drift_165 ?_
        refine lv_topi (fun v_169 e_169 => ?_)
        obtain rfl : v_169 = (nI (32 + i)) := (e_169).trans (nI_add 32 i)
        refine lv_iload hx hb dX8_drift_166 (lv_at hl 0 rfl) ?_
        refine lv_if_eq (tgt := 183) hx hb dX8_drift_168 (by decide) (fun c_ => absurd c_ (by decide)) (fun _ => ?_)
        refine lv_aload_n hx hb dX8_drift_171 rfl (lv_at hl 4 rfl) ?_
        refine va_get (D := (dC, dI)) (ci := 8) (v := .ref m_st) (C := RX8) (T := TX8) (N := 24) hx hb hts i_X8_drift_X8 hown hK hP 0 rfl rfl 5 (by decide) (hts (.fieldLink RX8 19 "MillTalkModel" "st" "[I") (by decide +kernel)) (fun _ h9 => h9) rfl dX8_drift_172 ?_
        refine lv_bipush (v := 32) hx hb dX8_drift_175 (by decide) ?_
        refine lv_iload_n hx hb dX8_drift_177 rfl (lv_at hl 5 rfl) ?_
        refine lv_iadd hx hb dX8_drift_178 ?_
        refine lv_topi (fun v_171 e_171 => ?_)
        obtain rfl : v_171 = (nI (32 + i)) := (e_171).trans (nI_add 32 i)
        refine va_iald hx hb hK hP 1 0 rfl rfl (vp_in_nI (by omega) (by omega)) dX8_drift_179 ?_
        obtain ⟨L_172, hL1_172, hL2_172, hLe_172⟩ := hM_168.2.2.2.2.2.2.2 i (by omega)
        refine lv_topi (fun v_172 e_172 => ?_)
        obtain rfl : v_172 = nI L_172 := e_172.trans (by rw [nI_clamp (by omega)]; exact hLe_172)
        refine lv_goto (tgt := 185) hx hb dX8_drift_180 (by decide) ?_
        refine va_iast hx hb hK hP hD hS 1 0 rfl rfl (vp_in_nI (by omega) (by omega)) dX8_drift_185 (fun H locs hP hD hS => ?_)
        generalize hg_173 : upd g_168 ((nI (32 + i)) : Int32).toNatClampNeg (nI L_172) = g_173 at hP hD
        have hM_173 : okM g_173 w9 k9 h9 := okM_loud hM_168 hg_173 (by omega) (by omega) (by omega)
        have hP : va_P (dC, dI) vwCl [(mo, .inr (8, [.ref m_la, .ref m_sz, .ref m_it, .int ms, .int mt, .ref m_st, .ref m_mv, .ref m_tp, .int (nI mz), .int ml, .int (nI mp), .int mk, .int mv, .int mb, .int mw, .ref m_rd, .ref m_ac, .int (nI ma), .ref m_as, .ref m_wo, .ref m_ik, .ref m_ke, .ref m_tr, .int (nI mx)])), (m_st, .inl (cI, 38, .inl g_173))] H := hP
        have hD : va_D A [(mo, .inr (8, [.ref m_la, .ref m_sz, .ref m_it, .int ms, .int mt, .ref m_st, .ref m_mv, .ref m_tp, .int (nI mz), .int ml, .int (nI mp), .int mk, .int mv, .int mb, .int mw, .ref m_rd, .ref m_ac, .int (nI ma), .ref m_as, .ref m_wo, .ref m_ik, .ref m_ke, .ref m_tr, .int (nI mx)])), (m_st, .inl (cI, 38, .inl g_173))] := hD
        have hP9 := hP.sub (ws' := [(mo, .inr (8, [.ref m_la, .ref m_sz, .ref m_it, .int ms, .int mt, .ref m_st, .ref m_mv, .ref m_tp, .int (nI mz), .int ml, .int (nI mp), .int mk, .int mv, .int mb, .int mw, .ref m_rd, .ref m_ac, .int (nI ma), .ref m_as, .ref m_wo, .ref m_ik, .ref m_ke, .ref m_tr, .int (nI mx)])), (m_st, .inl (cI, 38, .inl g_173))]) [0, 1] rfl
        have hD9 := hD.sub (ws' := [(mo, .inr (8, [.ref m_la, .ref m_sz, .ref m_it, .int ms, .int mt, .ref m_st, .ref m_mv, .ref m_tp, .int (nI mz), .int ml, .int (nI mp), .int mk, .int mv, .int mb, .int mw, .ref m_rd, .ref m_ac, .int (nI ma), .ref m_as, .ref m_wo, .ref m_ik, .ref m_ke, .ref m_tr, .int (nI mx)])), (m_st, .inl (cI, 38, .inl g_173))]) [0, 1] (by decide) rfl
        exact W.vret hx hb hr (fun t ht hW => ⟨⟨(), rfl, trivial, ⟨g_173, by rw [ht]; exact hP9, hD9, hM_173⟩⟩, hS.F ht⟩) hS.2.2 dX8_drift_186
set_option maxHeartbeats 4000000 in
set_option maxRecDepth 100000 in
theorem r_X8_oneHour (l : Launch) (dC : Nat → ClassId) (dI : Nat → Nat → Nat) (cI cZ cL cJ : ClassId) (sz : Nat) (mo : Nat) (m_la : Nat) (m_sz : Nat) (m_it : Nat) (m_st : Nat) (m_mv : Nat) (m_tp : Nat) (m_rd : Nat) (m_ac : Nat) (m_as : Nat) (m_wo : Nat) (m_ik : Nat) (m_ke : Nat) (m_tr : Nat) (ms : Int32) (mt : Int32) (ml : Int32) (mk : Int32) (mv : Int32) (mb : Int32) (mw : Int32) (mz : Nat) (mp : Nat) (ma : Nat) (mx : Nat) (fs : Nat → Int32) (w9 : Nat) (k9 : Nat) (h9 : Nat) (hM : okM fs w9 k9 h9) (hw1 : 1 ≤ w9) (hh9 : h9 < 2000000000) : Met l yX8_oneHour wsX8_oneHour ({ frames := 3, cells := 0, slots := 0, locals := 72 }) (va_Pc [.ref mo] (fun U => U.heap.size = sz ∧ va_P (dC, dI) vwCl [(mo, .inr (8, [.ref m_la, .ref m_sz, .ref m_it, .int ms, .int mt, .ref m_st, .ref m_mv, .ref m_tp, .int (nI mz), .int ml, .int (nI mp), .int mk, .int mv, .int mb, .int mw, .ref m_rd, .ref m_ac, .int (nI ma), .ref m_as, .ref m_wo, .ref m_ik, .ref m_ke, .ref m_tr, .int (nI mx)])), (m_st, .inl (cI, 38, .inl fs))] U.heap ∧ va_K (dC, dI) vwCl [(cI, .int), (cZ, .boolean), (cL, .object RX3), (cJ, .array .int)] U ∧ va_D (fun _ => True) [(mo, .inr (8, [.ref m_la, .ref m_sz, .ref m_it, .int ms, .int mt, .ref m_st, .ref m_mv, .ref m_tp, .int (nI mz), .int ml, .int (nI mp), .int mk, .int mv, .int mb, .int mw, .ref m_rd, .ref m_ac, .int (nI ma), .ref m_as, .ref m_wo, .ref m_ik, .ref m_ke, .ref m_tr, .int (nI mx)])), (m_st, .inl (cI, 38, .inl fs))])) (va_Qi (fun r (_ : Unit) => True) (fun (_ : Unit) t => ∃ (fsn : Nat → Int32), va_P (dC, dI) vwCl [(mo, .inr (8, [.ref m_la, .ref m_sz, .ref m_it, .int ms, .int mt, .ref m_st, .ref m_mv, .ref m_tp, .int (nI mz), .int ml, .int (nI mp), .int mk, .int mv, .int mb, .int mw, .ref m_rd, .ref m_ac, .int (nI ma), .ref m_as, .ref m_wo, .ref m_ik, .ref m_ke, .ref m_tr, .int (nI mx)])), (m_st, .inl (cI, 38, .inl fsn))] t.heap ∧ va_D (va_A [(mo, .inr (8, [.ref m_la, .ref m_sz, .ref m_it, .int ms, .int mt, .ref m_st, .ref m_mv, .ref m_tp, .int (nI mz), .int ml, .int (nI mp), .int mk, .int mv, .int mb, .int mw, .ref m_rd, .ref m_ac, .int (nI ma), .ref m_as, .ref m_wo, .ref m_ik, .ref m_ke, .ref m_tr, .int (nI mx)])), (m_st, .inl (cI, 38, .inl fs))] sz) [(mo, .inr (8, [.ref m_la, .ref m_sz, .ref m_it, .int ms, .int mt, .ref m_st, .ref m_mv, .ref m_tp, .int (nI mz), .int ml, .int (nI mp), .int mk, .int mv, .int mb, .int mw, .ref m_rd, .ref m_ac, .int (nI ma), .ref m_as, .ref m_wo, .ref m_ik, .ref m_ke, .ref m_tr, .int (nI mx)])), (m_st, .inl (cI, 38, .inl fsn))] ∧ okM fsn w9 k9 (h9 + 1)) (va_A [(mo, .inr (8, [.ref m_la, .ref m_sz, .ref m_it, .int ms, .int mt, .ref m_st, .ref m_mv, .ref m_tp, .int (nI mz), .int ml, .int (nI mp), .int mk, .int mv, .int mb, .int mw, .ref m_rd, .ref m_ac, .int (nI ma), .ref m_as, .ref m_wo, .ref m_ik, .ref m_ke, .ref m_tr, .int (nI mx)])), (m_st, .inl (cI, 38, .inl fs))] sz)) 0 0 (va_A [(mo, .inr (8, [.ref m_la, .ref m_sz, .ref m_it, .int ms, .int mt, .ref m_st, .ref m_mv, .ref m_tp, .int (nI mz), .int ml, .int (nI mp), .int mk, .int mv, .int mb, .int mw, .ref m_rd, .ref m_ac, .int (nI ma), .ref m_as, .ref m_wo, .ref m_ik, .ref m_ke, .ref m_tr, .int (nI mx)])), (m_st, .inl (cI, 38, .inl fs))] sz) := by
  refine Met.ofW (cc := cX8_oneHour) (maxL := 4) (ret := (some .int)) (by decide) rfl ?_
  intro p e s m args below meth c s₁ B hml hv
  obtain ⟨rfl, hsz, hP, hK, hD0⟩ := hv
  have hx := B.exec
  have hb := B.bytes
  have hr := B.returns
  have hts := atoms_spec (ws := wsX8_oneHour) B.pre
  have hown : s.vm.findClass RX8 = some m.cls := findClass_of_methodNamed B.named
  have hlocks := B.notSynchronized
  subst hsz
  have hD := hD0.self (sz := s.heap.size)
  generalize hAe : va_A [(mo, .inr (8, [.ref m_la, .ref m_sz, .ref m_it, .int ms, .int mt, .ref m_st, .ref m_mv, .ref m_tp, .int (nI mz), .int ml, .int (nI mp), .int mk, .int mv, .int mb, .int mw, .ref m_rd, .ref m_ac, .int (nI ma), .ref m_as, .ref m_wo, .ref m_ik, .ref m_ke, .ref m_tr, .int (nI mx)])), (m_st, .inl (cI, 38, .inl fs))] s.heap.size = A at hD ⊢
  have hA : ∀ q : Nat, s.heap.size ≤ q → A q := fun q h => by rw [← hAe]; exact Or.inr h
  have hS : va_S A s.heap s.heap [] := va_S.rf
  have hP : va_P (dC, dI) vwCl [(mo, .inr (8, [.ref m_la, .ref m_sz, .ref m_it, .int ms, .int mt, .ref m_st, .ref m_mv, .ref m_tp, .int (nI mz), .int ml, .int (nI mp), .int mk, .int mv, .int mb, .int mw, .ref m_rd, .ref m_ac, .int (nI ma), .ref m_as, .ref m_wo, .ref m_ik, .ref m_ke, .ref m_tr, .int (nI mx)])), (m_st, .inl (cI, 38, .inl fs))] s.heap := hP
  have hl := lv_entry ([.ref mo]) (n := 4) (Nat.le_of_ble_eq_true rfl)
  rw [lg_entry_eq]
  generalize (lg_sl ([.ref mo]) ++ List.replicate (4 - (lg_sl ([.ref mo])).length) Slot.unset).toArray = ls at hl ⊢
  have hl : lv_has ls 4 [(0, .ref mo)] := hl
  have hk6 := hM.2.2.2.2.1
  have hw6 := hM.2.2.2.1
  refine lv_aload_n hx hb dX8_oneHour_0 rfl (lv_at hl 0 rfl) ?_
  refine lv_aload_n hx hb dX8_oneHour_1 rfl (lv_at hl 0 rfl) ?_
  refine va_get (D := (dC, dI)) (ci := 8) (v := .ref m_st) (C := RX8) (T := TX8) (N := 24) hx hb hts i_X8_oneHour_X8 hown hK hP 0 rfl rfl 5 (by decide) (hts (.fieldLink RX8 19 "MillTalkModel" "st" "[I") (by decide +kernel)) (fun _ h9 => h9) rfl dX8_oneHour_2 ?_
  refine lv_iconst (v := 5) hx hb dX8_oneHour_5 (by decide) ?_
  refine va_iald hx hb hK hP 1 0 rfl rfl (by unfold vp_in; decide) dX8_oneHour_6 ?_
  refine lv_topi (fun v_1 e_1 => ?_)
  obtain rfl : v_1 = (nI h9) := (e_1).trans hM.2.2.1
  have hPc_2 := hP.sub (ws' := [(mo, .inr (8, [.ref m_la, .ref m_sz, .ref m_it, .int ms, .int mt, .ref m_st, .ref m_mv, .ref m_tp, .int (nI mz), .int ml, .int (nI mp), .int mk, .int mv, .int mb, .int mw, .ref m_rd, .ref m_ac, .int (nI ma), .ref m_as, .ref m_wo, .ref m_ik, .ref m_ke, .ref m_tr, .int (nI mx)])), (m_st, .inl (cI, 38, .inl fs))]) [0, 1] rfl
  refine vp_callSi (W.runV (As := [.int (nI h9)]) (rest := []) ⟨hx, hb, hml, hown, hts⟩ (r_X8_gustOf l dC dI cI cZ cL cJ mo m_la m_sz m_it m_st m_mv m_tp m_rd m_ac m_as m_wo m_ik m_ke m_tr ms mt ml mk mv mb mw mz mp ma mx fs w9 k9 h9 h9 (hM) (by omega) (by omega)) (cwV 1 hts gX8_oneHour_X8_gustOf rfl rfl rfl (by decide +kernel) ⟨Nat.le_of_ble_eq_true rfl, Nat.le_of_ble_eq_true rfl⟩) ⟨fun a U g mk q => by obtain ⟨q0, qP, qK⟩ := q; exact ⟨q0, qP, va_K.moved (u := U) (U := U.calling g mk a) (Vm.Alike.refl U.vm) qK⟩, va_recv hK hP (ci := 8) (q0 := 0) rfl rfl, fun U hU hW => ⟨rfl, by rw [hU]; exact hPc_2, va_K.moved hW.alike hK⟩⟩ rfl rfl hl.1 rfl (lv_room (Nat.le_of_ble_eq_true rfl)) dX8_oneHour_7 ⟨Nat.le_of_ble_eq_true rfl, Nat.le_of_ble_eq_true rfl⟩) (fun r_2 h_2 => ?_)
  refine lv_iconst (v := 2) hx hb dX8_oneHour_10 (by decide) ?_
  refine lv_isub hx hb dX8_oneHour_11 ?_
  refine lv_topi (fun v_3 e_3 => ?_)
  refine lv_istore_n (lv' := [(1, .int v_3), (0, .ref mo)]) hx hb dX8_oneHour_12 rfl hl (by decide) rfl (fun ls hl => ?_)
  refine lv_iconst (v := 0) hx hb dX8_oneHour_13 (by decide) ?_
  refine lv_istore_n (lv' := [(2, .int 0), (1, .int v_3), (0, .ref mo)]) hx hb dX8_oneHour_14 rfl hl (by decide) rfl (fun ls hl => ?_)
  refine lv_iconst (v := 0) hx hb dX8_oneHour_15 (by decide) ?_
  refine lv_istore_n (lv' := [(3, .int 0), (2, .int 0), (1, .int v_3), (0, .ref mo)]) hx hb dX8_oneHour_16 rfl hl (by decide) rfl (fun ls hl => ?_)
  refine lp_go (σ := (Int32) × (Nat → Int32)) (fun ii (st : (Int32) × (Nat → Int32)) H locs ls => match st with | (w_25, w_26) => lv_has ls 4 [(3, .int (nI ii)), (2, .int w_25), (1, .int v_3), (0, .ref mo)] ∧ va_P (dC, dI) vwCl [(mo, .inr (8, [.ref m_la, .ref m_sz, .ref m_it, .int ms, .int mt, .ref m_st, .ref m_mv, .ref m_tp, .int (nI mz), .int ml, .int (nI mp), .int mk, .int mv, .int mb, .int mw, .ref m_rd, .ref m_ac, .int (nI ma), .ref m_as, .ref m_wo, .ref m_ik, .ref m_ke, .ref m_tr, .int (nI mx)])), (m_st, .inl (cI, 38, .inl w_26))] H ∧ va_D A [(mo, .inr (8, [.ref m_la, .ref m_sz, .ref m_it, .int ms, .int mt, .ref m_st, .ref m_mv, .ref m_tp, .int (nI mz), .int ml, .int (nI mp), .int mk, .int mv, .int mb, .int mw, .ref m_rd, .ref m_ac, .int (nI ma), .ref m_as, .ref m_wo, .ref m_ik, .ref m_ke, .ref m_tr, .int (nI mx)])), (m_st, .inl (cI, 38, .inl w_26))] ∧ va_S A s.heap H locs ∧ okM w_26 w9 k9 h9) k9 ?_ ?_ 0 (by omega) (0, fs) ⟨lv_sub hl [0, 1, 2, 3] rfl, hP.sub (ws' := [(mo, .inr (8, [.ref m_la, .ref m_sz, .ref m_it, .int ms, .int mt, .ref m_st, .ref m_mv, .ref m_tp, .int (nI mz), .int ml, .int (nI mp), .int mk, .int mv, .int mb, .int mw, .ref m_rd, .ref m_ac, .int (nI ma), .ref m_as, .ref m_wo, .ref m_ik, .ref m_ke, .ref m_tr, .int (nI mx)])), (m_st, .inl (cI, 38, .inl fs))]) [0, 1] rfl, hD.sub (ws' := [(mo, .inr (8, [.ref m_la, .ref m_sz, .ref m_it, .int ms, .int mt, .ref m_st, .ref m_mv, .ref m_tp, .int (nI mz), .int ml, .int (nI mp), .int mk, .int mv, .int mb, .int mw, .ref m_rd, .ref m_ac, .int (nI ma), .ref m_as, .ref m_wo, .ref m_ik, .ref m_ke, .ref m_tr, .int (nI mx)])), (m_st, .inl (cI, 38, .inl fs))]) [0, 1] (by decide) rfl, hS, hM⟩
  · rintro ii ⟨w_25, w_26⟩ H locs ls hii ⟨hl, hP, hD, hS, hMl⟩ ih
    refine lv_iload_n hx hb dX8_oneHour_17 rfl (lv_at hl 0 rfl) ?_
    refine lv_aload_n hx hb dX8_oneHour_18 rfl (lv_at hl 3 rfl) ?_
    refine va_get (D := (dC, dI)) (ci := 8) (v := .ref m_st) (C := RX8) (T := TX8) (N := 24) hx hb hts i_X8_oneHour_X8 hown hK hP 0 rfl rfl 5 (by decide) (hts (.fieldLink RX8 19 "MillTalkModel" "st" "[I") (by decide +kernel)) (fun _ h9 => h9) rfl dX8_oneHour_19 ?_
    refine lv_iconst (v := 4) hx hb dX8_oneHour_22 (by decide) ?_
    refine va_iald hx hb hK hP 1 0 rfl rfl (by unfold vp_in; decide) dX8_oneHour_23 ?_
    refine lv_topi (fun v_50 e_50 => ?_)
    obtain rfl : v_50 = (nI k9) := (e_50).trans hMl.2.1
    refine lv_icmp_ge (tgt := 97) hx hb dX8_oneHour_24 (by decide) (fun c_ => absurd c_ (fun q_ => absurd ((nI_leI (a := k9) (b := ii) (by omega) (by omega)).mp q_) (by omega))) (fun _ => ?_)
    refine lv_aload_n hx hb dX8_oneHour_27 rfl (lv_at hl 3 rfl) ?_
    refine va_get (D := (dC, dI)) (ci := 8) (v := .ref m_st) (C := RX8) (T := TX8) (N := 24) hx hb hts i_X8_oneHour_X8 hown hK hP 0 rfl rfl 5 (by decide) (hts (.fieldLink RX8 19 "MillTalkModel" "st" "[I") (by decide +kernel)) (fun _ h9 => h9) rfl dX8_oneHour_28 ?_
    refine lv_bipush (v := 26) hx hb dX8_oneHour_31 (by decide) ?_
    refine lv_iload_n hx hb dX8_oneHour_33 rfl (lv_at hl 0 rfl) ?_
    refine lv_iadd hx hb dX8_oneHour_34 ?_
    refine lv_topi (fun v_52 e_52 => ?_)
    obtain rfl : v_52 = (nI (26 + ii)) := (e_52).trans (nI_add 26 ii)
    refine va_iald hx hb hK hP 1 0 rfl rfl (vp_in_nI (by omega) (by omega)) dX8_oneHour_35 ?_
    refine lv_topi (fun v_53 e_53 => ?_)
    refine jn (σ := (Nat → Int32)) (fun (st : (Nat → Int32)) H locs g => match st with | w_56 => ∃ ls : Array Slot, g = F0 m 45 ls [] ∧ lv_has ls 4 [(3, .int (nI ii)), (2, .int w_25), (1, .int v_3), (0, .ref mo)] ∧ va_P (dC, dI) vwCl [(mo, .inr (8, [.ref m_la, .ref m_sz, .ref m_it, .int ms, .int mt, .ref m_st, .ref m_mv, .ref m_tp, .int (nI mz), .int ml, .int (nI mp), .int mk, .int mv, .int mb, .int mw, .ref m_rd, .ref m_ac, .int (nI ma), .ref m_as, .ref m_wo, .ref m_ik, .ref m_ke, .ref m_tr, .int (nI mx)])), (m_st, .inl (cI, 38, .inl w_56))] H ∧ va_D A [(mo, .inr (8, [.ref m_la, .ref m_sz, .ref m_it, .int ms, .int mt, .ref m_st, .ref m_mv, .ref m_tp, .int (nI mz), .int ml, .int (nI mp), .int mk, .int mv, .int mb, .int mw, .ref m_rd, .ref m_ac, .int (nI ma), .ref m_as, .ref m_wo, .ref m_ik, .ref m_ke, .ref m_tr, .int (nI mx)])), (m_st, .inl (cI, 38, .inl w_56))] ∧ va_S A s.heap H locs ∧ okM w_56 w9 k9 h9) ?_ ?_
    · rintro w_56 H locs _ ⟨ls, rfl, hl, hP, hD, hS, hMl⟩
      refine lv_aload_n hx hb dX8_oneHour_45 rfl (lv_at hl 3 rfl) ?_
      refine va_get (D := (dC, dI)) (ci := 8) (v := .ref m_st) (C := RX8) (T := TX8) (N := 24) hx hb hts i_X8_oneHour_X8 hown hK hP 0 rfl rfl 5 (by decide) (hts (.fieldLink RX8 19 "MillTalkModel" "st" "[I") (by decide +kernel)) (fun _ h9 => h9) rfl dX8_oneHour_46 ?_
      refine lv_bipush (v := 26) hx hb dX8_oneHour_49 (by decide) ?_
      refine lv_iload_n hx hb dX8_oneHour_51 rfl (lv_at hl 0 rfl) ?_
      refine lv_iadd hx hb dX8_oneHour_52 ?_
      refine lv_topi (fun v_58 e_58 => ?_)
      obtain rfl : v_58 = (nI (26 + ii)) := (e_58).trans (nI_add 26 ii)
      refine va_iald hx hb hK hP 1 0 rfl rfl (vp_in_nI (by omega) (by omega)) dX8_oneHour_53 ?_
      refine lv_topi (fun v_59 e_59 => ?_)
      refine lv_if_ne (tgt := 91) hx hb dX8_oneHour_54 (by decide) (fun c_60 => ?_) (fun c_60 => ?_)
      · skip
        refine lv_iinc (v := (nI (ii + 1))) (lv' := [(3, .int (nI (ii + 1))), (2, .int w_25), (1, .int v_3), (0, .ref mo)]) hx hb dX8_oneHour_91 hl (k := 0) rfl (nI_add ii 1) (by decide) rfl (fun ls hl => ?_)
        refine lv_goto (tgt := 17) hx hb dX8_oneHour_94 (by decide) ?_
        exact ih (w_25, w_56) _ _ _ ⟨lv_sub hl [0, 1, 2, 3] rfl, hP.sub (ws' := [(mo, .inr (8, [.ref m_la, .ref m_sz, .ref m_it, .int ms, .int mt, .ref m_st, .ref m_mv, .ref m_tp, .int (nI mz), .int ml, .int (nI mp), .int mk, .int mv, .int mb, .int mw, .ref m_rd, .ref m_ac, .int (nI ma), .ref m_as, .ref m_wo, .ref m_ik, .ref m_ke, .ref m_tr, .int (nI mx)])), (m_st, .inl (cI, 38, .inl w_56))]) [0, 1] rfl, hD.sub (ws' := [(mo, .inr (8, [.ref m_la, .ref m_sz, .ref m_it, .int ms, .int mt, .ref m_st, .ref m_mv, .ref m_tp, .int (nI mz), .int ml, .int (nI mp), .int mk, .int mv, .int mb, .int mw, .ref m_rd, .ref m_ac, .int (nI ma), .ref m_as, .ref m_wo, .ref m_ik, .ref m_ke, .ref m_tr, .int (nI mx)])), (m_st, .inl (cI, 38, .inl w_56))]) [0, 1] (by decide) rfl, hS, hMl⟩
      · skip
        refine lv_iload_n hx hb dX8_oneHour_57 rfl (lv_at hl 2 rfl) ?_
        refine lv_if_eq (tgt := 91) hx hb dX8_oneHour_58 (by decide) (fun c_61 => ?_) (fun c_61 => ?_)
        · skip
          refine lv_iinc (v := (nI (ii + 1))) (lv' := [(3, .int (nI (ii + 1))), (2, .int w_25), (1, .int v_3), (0, .ref mo)]) hx hb dX8_oneHour_91 hl (k := 0) rfl (nI_add ii 1) (by decide) rfl (fun ls hl => ?_)
          refine lv_goto (tgt := 17) hx hb dX8_oneHour_94 (by decide) ?_
          exact ih (w_25, w_56) _ _ _ ⟨lv_sub hl [0, 1, 2, 3] rfl, hP.sub (ws' := [(mo, .inr (8, [.ref m_la, .ref m_sz, .ref m_it, .int ms, .int mt, .ref m_st, .ref m_mv, .ref m_tp, .int (nI mz), .int ml, .int (nI mp), .int mk, .int mv, .int mb, .int mw, .ref m_rd, .ref m_ac, .int (nI ma), .ref m_as, .ref m_wo, .ref m_ik, .ref m_ke, .ref m_tr, .int (nI mx)])), (m_st, .inl (cI, 38, .inl w_56))]) [0, 1] rfl, hD.sub (ws' := [(mo, .inr (8, [.ref m_la, .ref m_sz, .ref m_it, .int ms, .int mt, .ref m_st, .ref m_mv, .ref m_tp, .int (nI mz), .int ml, .int (nI mp), .int mk, .int mv, .int mb, .int mw, .ref m_rd, .ref m_ac, .int (nI ma), .ref m_as, .ref m_wo, .ref m_ik, .ref m_ke, .ref m_tr, .int (nI mx)])), (m_st, .inl (cI, 38, .inl w_56))]) [0, 1] (by decide) rfl, hS, hMl⟩
        · skip
          refine lv_aload_n hx hb dX8_oneHour_61 rfl (lv_at hl 3 rfl) ?_
          refine lv_iload_n hx hb dX8_oneHour_62 rfl (lv_at hl 0 rfl) ?_
          have hPc_62 := hP.sub (ws' := [(mo, .inr (8, [.ref m_la, .ref m_sz, .ref m_it, .int ms, .int mt, .ref m_st, .ref m_mv, .ref m_tp, .int (nI mz), .int ml, .int (nI mp), .int mk, .int mv, .int mb, .int mw, .ref m_rd, .ref m_ac, .int (nI ma), .ref m_as, .ref m_wo, .ref m_ik, .ref m_ke, .ref m_tr, .int (nI mx)])), (m_st, .inl (cI, 38, .inl w_56))]) [0, 1] rfl
          refine vp_callSi (W.runV (As := [.int (nI ii)]) (rest := []) ⟨hx, hb, hml, hown, hts⟩ (r_X8_isAtMill l dC dI cI cZ cL cJ mo m_la m_sz m_it m_st m_mv m_tp m_rd m_ac m_as m_wo m_ik m_ke m_tr ms mt ml mk mv mb mw mz mp ma mx w_56 w9 k9 h9 ii (hMl) (by omega)) (cwV 1 hts gX8_oneHour_X8_isAtMill rfl rfl rfl (by decide +kernel) ⟨Nat.le_of_ble_eq_true rfl, Nat.le_of_ble_eq_true rfl⟩) ⟨fun a U g mk q => by obtain ⟨q0, qP, qK⟩ := q; exact ⟨q0, qP, va_K.moved (u := U) (U := U.calling g mk a) (Vm.Alike.refl U.vm) qK⟩, va_recv hK hP (ci := 8) (q0 := 0) rfl rfl, fun U hU hW => ⟨rfl, by rw [hU]; exact hPc_62, va_K.moved hW.alike hK⟩⟩ rfl rfl hl.1 rfl (lv_room (Nat.le_of_ble_eq_true rfl)) dX8_oneHour_63 ⟨Nat.le_of_ble_eq_true rfl, Nat.le_of_ble_eq_true rfl⟩) (fun r_62 h_62 => ?_)
          refine lv_if_eq (tgt := 91) hx hb dX8_oneHour_66 (by decide) (fun c_63 => ?_) (fun c_63 => ?_)
          · skip
            refine lv_iinc (v := (nI (ii + 1))) (lv' := [(3, .int (nI (ii + 1))), (2, .int w_25), (1, .int v_3), (0, .ref mo)]) hx hb dX8_oneHour_91 hl (k := 0) rfl (nI_add ii 1) (by decide) rfl (fun ls hl => ?_)
            refine lv_goto (tgt := 17) hx hb dX8_oneHour_94 (by decide) ?_
            exact ih (w_25, w_56) _ _ _ ⟨lv_sub hl [0, 1, 2, 3] rfl, hP.sub (ws' := [(mo, .inr (8, [.ref m_la, .ref m_sz, .ref m_it, .int ms, .int mt, .ref m_st, .ref m_mv, .ref m_tp, .int (nI mz), .int ml, .int (nI mp), .int mk, .int mv, .int mb, .int mw, .ref m_rd, .ref m_ac, .int (nI ma), .ref m_as, .ref m_wo, .ref m_ik, .ref m_ke, .ref m_tr, .int (nI mx)])), (m_st, .inl (cI, 38, .inl w_56))]) [0, 1] rfl, hD.sub (ws' := [(mo, .inr (8, [.ref m_la, .ref m_sz, .ref m_it, .int ms, .int mt, .ref m_st, .ref m_mv, .ref m_tp, .int (nI mz), .int ml, .int (nI mp), .int mk, .int mv, .int mb, .int mw, .ref m_rd, .ref m_ac, .int (nI ma), .ref m_as, .ref m_wo, .ref m_ik, .ref m_ke, .ref m_tr, .int (nI mx)])), (m_st, .inl (cI, 38, .inl w_56))]) [0, 1] (by decide) rfl, hS, hMl⟩
          · skip
            refine lv_aload_n hx hb dX8_oneHour_69 rfl (lv_at hl 3 rfl) ?_
            refine va_get (D := (dC, dI)) (ci := 8) (v := .ref m_st) (C := RX8) (T := TX8) (N := 24) hx hb hts i_X8_oneHour_X8 hown hK hP 0 rfl rfl 5 (by decide) (hts (.fieldLink RX8 19 "MillTalkModel" "st" "[I") (by decide +kernel)) (fun _ h9 => h9) rfl dX8_oneHour_70 ?_
            refine lv_bipush (v := 26) hx hb dX8_oneHour_73 (by decide) ?_
            refine lv_iload_n hx hb dX8_oneHour_75 rfl (lv_at hl 0 rfl) ?_
            refine lv_iadd hx hb dX8_oneHour_76 ?_
            refine lv_topi (fun v_64 e_64 => ?_)
            obtain rfl : v_64 = (nI (26 + ii)) := (e_64).trans (nI_add 26 ii)
            refine lv_iconst (v := 1) hx hb dX8_oneHour_77 (by decide) ?_
            refine va_iast hx hb hK hP hD hS 1 0 rfl rfl (vp_in_nI (by omega) (by omega)) dX8_oneHour_78 (fun H locs hP hD hS => ?_)
            generalize hg_65 : upd w_56 ((nI (26 + ii)) : Int32).toNatClampNeg 1 = g_65 at hP hD
            have hM_65 : okM g_65 w9 k9 h9 := okM_off (i := (26 + ii)) hMl hg_65 (by omega) (by omega) (by omega) (by omega) (by omega)
            have hP : va_P (dC, dI) vwCl [(mo, .inr (8, [.ref m_la, .ref m_sz, .ref m_it, .int ms, .int mt, .ref m_st, .ref m_mv, .ref m_tp, .int (nI mz), .int ml, .int (nI mp), .int mk, .int mv, .int mb, .int mw, .ref m_rd, .ref m_ac, .int (nI ma), .ref m_as, .ref m_wo, .ref m_ik, .ref m_ke, .ref m_tr, .int (nI mx)])), (m_st, .inl (cI, 38, .inl g_65))] H := hP
            have hD : va_D A [(mo, .inr (8, [.ref m_la, .ref m_sz, .ref m_it, .int ms, .int mt, .ref m_st, .ref m_mv, .ref m_tp, .int (nI mz), .int ml, .int (nI mp), .int mk, .int mv, .int mb, .int mw, .ref m_rd, .ref m_ac, .int (nI ma), .ref m_as, .ref m_wo, .ref m_ik, .ref m_ke, .ref m_tr, .int (nI mx)])), (m_st, .inl (cI, 38, .inl g_65))] := hD
            refine lv_iload_n hx hb dX8_oneHour_79 rfl (lv_at hl 1 rfl) ?_
            refine lv_aload_n hx hb dX8_oneHour_80 rfl (lv_at hl 3 rfl) ?_
            refine va_get (D := (dC, dI)) (ci := 8) (v := .ref m_st) (C := RX8) (T := TX8) (N := 24) hx hb hts i_X8_oneHour_X8 hown hK hP 0 rfl rfl 5 (by decide) (hts (.fieldLink RX8 19 "MillTalkModel" "st" "[I") (by decide +kernel)) (fun _ h9 => h9) rfl dX8_oneHour_81 ?_
            refine lv_bipush (v := 32) hx hb dX8_oneHour_84 (by decide) ?_
            refine lv_iload_n hx hb dX8_oneHour_86 rfl (lv_at hl 0 rfl) ?_
            refine lv_iadd hx hb dX8_oneHour_87 ?_
            refine lv_topi (fun v_66 e_66 => ?_)
            obtain rfl : v_66 = (nI (32 + ii)) := (e_66).trans (nI_add 32 ii)
            refine va_iald hx hb hK hP 1 0 rfl rfl (vp_in_nI (by omega) (by omega)) dX8_oneHour_88 ?_
            refine lv_topi (fun v_67 e_67 => ?_)
            refine lv_iadd hx hb dX8_oneHour_89 ?_
            refine lv_topi (fun v_68 e_68 => ?_)
            refine lv_istore_n (lv' := [(2, .int v_68), (3, .int (nI ii)), (1, .int v_3), (0, .ref mo)]) hx hb dX8_oneHour_90 rfl hl (by decide) rfl (fun ls hl => ?_)
            refine lv_iinc (v := (nI (ii + 1))) (lv' := [(3, .int (nI (ii + 1))), (2, .int v_68), (1, .int v_3), (0, .ref mo)]) hx hb dX8_oneHour_91 hl (k := 1) rfl (nI_add ii 1) (by decide) rfl (fun ls hl => ?_)
            refine lv_goto (tgt := 17) hx hb dX8_oneHour_94 (by decide) ?_
            exact ih (v_68, g_65) _ _ _ ⟨lv_sub hl [0, 1, 2, 3] rfl, hP.sub (ws' := [(mo, .inr (8, [.ref m_la, .ref m_sz, .ref m_it, .int ms, .int mt, .ref m_st, .ref m_mv, .ref m_tp, .int (nI mz), .int ml, .int (nI mp), .int mk, .int mv, .int mb, .int mw, .ref m_rd, .ref m_ac, .int (nI ma), .ref m_as, .ref m_wo, .ref m_ik, .ref m_ke, .ref m_tr, .int (nI mx)])), (m_st, .inl (cI, 38, .inl g_65))]) [0, 1] rfl, hD.sub (ws' := [(mo, .inr (8, [.ref m_la, .ref m_sz, .ref m_it, .int ms, .int mt, .ref m_st, .ref m_mv, .ref m_tp, .int (nI mz), .int ml, .int (nI mp), .int mk, .int mv, .int mb, .int mw, .ref m_rd, .ref m_ac, .int (nI ma), .ref m_as, .ref m_wo, .ref m_ik, .ref m_ke, .ref m_tr, .int (nI mx)])), (m_st, .inl (cI, 38, .inl g_65))]) [0, 1] (by decide) rfl, hS, hM_65⟩
    · intro jk_57
      refine lv_if_ne (tgt := 45) hx hb dX8_oneHour_36 (by decide) (fun c_69 => ?_) (fun c_69 => ?_)
      · skip
        exact jk_57 (w_26) _ _ _ ⟨ls, rfl, lv_sub hl [0, 1, 2, 3] rfl, hP.sub (ws' := [(mo, .inr (8, [.ref m_la, .ref m_sz, .ref m_it, .int ms, .int mt, .ref m_st, .ref m_mv, .ref m_tp, .int (nI mz), .int ml, .int (nI mp), .int mk, .int mv, .int mb, .int mw, .ref m_rd, .ref m_ac, .int (nI ma), .ref m_as, .ref m_wo, .ref m_ik, .ref m_ke, .ref m_tr, .int (nI mx)])), (m_st, .inl (cI, 38, .inl w_26))]) [0, 1] rfl, hD.sub (ws' := [(mo, .inr (8, [.ref m_la, .ref m_sz, .ref m_it, .int ms, .int mt, .ref m_st, .ref m_mv, .ref m_tp, .int (nI mz), .int ml, .int (nI mp), .int mk, .int mv, .int mb, .int mw, .ref m_rd, .ref m_ac, .int (nI ma), .ref m_as, .ref m_wo, .ref m_ik, .ref m_ke, .ref m_tr, .int (nI mx)])), (m_st, .inl (cI, 38, .inl w_26))]) [0, 1] (by decide) rfl, hS, hMl⟩
      · skip
        refine lv_aload_n hx hb dX8_oneHour_39 rfl (lv_at hl 3 rfl) ?_
        refine lv_iload_n hx hb dX8_oneHour_40 rfl (lv_at hl 0 rfl) ?_
        refine lv_iload_n hx hb dX8_oneHour_41 rfl (lv_at hl 2 rfl) ?_
        have hPc_70 := hP.sub (ws' := [(mo, .inr (8, [.ref m_la, .ref m_sz, .ref m_it, .int ms, .int mt, .ref m_st, .ref m_mv, .ref m_tp, .int (nI mz), .int ml, .int (nI mp), .int mk, .int mv, .int mb, .int mw, .ref m_rd, .ref m_ac, .int (nI ma), .ref m_as, .ref m_wo, .ref m_ik, .ref m_ke, .ref m_tr, .int (nI mx)])), (m_st, .inl (cI, 38, .inl w_26))]) [0, 1] rfl
        have hDc_70 := hD.sub (ws' := [(mo, .inr (8, [.ref m_la, .ref m_sz, .ref m_it, .int ms, .int mt, .ref m_st, .ref m_mv, .ref m_tp, .int (nI mz), .int ml, .int (nI mp), .int mk, .int mv, .int mb, .int mw, .ref m_rd, .ref m_ac, .int (nI ma), .ref m_as, .ref m_wo, .ref m_ik, .ref m_ke, .ref m_tr, .int (nI mx)])), (m_st, .inl (cI, 38, .inl w_26))]) [0, 1] (by decide) rfl
        have hFc_70 := va_free (wc := [(mo, .inr (8, [.ref m_la, .ref m_sz, .ref m_it, .int ms, .int mt, .ref m_st, .ref m_mv, .ref m_tp, .int (nI mz), .int ml, .int (nI mp), .int mk, .int mv, .int mb, .int mw, .ref m_rd, .ref m_ac, .int (nI ma), .ref m_as, .ref m_wo, .ref m_ik, .ref m_ke, .ref m_tr, .int (nI mx)])), (m_st, .inl (cI, 38, .inl w_26))]) hD hS hA [0, 1] rfl
        refine va_callv (va_runV (As := [.int (nI ii), .int v_3]) (rest := []) ⟨hx, hb, hml, hown, hts⟩ (r_X8_drift l dC dI cI cZ cL cJ H.size mo m_la m_sz m_it m_st m_mv m_tp m_rd m_ac m_as m_wo m_ik m_ke m_tr ms mt ml mk mv mb mw mz mp ma mx w_26 w9 k9 h9 ii v_3 (hMl) (by omega)) (cwV 2 hts gX8_oneHour_X8_drift rfl rfl rfl (by decide +kernel) ⟨Nat.le_of_ble_eq_true rfl, Nat.le_of_ble_eq_true rfl⟩) ⟨fun a U g mk q => by obtain ⟨q0, q1, qP, qK, qD⟩ := q; exact ⟨q0, q1, qP, va_K.moved (u := U) (U := U.calling g mk a) (Vm.Alike.refl U.vm) qK, qD⟩, va_recv hK hP (ci := 8) (q0 := 0) rfl rfl, fun U hU hW => ⟨rfl, by rw [hU], by rw [hU]; exact hPc_70, va_K.moved hW.alike hK, hDc_70.weaken (fun _ _ _ _ => trivial)⟩⟩ rfl rfl hl.1 rfl (lv_room (Nat.le_of_ble_eq_true rfl)) dX8_oneHour_42 ⟨Nat.le_of_ble_eq_true rfl, Nat.le_of_ble_eq_true rfl⟩) hS (fun q _ h => hFc_70 q h) hFc_70 (fun u_70 t_70 H1 locs ht hvm h_70 hB hz1 hk1 hS => ?_)
        obtain ⟨fsn_70, hP1, hD1, hF_70_0⟩ := hB
        rw [ht] at hP1
        obtain ⟨hP, hD⟩ := va_join (wr := []) (w1 := [(mo, .inr (8, [.ref m_la, .ref m_sz, .ref m_it, .int ms, .int mt, .ref m_st, .ref m_mv, .ref m_tp, .int (nI mz), .int ml, .int (nI mp), .int mk, .int mv, .int mb, .int mw, .ref m_rd, .ref m_ac, .int (nI ma), .ref m_as, .ref m_wo, .ref m_ik, .ref m_ke, .ref m_tr, .int (nI mx)])), (m_st, .inl (cI, 38, .inl fsn_70))]) hP hD [0, 1] [] rfl rfl (by decide) (by decide) hk1 hFc_70 hP1 hD1
        generalize H1 = H at hP hS ⊢
        have hP : va_P (dC, dI) vwCl [(mo, .inr (8, [.ref m_la, .ref m_sz, .ref m_it, .int ms, .int mt, .ref m_st, .ref m_mv, .ref m_tp, .int (nI mz), .int ml, .int (nI mp), .int mk, .int mv, .int mb, .int mw, .ref m_rd, .ref m_ac, .int (nI ma), .ref m_as, .ref m_wo, .ref m_ik, .ref m_ke, .ref m_tr, .int (nI mx)])), (m_st, .inl (cI, 38, .inl fsn_70))] H := hP
        have hD : va_D A [(mo, .inr (8, [.ref m_la, .ref m_sz, .ref m_it, .int ms, .int mt, .ref m_st, .ref m_mv, .ref m_tp, .int (nI mz), .int ml, .int (nI mp), .int mk, .int mv, .int mb, .int mw, .ref m_rd, .ref m_ac, .int (nI ma), .ref m_as, .ref m_wo, .ref m_ik, .ref m_ke, .ref m_tr, .int (nI mx)])), (m_st, .inl (cI, 38, .inl fsn_70))] := hD
        exact jk_57 (fsn_70) _ _ _ ⟨ls, rfl, lv_sub hl [0, 1, 2, 3] rfl, hP.sub (ws' := [(mo, .inr (8, [.ref m_la, .ref m_sz, .ref m_it, .int ms, .int mt, .ref m_st, .ref m_mv, .ref m_tp, .int (nI mz), .int ml, .int (nI mp), .int mk, .int mv, .int mb, .int mw, .ref m_rd, .ref m_ac, .int (nI ma), .ref m_as, .ref m_wo, .ref m_ik, .ref m_ke, .ref m_tr, .int (nI mx)])), (m_st, .inl (cI, 38, .inl fsn_70))]) [0, 1] rfl, hD.sub (ws' := [(mo, .inr (8, [.ref m_la, .ref m_sz, .ref m_it, .int ms, .int mt, .ref m_st, .ref m_mv, .ref m_tp, .int (nI mz), .int ml, .int (nI mp), .int mk, .int mv, .int mb, .int mw, .ref m_rd, .ref m_ac, .int (nI ma), .ref m_as, .ref m_wo, .ref m_ik, .ref m_ke, .ref m_tr, .int (nI mx)])), (m_st, .inl (cI, 38, .inl fsn_70))]) [0, 1] (by decide) rfl, hS, hF_70_0⟩
  · rintro ⟨w_25, w_26⟩ H locs ls ⟨hl, hP, hD, hS, hMl⟩
    refine lv_iload_n hx hb dX8_oneHour_17 rfl (lv_at hl 0 rfl) ?_
    refine lv_aload_n hx hb dX8_oneHour_18 rfl (lv_at hl 3 rfl) ?_
    refine va_get (D := (dC, dI)) (ci := 8) (v := .ref m_st) (C := RX8) (T := TX8) (N := 24) hx hb hts i_X8_oneHour_X8 hown hK hP 0 rfl rfl 5 (by decide) (hts (.fieldLink RX8 19 "MillTalkModel" "st" "[I") (by decide +kernel)) (fun _ h9 => h9) rfl dX8_oneHour_19 ?_
    refine lv_iconst (v := 4) hx hb dX8_oneHour_22 (by decide) ?_
    refine va_iald hx hb hK hP 1 0 rfl rfl (by unfold vp_in; decide) dX8_oneHour_23 ?_
    refine lv_topi (fun v_71 e_71 => ?_)
    obtain rfl : v_71 = (nI k9) := (e_71).trans hMl.2.1
    refine lv_icmp_ge (tgt := 97) hx hb dX8_oneHour_24 (by decide) (fun _ => ?_) (fun c_ => absurd ((nI_leI (a := k9) (b := k9) (by omega) (by omega)).mpr (by omega)) c_)
    refine lv_aload_n hx hb dX8_oneHour_97 rfl (lv_at hl 3 rfl) ?_
    refine va_get (D := (dC, dI)) (ci := 8) (v := .ref m_st) (C := RX8) (T := TX8) (N := 24) hx hb hts i_X8_oneHour_X8 hown hK hP 0 rfl rfl 5 (by decide) (hts (.fieldLink RX8 19 "MillTalkModel" "st" "[I") (by decide +kernel)) (fun _ h9 => h9) rfl dX8_oneHour_98 ?_
    refine lv_bipush (v := 7) hx hb dX8_oneHour_101 (by decide) ?_
    refine lv_aload_n hx hb dX8_oneHour_103 rfl (lv_at hl 3 rfl) ?_
    refine va_get (D := (dC, dI)) (ci := 8) (v := .ref m_st) (C := RX8) (T := TX8) (N := 24) hx hb hts i_X8_oneHour_X8 hown hK hP 0 rfl rfl 5 (by decide) (hts (.fieldLink RX8 19 "MillTalkModel" "st" "[I") (by decide +kernel)) (fun _ h9 => h9) rfl dX8_oneHour_104 ?_
    refine lv_bipush (v := 7) hx hb dX8_oneHour_107 (by decide) ?_
    refine va_iald hx hb hK hP 1 0 rfl rfl (by unfold vp_in; decide) dX8_oneHour_109 ?_
    refine lv_topi (fun v_73 e_73 => ?_)
    refine lv_iload_n hx hb dX8_oneHour_110 rfl (lv_at hl 1 rfl) ?_
    refine lv_iadd hx hb dX8_oneHour_111 ?_
    refine lv_topi (fun v_74 e_74 => ?_)
    refine lv_sipush (v := 999) hx hb dX8_oneHour_112 (by decide) ?_
    refine jn (σ := (Int32)) (fun (st : (Int32)) H locs g => match st with | w_78 => ∃ ls : Array Slot, g = F0 m 133 ls [.int w_78, .int 7, .ref m_st] ∧ lv_has ls 4 [(3, .int (nI k9)), (2, .int w_25), (1, .int v_3), (0, .ref mo)] ∧ va_P (dC, dI) vwCl [(mo, .inr (8, [.ref m_la, .ref m_sz, .ref m_it, .int ms, .int mt, .ref m_st, .ref m_mv, .ref m_tp, .int (nI mz), .int ml, .int (nI mp), .int mk, .int mv, .int mb, .int mw, .ref m_rd, .ref m_ac, .int (nI ma), .ref m_as, .ref m_wo, .ref m_ik, .ref m_ke, .ref m_tr, .int (nI mx)])), (m_st, .inl (cI, 38, .inl w_26))] H ∧ va_D A [(mo, .inr (8, [.ref m_la, .ref m_sz, .ref m_it, .int ms, .int mt, .ref m_st, .ref m_mv, .ref m_tp, .int (nI mz), .int ml, .int (nI mp), .int mk, .int mv, .int mb, .int mw, .ref m_rd, .ref m_ac, .int (nI ma), .ref m_as, .ref m_wo, .ref m_ik, .ref m_ke, .ref m_tr, .int (nI mx)])), (m_st, .inl (cI, 38, .inl w_26))] ∧ va_S A s.heap H locs ∧ okM w_26 w9 k9 h9) ?_ ?_
    · rintro w_78 H locs _ ⟨ls, rfl, hl, hP, hD, hS, hMl⟩
      refine va_iast hx hb hK hP hD hS 1 0 rfl rfl (by unfold vp_in; decide) dX8_oneHour_133 (fun H locs hP hD hS => ?_)
      generalize hg_80 : upd w_26 (7 : Int32).toNatClampNeg w_78 = g_80 at hP hD
      have hM_80 : okM g_80 w9 k9 h9 := okM_off (i := 7) hMl hg_80 (by omega) (by omega) (by omega) (by omega) (by omega)
      have hP : va_P (dC, dI) vwCl [(mo, .inr (8, [.ref m_la, .ref m_sz, .ref m_it, .int ms, .int mt, .ref m_st, .ref m_mv, .ref m_tp, .int (nI mz), .int ml, .int (nI mp), .int mk, .int mv, .int mb, .int mw, .ref m_rd, .ref m_ac, .int (nI ma), .ref m_as, .ref m_wo, .ref m_ik, .ref m_ke, .ref m_tr, .int (nI mx)])), (m_st, .inl (cI, 38, .inl g_80))] H := hP
      have hD : va_D A [(mo, .inr (8, [.ref m_la, .ref m_sz, .ref m_it, .int ms, .int mt, .ref m_st, .ref m_mv, .ref m_tp, .int (nI mz), .int ml, .int (nI mp), .int mk, .int mv, .int mb, .int mw, .ref m_rd, .ref m_ac, .int (nI ma), .ref m_as, .ref m_wo, .ref m_ik, .ref m_ke, .ref m_tr, .int (nI mx)])), (m_st, .inl (cI, 38, .inl g_80))] := hD
      refine lv_aload_n hx hb dX8_oneHour_134 rfl (lv_at hl 3 rfl) ?_
      refine va_get (D := (dC, dI)) (ci := 8) (v := .ref m_st) (C := RX8) (T := TX8) (N := 24) hx hb hts i_X8_oneHour_X8 hown hK hP 0 rfl rfl 5 (by decide) (hts (.fieldLink RX8 19 "MillTalkModel" "st" "[I") (by decide +kernel)) (fun _ h9 => h9) rfl dX8_oneHour_135 ?_
      refine lv_iconst (v := 5) hx hb dX8_oneHour_138 (by decide) ?_
      refine lv_dup2_11 hx hb dX8_oneHour_139 rfl rfl ?_
      refine va_iald hx hb hK hP 1 0 rfl rfl (by unfold vp_in; decide) dX8_oneHour_140 ?_
      refine lv_topi (fun v_81 e_81 => ?_)
      obtain rfl : v_81 = (nI h9) := (e_81).trans hM_80.2.2.1
      refine lv_iconst (v := 1) hx hb dX8_oneHour_141 (by decide) ?_
      refine lv_iadd hx hb dX8_oneHour_142 ?_
      refine lv_topi (fun v_82 e_82 => ?_)
      obtain rfl : v_82 = (nI (h9 + 1)) := (e_82).trans (nI_add h9 1)
      refine va_iast hx hb hK hP hD hS 1 0 rfl rfl (by unfold vp_in; decide) dX8_oneHour_143 (fun H locs hP hD hS => ?_)
      generalize hg_83 : upd g_80 (5 : Int32).toNatClampNeg (nI (h9 + 1)) = g_83 at hP hD
      have hM_83 : okM g_83 w9 k9 (h9 + 1) := okM_hour hM_80 hg_83
      have hP : va_P (dC, dI) vwCl [(mo, .inr (8, [.ref m_la, .ref m_sz, .ref m_it, .int ms, .int mt, .ref m_st, .ref m_mv, .ref m_tp, .int (nI mz), .int ml, .int (nI mp), .int mk, .int mv, .int mb, .int mw, .ref m_rd, .ref m_ac, .int (nI ma), .ref m_as, .ref m_wo, .ref m_ik, .ref m_ke, .ref m_tr, .int (nI mx)])), (m_st, .inl (cI, 38, .inl g_83))] H := hP
      have hD : va_D A [(mo, .inr (8, [.ref m_la, .ref m_sz, .ref m_it, .int ms, .int mt, .ref m_st, .ref m_mv, .ref m_tp, .int (nI mz), .int ml, .int (nI mp), .int mk, .int mv, .int mb, .int mw, .ref m_rd, .ref m_ac, .int (nI ma), .ref m_as, .ref m_wo, .ref m_ik, .ref m_ke, .ref m_tr, .int (nI mx)])), (m_st, .inl (cI, 38, .inl g_83))] := hD
      refine lv_iload_n hx hb dX8_oneHour_144 rfl (lv_at hl 1 rfl) ?_
      have hP9 := hP.sub (ws' := [(mo, .inr (8, [.ref m_la, .ref m_sz, .ref m_it, .int ms, .int mt, .ref m_st, .ref m_mv, .ref m_tp, .int (nI mz), .int ml, .int (nI mp), .int mk, .int mv, .int mb, .int mw, .ref m_rd, .ref m_ac, .int (nI ma), .ref m_as, .ref m_wo, .ref m_ik, .ref m_ke, .ref m_tr, .int (nI mx)])), (m_st, .inl (cI, 38, .inl g_83))]) [0, 1] rfl
      have hD9 := hD.sub (ws' := [(mo, .inr (8, [.ref m_la, .ref m_sz, .ref m_it, .int ms, .int mt, .ref m_st, .ref m_mv, .ref m_tp, .int (nI mz), .int ml, .int (nI mp), .int mk, .int mv, .int mb, .int mw, .ref m_rd, .ref m_ac, .int (nI ma), .ref m_as, .ref m_wo, .ref m_ik, .ref m_ke, .ref m_tr, .int (nI mx)])), (m_st, .inl (cI, 38, .inl g_83))]) [0, 1] (by decide) rfl
      exact W.iret (v := w_25) hx hb hr (fun t ht hW => ⟨⟨w_25, (), rfl, trivial, ⟨g_83, by rw [ht]; exact hP9, hD9, hM_83⟩⟩, hS.F ht⟩) hS.2.2 dX8_oneHour_145
    · intro jk_79
      refine lv_icmp_le (tgt := 124) hx hb dX8_oneHour_115 (by decide) (fun c_84 => ?_) (fun c_84 => ?_)
      · skip
        refine lv_aload_n hx hb dX8_oneHour_124 rfl (lv_at hl 3 rfl) ?_
        refine va_get (D := (dC, dI)) (ci := 8) (v := .ref m_st) (C := RX8) (T := TX8) (N := 24) hx hb hts i_X8_oneHour_X8 hown hK hP 0 rfl rfl 5 (by decide) (hts (.fieldLink RX8 19 "MillTalkModel" "st" "[I") (by decide +kernel)) (fun _ h9 => h9) rfl dX8_oneHour_125 ?_
        refine lv_bipush (v := 7) hx hb dX8_oneHour_128 (by decide) ?_
        refine va_iald hx hb hK hP 1 0 rfl rfl (by unfold vp_in; decide) dX8_oneHour_130 ?_
        refine lv_topi (fun v_85 e_85 => ?_)
        refine lv_iload_n hx hb dX8_oneHour_131 rfl (lv_at hl 1 rfl) ?_
        refine lv_iadd hx hb dX8_oneHour_132 ?_
        refine lv_topi (fun v_86 e_86 => ?_)
        exact jk_79 (v_86) _ _ _ ⟨ls, rfl, lv_sub hl [0, 1, 2, 3] rfl, hP.sub (ws' := [(mo, .inr (8, [.ref m_la, .ref m_sz, .ref m_it, .int ms, .int mt, .ref m_st, .ref m_mv, .ref m_tp, .int (nI mz), .int ml, .int (nI mp), .int mk, .int mv, .int mb, .int mw, .ref m_rd, .ref m_ac, .int (nI ma), .ref m_as, .ref m_wo, .ref m_ik, .ref m_ke, .ref m_tr, .int (nI mx)])), (m_st, .inl (cI, 38, .inl w_26))]) [0, 1] rfl, hD.sub (ws' := [(mo, .inr (8, [.ref m_la, .ref m_sz, .ref m_it, .int ms, .int mt, .ref m_st, .ref m_mv, .ref m_tp, .int (nI mz), .int ml, .int (nI mp), .int mk, .int mv, .int mb, .int mw, .ref m_rd, .ref m_ac, .int (nI ma), .ref m_as, .ref m_wo, .ref m_ik, .ref m_ke, .ref m_tr, .int (nI mx)])), (m_st, .inl (cI, 38, .inl w_26))]) [0, 1] (by decide) rfl, hS, hMl⟩
      · skip
        refine lv_sipush (v := 999) hx hb dX8_oneHour_118 (by decide) ?_
        refine lv_goto (tgt := 133) hx hb dX8_oneHour_121 (by decide) ?_
        exact jk_79 (999) _ _ _ ⟨ls, rfl, lv_sub hl [0, 1, 2, 3] rfl, hP.sub (ws' := [(mo, .inr (8, [.ref m_la, .ref m_sz, .ref m_it, .int ms, .int mt, .ref m_st, .ref m_mv, .ref m_tp, .int (nI mz), .int ml, .int (nI mp), .int mk, .int mv, .int mb, .int mw, .ref m_rd, .ref m_ac, .int (nI ma), .ref m_as, .ref m_wo, .ref m_ik, .ref m_ke, .ref m_tr, .int (nI mx)])), (m_st, .inl (cI, 38, .inl w_26))]) [0, 1] rfl, hD.sub (ws' := [(mo, .inr (8, [.ref m_la, .ref m_sz, .ref m_it, .int ms, .int mt, .ref m_st, .ref m_mv, .ref m_tp, .int (nI mz), .int ml, .int (nI mp), .int mk, .int mv, .int mb, .int mw, .ref m_rd, .ref m_ac, .int (nI ma), .ref m_as, .ref m_wo, .ref m_ik, .ref m_ke, .ref m_tr, .int (nI mx)])), (m_st, .inl (cI, 38, .inl w_26))]) [0, 1] (by decide) rfl, hS, hMl⟩
