set_option maxHeartbeats 4000000 in
set_option maxRecDepth 100000 in
theorem r_X8_in (l : Launch) (dC : Nat → ClassId) (dI : Nat → Nat → Nat) (cI cZ cL cJ : ClassId) (v : Int64) (lo : Int64) (hi : Int64)  : Met l yX8_in wsX8_in ({ frames := 0, cells := 0, slots := 0, locals := 0 }) (va_Pc [.long v, .long lo, .long hi] (fun U => va_P (dC, dI) vwCl [] U.heap ∧ va_K (dC, dI) vwCl [(cI, .int), (cZ, .boolean), (cL, .object RX3), (cJ, .array .int)] U)) (vp_Si (fun r => (r = 0 ∧ (v < lo ∨ hi < v)) ∨ (r = 1 ∧ (¬ (v < lo ∨ hi < v))))) 0 0 (fun _ => False) := by
  refine Met.ofW (cc := cX8_in) (maxL := 6) (ret := (some .boolean)) (by decide) rfl ?_
  intro p e s m args below meth c s₁ B hml hv
  obtain ⟨rfl, hP, hK⟩ := hv
  have hx := B.exec
  have hb := B.bytes
  have hr := B.returns
  have hts := atoms_spec (ws := wsX8_in) B.pre
  have hown : s.vm.findClass RX8 = some m.cls := findClass_of_methodNamed B.named
  have hlocks := B.notSynchronized
  have hP : va_P (dC, dI) vwCl [] s.heap := hP
  have hl := lv_entry ([.long v, .long lo, .long hi]) (n := 6) (Nat.le_of_ble_eq_true rfl)
  rw [lg_entry_eq]
  generalize (lg_sl ([.long v, .long lo, .long hi]) ++ List.replicate (6 - (lg_sl ([.long v, .long lo, .long hi])).length) Slot.unset).toArray = ls at hl ⊢
  have hl : lv_has ls 6 [(0, .long v), (2, .long lo), (4, .long hi)] := hl
  refine lv_lload_n hx hb dX8_in_0 rfl (lv_at hl 0 rfl) ?_
  refine lv_lload_n hx hb dX8_in_1 rfl (lv_at hl 1 rfl) ?_
  refine W.lcmp hx hb dX8_in_2 ?_
  refine lv_if_lt (tgt := 17) hx hb dX8_in_3 (by decide) (fun c_1 => ?_) (fun c_1 => ?_)
  · have c_1 : (v < lo : Prop) := (lg_cmp_lt _ _).mp c_1
    refine lv_iconst (v := 0) hx hb dX8_in_17 (by decide) ?_
    exact W.zret (v := 0) hx hb hr (by decide) (fun t ht hW => ⟨0, rfl, Or.inl (⟨rfl, (by first | assumption | grind)⟩), ht⟩) (fun _ h => by cases h) dX8_in_18
  · have c_1 : ¬ (v < lo) := fun h => c_1 ((lg_cmp_lt _ _).mpr h)
    refine lv_lload_n hx hb dX8_in_6 rfl (lv_at hl 0 rfl) ?_
    refine lv_lload hx hb dX8_in_7 (lv_at hl 2 rfl) ?_
    refine W.lcmp hx hb dX8_in_9 ?_
    refine lv_if_gt (tgt := 17) hx hb dX8_in_10 (by decide) (fun c_2 => ?_) (fun c_2 => ?_)
    · have c_2 : (hi < v : Prop) := (lg_cmp_gt _ _).mp c_2
      refine lv_iconst (v := 0) hx hb dX8_in_17 (by decide) ?_
      exact W.zret (v := 0) hx hb hr (by decide) (fun t ht hW => ⟨0, rfl, Or.inl (⟨rfl, (by first | assumption | grind)⟩), ht⟩) (fun _ h => by cases h) dX8_in_18
    · have c_2 : ¬ (hi < v) := fun h => c_2 ((lg_cmp_gt _ _).mpr h)
      refine lv_iconst (v := 1) hx hb dX8_in_13 (by decide) ?_
      refine lv_goto (tgt := 18) hx hb dX8_in_14 (by decide) ?_
      exact W.zret (v := 1) hx hb hr (by decide) (fun t ht hW => ⟨1, rfl, Or.inr (⟨rfl, (by first | assumption | grind)⟩), ht⟩) (fun _ h => by cases h) dX8_in_18
set_option maxHeartbeats 4000000 in
set_option maxRecDepth 100000 in
theorem r_X8_has (l : Launch) (dC : Nat → ClassId) (dI : Nat → Nat → Nat) (cI cZ cL cJ : ClassId) (x : Int32) (y : Int32)  : Met l yX8_has wsX8_has ({ frames := 0, cells := 0, slots := 0, locals := 0 }) (va_Pc [.int x, .int y] (fun U => va_P (dC, dI) vwCl [] U.heap ∧ va_K (dC, dI) vwCl [(cI, .int), (cZ, .boolean), (cL, .object RX3), (cJ, .array .int)] U)) (vp_Si (fun r => (r = 0 ∧ ¬ hasB x y) ∨ (r = 1 ∧ hasB x y))) 0 0 (fun _ => False) := by
  refine Met.ofW (cc := cX8_has) (maxL := 2) (ret := (some .boolean)) (by decide) rfl ?_
  intro p e s m args below meth c s₁ B hml hv
  obtain ⟨rfl, hP, hK⟩ := hv
  have hx := B.exec
  have hb := B.bytes
  have hr := B.returns
  have hts := atoms_spec (ws := wsX8_has) B.pre
  have hown : s.vm.findClass RX8 = some m.cls := findClass_of_methodNamed B.named
  have hlocks := B.notSynchronized
  have hP : va_P (dC, dI) vwCl [] s.heap := hP
  have hl := lv_entry ([.int x, .int y]) (n := 2) (Nat.le_of_ble_eq_true rfl)
  rw [lg_entry_eq]
  generalize (lg_sl ([.int x, .int y]) ++ List.replicate (2 - (lg_sl ([.int x, .int y])).length) Slot.unset).toArray = ls at hl ⊢
  have hl : lv_has ls 2 [(0, .int x), (1, .int y)] := hl
  refine lv_iload_n hx hb dX8_has_0 rfl (lv_at hl 0 rfl) ?_
  refine lv_iload_n hx hb dX8_has_1 rfl (lv_at hl 1 rfl) ?_
  refine lv_ishr hx hb dX8_has_2 ?_
  refine lv_topi (fun v_1 e_1 => ?_)
  refine lv_iconst (v := 1) hx hb dX8_has_3 (by decide) ?_
  refine lv_iand hx hb dX8_has_4 ?_
  refine lv_topi (fun v_2 e_2 => ?_)
  refine lv_iconst (v := 1) hx hb dX8_has_5 (by decide) ?_
  refine lv_icmp_ne (tgt := 13) hx hb dX8_has_6 (by decide) (fun c_3 => ?_) (fun c_3 => ?_)
  · skip
    refine lv_iconst (v := 0) hx hb dX8_has_13 (by decide) ?_
    exact W.zret (v := 0) hx hb hr (by decide) (fun t ht hW => ⟨0, rfl, Or.inl ⟨rfl, fun q_ => c_3 (by rw [e_2, e_1]; exact q_)⟩, ht⟩) (fun _ h => by cases h) dX8_has_14
  · skip
    refine lv_iconst (v := 1) hx hb dX8_has_9 (by decide) ?_
    refine lv_goto (tgt := 14) hx hb dX8_has_10 (by decide) ?_
    exact W.zret (v := 1) hx hb hr (by decide) (fun t ht hW => ⟨1, rfl, Or.inr ⟨rfl, by rw [e_2, e_1] at c_3; exact c_3⟩, ht⟩) (fun _ h => by cases h) dX8_has_14
theorem lf_X8_drifts_1 {x : Int32} {y : Int32} (c_1 : ¬ (x = 1)) (c_2 : ¬ (x = 2)) (c_3 : ¬ (x = 3)) (c_4 : ¬ (x = 4)) : 0 = (dfM x y) := by
  simp only [dfM]; grind
theorem lf_X8_drifts_2 {x : Int32} {y : Int32} {v_5 : Int32} (c_1 : ¬ (x = 1)) (c_2 : ¬ (x = 2)) (c_3 : ¬ (x = 3)) (c_4 : x = 4) (e_5 : v_5 = (-y)) : v_5 = (dfM x y) := by
  simp only [dfM]; grind
theorem lf_X8_drifts_3 {x : Int32} {y : Int32} {v_6 : Int32} (c_1 : ¬ (x = 1)) (c_2 : ¬ (x = 2)) (c_3 : x = 3) (e_6 : v_6 = (2 * y)) : v_6 = (dfM x y) := by
  simp only [dfM]; grind
theorem lf_X8_drifts_4 {x : Int32} {y : Int32} {v_7 : Int32} (c_1 : ¬ (x = 1)) (c_2 : x = 2) (e_7 : v_7 = (y / 2)) : v_7 = (dfM x y) := by
  simp only [dfM]; grind
theorem lf_X8_drifts_5 {x : Int32} {y : Int32} (c_1 : x = 1) : y = (dfM x y) := by
  simp only [dfM]; grind
set_option maxHeartbeats 4000000 in
set_option maxRecDepth 100000 in
theorem r_X8_drifts (l : Launch) (dC : Nat → ClassId) (dI : Nat → Nat → Nat) (cI cZ cL cJ : ClassId) (x : Int32) (y : Int32)  : Met l yX8_drifts wsX8_drifts ({ frames := 0, cells := 0, slots := 0, locals := 0 }) (va_Pc [.int x, .int y] (fun U => va_P (dC, dI) vwCl [] U.heap ∧ va_K (dC, dI) vwCl [(cI, .int), (cZ, .boolean), (cL, .object RX3), (cJ, .array .int)] U)) (vp_Si (fun r => r = (dfM x y))) 0 0 (fun _ => False) := by
  refine Met.ofW (cc := cX8_drifts) (maxL := 2) (ret := (some .int)) (by decide) rfl ?_
  intro p e s m args below meth c s₁ B hml hv
  obtain ⟨rfl, hP, hK⟩ := hv
  have hx := B.exec
  have hb := B.bytes
  have hr := B.returns
  have hts := atoms_spec (ws := wsX8_drifts) B.pre
  have hown : s.vm.findClass RX8 = some m.cls := findClass_of_methodNamed B.named
  have hlocks := B.notSynchronized
  have hP : va_P (dC, dI) vwCl [] s.heap := hP
  have hl := lv_entry ([.int x, .int y]) (n := 2) (Nat.le_of_ble_eq_true rfl)
  rw [lg_entry_eq]
  generalize (lg_sl ([.int x, .int y]) ++ List.replicate (2 - (lg_sl ([.int x, .int y])).length) Slot.unset).toArray = ls at hl ⊢
  have hl : lv_has ls 2 [(0, .int x), (1, .int y)] := hl
  refine lv_iload_n hx hb dX8_drifts_0 rfl (lv_at hl 0 rfl) ?_
  refine lv_iconst (v := 1) hx hb dX8_drifts_1 (by decide) ?_
  refine lv_icmp_ne (tgt := 9) hx hb dX8_drifts_2 (by decide) (fun c_1 => ?_) (fun c_1 => ?_)
  · skip
    refine lv_iload_n hx hb dX8_drifts_9 rfl (lv_at hl 0 rfl) ?_
    refine lv_iconst (v := 2) hx hb dX8_drifts_10 (by decide) ?_
    refine lv_icmp_ne (tgt := 20) hx hb dX8_drifts_11 (by decide) (fun c_2 => ?_) (fun c_2 => ?_)
    · skip
      refine lv_iload_n hx hb dX8_drifts_20 rfl (lv_at hl 0 rfl) ?_
      refine lv_iconst (v := 3) hx hb dX8_drifts_21 (by decide) ?_
      refine lv_icmp_ne (tgt := 31) hx hb dX8_drifts_22 (by decide) (fun c_3 => ?_) (fun c_3 => ?_)
      · skip
        refine lv_iload_n hx hb dX8_drifts_31 rfl (lv_at hl 0 rfl) ?_
        refine lv_iconst (v := 4) hx hb dX8_drifts_32 (by decide) ?_
        refine lv_icmp_ne (tgt := 41) hx hb dX8_drifts_33 (by decide) (fun c_4 => ?_) (fun c_4 => ?_)
        · skip
          refine lv_iconst (v := 0) hx hb dX8_drifts_41 (by decide) ?_
          exact W.iret (v := 0) hx hb hr (fun t ht hW => ⟨0, rfl, (lf_X8_drifts_1 c_1 c_2 c_3 c_4), ht⟩) (fun _ h => by cases h) dX8_drifts_42
        · skip
          refine lv_iload_n hx hb dX8_drifts_36 rfl (lv_at hl 1 rfl) ?_
          refine lv_ineg hx hb dX8_drifts_37 ?_
          refine lv_topi (fun v_5 e_5 => ?_)
          refine lv_goto (tgt := 42) hx hb dX8_drifts_38 (by decide) ?_
          exact W.iret (v := v_5) hx hb hr (fun t ht hW => ⟨v_5, rfl, (lf_X8_drifts_2 c_1 c_2 c_3 c_4 e_5), ht⟩) (fun _ h => by cases h) dX8_drifts_42
      · skip
        refine lv_iconst (v := 2) hx hb dX8_drifts_25 (by decide) ?_
        refine lv_iload_n hx hb dX8_drifts_26 rfl (lv_at hl 1 rfl) ?_
        refine lv_imul hx hb dX8_drifts_27 ?_
        refine lv_topi (fun v_6 e_6 => ?_)
        refine lv_goto (tgt := 42) hx hb dX8_drifts_28 (by decide) ?_
        exact W.iret (v := v_6) hx hb hr (fun t ht hW => ⟨v_6, rfl, (lf_X8_drifts_3 c_1 c_2 c_3 e_6), ht⟩) (fun _ h => by cases h) dX8_drifts_42
    · skip
      refine lv_iload_n hx hb dX8_drifts_14 rfl (lv_at hl 1 rfl) ?_
      refine lv_iconst (v := 2) hx hb dX8_drifts_15 (by decide) ?_
      refine lv_idiv hx hb dX8_drifts_16 (by decide) ?_
      refine lv_topi (fun v_7 e_7 => ?_)
      refine lv_goto (tgt := 42) hx hb dX8_drifts_17 (by decide) ?_
      exact W.iret (v := v_7) hx hb hr (fun t ht hW => ⟨v_7, rfl, (lf_X8_drifts_4 c_1 c_2 e_7), ht⟩) (fun _ h => by cases h) dX8_drifts_42
  · skip
    refine lv_iload_n hx hb dX8_drifts_5 rfl (lv_at hl 1 rfl) ?_
    refine lv_goto (tgt := 42) hx hb dX8_drifts_6 (by decide) ?_
    exact W.iret (v := y) hx hb hr (fun t ht hW => ⟨y, rfl, (lf_X8_drifts_5 c_1), ht⟩) (fun _ h => by cases h) dX8_drifts_42
theorem lf_X8_kindBy_1 {x : Int32} (c_1 : ¬ (x = 118)) (c_2 : ¬ (x = 98)) (c_3 : ¬ (x = 104)) (c_4 : ¬ (x = 100)) (c_5 : ¬ (x = 115)) : 0 = (kindX x) := by
  unfold kindX; grind
theorem lf_X8_kindBy_2 {x : Int32} (c_1 : ¬ (x = 118)) (c_2 : ¬ (x = 98)) (c_3 : ¬ (x = 104)) (c_4 : ¬ (x = 100)) (c_5 : x = 115) : 5 = (kindX x) := by
  unfold kindX; grind
theorem lf_X8_kindBy_3 {x : Int32} (c_1 : ¬ (x = 118)) (c_2 : ¬ (x = 98)) (c_3 : ¬ (x = 104)) (c_4 : x = 100) : 4 = (kindX x) := by
  unfold kindX; grind
theorem lf_X8_kindBy_4 {x : Int32} (c_1 : ¬ (x = 118)) (c_2 : ¬ (x = 98)) (c_3 : x = 104) : 3 = (kindX x) := by
  unfold kindX; grind
theorem lf_X8_kindBy_5 {x : Int32} (c_1 : ¬ (x = 118)) (c_2 : x = 98) : 2 = (kindX x) := by
  unfold kindX; grind
theorem lf_X8_kindBy_6 {x : Int32} (c_1 : x = 118) : 1 = (kindX x) := by
  unfold kindX; grind
set_option maxHeartbeats 4000000 in
set_option maxRecDepth 100000 in
theorem r_X8_kindBy (l : Launch) (dC : Nat → ClassId) (dI : Nat → Nat → Nat) (cI cZ cL cJ : ClassId) (x : Int32)  : Met l yX8_kindBy wsX8_kindBy ({ frames := 0, cells := 0, slots := 0, locals := 0 }) (va_Pc [.int x] (fun U => va_P (dC, dI) vwCl [] U.heap ∧ va_K (dC, dI) vwCl [(cI, .int), (cZ, .boolean), (cL, .object RX3), (cJ, .array .int)] U)) (vp_Si (fun r => r = (kindX x))) 0 0 (fun _ => False) := by
  refine Met.ofW (cc := cX8_kindBy) (maxL := 1) (ret := (some .int)) (by decide) rfl ?_
  intro p e s m args below meth c s₁ B hml hv
  obtain ⟨rfl, hP, hK⟩ := hv
  have hx := B.exec
  have hb := B.bytes
  have hr := B.returns
  have hts := atoms_spec (ws := wsX8_kindBy) B.pre
  have hown : s.vm.findClass RX8 = some m.cls := findClass_of_methodNamed B.named
  have hlocks := B.notSynchronized
  have hP : va_P (dC, dI) vwCl [] s.heap := hP
  have hl := lv_entry ([.int x]) (n := 1) (Nat.le_of_ble_eq_true rfl)
  rw [lg_entry_eq]
  generalize (lg_sl ([.int x]) ++ List.replicate (1 - (lg_sl ([.int x])).length) Slot.unset).toArray = ls at hl ⊢
  have hl : lv_has ls 1 [(0, .int x)] := hl
  refine lv_iload_n hx hb dX8_kindBy_0 rfl (lv_at hl 0 rfl) ?_
  refine lv_bipush (v := 118) hx hb dX8_kindBy_1 (by decide) ?_
  refine lv_icmp_ne (tgt := 10) hx hb dX8_kindBy_3 (by decide) (fun c_1 => ?_) (fun c_1 => ?_)
  · skip
    refine lv_iload_n hx hb dX8_kindBy_10 rfl (lv_at hl 0 rfl) ?_
    refine lv_bipush (v := 98) hx hb dX8_kindBy_11 (by decide) ?_
    refine lv_icmp_ne (tgt := 20) hx hb dX8_kindBy_13 (by decide) (fun c_2 => ?_) (fun c_2 => ?_)
    · skip
      refine lv_iload_n hx hb dX8_kindBy_20 rfl (lv_at hl 0 rfl) ?_
      refine lv_bipush (v := 104) hx hb dX8_kindBy_21 (by decide) ?_
      refine lv_icmp_ne (tgt := 30) hx hb dX8_kindBy_23 (by decide) (fun c_3 => ?_) (fun c_3 => ?_)
      · skip
        refine lv_iload_n hx hb dX8_kindBy_30 rfl (lv_at hl 0 rfl) ?_
        refine lv_bipush (v := 100) hx hb dX8_kindBy_31 (by decide) ?_
        refine lv_icmp_ne (tgt := 40) hx hb dX8_kindBy_33 (by decide) (fun c_4 => ?_) (fun c_4 => ?_)
        · skip
          refine lv_iload_n hx hb dX8_kindBy_40 rfl (lv_at hl 0 rfl) ?_
          refine lv_bipush (v := 115) hx hb dX8_kindBy_41 (by decide) ?_
          refine lv_icmp_ne (tgt := 50) hx hb dX8_kindBy_43 (by decide) (fun c_5 => ?_) (fun c_5 => ?_)
          · skip
            refine lv_iconst (v := 0) hx hb dX8_kindBy_50 (by decide) ?_
            exact W.iret (v := 0) hx hb hr (fun t ht hW => ⟨0, rfl, (lf_X8_kindBy_1 c_1 c_2 c_3 c_4 c_5), ht⟩) (fun _ h => by cases h) dX8_kindBy_51
          · skip
            refine lv_iconst (v := 5) hx hb dX8_kindBy_46 (by decide) ?_
            refine lv_goto (tgt := 51) hx hb dX8_kindBy_47 (by decide) ?_
            exact W.iret (v := 5) hx hb hr (fun t ht hW => ⟨5, rfl, (lf_X8_kindBy_2 c_1 c_2 c_3 c_4 c_5), ht⟩) (fun _ h => by cases h) dX8_kindBy_51
        · skip
          refine lv_iconst (v := 4) hx hb dX8_kindBy_36 (by decide) ?_
          refine lv_goto (tgt := 51) hx hb dX8_kindBy_37 (by decide) ?_
          exact W.iret (v := 4) hx hb hr (fun t ht hW => ⟨4, rfl, (lf_X8_kindBy_3 c_1 c_2 c_3 c_4), ht⟩) (fun _ h => by cases h) dX8_kindBy_51
      · skip
        refine lv_iconst (v := 3) hx hb dX8_kindBy_26 (by decide) ?_
        refine lv_goto (tgt := 51) hx hb dX8_kindBy_27 (by decide) ?_
        exact W.iret (v := 3) hx hb hr (fun t ht hW => ⟨3, rfl, (lf_X8_kindBy_4 c_1 c_2 c_3), ht⟩) (fun _ h => by cases h) dX8_kindBy_51
    · skip
      refine lv_iconst (v := 2) hx hb dX8_kindBy_16 (by decide) ?_
      refine lv_goto (tgt := 51) hx hb dX8_kindBy_17 (by decide) ?_
      exact W.iret (v := 2) hx hb hr (fun t ht hW => ⟨2, rfl, (lf_X8_kindBy_5 c_1 c_2), ht⟩) (fun _ h => by cases h) dX8_kindBy_51
  · skip
    refine lv_iconst (v := 1) hx hb dX8_kindBy_6 (by decide) ?_
    refine lv_goto (tgt := 51) hx hb dX8_kindBy_7 (by decide) ?_
    exact W.iret (v := 1) hx hb hr (fun t ht hW => ⟨1, rfl, (lf_X8_kindBy_6 c_1), ht⟩) (fun _ h => by cases h) dX8_kindBy_51
theorem lf_X8_isKind_1 {x : Int32} {y : Int32} (c_1 : y = 0) : isK x y := by
  simp only [isK]; grind
theorem lf_X8_isKind_2 {x : Int32} {y : Int32} (c_1 : ¬ (y = 0)) (c_2 : x = y) : isK x y := by
  simp only [isK]; grind
theorem lf_X8_isKind_3 {x : Int32} {y : Int32} (c_1 : ¬ (y = 0)) (c_2 : ¬ (x = y)) (c_3 : ¬ (y = 1)) (c_4 : ¬ (y = 4)) : ¬ isK x y := by
  simp only [isK]; grind
theorem lf_X8_isKind_4 {x : Int32} {y : Int32} (c_1 : ¬ (y = 0)) (c_2 : ¬ (x = y)) (c_3 : ¬ (y = 1)) (c_4 : y = 4) (c_5 : ¬ (x = 5)) : ¬ isK x y := by
  simp only [isK]; grind
theorem lf_X8_isKind_5 {x : Int32} {y : Int32} (c_1 : ¬ (y = 0)) (c_2 : ¬ (x = y)) (c_3 : ¬ (y = 1)) (c_4 : y = 4) (c_5 : x = 5) : isK x y := by
  simp only [isK]; grind
theorem lf_X8_isKind_6 {x : Int32} {y : Int32} (c_1 : ¬ (y = 0)) (c_2 : ¬ (x = y)) (c_3 : y = 1) (c_6 : x < 4) : isK x y := by
  simp only [isK]; grind
theorem lf_X8_isKind_7 {x : Int32} {y : Int32} (c_1 : ¬ (y = 0)) (c_2 : ¬ (x = y)) (c_3 : y = 1) (c_6 : ¬ (x < 4)) (c_7 : ¬ (y = 4)) : ¬ isK x y := by
  simp only [isK]; grind
theorem lf_X8_isKind_8 {x : Int32} {y : Int32} (c_1 : ¬ (y = 0)) (c_2 : ¬ (x = y)) (c_3 : y = 1) (c_6 : ¬ (x < 4)) (c_7 : y = 4) (c_8 : ¬ (x = 5)) : ¬ isK x y := by
  simp only [isK]; grind
theorem lf_X8_isKind_9 {x : Int32} {y : Int32} (c_1 : ¬ (y = 0)) (c_2 : ¬ (x = y)) (c_3 : y = 1) (c_6 : ¬ (x < 4)) (c_7 : y = 4) (c_8 : x = 5) : isK x y := by
  simp only [isK]; grind
set_option maxHeartbeats 4000000 in
set_option maxRecDepth 100000 in
theorem r_X8_isKind (l : Launch) (dC : Nat → ClassId) (dI : Nat → Nat → Nat) (cI cZ cL cJ : ClassId) (x : Int32) (y : Int32)  : Met l yX8_isKind wsX8_isKind ({ frames := 0, cells := 0, slots := 0, locals := 0 }) (va_Pc [.int x, .int y] (fun U => va_P (dC, dI) vwCl [] U.heap ∧ va_K (dC, dI) vwCl [(cI, .int), (cZ, .boolean), (cL, .object RX3), (cJ, .array .int)] U)) (vp_Si (fun r => (r = 0 ∧ ¬ isK x y) ∨ (r = 1 ∧ isK x y))) 0 0 (fun _ => False) := by
  refine Met.ofW (cc := cX8_isKind) (maxL := 2) (ret := (some .boolean)) (by decide) rfl ?_
  intro p e s m args below meth c s₁ B hml hv
  obtain ⟨rfl, hP, hK⟩ := hv
  have hx := B.exec
  have hb := B.bytes
  have hr := B.returns
  have hts := atoms_spec (ws := wsX8_isKind) B.pre
  have hown : s.vm.findClass RX8 = some m.cls := findClass_of_methodNamed B.named
  have hlocks := B.notSynchronized
  have hP : va_P (dC, dI) vwCl [] s.heap := hP
  have hl := lv_entry ([.int x, .int y]) (n := 2) (Nat.le_of_ble_eq_true rfl)
  rw [lg_entry_eq]
  generalize (lg_sl ([.int x, .int y]) ++ List.replicate (2 - (lg_sl ([.int x, .int y])).length) Slot.unset).toArray = ls at hl ⊢
  have hl : lv_has ls 2 [(0, .int x), (1, .int y)] := hl
  refine lv_iload_n hx hb dX8_isKind_0 rfl (lv_at hl 1 rfl) ?_
  refine lv_if_eq (tgt := 29) hx hb dX8_isKind_1 (by decide) (fun c_1 => ?_) (fun c_1 => ?_)
  · skip
    refine lv_iconst (v := 1) hx hb dX8_isKind_29 (by decide) ?_
    refine lv_goto (tgt := 34) hx hb dX8_isKind_30 (by decide) ?_
    exact W.zret (v := 1) hx hb hr (by decide) (fun t ht hW => ⟨1, rfl, Or.inr (⟨rfl, (lf_X8_isKind_1 c_1)⟩), ht⟩) (fun _ h => by cases h) dX8_isKind_34
  · skip
    refine lv_iload_n hx hb dX8_isKind_4 rfl (lv_at hl 0 rfl) ?_
    refine lv_iload_n hx hb dX8_isKind_5 rfl (lv_at hl 1 rfl) ?_
    refine lv_icmp_eq (tgt := 29) hx hb dX8_isKind_6 (by decide) (fun c_2 => ?_) (fun c_2 => ?_)
    · skip
      refine lv_iconst (v := 1) hx hb dX8_isKind_29 (by decide) ?_
      refine lv_goto (tgt := 34) hx hb dX8_isKind_30 (by decide) ?_
      exact W.zret (v := 1) hx hb hr (by decide) (fun t ht hW => ⟨1, rfl, Or.inr (⟨rfl, (lf_X8_isKind_2 c_1 c_2)⟩), ht⟩) (fun _ h => by cases h) dX8_isKind_34
    · skip
      refine lv_iload_n hx hb dX8_isKind_9 rfl (lv_at hl 1 rfl) ?_
      refine lv_iconst (v := 1) hx hb dX8_isKind_10 (by decide) ?_
      refine lv_icmp_ne (tgt := 19) hx hb dX8_isKind_11 (by decide) (fun c_3 => ?_) (fun c_3 => ?_)
      · skip
        refine lv_iload_n hx hb dX8_isKind_19 rfl (lv_at hl 1 rfl) ?_
        refine lv_iconst (v := 4) hx hb dX8_isKind_20 (by decide) ?_
        refine lv_icmp_ne (tgt := 33) hx hb dX8_isKind_21 (by decide) (fun c_4 => ?_) (fun c_4 => ?_)
        · skip
          refine lv_iconst (v := 0) hx hb dX8_isKind_33 (by decide) ?_
          exact W.zret (v := 0) hx hb hr (by decide) (fun t ht hW => ⟨0, rfl, Or.inl (⟨rfl, (lf_X8_isKind_3 c_1 c_2 c_3 c_4)⟩), ht⟩) (fun _ h => by cases h) dX8_isKind_34
        · skip
          refine lv_iload_n hx hb dX8_isKind_24 rfl (lv_at hl 0 rfl) ?_
          refine lv_iconst (v := 5) hx hb dX8_isKind_25 (by decide) ?_
          refine lv_icmp_ne (tgt := 33) hx hb dX8_isKind_26 (by decide) (fun c_5 => ?_) (fun c_5 => ?_)
          · skip
            refine lv_iconst (v := 0) hx hb dX8_isKind_33 (by decide) ?_
            exact W.zret (v := 0) hx hb hr (by decide) (fun t ht hW => ⟨0, rfl, Or.inl (⟨rfl, (lf_X8_isKind_4 c_1 c_2 c_3 c_4 c_5)⟩), ht⟩) (fun _ h => by cases h) dX8_isKind_34
          · skip
            refine lv_iconst (v := 1) hx hb dX8_isKind_29 (by decide) ?_
            refine lv_goto (tgt := 34) hx hb dX8_isKind_30 (by decide) ?_
            exact W.zret (v := 1) hx hb hr (by decide) (fun t ht hW => ⟨1, rfl, Or.inr (⟨rfl, (lf_X8_isKind_5 c_1 c_2 c_3 c_4 c_5)⟩), ht⟩) (fun _ h => by cases h) dX8_isKind_34
      · skip
        refine lv_iload_n hx hb dX8_isKind_14 rfl (lv_at hl 0 rfl) ?_
        refine lv_iconst (v := 4) hx hb dX8_isKind_15 (by decide) ?_
        refine lv_icmp_lt (tgt := 29) hx hb dX8_isKind_16 (by decide) (fun c_6 => ?_) (fun c_6 => ?_)
        · skip
          refine lv_iconst (v := 1) hx hb dX8_isKind_29 (by decide) ?_
          refine lv_goto (tgt := 34) hx hb dX8_isKind_30 (by decide) ?_
          exact W.zret (v := 1) hx hb hr (by decide) (fun t ht hW => ⟨1, rfl, Or.inr (⟨rfl, (lf_X8_isKind_6 c_1 c_2 c_3 c_6)⟩), ht⟩) (fun _ h => by cases h) dX8_isKind_34
        · skip
          refine lv_iload_n hx hb dX8_isKind_19 rfl (lv_at hl 1 rfl) ?_
          refine lv_iconst (v := 4) hx hb dX8_isKind_20 (by decide) ?_
          refine lv_icmp_ne (tgt := 33) hx hb dX8_isKind_21 (by decide) (fun c_7 => ?_) (fun c_7 => ?_)
          · skip
            refine lv_iconst (v := 0) hx hb dX8_isKind_33 (by decide) ?_
            exact W.zret (v := 0) hx hb hr (by decide) (fun t ht hW => ⟨0, rfl, Or.inl (⟨rfl, (lf_X8_isKind_7 c_1 c_2 c_3 c_6 c_7)⟩), ht⟩) (fun _ h => by cases h) dX8_isKind_34
          · skip
            refine lv_iload_n hx hb dX8_isKind_24 rfl (lv_at hl 0 rfl) ?_
            refine lv_iconst (v := 5) hx hb dX8_isKind_25 (by decide) ?_
            refine lv_icmp_ne (tgt := 33) hx hb dX8_isKind_26 (by decide) (fun c_8 => ?_) (fun c_8 => ?_)
            · skip
              refine lv_iconst (v := 0) hx hb dX8_isKind_33 (by decide) ?_
              exact W.zret (v := 0) hx hb hr (by decide) (fun t ht hW => ⟨0, rfl, Or.inl (⟨rfl, (lf_X8_isKind_8 c_1 c_2 c_3 c_6 c_7 c_8)⟩), ht⟩) (fun _ h => by cases h) dX8_isKind_34
            · skip
              refine lv_iconst (v := 1) hx hb dX8_isKind_29 (by decide) ?_
              refine lv_goto (tgt := 34) hx hb dX8_isKind_30 (by decide) ?_
              exact W.zret (v := 1) hx hb hr (by decide) (fun t ht hW => ⟨1, rfl, Or.inr (⟨rfl, (lf_X8_isKind_9 c_1 c_2 c_3 c_6 c_7 c_8)⟩), ht⟩) (fun _ h => by cases h) dX8_isKind_34
theorem lf_X8_asLane_1 {x : Int32} {y : Int32} (c_1 : ¬ (x = 0)) (c_2 : ¬ (x = 1)) : y = (laneM x y) := by
  unfold laneM; grind
theorem lf_X8_asLane_2 {x : Int32} {y : Int32} {v_3 : Int32} {v_4 : Int32} (c_1 : ¬ (x = 0)) (c_2 : x = 1) (e_3 : v_3 = ((y : Int32) <<< ((16 : Int32) &&& 31))) (e_4 : v_4 = ((v_3 : Int32) >>> ((16 : Int32) &&& 31))) : v_4 = (laneM x y) := by
  unfold laneM; grind
theorem lf_X8_asLane_3 {x : Int32} {y : Int32} {v_5 : Int32} {v_6 : Int32} (c_1 : x = 0) (e_5 : v_5 = ((y : Int32) <<< ((24 : Int32) &&& 31))) (e_6 : v_6 = ((v_5 : Int32) >>> ((24 : Int32) &&& 31))) : v_6 = (laneM x y) := by
  unfold laneM; grind
set_option maxHeartbeats 4000000 in
set_option maxRecDepth 100000 in
theorem r_X8_asLane (l : Launch) (dC : Nat → ClassId) (dI : Nat → Nat → Nat) (cI cZ cL cJ : ClassId) (x : Int32) (y : Int32)  : Met l yX8_asLane wsX8_asLane ({ frames := 0, cells := 0, slots := 0, locals := 0 }) (va_Pc [.int x, .int y] (fun U => va_P (dC, dI) vwCl [] U.heap ∧ va_K (dC, dI) vwCl [(cI, .int), (cZ, .boolean), (cL, .object RX3), (cJ, .array .int)] U)) (vp_Si (fun r => r = (laneM x y))) 0 0 (fun _ => False) := by
  refine Met.ofW (cc := cX8_asLane) (maxL := 2) (ret := (some .int)) (by decide) rfl ?_
  intro p e s m args below meth c s₁ B hml hv
  obtain ⟨rfl, hP, hK⟩ := hv
  have hx := B.exec
  have hb := B.bytes
  have hr := B.returns
  have hts := atoms_spec (ws := wsX8_asLane) B.pre
  have hown : s.vm.findClass RX8 = some m.cls := findClass_of_methodNamed B.named
  have hlocks := B.notSynchronized
  have hP : va_P (dC, dI) vwCl [] s.heap := hP
  have hl := lv_entry ([.int x, .int y]) (n := 2) (Nat.le_of_ble_eq_true rfl)
  rw [lg_entry_eq]
  generalize (lg_sl ([.int x, .int y]) ++ List.replicate (2 - (lg_sl ([.int x, .int y])).length) Slot.unset).toArray = ls at hl ⊢
  have hl : lv_has ls 2 [(0, .int x), (1, .int y)] := hl
  refine lv_iload_n hx hb dX8_asLane_0 rfl (lv_at hl 0 rfl) ?_
  refine lv_if_ne (tgt := 14) hx hb dX8_asLane_1 (by decide) (fun c_1 => ?_) (fun c_1 => ?_)
  · skip
    refine lv_iload_n hx hb dX8_asLane_14 rfl (lv_at hl 0 rfl) ?_
    refine lv_iconst (v := 1) hx hb dX8_asLane_15 (by decide) ?_
    refine lv_icmp_ne (tgt := 29) hx hb dX8_asLane_16 (by decide) (fun c_2 => ?_) (fun c_2 => ?_)
    · skip
      refine lv_iload_n hx hb dX8_asLane_29 rfl (lv_at hl 1 rfl) ?_
      exact W.iret (v := y) hx hb hr (fun t ht hW => ⟨y, rfl, (lf_X8_asLane_1 c_1 c_2), ht⟩) (fun _ h => by cases h) dX8_asLane_30
    · skip
      refine lv_iload_n hx hb dX8_asLane_19 rfl (lv_at hl 1 rfl) ?_
      refine lv_bipush (v := 16) hx hb dX8_asLane_20 (by decide) ?_
      refine lv_ishl hx hb dX8_asLane_22 ?_
      refine lv_topi (fun v_3 e_3 => ?_)
      refine lv_bipush (v := 16) hx hb dX8_asLane_23 (by decide) ?_
      refine lv_ishr hx hb dX8_asLane_25 ?_
      refine lv_topi (fun v_4 e_4 => ?_)
      refine lv_goto (tgt := 30) hx hb dX8_asLane_26 (by decide) ?_
      exact W.iret (v := v_4) hx hb hr (fun t ht hW => ⟨v_4, rfl, (lf_X8_asLane_2 c_1 c_2 e_3 e_4), ht⟩) (fun _ h => by cases h) dX8_asLane_30
  · skip
    refine lv_iload_n hx hb dX8_asLane_4 rfl (lv_at hl 1 rfl) ?_
    refine lv_bipush (v := 24) hx hb dX8_asLane_5 (by decide) ?_
    refine lv_ishl hx hb dX8_asLane_7 ?_
    refine lv_topi (fun v_5 e_5 => ?_)
    refine lv_bipush (v := 24) hx hb dX8_asLane_8 (by decide) ?_
    refine lv_ishr hx hb dX8_asLane_10 ?_
    refine lv_topi (fun v_6 e_6 => ?_)
    refine lv_goto (tgt := 30) hx hb dX8_asLane_11 (by decide) ?_
    exact W.iret (v := v_6) hx hb hr (fun t ht hW => ⟨v_6, rfl, (lf_X8_asLane_3 c_1 e_5 e_6), ht⟩) (fun _ h => by cases h) dX8_asLane_30
set_option maxHeartbeats 4000000 in
set_option maxRecDepth 100000 in
theorem r_X8_isWhat (l : Launch) (dC : Nat → ClassId) (dI : Nat → Nat → Nat) (cI cZ cL cJ : ClassId) (x : Int32)  : Met l yX8_isWhat wsX8_isWhat ({ frames := 1, cells := 0, slots := 0, locals := 25 }) (va_Pc [.int x] (fun U => va_P (dC, dI) vwCl [] U.heap ∧ va_K (dC, dI) vwCl [(cI, .int), (cZ, .boolean), (cL, .object RX3), (cJ, .array .int)] U)) (vp_Si (fun r => True)) 0 0 (fun _ => False) := by
  refine Met.ofW (cc := cX8_isWhat) (maxL := 1) (ret := (some .boolean)) (by decide) rfl ?_
  intro p e s m args below meth c s₁ B hml hv
  obtain ⟨rfl, hP, hK⟩ := hv
  have hx := B.exec
  have hb := B.bytes
  have hr := B.returns
  have hts := atoms_spec (ws := wsX8_isWhat) B.pre
  have hown : s.vm.findClass RX8 = some m.cls := findClass_of_methodNamed B.named
  have hlocks := B.notSynchronized
  have hP : va_P (dC, dI) vwCl [] s.heap := hP
  have hl := lv_entry ([.int x]) (n := 1) (Nat.le_of_ble_eq_true rfl)
  rw [lg_entry_eq]
  generalize (lg_sl ([.int x]) ++ List.replicate (1 - (lg_sl ([.int x])).length) Slot.unset).toArray = ls at hl ⊢
  have hl : lv_has ls 1 [(0, .int x)] := hl
  refine lv_iload_n hx hb dX8_isWhat_0 rfl (lv_at hl 0 rfl) ?_
  refine lv_i2l hx hb dX8_isWhat_1 rfl ?_
  refine lv_lconst (v := 0) hx hb dX8_isWhat_2 (by decide) ?_
  refine lv_lconst (v := 1) hx hb dX8_isWhat_3 (by decide) ?_
  have hPc_1 := hP
  refine vp_callSi (W.runS (As := [.long (x).toInt64, .long 0, .long 1]) (rest := []) ⟨hx, hb, hml, hown, hts⟩ (r_X8_in l dC dI cI cZ cL cJ ((x).toInt64) 0 1 ) (va_cwS 3 hts gX8_isWhat_X8_in rfl rfl rfl (by decide +kernel) ⟨Nat.le_of_ble_eq_true rfl, Nat.le_of_ble_eq_true rfl⟩) (psP hK hPc_1) rfl rfl hl.1 rfl (lv_room (Nat.le_of_ble_eq_true rfl)) dX8_isWhat_4 ⟨Nat.le_of_ble_eq_true rfl, Nat.le_of_ble_eq_true rfl⟩) (fun r_1 h_1 => ?_)
  rcases h_1 with ⟨h_1, f_1_0_0⟩ | ⟨h_1, f_1_1_0⟩
  · subst h_1
    exact W.zret (v := 0) hx hb hr (by decide) (fun t ht hW => ⟨0, rfl, trivial, ht⟩) (fun _ h => by cases h) dX8_isWhat_7
  · subst h_1
    exact W.zret (v := 1) hx hb hr (by decide) (fun t ht hW => ⟨1, rfl, trivial, ht⟩) (fun _ h => by cases h) dX8_isWhat_7
set_option maxHeartbeats 4000000 in
set_option maxRecDepth 100000 in
theorem r_X8_isRow (l : Launch) (dC : Nat → ClassId) (dI : Nat → Nat → Nat) (cI cZ cL cJ : ClassId) (a : Int32)  : Met l yX8_isRow wsX8_isRow ({ frames := 1, cells := 0, slots := 0, locals := 25 }) (va_Pc [.int a] (fun U => va_P (dC, dI) vwCl [] U.heap ∧ va_K (dC, dI) vwCl [(cI, .int), (cZ, .boolean), (cL, .object RX3), (cJ, .array .int)] U)) (vp_Si (fun r => (r = 0 ∧ (a < 0 ∨ 8 ≤ a)) ∨ (r = 1 ∧ vp_in a 8))) 0 0 (fun _ => False) := by
  refine Met.ofW (cc := cX8_isRow) (maxL := 1) (ret := (some .boolean)) (by decide) rfl ?_
  intro p e s m args below meth c s₁ B hml hv
  obtain ⟨rfl, hP, hK⟩ := hv
  have hx := B.exec
  have hb := B.bytes
  have hr := B.returns
  have hts := atoms_spec (ws := wsX8_isRow) B.pre
  have hown : s.vm.findClass RX8 = some m.cls := findClass_of_methodNamed B.named
  have hlocks := B.notSynchronized
  have hP : va_P (dC, dI) vwCl [] s.heap := hP
  have hl := lv_entry ([.int a]) (n := 1) (Nat.le_of_ble_eq_true rfl)
  rw [lg_entry_eq]
  generalize (lg_sl ([.int a]) ++ List.replicate (1 - (lg_sl ([.int a])).length) Slot.unset).toArray = ls at hl ⊢
  have hl : lv_has ls 1 [(0, .int a)] := hl
  refine lv_iload_n hx hb dX8_isRow_0 rfl (lv_at hl 0 rfl) ?_
  refine lv_i2l hx hb dX8_isRow_1 rfl ?_
  refine lv_lconst (v := 0) hx hb dX8_isRow_2 (by decide) ?_
  refine lv_ldc2 (own := RX8) (v := 7) hx hb hown (hts _ mx_X8_isRow_1) dX8_isRow_3 ?_
  have hPc_1 := hP
  refine vp_callSi (W.runS (As := [.long (a).toInt64, .long 0, .long 7]) (rest := []) ⟨hx, hb, hml, hown, hts⟩ (r_X8_in l dC dI cI cZ cL cJ ((a).toInt64) 0 7 ) (va_cwS 3 hts gX8_isRow_X8_in rfl rfl rfl (by decide +kernel) ⟨Nat.le_of_ble_eq_true rfl, Nat.le_of_ble_eq_true rfl⟩) (psP hK hPc_1) rfl rfl hl.1 rfl (lv_room (Nat.le_of_ble_eq_true rfl)) dX8_isRow_6 ⟨Nat.le_of_ble_eq_true rfl, Nat.le_of_ble_eq_true rfl⟩) (fun r_1 h_1 => ?_)
  rcases h_1 with ⟨h_1, f_1_0_0⟩ | ⟨h_1, f_1_1_0⟩
  · subst h_1
    exact W.zret (v := 0) hx hb hr (by decide) (fun t ht hW => ⟨0, rfl, Or.inl ⟨rfl, row64.mp f_1_0_0⟩, ht⟩) (fun _ h => by cases h) dX8_isRow_9
  · subst h_1
    exact W.zret (v := 1) hx hb hr (by decide) (fun t ht hW => ⟨1, rfl, Or.inr ⟨rfl, in_8 (fun q => f_1_1_0 (row64.mpr q))⟩, ht⟩) (fun _ h => by cases h) dX8_isRow_9
theorem lf_X8_find_1 {n : Int32} {v_1 : Int32} (e_1 : v_1 = ((-1000010) - n)) : (n : Int32) = n := by
  first | assumption | rfl
theorem lf_X8_find_2 {n : Int32} {v_1 : Int32} (e_1 : v_1 = ((-1000010) - n)) : v_1 = (-1000010 - n) := by
  first | assumption | rfl
set_option maxHeartbeats 4000000 in
set_option maxRecDepth 100000 in
theorem r_X8_find (l : Launch) (dC : Nat → ClassId) (dI : Nat → Nat → Nat) (cI cZ cL cJ : ClassId) (sz : Nat) (mo : Nat) (m_la : Nat) (m_sz : Nat) (m_it : Nat) (m_st : Nat) (m_mv : Nat) (m_tp : Nat) (m_rd : Nat) (m_ac : Nat) (m_as : Nat) (m_wo : Nat) (m_ik : Nat) (m_ke : Nat) (m_tr : Nat) (ms : Int32) (mt : Int32) (ml : Int32) (mk : Int32) (mv : Int32) (mb : Int32) (mw : Int32) (mz : Nat) (mp : Nat) (ma : Nat) (mx : Nat) (n : Int32)  : Met l yX8_find wsX8_find ({ frames := 0, cells := 0, slots := 0, locals := 0 }) (va_Pc [.ref mo, .int n] (fun U => U.heap.size = sz ∧ va_P (dC, dI) vwCl [(xo_8_rrriirrriiiiiiirrirrrrri mo m_la m_sz m_it ms mt m_st m_mv m_tp (nI mz) ml (nI mp) mk mv mb mw m_rd m_ac (nI ma) m_as m_wo m_ik m_ke m_tr (nI mx))] U.heap ∧ va_K (dC, dI) vwCl [(cI, .int), (cZ, .boolean), (cL, .object RX3), (cJ, .array .int)] U ∧ va_D (fun _ => True) [(xo_8_rrriirrriiiiiiirrirrrrri mo m_la m_sz m_it ms mt m_st m_mv m_tp (nI mz) ml (nI mp) mk mv mb mw m_rd m_ac (nI ma) m_as m_wo m_ik m_ke m_tr (nI mx))])) (va_Qi (fun r (_ : Unit) => r = (-1000010 - n)) (fun (_ : Unit) t => ∃ (msn : Int32), va_P (dC, dI) vwCl [(xo_8_rrriirrriiiiiiirrirrrrri mo m_la m_sz m_it msn mt m_st m_mv m_tp (nI mz) ml (nI mp) mk mv mb mw m_rd m_ac (nI ma) m_as m_wo m_ik m_ke m_tr (nI mx))] t.heap ∧ va_D (va_A [(xo_8_rrriirrriiiiiiirrirrrrri mo m_la m_sz m_it ms mt m_st m_mv m_tp (nI mz) ml (nI mp) mk mv mb mw m_rd m_ac (nI ma) m_as m_wo m_ik m_ke m_tr (nI mx))] sz) [(xo_8_rrriirrriiiiiiirrirrrrri mo m_la m_sz m_it msn mt m_st m_mv m_tp (nI mz) ml (nI mp) mk mv mb mw m_rd m_ac (nI ma) m_as m_wo m_ik m_ke m_tr (nI mx))] ∧ (msn : Int32) = n) (va_A [(xo_8_rrriirrriiiiiiirrirrrrri mo m_la m_sz m_it ms mt m_st m_mv m_tp (nI mz) ml (nI mp) mk mv mb mw m_rd m_ac (nI ma) m_as m_wo m_ik m_ke m_tr (nI mx))] sz)) 0 0 (va_A [(xo_8_rrriirrriiiiiiirrirrrrri mo m_la m_sz m_it ms mt m_st m_mv m_tp (nI mz) ml (nI mp) mk mv mb mw m_rd m_ac (nI ma) m_as m_wo m_ik m_ke m_tr (nI mx))] sz) := by
  refine Met.ofW (cc := cX8_find) (maxL := 2) (ret := (some .int)) (by decide) rfl ?_
  intro p e s m args below meth c s₁ B hml hv
  obtain ⟨rfl, hsz, hP, hK, hD0⟩ := hv
  have hx := B.exec
  have hb := B.bytes
  have hr := B.returns
  have hts := atoms_spec (ws := wsX8_find) B.pre
  have hown : s.vm.findClass RX8 = some m.cls := findClass_of_methodNamed B.named
  have hlocks := B.notSynchronized
  subst hsz
  have hD := hD0.self (sz := s.heap.size)
  generalize hAe : va_A [(xo_8_rrriirrriiiiiiirrirrrrri mo m_la m_sz m_it ms mt m_st m_mv m_tp (nI mz) ml (nI mp) mk mv mb mw m_rd m_ac (nI ma) m_as m_wo m_ik m_ke m_tr (nI mx))] s.heap.size = A at hD ⊢
  have hA : ∀ q : Nat, s.heap.size ≤ q → A q := fun q h => by rw [← hAe]; exact Or.inr h
  have hS : va_S A s.heap s.heap [] := va_S.rf
  have hP : va_P (dC, dI) vwCl [(xo_8_rrriirrriiiiiiirrirrrrri mo m_la m_sz m_it ms mt m_st m_mv m_tp (nI mz) ml (nI mp) mk mv mb mw m_rd m_ac (nI ma) m_as m_wo m_ik m_ke m_tr (nI mx))] s.heap := hP
  have hl := lv_entry ([.ref mo, .int n]) (n := 2) (Nat.le_of_ble_eq_true rfl)
  rw [lg_entry_eq]
  generalize (lg_sl ([.ref mo, .int n]) ++ List.replicate (2 - (lg_sl ([.ref mo, .int n])).length) Slot.unset).toArray = ls at hl ⊢
  have hl : lv_has ls 2 [(0, .ref mo), (1, .int n)] := hl
  refine lv_aload_n hx hb dX8_find_0 rfl (lv_at hl 0 rfl) ?_
  refine lv_iload_n hx hb dX8_find_1 rfl (lv_at hl 1 rfl) ?_
  refine va_put (D := (dC, dI)) (ci := 8) (v := .int n) (ty := .int) (C := RX8) (T := TX8) (N := 24) hx hb hts i_X8_find_X8 tyX8 tyX8_ok nmX8 hown hK hP hD hS 0 rfl rfl 3 (by decide) (hts _ mx_X8_find_1) (fun _ h9 => h9) rfl (by decide +kernel) rfl rfl (Nat.le_of_ble_eq_true rfl) dX8_find_2 (fun H locs hP hD hS => ?_)
  have hP : va_P (dC, dI) vwCl [(xo_8_rrriirrriiiiiiirrirrrrri mo m_la m_sz m_it n mt m_st m_mv m_tp (nI mz) ml (nI mp) mk mv mb mw m_rd m_ac (nI ma) m_as m_wo m_ik m_ke m_tr (nI mx))] H := hP
  have hD := dto hP hD
  refine lv_ldc (own := RX8) (v := (-1000010)) hx hb hown (hts _ mx_X8_find_2) dX8_find_5 ?_
  refine lv_iload_n hx hb dX8_find_7 rfl (lv_at hl 1 rfl) ?_
  refine lv_isub hx hb dX8_find_8 ?_
  refine lv_topi (fun v_1 e_1 => ?_)
  have hX9 := cut2 (wc := [(xo_8_rrriirrriiiiiiirrirrrrri mo m_la m_sz m_it n mt m_st m_mv m_tp (nI mz) ml (nI mp) mk mv mb mw m_rd m_ac (nI ma) m_as m_wo m_ik m_ke m_tr (nI mx))]) hP hD [0] (by decide +kernel) rfl
  exact W.iret (v := v_1) hx hb hr (fun t ht hW => ⟨⟨v_1, (), rfl, (lf_X8_find_2 e_1), ⟨n, va_Ht ht hX9.1, hX9.2, (lf_X8_find_1 e_1)⟩⟩, hS.F ht⟩) hS.2.2 dX8_find_9
theorem lf_X8_well_1   : (0 : Int32) = 0 := by
  first | assumption | rfl
set_option maxHeartbeats 4000000 in
set_option maxRecDepth 100000 in
theorem r_X8_well (l : Launch) (dC : Nat → ClassId) (dI : Nat → Nat → Nat) (cI cZ cL cJ : ClassId) (sz : Nat) (mo : Nat) (m_la : Nat) (m_sz : Nat) (m_it : Nat) (m_st : Nat) (m_mv : Nat) (m_tp : Nat) (m_rd : Nat) (m_ac : Nat) (m_as : Nat) (m_wo : Nat) (m_ik : Nat) (m_ke : Nat) (m_tr : Nat) (ms : Int32) (mt : Int32) (ml : Int32) (mk : Int32) (mv : Int32) (mb : Int32) (mw : Int32) (mz : Nat) (mp : Nat) (ma : Nat) (mx : Nat) (n : Int32)  : Met l yX8_well wsX8_well ({ frames := 0, cells := 0, slots := 0, locals := 0 }) (va_Pc [.ref mo, .int n] (fun U => U.heap.size = sz ∧ va_P (dC, dI) vwCl [(xo_8_rrriirrriiiiiiirrirrrrri mo m_la m_sz m_it ms mt m_st m_mv m_tp (nI mz) ml (nI mp) mk mv mb mw m_rd m_ac (nI ma) m_as m_wo m_ik m_ke m_tr (nI mx))] U.heap ∧ va_K (dC, dI) vwCl [(cI, .int), (cZ, .boolean), (cL, .object RX3), (cJ, .array .int)] U ∧ va_D (fun _ => True) [(xo_8_rrriirrriiiiiiirrirrrrri mo m_la m_sz m_it ms mt m_st m_mv m_tp (nI mz) ml (nI mp) mk mv mb mw m_rd m_ac (nI ma) m_as m_wo m_ik m_ke m_tr (nI mx))])) (va_Qi (fun r (_ : Unit) => r = n) (fun (_ : Unit) t => ∃ (msn : Int32), va_P (dC, dI) vwCl [(xo_8_rrriirrriiiiiiirrirrrrri mo m_la m_sz m_it msn mt m_st m_mv m_tp (nI mz) ml (nI mp) mk mv mb mw m_rd m_ac (nI ma) m_as m_wo m_ik m_ke m_tr (nI mx))] t.heap ∧ va_D (va_A [(xo_8_rrriirrriiiiiiirrirrrrri mo m_la m_sz m_it ms mt m_st m_mv m_tp (nI mz) ml (nI mp) mk mv mb mw m_rd m_ac (nI ma) m_as m_wo m_ik m_ke m_tr (nI mx))] sz) [(xo_8_rrriirrriiiiiiirrirrrrri mo m_la m_sz m_it msn mt m_st m_mv m_tp (nI mz) ml (nI mp) mk mv mb mw m_rd m_ac (nI ma) m_as m_wo m_ik m_ke m_tr (nI mx))] ∧ (msn : Int32) = 0) (va_A [(xo_8_rrriirrriiiiiiirrirrrrri mo m_la m_sz m_it ms mt m_st m_mv m_tp (nI mz) ml (nI mp) mk mv mb mw m_rd m_ac (nI ma) m_as m_wo m_ik m_ke m_tr (nI mx))] sz)) 0 0 (va_A [(xo_8_rrriirrriiiiiiirrirrrrri mo m_la m_sz m_it ms mt m_st m_mv m_tp (nI mz) ml (nI mp) mk mv mb mw m_rd m_ac (nI ma) m_as m_wo m_ik m_ke m_tr (nI mx))] sz) := by
  refine Met.ofW (cc := cX8_well) (maxL := 2) (ret := (some .int)) (by decide) rfl ?_
  intro p e s m args below meth c s₁ B hml hv
  obtain ⟨rfl, hsz, hP, hK, hD0⟩ := hv
  have hx := B.exec
  have hb := B.bytes
  have hr := B.returns
  have hts := atoms_spec (ws := wsX8_well) B.pre
  have hown : s.vm.findClass RX8 = some m.cls := findClass_of_methodNamed B.named
  have hlocks := B.notSynchronized
  subst hsz
  have hD := hD0.self (sz := s.heap.size)
  generalize hAe : va_A [(xo_8_rrriirrriiiiiiirrirrrrri mo m_la m_sz m_it ms mt m_st m_mv m_tp (nI mz) ml (nI mp) mk mv mb mw m_rd m_ac (nI ma) m_as m_wo m_ik m_ke m_tr (nI mx))] s.heap.size = A at hD ⊢
  have hA : ∀ q : Nat, s.heap.size ≤ q → A q := fun q h => by rw [← hAe]; exact Or.inr h
  have hS : va_S A s.heap s.heap [] := va_S.rf
  have hP : va_P (dC, dI) vwCl [(xo_8_rrriirrriiiiiiirrirrrrri mo m_la m_sz m_it ms mt m_st m_mv m_tp (nI mz) ml (nI mp) mk mv mb mw m_rd m_ac (nI ma) m_as m_wo m_ik m_ke m_tr (nI mx))] s.heap := hP
  have hl := lv_entry ([.ref mo, .int n]) (n := 2) (Nat.le_of_ble_eq_true rfl)
  rw [lg_entry_eq]
  generalize (lg_sl ([.ref mo, .int n]) ++ List.replicate (2 - (lg_sl ([.ref mo, .int n])).length) Slot.unset).toArray = ls at hl ⊢
  have hl : lv_has ls 2 [(0, .ref mo), (1, .int n)] := hl
  refine lv_aload_n hx hb dX8_well_0 rfl (lv_at hl 0 rfl) ?_
  refine lv_iconst (v := 0) hx hb dX8_well_1 (by decide) ?_
  refine va_put (D := (dC, dI)) (ci := 8) (v := .int 0) (ty := .int) (C := RX8) (T := TX8) (N := 24) hx hb hts i_X8_well_X8 tyX8 tyX8_ok nmX8 hown hK hP hD hS 0 rfl rfl 3 (by decide) (hts _ mx_X8_well_1) (fun _ h9 => h9) rfl (by decide +kernel) rfl rfl (Nat.le_of_ble_eq_true rfl) dX8_well_2 (fun H locs hP hD hS => ?_)
  have hP : va_P (dC, dI) vwCl [(xo_8_rrriirrriiiiiiirrirrrrri mo m_la m_sz m_it 0 mt m_st m_mv m_tp (nI mz) ml (nI mp) mk mv mb mw m_rd m_ac (nI ma) m_as m_wo m_ik m_ke m_tr (nI mx))] H := hP
  have hD := dto hP hD
  refine lv_iload_n hx hb dX8_well_5 rfl (lv_at hl 1 rfl) ?_
  have hX9 := cut2 (wc := [(xo_8_rrriirrriiiiiiirrirrrrri mo m_la m_sz m_it 0 mt m_st m_mv m_tp (nI mz) ml (nI mp) mk mv mb mw m_rd m_ac (nI ma) m_as m_wo m_ik m_ke m_tr (nI mx))]) hP hD [0] (by decide +kernel) rfl
  exact W.iret (v := n) hx hb hr (fun t ht hW => ⟨⟨n, (), rfl, rfl, ⟨0, va_Ht ht hX9.1, hX9.2, lf_X8_well_1⟩⟩, hS.F ht⟩) hS.2.2 dX8_well_6
set_option maxHeartbeats 4000000 in
set_option maxRecDepth 100000 in
theorem r_X8_isSound (l : Launch) (dC : Nat → ClassId) (dI : Nat → Nat → Nat) (cI cZ cL cJ : ClassId) (mo : Nat) (m_la : Nat) (m_sz : Nat) (m_it : Nat) (m_st : Nat) (m_mv : Nat) (m_tp : Nat) (m_rd : Nat) (m_ac : Nat) (m_as : Nat) (m_wo : Nat) (m_ik : Nat) (m_ke : Nat) (m_tr : Nat) (ms : Int32) (mt : Int32) (ml : Int32) (mk : Int32) (mv : Int32) (mb : Int32) (mw : Int32) (mz : Nat) (mp : Nat) (ma : Nat) (mx : Nat) (fs : Nat → Int32) (w9 : Nat) (k9 : Nat) (h9 : Nat) (n : Int32) (hM : okM fs w9 k9 h9) : Met l yX8_isSound wsX8_isSound ({ frames := 1, cells := 0, slots := 0, locals := 25 }) (va_Pc [.ref mo, .int n] (fun U => va_P (dC, dI) vwCl [(xo_8_rrriirrriiiiiiirrirrrrri mo m_la m_sz m_it ms mt m_st m_mv m_tp (nI mz) ml (nI mp) mk mv mb mw m_rd m_ac (nI ma) m_as m_wo m_ik m_ke m_tr (nI mx)), (xI m_st cI 38 fs)] U.heap ∧ va_K (dC, dI) vwCl [(cI, .int), (cZ, .boolean), (cL, .object RX3), (cJ, .array .int)] U)) (vp_Si (fun r => (r = 0 ∧ ¬ sB (nI k9) n) ∨ (r = 1 ∧ vp_in n k9))) 0 0 (fun _ => False) := by
  refine Met.ofW (cc := cX8_isSound) (maxL := 2) (ret := (some .boolean)) (by decide) rfl ?_
  intro p e s m args below meth c s₁ B hml hv
  obtain ⟨rfl, hP, hK⟩ := hv
  have hx := B.exec
  have hb := B.bytes
  have hr := B.returns
  have hts := atoms_spec (ws := wsX8_isSound) B.pre
  have hown : s.vm.findClass RX8 = some m.cls := findClass_of_methodNamed B.named
  have hlocks := B.notSynchronized
  have hP : va_P (dC, dI) vwCl [(xo_8_rrriirrriiiiiiirrirrrrri mo m_la m_sz m_it ms mt m_st m_mv m_tp (nI mz) ml (nI mp) mk mv mb mw m_rd m_ac (nI ma) m_as m_wo m_ik m_ke m_tr (nI mx)), (xI m_st cI 38 fs)] s.heap := hP
  have hl := lv_entry ([.ref mo, .int n]) (n := 2) (Nat.le_of_ble_eq_true rfl)
  rw [lg_entry_eq]
  generalize (lg_sl ([.ref mo, .int n]) ++ List.replicate (2 - (lg_sl ([.ref mo, .int n])).length) Slot.unset).toArray = ls at hl ⊢
  have hl : lv_has ls 2 [(0, .ref mo), (1, .int n)] := hl
  refine lv_iload_n hx hb dX8_isSound_0 rfl (lv_at hl 1 rfl) ?_
  refine lv_i2l hx hb dX8_isSound_1 rfl ?_
  refine lv_lconst (v := 0) hx hb dX8_isSound_2 (by decide) ?_
  refine lv_aload_n hx hb dX8_isSound_3 rfl (lv_at hl 0 rfl) ?_
  refine va_get (D := (dC, dI)) (ci := 8) (v := .ref m_st) (C := RX8) (T := TX8) (N := 24) hx hb hts i_X8_isSound_X8 hown hK hP 0 rfl rfl 5 (by decide) (hts _ mx_X8_isSound_1) (fun _ h9 => h9) rfl dX8_isSound_4 ?_
  refine lv_iconst (v := 4) hx hb dX8_isSound_7 (by decide) ?_
  refine va_iald hx hb hK hP 1 0 rfl rfl (by unfold vp_in; decide) dX8_isSound_8 ?_
  refine lv_topi (fun v_1 e_1 => ?_)
  obtain rfl : v_1 = (nI k9) := (e_1).trans hM.2.1
  refine lv_iconst (v := 1) hx hb dX8_isSound_9 (by decide) ?_
  refine lv_isub hx hb dX8_isSound_10 ?_
  refine lv_topi (fun v_2 e_2 => ?_)
  refine lv_i2l hx hb dX8_isSound_11 rfl ?_
  have hPc_3 := hP.sub (ws' := []) [] rfl
  refine vp_callSi (W.runS (As := [.long (n).toInt64, .long 0, .long (v_2).toInt64]) (rest := []) ⟨hx, hb, hml, hown, hts⟩ (r_X8_in l dC dI cI cZ cL cJ ((n).toInt64) 0 ((v_2).toInt64) ) (va_cwS 3 hts gX8_isSound_X8_in rfl rfl rfl (by decide +kernel) ⟨Nat.le_of_ble_eq_true rfl, Nat.le_of_ble_eq_true rfl⟩) (psP hK hPc_3) rfl rfl hl.1 rfl (lv_room (Nat.le_of_ble_eq_true rfl)) dX8_isSound_12 ⟨Nat.le_of_ble_eq_true rfl, Nat.le_of_ble_eq_true rfl⟩) (fun r_3 h_3 => ?_)
  rcases h_3 with ⟨h_3, f_3_0_0⟩ | ⟨h_3, f_3_1_0⟩
  · subst h_3
    exact W.zret (v := 0) hx hb hr (by decide) (fun t ht hW => ⟨0, rfl, Or.inl ⟨rfl, fun q_ => absurd (snd_no (Nat.le_trans hM.2.2.2.2.1 (by decide)) e_2 f_3_0_0) (fun z_ => z_ q_)⟩, ht⟩) (fun _ h => by cases h) dX8_isSound_15
  · subst h_3
    exact W.zret (v := 1) hx hb hr (by decide) (fun t ht hW => ⟨1, rfl, Or.inr ⟨rfl, snd_in (Nat.le_trans hM.2.2.2.2.1 (by decide)) e_2 f_3_1_0⟩, ht⟩) (fun _ h => by cases h) dX8_isSound_15
theorem lf_X8_isCell_1 {fs : Nat → Int32} {w9 : Nat} {k9 : Nat} {h9 : Nat} {n : Int32} {v_1 : Int32} {v_2 : Int32} (hM : okM fs w9 k9 h9) (e_1 : v_1 = fs 0) (e_2 : v_2 = (v_1 - 1)) (f_3_0_0 : ((n).toInt64 < 0 ∨ (v_2).toInt64 < (n).toInt64)) (q_3 : (n < 0 ∨ v_2 < n)) : ¬ iC (fs 0) n := by
  simp only [iC]; grind
theorem lf_X8_isCell_2 {fs : Nat → Int32} {w9 : Nat} {k9 : Nat} {h9 : Nat} {n : Int32} {v_1 : Int32} {v_2 : Int32} (hM : okM fs w9 k9 h9) (e_1 : v_1 = fs 0) (e_2 : v_2 = (v_1 - 1)) (f_3_1_0 : (¬ ((n).toInt64 < 0 ∨ (v_2).toInt64 < (n).toInt64))) (q_3 : ¬ (n < 0 ∨ v_2 < n)) : iC (fs 0) n := by
  simp only [iC]; grind
set_option maxHeartbeats 4000000 in
set_option maxRecDepth 100000 in
theorem r_X8_isCell (l : Launch) (dC : Nat → ClassId) (dI : Nat → Nat → Nat) (cI cZ cL cJ : ClassId) (mo : Nat) (m_la : Nat) (m_sz : Nat) (m_it : Nat) (m_st : Nat) (m_mv : Nat) (m_tp : Nat) (m_rd : Nat) (m_ac : Nat) (m_as : Nat) (m_wo : Nat) (m_ik : Nat) (m_ke : Nat) (m_tr : Nat) (ms : Int32) (mt : Int32) (ml : Int32) (mk : Int32) (mv : Int32) (mb : Int32) (mw : Int32) (mz : Nat) (mp : Nat) (ma : Nat) (mx : Nat) (fs : Nat → Int32) (w9 : Nat) (k9 : Nat) (h9 : Nat) (n : Int32) (hM : okM fs w9 k9 h9) : Met l yX8_isCell wsX8_isCell ({ frames := 1, cells := 0, slots := 0, locals := 25 }) (va_Pc [.ref mo, .int n] (fun U => va_P (dC, dI) vwCl [(xo_8_rrriirrriiiiiiirrirrrrri mo m_la m_sz m_it ms mt m_st m_mv m_tp (nI mz) ml (nI mp) mk mv mb mw m_rd m_ac (nI ma) m_as m_wo m_ik m_ke m_tr (nI mx)), (xI m_st cI 38 fs)] U.heap ∧ va_K (dC, dI) vwCl [(cI, .int), (cZ, .boolean), (cL, .object RX3), (cJ, .array .int)] U)) (vp_Si (fun r => (r = 0 ∧ ¬ iC (fs 0) n) ∨ (r = 1 ∧ iC (fs 0) n))) 0 0 (fun _ => False) := by
  refine Met.ofW (cc := cX8_isCell) (maxL := 2) (ret := (some .boolean)) (by decide) rfl ?_
  intro p e s m args below meth c s₁ B hml hv
  obtain ⟨rfl, hP, hK⟩ := hv
  have hx := B.exec
  have hb := B.bytes
  have hr := B.returns
  have hts := atoms_spec (ws := wsX8_isCell) B.pre
  have hown : s.vm.findClass RX8 = some m.cls := findClass_of_methodNamed B.named
  have hlocks := B.notSynchronized
  have hP : va_P (dC, dI) vwCl [(xo_8_rrriirrriiiiiiirrirrrrri mo m_la m_sz m_it ms mt m_st m_mv m_tp (nI mz) ml (nI mp) mk mv mb mw m_rd m_ac (nI ma) m_as m_wo m_ik m_ke m_tr (nI mx)), (xI m_st cI 38 fs)] s.heap := hP
  have hl := lv_entry ([.ref mo, .int n]) (n := 2) (Nat.le_of_ble_eq_true rfl)
  rw [lg_entry_eq]
  generalize (lg_sl ([.ref mo, .int n]) ++ List.replicate (2 - (lg_sl ([.ref mo, .int n])).length) Slot.unset).toArray = ls at hl ⊢
  have hl : lv_has ls 2 [(0, .ref mo), (1, .int n)] := hl
  refine lv_iload_n hx hb dX8_isCell_0 rfl (lv_at hl 1 rfl) ?_
  refine lv_i2l hx hb dX8_isCell_1 rfl ?_
  refine lv_lconst (v := 0) hx hb dX8_isCell_2 (by decide) ?_
  refine lv_aload_n hx hb dX8_isCell_3 rfl (lv_at hl 0 rfl) ?_
  refine va_get (D := (dC, dI)) (ci := 8) (v := .ref m_st) (C := RX8) (T := TX8) (N := 24) hx hb hts i_X8_isCell_X8 hown hK hP 0 rfl rfl 5 (by decide) (hts _ mx_X8_isCell_1) (fun _ h9 => h9) rfl dX8_isCell_4 ?_
  refine lv_iconst (v := 0) hx hb dX8_isCell_7 (by decide) ?_
  refine va_iald hx hb hK hP 1 0 rfl rfl (by unfold vp_in; decide) dX8_isCell_8 ?_
  refine lv_topi (fun v_1 e_1 => ?_)
  have e_1 : v_1 = fs 0 := e_1
  refine lv_iconst (v := 1) hx hb dX8_isCell_9 (by decide) ?_
  refine lv_isub hx hb dX8_isCell_10 ?_
  refine lv_topi (fun v_2 e_2 => ?_)
  refine lv_i2l hx hb dX8_isCell_11 rfl ?_
  have hPc_3 := hP.sub (ws' := []) [] rfl
  refine vp_callSi (W.runS (As := [.long (n).toInt64, .long 0, .long (v_2).toInt64]) (rest := []) ⟨hx, hb, hml, hown, hts⟩ (r_X8_in l dC dI cI cZ cL cJ ((n).toInt64) 0 ((v_2).toInt64) ) (va_cwS 3 hts gX8_isCell_X8_in rfl rfl rfl (by decide +kernel) ⟨Nat.le_of_ble_eq_true rfl, Nat.le_of_ble_eq_true rfl⟩) (psP hK hPc_3) rfl rfl hl.1 rfl (lv_room (Nat.le_of_ble_eq_true rfl)) dX8_isCell_12 ⟨Nat.le_of_ble_eq_true rfl, Nat.le_of_ble_eq_true rfl⟩) (fun r_3 h_3 => ?_)
  rcases h_3 with ⟨h_3, f_3_0_0⟩ | ⟨h_3, f_3_1_0⟩
  · subst h_3
    have q_3 : (n < 0 ∨ v_2 < n) := (in32 (x := n) (l := 0) (u := v_2) (by decide) rfl).mp f_3_0_0
    exact W.zret (v := 0) hx hb hr (by decide) (fun t ht hW => ⟨0, rfl, Or.inl (⟨rfl, (lf_X8_isCell_1 hM e_1 e_2 f_3_0_0 q_3)⟩), ht⟩) (fun _ h => by cases h) dX8_isCell_15
  · subst h_3
    have q_3 : ¬ (n < 0 ∨ v_2 < n) := fun q_ => f_3_1_0 ((in32 (x := n) (l := 0) (u := v_2) (by decide) rfl).mpr q_)
    exact W.zret (v := 1) hx hb hr (by decide) (fun t ht hW => ⟨1, rfl, Or.inr (⟨rfl, (lf_X8_isCell_2 hM e_1 e_2 f_3_1_0 q_3)⟩), ht⟩) (fun _ h => by cases h) dX8_isCell_15
theorem lf_X8_gustOf_1 {fs : Nat → Int32} {w9 : Nat} {k9 : Nat} {h9 : Nat} {j : Nat} {z_2 : Nat} {v_4 : Int32} (hM : okM fs w9 k9 h9) (hj : j < 2000000000) (hw1 : 1 ≤ w9) (hz_2 : z_2 < w9) (hze_2 : z_2 = j % w9) (e_4 : v_4 = fs (8 + z_2)) : v_4 = (fs (8 + j % w9)) := by
  grind
set_option maxHeartbeats 4000000 in
set_option maxRecDepth 100000 in
theorem r_X8_gustOf (l : Launch) (dC : Nat → ClassId) (dI : Nat → Nat → Nat) (cI cZ cL cJ : ClassId) (mo : Nat) (m_la : Nat) (m_sz : Nat) (m_it : Nat) (m_st : Nat) (m_mv : Nat) (m_tp : Nat) (m_rd : Nat) (m_ac : Nat) (m_as : Nat) (m_wo : Nat) (m_ik : Nat) (m_ke : Nat) (m_tr : Nat) (ms : Int32) (mt : Int32) (ml : Int32) (mk : Int32) (mv : Int32) (mb : Int32) (mw : Int32) (mz : Nat) (mp : Nat) (ma : Nat) (mx : Nat) (fs : Nat → Int32) (w9 : Nat) (k9 : Nat) (h9 : Nat) (j : Nat) (hM : okM fs w9 k9 h9) (hj : j < 2000000000) (hw1 : 1 ≤ w9) : Met l yX8_gustOf wsX8_gustOf ({ frames := 0, cells := 0, slots := 0, locals := 0 }) (va_Pc [.ref mo, .int (nI j)] (fun U => va_P (dC, dI) vwCl [(xo_8_rrriirrriiiiiiirrirrrrri mo m_la m_sz m_it ms mt m_st m_mv m_tp (nI mz) ml (nI mp) mk mv mb mw m_rd m_ac (nI ma) m_as m_wo m_ik m_ke m_tr (nI mx)), (xI m_st cI 38 fs)] U.heap ∧ va_K (dC, dI) vwCl [(cI, .int), (cZ, .boolean), (cL, .object RX3), (cJ, .array .int)] U)) (vp_Si (fun r => r = (fs (8 + j % w9)))) 0 0 (fun _ => False) := by
  refine Met.ofW (cc := cX8_gustOf) (maxL := 2) (ret := (some .int)) (by decide) rfl ?_
  intro p e s m args below meth c s₁ B hml hv
  obtain ⟨rfl, hP, hK⟩ := hv
  have hx := B.exec
  have hb := B.bytes
  have hr := B.returns
  have hts := atoms_spec (ws := wsX8_gustOf) B.pre
  have hown : s.vm.findClass RX8 = some m.cls := findClass_of_methodNamed B.named
  have hlocks := B.notSynchronized
  have hP : va_P (dC, dI) vwCl [(xo_8_rrriirrriiiiiiirrirrrrri mo m_la m_sz m_it ms mt m_st m_mv m_tp (nI mz) ml (nI mp) mk mv mb mw m_rd m_ac (nI ma) m_as m_wo m_ik m_ke m_tr (nI mx)), (xI m_st cI 38 fs)] s.heap := hP
  have hl := lv_entry ([.ref mo, .int (nI j)]) (n := 2) (Nat.le_of_ble_eq_true rfl)
  rw [lg_entry_eq]
  generalize (lg_sl ([.ref mo, .int (nI j)]) ++ List.replicate (2 - (lg_sl ([.ref mo, .int (nI j)])).length) Slot.unset).toArray = ls at hl ⊢
  have hl : lv_has ls 2 [(0, .ref mo), (1, .int (nI j))] := hl
  have hw6 := hM.2.2.2.1
  refine lv_aload_n hx hb dX8_gustOf_0 rfl (lv_at hl 0 rfl) ?_
  refine va_get (D := (dC, dI)) (ci := 8) (v := .ref m_st) (C := RX8) (T := TX8) (N := 24) hx hb hts i_X8_gustOf_X8 hown hK hP 0 rfl rfl 5 (by decide) (hts _ mx_X8_gustOf_1) (fun _ h9 => h9) rfl dX8_gustOf_1 ?_
  refine lv_bipush (v := 8) hx hb dX8_gustOf_4 (by decide) ?_
  refine lv_iload_n hx hb dX8_gustOf_6 rfl (lv_at hl 1 rfl) ?_
  refine lv_aload_n hx hb dX8_gustOf_7 rfl (lv_at hl 0 rfl) ?_
  refine va_get (D := (dC, dI)) (ci := 8) (v := .ref m_st) (C := RX8) (T := TX8) (N := 24) hx hb hts i_X8_gustOf_X8 hown hK hP 0 rfl rfl 5 (by decide) (hts _ mx_X8_gustOf_1) (fun _ h9 => h9) rfl dX8_gustOf_8 ?_
  refine lv_iconst (v := 3) hx hb dX8_gustOf_11 (by decide) ?_
  refine va_iald hx hb hK hP 1 0 rfl rfl (by unfold vp_in; decide) dX8_gustOf_12 ?_
  refine lv_topi (fun v_1 e_1 => ?_)
  obtain rfl : v_1 = (nI w9) := (e_1).trans hM.1
  refine lv_irem hx hb dX8_gustOf_13 (nI_ne0 (by omega) (by omega)) ?_
  refine lv_topi (fun v_2 e_2 => ?_)
  obtain ⟨z_2, hz_2, hze_2, rfl⟩ : ∃ z : Nat, z < w9 ∧ z = j % w9 ∧ v_2 = nI z := ⟨j % w9, Nat.mod_lt _ (by omega), rfl, e_2.trans (pk_rem (a := j) (d := w9) (by omega) (by omega) (by omega))⟩
  refine lv_iadd hx hb dX8_gustOf_14 ?_
  refine lv_topi (fun v_3 e_3 => ?_)
  obtain rfl : v_3 = (nI (8 + z_2)) := (e_3).trans (nI_add 8 z_2)
  refine va_iald hx hb hK hP 1 0 rfl rfl (vp_in_nI (by omega) (by omega)) dX8_gustOf_15 ?_
  refine lv_topi (fun v_4 e_4 => ?_)
  have e_4 : v_4 = fs (8 + z_2) := e_4.trans (congrArg fs (nI_clamp (by omega)))
  exact W.iret (v := v_4) hx hb hr (fun t ht hW => ⟨v_4, rfl, (lf_X8_gustOf_1 hM hj hw1 hz_2 hze_2 e_4), ht⟩) (fun _ h => by cases h) dX8_gustOf_16
theorem lf_X8_isAtMill_1 {fs : Nat → Int32} {w9 : Nat} {k9 : Nat} {h9 : Nat} {i : Nat} {v_1 : Int32} {v_3 : Int32} {v_5 : Int32} {v_6 : Int32} {v_7 : Int32} (hM : okM fs w9 k9 h9) (hi : i < 6) (e_1 : v_1 = fs 6) (c_2 : ¬ (v_1 = 1)) (e_3 : v_3 = fs 1) (e_5 : v_5 = fs (20 + i)) (e_6 : v_6 = (v_3 - v_5)) (e_7 : v_7 = fs 2) (f_8_0_0 : ((v_6).toInt64 < 0 ∨ (v_7).toInt64 < (v_6).toInt64)) (q_8 : (v_6 < 0 ∨ v_7 < v_6)) : ¬ amM fs i := by
  simp only [amM, ofM]; grind
theorem lf_X8_isAtMill_2 {fs : Nat → Int32} {w9 : Nat} {k9 : Nat} {h9 : Nat} {i : Nat} {v_1 : Int32} {v_3 : Int32} {v_5 : Int32} {v_6 : Int32} {v_7 : Int32} (hM : okM fs w9 k9 h9) (hi : i < 6) (e_1 : v_1 = fs 6) (c_2 : ¬ (v_1 = 1)) (e_3 : v_3 = fs 1) (e_5 : v_5 = fs (20 + i)) (e_6 : v_6 = (v_3 - v_5)) (e_7 : v_7 = fs 2) (f_8_1_0 : (¬ ((v_6).toInt64 < 0 ∨ (v_7).toInt64 < (v_6).toInt64))) (q_8 : ¬ (v_6 < 0 ∨ v_7 < v_6)) : amM fs i := by
  simp only [amM, ofM]; grind
theorem lf_X8_isAtMill_3 {fs : Nat → Int32} {w9 : Nat} {k9 : Nat} {h9 : Nat} {i : Nat} {v_1 : Int32} {v_10 : Int32} {v_11 : Int32} {v_12 : Int32} {v_13 : Int32} (hM : okM fs w9 k9 h9) (hi : i < 6) (e_1 : v_1 = fs 6) (c_2 : v_1 = 1) (e_10 : v_10 = fs (20 + i)) (e_11 : v_11 = fs 1) (e_12 : v_12 = (v_10 - v_11)) (e_13 : v_13 = fs 2) (f_14_0_0 : ((v_12).toInt64 < 0 ∨ (v_13).toInt64 < (v_12).toInt64)) (q_14 : (v_12 < 0 ∨ v_13 < v_12)) : ¬ amM fs i := by
  simp only [amM, ofM]; grind
theorem lf_X8_isAtMill_4 {fs : Nat → Int32} {w9 : Nat} {k9 : Nat} {h9 : Nat} {i : Nat} {v_1 : Int32} {v_10 : Int32} {v_11 : Int32} {v_12 : Int32} {v_13 : Int32} (hM : okM fs w9 k9 h9) (hi : i < 6) (e_1 : v_1 = fs 6) (c_2 : v_1 = 1) (e_10 : v_10 = fs (20 + i)) (e_11 : v_11 = fs 1) (e_12 : v_12 = (v_10 - v_11)) (e_13 : v_13 = fs 2) (f_14_1_0 : (¬ ((v_12).toInt64 < 0 ∨ (v_13).toInt64 < (v_12).toInt64))) (q_14 : ¬ (v_12 < 0 ∨ v_13 < v_12)) : amM fs i := by
  simp only [amM, ofM]; grind
set_option maxHeartbeats 4000000 in
set_option maxRecDepth 100000 in
theorem r_X8_isAtMill (l : Launch) (dC : Nat → ClassId) (dI : Nat → Nat → Nat) (cI cZ cL cJ : ClassId) (mo : Nat) (m_la : Nat) (m_sz : Nat) (m_it : Nat) (m_st : Nat) (m_mv : Nat) (m_tp : Nat) (m_rd : Nat) (m_ac : Nat) (m_as : Nat) (m_wo : Nat) (m_ik : Nat) (m_ke : Nat) (m_tr : Nat) (ms : Int32) (mt : Int32) (ml : Int32) (mk : Int32) (mv : Int32) (mb : Int32) (mw : Int32) (mz : Nat) (mp : Nat) (ma : Nat) (mx : Nat) (fs : Nat → Int32) (w9 : Nat) (k9 : Nat) (h9 : Nat) (i : Nat) (hM : okM fs w9 k9 h9) (hi : i < 6) : Met l yX8_isAtMill wsX8_isAtMill ({ frames := 1, cells := 0, slots := 0, locals := 25 }) (va_Pc [.ref mo, .int (nI i)] (fun U => va_P (dC, dI) vwCl [(xo_8_rrriirrriiiiiiirrirrrrri mo m_la m_sz m_it ms mt m_st m_mv m_tp (nI mz) ml (nI mp) mk mv mb mw m_rd m_ac (nI ma) m_as m_wo m_ik m_ke m_tr (nI mx)), (xI m_st cI 38 fs)] U.heap ∧ va_K (dC, dI) vwCl [(cI, .int), (cZ, .boolean), (cL, .object RX3), (cJ, .array .int)] U)) (vp_Si (fun r => (r = 0 ∧ ¬ amM fs i) ∨ (r = 1 ∧ amM fs i))) 0 0 (fun _ => False) := by
  refine Met.ofW (cc := cX8_isAtMill) (maxL := 3) (ret := (some .boolean)) (by decide) rfl ?_
  intro p e s m args below meth c s₁ B hml hv
  obtain ⟨rfl, hP, hK⟩ := hv
  have hx := B.exec
  have hb := B.bytes
  have hr := B.returns
  have hts := atoms_spec (ws := wsX8_isAtMill) B.pre
  have hown : s.vm.findClass RX8 = some m.cls := findClass_of_methodNamed B.named
  have hlocks := B.notSynchronized
  have hP : va_P (dC, dI) vwCl [(xo_8_rrriirrriiiiiiirrirrrrri mo m_la m_sz m_it ms mt m_st m_mv m_tp (nI mz) ml (nI mp) mk mv mb mw m_rd m_ac (nI ma) m_as m_wo m_ik m_ke m_tr (nI mx)), (xI m_st cI 38 fs)] s.heap := hP
  have hl := lv_entry ([.ref mo, .int (nI i)]) (n := 3) (Nat.le_of_ble_eq_true rfl)
  rw [lg_entry_eq]
  generalize (lg_sl ([.ref mo, .int (nI i)]) ++ List.replicate (3 - (lg_sl ([.ref mo, .int (nI i)])).length) Slot.unset).toArray = ls at hl ⊢
  have hl : lv_has ls 3 [(0, .ref mo), (1, .int (nI i))] := hl
  refine lv_aload_n hx hb dX8_isAtMill_0 rfl (lv_at hl 0 rfl) ?_
  refine va_get (D := (dC, dI)) (ci := 8) (v := .ref m_st) (C := RX8) (T := TX8) (N := 24) hx hb hts i_X8_isAtMill_X8 hown hK hP 0 rfl rfl 5 (by decide) (hts _ mx_X8_isAtMill_1) (fun _ h9 => h9) rfl dX8_isAtMill_1 ?_
  refine lv_bipush (v := 6) hx hb dX8_isAtMill_4 (by decide) ?_
  refine va_iald hx hb hK hP 1 0 rfl rfl (by unfold vp_in; decide) dX8_isAtMill_6 ?_
  refine lv_topi (fun v_1 e_1 => ?_)
  have e_1 : v_1 = fs 6 := e_1
  refine lv_iconst (v := 1) hx hb dX8_isAtMill_7 (by decide) ?_
  refine lv_icmp_ne (tgt := 30) hx hb dX8_isAtMill_8 (by decide) (fun c_2 => ?_) (fun c_2 => ?_)
  · skip
    refine lv_aload_n hx hb dX8_isAtMill_30 rfl (lv_at hl 0 rfl) ?_
    refine va_get (D := (dC, dI)) (ci := 8) (v := .ref m_st) (C := RX8) (T := TX8) (N := 24) hx hb hts i_X8_isAtMill_X8 hown hK hP 0 rfl rfl 5 (by decide) (hts _ mx_X8_isAtMill_1) (fun _ h9 => h9) rfl dX8_isAtMill_31 ?_
    refine lv_iconst (v := 1) hx hb dX8_isAtMill_34 (by decide) ?_
    refine va_iald hx hb hK hP 1 0 rfl rfl (by unfold vp_in; decide) dX8_isAtMill_35 ?_
    refine lv_topi (fun v_3 e_3 => ?_)
    have e_3 : v_3 = fs 1 := e_3
    refine lv_aload_n hx hb dX8_isAtMill_36 rfl (lv_at hl 0 rfl) ?_
    refine va_get (D := (dC, dI)) (ci := 8) (v := .ref m_st) (C := RX8) (T := TX8) (N := 24) hx hb hts i_X8_isAtMill_X8 hown hK hP 0 rfl rfl 5 (by decide) (hts _ mx_X8_isAtMill_1) (fun _ h9 => h9) rfl dX8_isAtMill_37 ?_
    refine lv_bipush (v := 20) hx hb dX8_isAtMill_40 (by decide) ?_
    refine lv_iload_n hx hb dX8_isAtMill_42 rfl (lv_at hl 1 rfl) ?_
    refine lv_iadd hx hb dX8_isAtMill_43 ?_
    refine lv_topi (fun v_4 e_4 => ?_)
    obtain rfl : v_4 = (nI (20 + i)) := (e_4).trans (nI_add 20 i)
    refine va_iald hx hb hK hP 1 0 rfl rfl (vp_in_nI (by omega) (by omega)) dX8_isAtMill_44 ?_
    refine lv_topi (fun v_5 e_5 => ?_)
    have e_5 : v_5 = fs (20 + i) := e_5.trans (congrArg fs (nI_clamp (by omega)))
    refine lv_isub hx hb dX8_isAtMill_45 ?_
    refine lv_topi (fun v_6 e_6 => ?_)
    refine lv_istore_n (lv' := [(2, .int v_6), (0, .ref mo), (1, .int (nI i))]) hx hb dX8_isAtMill_46 rfl hl (by decide) rfl (fun ls hl => ?_)
    refine lv_iload_n hx hb dX8_isAtMill_47 rfl (lv_at hl 0 rfl) ?_
    refine lv_i2l hx hb dX8_isAtMill_48 rfl ?_
    refine lv_lconst (v := 0) hx hb dX8_isAtMill_49 (by decide) ?_
    refine lv_aload_n hx hb dX8_isAtMill_50 rfl (lv_at hl 1 rfl) ?_
    refine va_get (D := (dC, dI)) (ci := 8) (v := .ref m_st) (C := RX8) (T := TX8) (N := 24) hx hb hts i_X8_isAtMill_X8 hown hK hP 0 rfl rfl 5 (by decide) (hts _ mx_X8_isAtMill_1) (fun _ h9 => h9) rfl dX8_isAtMill_51 ?_
    refine lv_iconst (v := 2) hx hb dX8_isAtMill_54 (by decide) ?_
    refine va_iald hx hb hK hP 1 0 rfl rfl (by unfold vp_in; decide) dX8_isAtMill_55 ?_
    refine lv_topi (fun v_7 e_7 => ?_)
    have e_7 : v_7 = fs 2 := e_7
    refine lv_i2l hx hb dX8_isAtMill_56 rfl ?_
    have hPc_8 := hP.sub (ws' := []) [] rfl
    refine vp_callSi (W.runS (As := [.long (v_6).toInt64, .long 0, .long (v_7).toInt64]) (rest := []) ⟨hx, hb, hml, hown, hts⟩ (r_X8_in l dC dI cI cZ cL cJ ((v_6).toInt64) 0 ((v_7).toInt64) ) (va_cwS 3 hts gX8_isAtMill_X8_in rfl rfl rfl (by decide +kernel) ⟨Nat.le_of_ble_eq_true rfl, Nat.le_of_ble_eq_true rfl⟩) (psP hK hPc_8) rfl rfl hl.1 rfl (lv_room (Nat.le_of_ble_eq_true rfl)) dX8_isAtMill_57 ⟨Nat.le_of_ble_eq_true rfl, Nat.le_of_ble_eq_true rfl⟩) (fun r_8 h_8 => ?_)
    rcases h_8 with ⟨h_8, f_8_0_0⟩ | ⟨h_8, f_8_1_0⟩
    · subst h_8
      have q_8 : (v_6 < 0 ∨ v_7 < v_6) := (in32 (x := v_6) (l := 0) (u := v_7) (by decide) rfl).mp f_8_0_0
      exact W.zret (v := 0) hx hb hr (by decide) (fun t ht hW => ⟨0, rfl, Or.inl (⟨rfl, (lf_X8_isAtMill_1 hM hi e_1 c_2 e_3 e_5 e_6 e_7 f_8_0_0 q_8)⟩), ht⟩) (fun _ h => by cases h) dX8_isAtMill_60
    · subst h_8
      have q_8 : ¬ (v_6 < 0 ∨ v_7 < v_6) := fun q_ => f_8_1_0 ((in32 (x := v_6) (l := 0) (u := v_7) (by decide) rfl).mpr q_)
      exact W.zret (v := 1) hx hb hr (by decide) (fun t ht hW => ⟨1, rfl, Or.inr (⟨rfl, (lf_X8_isAtMill_2 hM hi e_1 c_2 e_3 e_5 e_6 e_7 f_8_1_0 q_8)⟩), ht⟩) (fun _ h => by cases h) dX8_isAtMill_60
  · skip
    refine lv_aload_n hx hb dX8_isAtMill_11 rfl (lv_at hl 0 rfl) ?_
    refine va_get (D := (dC, dI)) (ci := 8) (v := .ref m_st) (C := RX8) (T := TX8) (N := 24) hx hb hts i_X8_isAtMill_X8 hown hK hP 0 rfl rfl 5 (by decide) (hts _ mx_X8_isAtMill_1) (fun _ h9 => h9) rfl dX8_isAtMill_12 ?_
    refine lv_bipush (v := 20) hx hb dX8_isAtMill_15 (by decide) ?_
    refine lv_iload_n hx hb dX8_isAtMill_17 rfl (lv_at hl 1 rfl) ?_
    refine lv_iadd hx hb dX8_isAtMill_18 ?_
    refine lv_topi (fun v_9 e_9 => ?_)
    obtain rfl : v_9 = (nI (20 + i)) := (e_9).trans (nI_add 20 i)
    refine va_iald hx hb hK hP 1 0 rfl rfl (vp_in_nI (by omega) (by omega)) dX8_isAtMill_19 ?_
    refine lv_topi (fun v_10 e_10 => ?_)
    have e_10 : v_10 = fs (20 + i) := e_10.trans (congrArg fs (nI_clamp (by omega)))
    refine lv_aload_n hx hb dX8_isAtMill_20 rfl (lv_at hl 0 rfl) ?_
    refine va_get (D := (dC, dI)) (ci := 8) (v := .ref m_st) (C := RX8) (T := TX8) (N := 24) hx hb hts i_X8_isAtMill_X8 hown hK hP 0 rfl rfl 5 (by decide) (hts _ mx_X8_isAtMill_1) (fun _ h9 => h9) rfl dX8_isAtMill_21 ?_
    refine lv_iconst (v := 1) hx hb dX8_isAtMill_24 (by decide) ?_
    refine va_iald hx hb hK hP 1 0 rfl rfl (by unfold vp_in; decide) dX8_isAtMill_25 ?_
    refine lv_topi (fun v_11 e_11 => ?_)
    have e_11 : v_11 = fs 1 := e_11
    refine lv_isub hx hb dX8_isAtMill_26 ?_
    refine lv_topi (fun v_12 e_12 => ?_)
    refine lv_goto (tgt := 46) hx hb dX8_isAtMill_27 (by decide) ?_
    refine lv_istore_n (lv' := [(2, .int v_12), (0, .ref mo), (1, .int (nI i))]) hx hb dX8_isAtMill_46 rfl hl (by decide) rfl (fun ls hl => ?_)
    refine lv_iload_n hx hb dX8_isAtMill_47 rfl (lv_at hl 0 rfl) ?_
    refine lv_i2l hx hb dX8_isAtMill_48 rfl ?_
    refine lv_lconst (v := 0) hx hb dX8_isAtMill_49 (by decide) ?_
    refine lv_aload_n hx hb dX8_isAtMill_50 rfl (lv_at hl 1 rfl) ?_
    refine va_get (D := (dC, dI)) (ci := 8) (v := .ref m_st) (C := RX8) (T := TX8) (N := 24) hx hb hts i_X8_isAtMill_X8 hown hK hP 0 rfl rfl 5 (by decide) (hts _ mx_X8_isAtMill_1) (fun _ h9 => h9) rfl dX8_isAtMill_51 ?_
    refine lv_iconst (v := 2) hx hb dX8_isAtMill_54 (by decide) ?_
    refine va_iald hx hb hK hP 1 0 rfl rfl (by unfold vp_in; decide) dX8_isAtMill_55 ?_
    refine lv_topi (fun v_13 e_13 => ?_)
    have e_13 : v_13 = fs 2 := e_13
    refine lv_i2l hx hb dX8_isAtMill_56 rfl ?_
    have hPc_14 := hP.sub (ws' := []) [] rfl
    refine vp_callSi (W.runS (As := [.long (v_12).toInt64, .long 0, .long (v_13).toInt64]) (rest := []) ⟨hx, hb, hml, hown, hts⟩ (r_X8_in l dC dI cI cZ cL cJ ((v_12).toInt64) 0 ((v_13).toInt64) ) (va_cwS 3 hts gX8_isAtMill_X8_in rfl rfl rfl (by decide +kernel) ⟨Nat.le_of_ble_eq_true rfl, Nat.le_of_ble_eq_true rfl⟩) (psP hK hPc_14) rfl rfl hl.1 rfl (lv_room (Nat.le_of_ble_eq_true rfl)) dX8_isAtMill_57 ⟨Nat.le_of_ble_eq_true rfl, Nat.le_of_ble_eq_true rfl⟩) (fun r_14 h_14 => ?_)
    rcases h_14 with ⟨h_14, f_14_0_0⟩ | ⟨h_14, f_14_1_0⟩
    · subst h_14
      have q_14 : (v_12 < 0 ∨ v_13 < v_12) := (in32 (x := v_12) (l := 0) (u := v_13) (by decide) rfl).mp f_14_0_0
      exact W.zret (v := 0) hx hb hr (by decide) (fun t ht hW => ⟨0, rfl, Or.inl (⟨rfl, (lf_X8_isAtMill_3 hM hi e_1 c_2 e_10 e_11 e_12 e_13 f_14_0_0 q_14)⟩), ht⟩) (fun _ h => by cases h) dX8_isAtMill_60
    · subst h_14
      have q_14 : ¬ (v_12 < 0 ∨ v_13 < v_12) := fun q_ => f_14_1_0 ((in32 (x := v_12) (l := 0) (u := v_13) (by decide) rfl).mpr q_)
      exact W.zret (v := 1) hx hb hr (by decide) (fun t ht hW => ⟨1, rfl, Or.inr (⟨rfl, (lf_X8_isAtMill_4 hM hi e_1 c_2 e_10 e_11 e_12 e_13 f_14_1_0 q_14)⟩), ht⟩) (fun _ h => by cases h) dX8_isAtMill_60
theorem lf_X8_those_1 {fs : Nat → Int32} {w9 : Nat} {k9 : Nat} {h9 : Nat} {n : Int32} {w_9 : Nat} {ii : Nat} {v_22 : Int32} {z_24 : Nat} (hM : okM fs w9 k9 h9) (hii : ii < k9) (haf_0 : (nI w_9 = thR (fun s => fs (26 + s)) n ii)) (hnb_w_9 : w_9 ≤ 63) (e_22 : v_22 = fs (26 + ii)) (c_23 : ¬ (v_22 = n)) (hz_24 : z_24 ≤ 63) (e2_24 : nI w_9 ||| nI 0 = nI z_24) : nI z_24 = thR (fun s => fs (26 + s)) n (ii + 1) := by
  have n00 : nI 0 = 0 := rfl
  simp only [thR]; grind
theorem lf_X8_those_2 {fs : Nat → Int32} {w9 : Nat} {k9 : Nat} {h9 : Nat} {n : Int32} {w_9 : Nat} {ii : Nat} {v_22 : Int32} {sh : Nat} {z_26 : Nat} (hM : okM fs w9 k9 h9) (hii : ii < k9) (haf_0 : (nI w_9 = thR (fun s => fs (26 + s)) n ii)) (hnb_w_9 : w_9 ≤ 63) (e_22 : v_22 = fs (26 + ii)) (c_23 : v_22 = n) (hsh : (1 : Int32) <<< (nI ii &&& 31) = nI sh) (hz_26 : z_26 ≤ 63) (e2_26 : nI w_9 ||| nI sh = nI z_26) : nI z_26 = thR (fun s => fs (26 + s)) n (ii + 1) := by
  have n00 : nI 0 = 0 := rfl
  simp only [thR]; grind
set_option maxHeartbeats 4000000 in
set_option maxRecDepth 100000 in
theorem r_X8_those (l : Launch) (dC : Nat → ClassId) (dI : Nat → Nat → Nat) (cI cZ cL cJ : ClassId) (mo : Nat) (m_la : Nat) (m_sz : Nat) (m_it : Nat) (m_st : Nat) (m_mv : Nat) (m_tp : Nat) (m_rd : Nat) (m_ac : Nat) (m_as : Nat) (m_wo : Nat) (m_ik : Nat) (m_ke : Nat) (m_tr : Nat) (ms : Int32) (mt : Int32) (ml : Int32) (mk : Int32) (mv : Int32) (mb : Int32) (mw : Int32) (mz : Nat) (mp : Nat) (ma : Nat) (mx : Nat) (fs : Nat → Int32) (w9 : Nat) (k9 : Nat) (h9 : Nat) (n : Int32) (hM : okM fs w9 k9 h9) : Met l yX8_those wsX8_those ({ frames := 0, cells := 0, slots := 0, locals := 0 }) (va_Pc [.ref mo, .int n] (fun U => va_P (dC, dI) vwCl [(xo_8_rrriirrriiiiiiirrirrrrri mo m_la m_sz m_it ms mt m_st m_mv m_tp (nI mz) ml (nI mp) mk mv mb mw m_rd m_ac (nI ma) m_as m_wo m_ik m_ke m_tr (nI mx)), (xI m_st cI 38 fs)] U.heap ∧ va_K (dC, dI) vwCl [(cI, .int), (cZ, .boolean), (cL, .object RX3), (cJ, .array .int)] U)) (vp_Si (fun r => ∃ z : Nat, r = nI z ∧ z ≤ 63 ∧ nI z = thR (fun s => fs (26 + s)) n k9)) 0 0 (fun _ => False) := by
  refine Met.ofW (cc := cX8_those) (maxL := 4) (ret := (some .int)) (by decide) rfl ?_
  intro p e s m args below meth c s₁ B hml hv
  obtain ⟨rfl, hP, hK⟩ := hv
  have hx := B.exec
  have hb := B.bytes
  have hr := B.returns
  have hts := atoms_spec (ws := wsX8_those) B.pre
  have hown : s.vm.findClass RX8 = some m.cls := findClass_of_methodNamed B.named
  have hlocks := B.notSynchronized
  have hP : va_P (dC, dI) vwCl [(xo_8_rrriirrriiiiiiirrirrrrri mo m_la m_sz m_it ms mt m_st m_mv m_tp (nI mz) ml (nI mp) mk mv mb mw m_rd m_ac (nI ma) m_as m_wo m_ik m_ke m_tr (nI mx)), (xI m_st cI 38 fs)] s.heap := hP
  have hl := lv_entry ([.ref mo, .int n]) (n := 4) (Nat.le_of_ble_eq_true rfl)
  rw [lg_entry_eq]
  generalize (lg_sl ([.ref mo, .int n]) ++ List.replicate (4 - (lg_sl ([.ref mo, .int n])).length) Slot.unset).toArray = ls at hl ⊢
  have hl : lv_has ls 4 [(0, .ref mo), (1, .int n)] := hl
  have hk6 := hM.2.2.2.2.1
  refine lv_iconst (v := 0) hx hb dX8_those_0 (by decide) ?_
  refine lv_istore_n (lv' := [(2, .int 0), (0, .ref mo), (1, .int n)]) hx hb dX8_those_1 rfl hl (by decide) rfl (fun ls hl => ?_)
  refine lv_iconst (v := 0) hx hb dX8_those_2 (by decide) ?_
  refine lv_istore_n (lv' := [(3, .int 0), (2, .int 0), (0, .ref mo), (1, .int n)]) hx hb dX8_those_3 rfl hl (by decide) rfl (fun ls hl => ?_)
  refine lp_go (σ := (Nat)) (fun ii (st : (Nat)) H locs ls => match st with | w_9 => lv_has ls 4 [(3, .int (nI ii)), (2, .int (nI w_9)), (0, .ref mo), (1, .int n)] ∧ H = s.heap ∧ locs = [] ∧ (nI w_9 = thR (fun s => fs (26 + s)) n ii) ∧ w_9 ≤ 63) k9 ?_ ?_ 0 (by omega) (0) ⟨lv_sub hl [0, 1, 2, 3] rfl, rfl, rfl, rfl, (by omega)⟩
  · rintro ii w_9 H locs ls hii ⟨hl, rfl, rfl, haf_0, hnb_w_9⟩ ih
    refine lv_iload_n hx hb dX8_those_4 rfl (lv_at hl 0 rfl) ?_
    refine lv_aload_n hx hb dX8_those_5 rfl (lv_at hl 2 rfl) ?_
    refine va_get (D := (dC, dI)) (ci := 8) (v := .ref m_st) (C := RX8) (T := TX8) (N := 24) hx hb hts i_X8_those_X8 hown hK hP 0 rfl rfl 5 (by decide) (hts _ mx_X8_those_1) (fun _ h9 => h9) rfl dX8_those_6 ?_
    refine lv_iconst (v := 4) hx hb dX8_those_9 (by decide) ?_
    refine va_iald hx hb hK hP 1 0 rfl rfl (by unfold vp_in; decide) dX8_those_10 ?_
    refine lv_topi (fun v_19 e_19 => ?_)
    obtain rfl : v_19 = (nI k9) := (e_19).trans hM.2.1
    refine lv_icmp_ge (tgt := 43) hx hb dX8_those_11 (by decide) (fun c_ => absurd c_ (fun q_ => absurd ((nI_leI (a := k9) (b := ii) (by omega) (by omega)).mp q_) (by omega))) (fun _ => ?_)
    refine lv_iload_n hx hb dX8_those_14 rfl (lv_at hl 1 rfl) ?_
    refine lv_aload_n hx hb dX8_those_15 rfl (lv_at hl 2 rfl) ?_
    refine va_get (D := (dC, dI)) (ci := 8) (v := .ref m_st) (C := RX8) (T := TX8) (N := 24) hx hb hts i_X8_those_X8 hown hK hP 0 rfl rfl 5 (by decide) (hts _ mx_X8_those_1) (fun _ h9 => h9) rfl dX8_those_16 ?_
    refine lv_bipush (v := 26) hx hb dX8_those_19 (by decide) ?_
    refine lv_iload_n hx hb dX8_those_21 rfl (lv_at hl 0 rfl) ?_
    refine lv_iadd hx hb dX8_those_22 ?_
    refine lv_topi (fun v_21 e_21 => ?_)
    obtain rfl : v_21 = (nI (26 + ii)) := (e_21).trans (nI_add 26 ii)
    refine va_iald hx hb hK hP 1 0 rfl rfl (vp_in_nI (by omega) (by omega)) dX8_those_23 ?_
    refine lv_topi (fun v_22 e_22 => ?_)
    have e_22 : v_22 = fs (26 + ii) := e_22.trans (congrArg fs (nI_clamp (by omega)))
    refine lv_iload_n hx hb dX8_those_24 rfl (lv_at hl 3 rfl) ?_
    refine lv_icmp_ne (tgt := 34) hx hb dX8_those_25 (by decide) (fun c_23 => ?_) (fun c_23 => ?_)
    · skip
      refine lv_iconst (v := 0) hx hb dX8_those_34 (by decide) ?_
      refine lv_ior hx hb dX8_those_35 ?_
      refine lv_topi (fun v_24 e_24 => ?_)
      obtain ⟨z_24, hz_24, e2_24⟩ := or63 (a := w_9) (b := 0) (by omega) (by omega)
      obtain rfl : v_24 = nI z_24 := e_24.trans e2_24
      refine lv_istore_n (lv' := [(2, .int (nI z_24)), (3, .int (nI ii)), (0, .ref mo), (1, .int n)]) hx hb dX8_those_36 rfl hl (by decide) rfl (fun ls hl => ?_)
      refine lv_iinc (v := (nI (ii + 1))) (lv' := [(3, .int (nI (ii + 1))), (2, .int (nI z_24)), (0, .ref mo), (1, .int n)]) hx hb dX8_those_37 hl (k := 1) rfl (nI_add ii 1) (by decide) rfl (fun ls hl => ?_)
      refine lv_goto (tgt := 4) hx hb dX8_those_40 (by decide) ?_
      exact ih (z_24) _ _ _ ⟨lv_sub hl [0, 1, 2, 3] rfl, rfl, rfl, (lf_X8_those_1 hM hii haf_0 hnb_w_9 e_22 c_23 hz_24 e2_24), (by omega)⟩
    · skip
      obtain ⟨sh, hsh, hsb, -, hsb5, -⟩ := shl8 ii (by omega)
      refine lv_iconst (v := 1) hx hb dX8_those_28 (by decide) ?_
      refine lv_iload_n hx hb dX8_those_29 rfl (lv_at hl 0 rfl) ?_
      refine lv_ishl hx hb dX8_those_30 ?_
      refine lv_topi (fun v_25 e_25 => ?_)
      obtain rfl : v_25 = (nI sh) := (e_25).trans hsh
      refine lv_goto (tgt := 35) hx hb dX8_those_31 (by decide) ?_
      refine lv_ior hx hb dX8_those_35 ?_
      refine lv_topi (fun v_26 e_26 => ?_)
      obtain ⟨z_26, hz_26, e2_26⟩ := or63 (a := w_9) (b := sh) (by omega) (by omega)
      obtain rfl : v_26 = nI z_26 := e_26.trans e2_26
      refine lv_istore_n (lv' := [(2, .int (nI z_26)), (3, .int (nI ii)), (0, .ref mo), (1, .int n)]) hx hb dX8_those_36 rfl hl (by decide) rfl (fun ls hl => ?_)
      refine lv_iinc (v := (nI (ii + 1))) (lv' := [(3, .int (nI (ii + 1))), (2, .int (nI z_26)), (0, .ref mo), (1, .int n)]) hx hb dX8_those_37 hl (k := 1) rfl (nI_add ii 1) (by decide) rfl (fun ls hl => ?_)
      refine lv_goto (tgt := 4) hx hb dX8_those_40 (by decide) ?_
      exact ih (z_26) _ _ _ ⟨lv_sub hl [0, 1, 2, 3] rfl, rfl, rfl, (lf_X8_those_2 hM hii haf_0 hnb_w_9 e_22 c_23 hsh hz_26 e2_26), (by omega)⟩
  · rintro w_9 H locs ls ⟨hl, rfl, rfl, haf_0, hnb_w_9⟩
    refine lv_iload_n hx hb dX8_those_4 rfl (lv_at hl 0 rfl) ?_
    refine lv_aload_n hx hb dX8_those_5 rfl (lv_at hl 2 rfl) ?_
    refine va_get (D := (dC, dI)) (ci := 8) (v := .ref m_st) (C := RX8) (T := TX8) (N := 24) hx hb hts i_X8_those_X8 hown hK hP 0 rfl rfl 5 (by decide) (hts _ mx_X8_those_1) (fun _ h9 => h9) rfl dX8_those_6 ?_
    refine lv_iconst (v := 4) hx hb dX8_those_9 (by decide) ?_
    refine va_iald hx hb hK hP 1 0 rfl rfl (by unfold vp_in; decide) dX8_those_10 ?_
    refine lv_topi (fun v_27 e_27 => ?_)
    obtain rfl : v_27 = (nI k9) := (e_27).trans hM.2.1
    refine lv_icmp_ge (tgt := 43) hx hb dX8_those_11 (by decide) (fun _ => ?_) (fun c_ => absurd ((nI_leI (a := k9) (b := k9) (by omega) (by omega)).mpr (by omega)) c_)
    refine lv_iload_n hx hb dX8_those_43 rfl (lv_at hl 1 rfl) ?_
    exact W.iret (v := (nI w_9)) hx hb hr (fun t ht hW => ⟨(nI w_9), rfl, ⟨w_9, rfl, (by omega), haf_0⟩, ht⟩) (fun _ h => by cases h) dX8_those_44
theorem lf_X8_loudOf_1 {fs : Nat → Int32} {w9 : Nat} {k9 : Nat} {h9 : Nat} {n : Int32} {w_10 : Nat} {ii : Nat} (hM : okM fs w9 k9 h9) (hii : ii < k9) (haf_0 : (∀ s : Nat, s < ii → hasB n (nI s) → 1 ≤ w_10)) (haf_1 : (nI w_10 = ldR (fun s => fs (32 + s)) n ii)) (hnb_w_10 : w_10 ≤ 20 * ii) (f_23_0_0 : ¬ hasB n (nI ii)) : nI (w_10 + 0) = ldR (fun s => fs (32 + s)) n (ii + 1) := by
  simp only [ldR]; unfold hasB at *; grind [nI_add]
theorem lf_X8_loudOf_2 {fs : Nat → Int32} {w9 : Nat} {k9 : Nat} {h9 : Nat} {n : Int32} {w_10 : Nat} {ii : Nat} {L_28 : Nat} (hM : okM fs w9 k9 h9) (hii : ii < k9) (haf_0 : (∀ s : Nat, s < ii → hasB n (nI s) → 1 ≤ w_10)) (haf_1 : (nI w_10 = ldR (fun s => fs (32 + s)) n ii)) (hnb_w_10 : w_10 ≤ 20 * ii) (f_23_1_0 : hasB n (nI ii)) (hL1_28 : 1 ≤ L_28) (hL2_28 : L_28 ≤ 20) (hLe_28 : fs (32 + ii) = nI L_28) : nI (w_10 + L_28) = ldR (fun s => fs (32 + s)) n (ii + 1) := by
  simp only [ldR]; unfold hasB at *; grind [nI_add]
set_option maxHeartbeats 4000000 in
set_option maxRecDepth 100000 in
theorem r_X8_loudOf (l : Launch) (dC : Nat → ClassId) (dI : Nat → Nat → Nat) (cI cZ cL cJ : ClassId) (mo : Nat) (m_la : Nat) (m_sz : Nat) (m_it : Nat) (m_st : Nat) (m_mv : Nat) (m_tp : Nat) (m_rd : Nat) (m_ac : Nat) (m_as : Nat) (m_wo : Nat) (m_ik : Nat) (m_ke : Nat) (m_tr : Nat) (ms : Int32) (mt : Int32) (ml : Int32) (mk : Int32) (mv : Int32) (mb : Int32) (mw : Int32) (mz : Nat) (mp : Nat) (ma : Nat) (mx : Nat) (fs : Nat → Int32) (w9 : Nat) (k9 : Nat) (h9 : Nat) (n : Int32) (hM : okM fs w9 k9 h9) : Met l yX8_loudOf wsX8_loudOf ({ frames := 1, cells := 0, slots := 0, locals := 21 }) (va_Pc [.ref mo, .int n] (fun U => va_P (dC, dI) vwCl [(xo_8_rrriirrriiiiiiirrirrrrri mo m_la m_sz m_it ms mt m_st m_mv m_tp (nI mz) ml (nI mp) mk mv mb mw m_rd m_ac (nI ma) m_as m_wo m_ik m_ke m_tr (nI mx)), (xI m_st cI 38 fs)] U.heap ∧ va_K (dC, dI) vwCl [(cI, .int), (cZ, .boolean), (cL, .object RX3), (cJ, .array .int)] U)) (vp_Si (fun r => ∃ z : Nat, r = nI z ∧ z ≤ 120 ∧ (∀ s : Nat, s < k9 → hasB n (nI s) → 1 ≤ z) ∧ nI z = ldR (fun s => fs (32 + s)) n k9)) 0 0 (fun _ => False) := by
  refine Met.ofW (cc := cX8_loudOf) (maxL := 4) (ret := (some .int)) (by decide) rfl ?_
  intro p e s m args below meth c s₁ B hml hv
  obtain ⟨rfl, hP, hK⟩ := hv
  have hx := B.exec
  have hb := B.bytes
  have hr := B.returns
  have hts := atoms_spec (ws := wsX8_loudOf) B.pre
  have hown : s.vm.findClass RX8 = some m.cls := findClass_of_methodNamed B.named
  have hlocks := B.notSynchronized
  have hP : va_P (dC, dI) vwCl [(xo_8_rrriirrriiiiiiirrirrrrri mo m_la m_sz m_it ms mt m_st m_mv m_tp (nI mz) ml (nI mp) mk mv mb mw m_rd m_ac (nI ma) m_as m_wo m_ik m_ke m_tr (nI mx)), (xI m_st cI 38 fs)] s.heap := hP
  have hl := lv_entry ([.ref mo, .int n]) (n := 4) (Nat.le_of_ble_eq_true rfl)
  rw [lg_entry_eq]
  generalize (lg_sl ([.ref mo, .int n]) ++ List.replicate (4 - (lg_sl ([.ref mo, .int n])).length) Slot.unset).toArray = ls at hl ⊢
  have hl : lv_has ls 4 [(0, .ref mo), (1, .int n)] := hl
  have hk6 := hM.2.2.2.2.1
  refine lv_iconst (v := 0) hx hb dX8_loudOf_0 (by decide) ?_
  refine lv_istore_n (lv' := [(2, .int 0), (0, .ref mo), (1, .int n)]) hx hb dX8_loudOf_1 rfl hl (by decide) rfl (fun ls hl => ?_)
  refine lv_iconst (v := 0) hx hb dX8_loudOf_2 (by decide) ?_
  refine lv_istore_n (lv' := [(3, .int 0), (2, .int 0), (0, .ref mo), (1, .int n)]) hx hb dX8_loudOf_3 rfl hl (by decide) rfl (fun ls hl => ?_)
  refine lp_go (σ := (Nat)) (fun ii (st : (Nat)) H locs ls => match st with | w_10 => lv_has ls 4 [(3, .int (nI ii)), (2, .int (nI w_10)), (0, .ref mo), (1, .int n)] ∧ H = s.heap ∧ locs = [] ∧ (∀ s : Nat, s < ii → hasB n (nI s) → 1 ≤ w_10) ∧ (nI w_10 = ldR (fun s => fs (32 + s)) n ii) ∧ w_10 ≤ 20 * ii) k9 ?_ ?_ 0 (by omega) (0) ⟨lv_sub hl [0, 1, 2, 3] rfl, rfl, rfl, (fun s hs => absurd hs (Nat.not_lt_zero s)), rfl, (by omega)⟩
  · rintro ii w_10 H locs ls hii ⟨hl, rfl, rfl, haf_0, haf_1, hnb_w_10⟩ ih
    refine lv_iload_n hx hb dX8_loudOf_4 rfl (lv_at hl 0 rfl) ?_
    refine lv_aload_n hx hb dX8_loudOf_5 rfl (lv_at hl 2 rfl) ?_
    refine va_get (D := (dC, dI)) (ci := 8) (v := .ref m_st) (C := RX8) (T := TX8) (N := 24) hx hb hts i_X8_loudOf_X8 hown hK hP 0 rfl rfl 5 (by decide) (hts _ mx_X8_loudOf_1) (fun _ h9 => h9) rfl dX8_loudOf_6 ?_
    refine lv_iconst (v := 4) hx hb dX8_loudOf_9 (by decide) ?_
    refine va_iald hx hb hK hP 1 0 rfl rfl (by unfold vp_in; decide) dX8_loudOf_10 ?_
    refine lv_topi (fun v_21 e_21 => ?_)
    obtain rfl : v_21 = (nI k9) := (e_21).trans hM.2.1
    refine lv_icmp_ge (tgt := 44) hx hb dX8_loudOf_11 (by decide) (fun c_ => absurd c_ (fun q_ => absurd ((nI_leI (a := k9) (b := ii) (by omega) (by omega)).mp q_) (by omega))) (fun _ => ?_)
    refine lv_iload_n hx hb dX8_loudOf_14 rfl (lv_at hl 1 rfl) ?_
    refine lv_iload_n hx hb dX8_loudOf_15 rfl (lv_at hl 3 rfl) ?_
    refine lv_iload_n hx hb dX8_loudOf_16 rfl (lv_at hl 0 rfl) ?_
    have hPc_23 := hP.sub (ws' := []) [] rfl
    refine vp_callSi (W.runS (As := [.int n, .int (nI ii)]) (rest := [.int (nI w_10)]) ⟨hx, hb, hml, hown, hts⟩ (r_X8_has l dC dI cI cZ cL cJ n (nI ii) ) (va_cwS 2 hts gX8_loudOf_X8_has rfl rfl rfl (by decide +kernel) ⟨Nat.le_of_ble_eq_true rfl, Nat.le_of_ble_eq_true rfl⟩) (psP hK hPc_23) rfl rfl hl.1 rfl (lv_room (Nat.le_of_ble_eq_true rfl)) dX8_loudOf_17 ⟨Nat.le_of_ble_eq_true rfl, Nat.le_of_ble_eq_true rfl⟩) (fun r_23 h_23 => ?_)
    rcases h_23 with ⟨h_23, f_23_0_0⟩ | ⟨h_23, f_23_1_0⟩
    · subst h_23
      refine lv_if_eq (tgt := 35) hx hb dX8_loudOf_20 (by decide) (fun _ => ?_) (fun c_ => absurd (by decide) c_)
      refine lv_iconst (v := 0) hx hb dX8_loudOf_35 (by decide) ?_
      refine lv_iadd hx hb dX8_loudOf_36 ?_
      refine lv_topi (fun v_25 e_25 => ?_)
      obtain rfl : v_25 = (nI (w_10 + 0)) := (e_25).trans (nI_add w_10 0)
      refine lv_istore_n (lv' := [(2, .int (nI (w_10 + 0))), (3, .int (nI ii)), (0, .ref mo), (1, .int n)]) hx hb dX8_loudOf_37 rfl hl (by decide) rfl (fun ls hl => ?_)
      refine lv_iinc (v := (nI (ii + 1))) (lv' := [(3, .int (nI (ii + 1))), (2, .int (nI (w_10 + 0))), (0, .ref mo), (1, .int n)]) hx hb dX8_loudOf_38 hl (k := 1) rfl (nI_add ii 1) (by decide) rfl (fun ls hl => ?_)
      refine lv_goto (tgt := 4) hx hb dX8_loudOf_41 (by decide) ?_
      exact ih ((w_10 + 0)) _ _ _ ⟨lv_sub hl [0, 1, 2, 3] rfl, rfl, rfl, (lsum_n haf_0 f_23_0_0), (lf_X8_loudOf_1 hM hii haf_0 haf_1 hnb_w_10 f_23_0_0), (by omega)⟩
    · subst h_23
      refine lv_if_eq (tgt := 35) hx hb dX8_loudOf_20 (by decide) (fun c_ => absurd c_ (by decide)) (fun _ => ?_)
      refine lv_aload_n hx hb dX8_loudOf_23 rfl (lv_at hl 2 rfl) ?_
      refine va_get (D := (dC, dI)) (ci := 8) (v := .ref m_st) (C := RX8) (T := TX8) (N := 24) hx hb hts i_X8_loudOf_X8 hown hK hP 0 rfl rfl 5 (by decide) (hts _ mx_X8_loudOf_1) (fun _ h9 => h9) rfl dX8_loudOf_24 ?_
      refine lv_bipush (v := 32) hx hb dX8_loudOf_27 (by decide) ?_
      refine lv_iload_n hx hb dX8_loudOf_29 rfl (lv_at hl 0 rfl) ?_
      refine lv_iadd hx hb dX8_loudOf_30 ?_
      refine lv_topi (fun v_27 e_27 => ?_)
      obtain rfl : v_27 = (nI (32 + ii)) := (e_27).trans (nI_add 32 ii)
      refine va_iald hx hb hK hP 1 0 rfl rfl (vp_in_nI (by omega) (by omega)) dX8_loudOf_31 ?_
      obtain ⟨L_28, hL1_28, hL2_28, hLe_28⟩ := hM.2.2.2.2.2.2.2 ii (by omega)
      refine lv_topi (fun v_28 e_28 => ?_)
      obtain rfl : v_28 = nI L_28 := e_28.trans (by rw [nI_clamp (by omega)]; exact hLe_28)
      refine lv_goto (tgt := 36) hx hb dX8_loudOf_32 (by decide) ?_
      refine lv_iadd hx hb dX8_loudOf_36 ?_
      refine lv_topi (fun v_29 e_29 => ?_)
      obtain rfl : v_29 = (nI (w_10 + L_28)) := (e_29).trans (nI_add w_10 L_28)
      refine lv_istore_n (lv' := [(2, .int (nI (w_10 + L_28))), (3, .int (nI ii)), (0, .ref mo), (1, .int n)]) hx hb dX8_loudOf_37 rfl hl (by decide) rfl (fun ls hl => ?_)
      refine lv_iinc (v := (nI (ii + 1))) (lv' := [(3, .int (nI (ii + 1))), (2, .int (nI (w_10 + L_28))), (0, .ref mo), (1, .int n)]) hx hb dX8_loudOf_38 hl (k := 1) rfl (nI_add ii 1) (by decide) rfl (fun ls hl => ?_)
      refine lv_goto (tgt := 4) hx hb dX8_loudOf_41 (by decide) ?_
      exact ih ((w_10 + L_28)) _ _ _ ⟨lv_sub hl [0, 1, 2, 3] rfl, rfl, rfl, (fun s hs hb_ => by omega), (lf_X8_loudOf_2 hM hii haf_0 haf_1 hnb_w_10 f_23_1_0 hL1_28 hL2_28 hLe_28), (by omega)⟩
  · rintro w_10 H locs ls ⟨hl, rfl, rfl, haf_0, haf_1, hnb_w_10⟩
    refine lv_iload_n hx hb dX8_loudOf_4 rfl (lv_at hl 0 rfl) ?_
    refine lv_aload_n hx hb dX8_loudOf_5 rfl (lv_at hl 2 rfl) ?_
    refine va_get (D := (dC, dI)) (ci := 8) (v := .ref m_st) (C := RX8) (T := TX8) (N := 24) hx hb hts i_X8_loudOf_X8 hown hK hP 0 rfl rfl 5 (by decide) (hts _ mx_X8_loudOf_1) (fun _ h9 => h9) rfl dX8_loudOf_6 ?_
    refine lv_iconst (v := 4) hx hb dX8_loudOf_9 (by decide) ?_
    refine va_iald hx hb hK hP 1 0 rfl rfl (by unfold vp_in; decide) dX8_loudOf_10 ?_
    refine lv_topi (fun v_30 e_30 => ?_)
    obtain rfl : v_30 = (nI k9) := (e_30).trans hM.2.1
    refine lv_icmp_ge (tgt := 44) hx hb dX8_loudOf_11 (by decide) (fun _ => ?_) (fun c_ => absurd ((nI_leI (a := k9) (b := k9) (by omega) (by omega)).mpr (by omega)) c_)
    refine lv_iload_n hx hb dX8_loudOf_44 rfl (lv_at hl 1 rfl) ?_
    exact W.iret (v := (nI w_10)) hx hb hr (fun t ht hW => ⟨(nI w_10), rfl, ⟨w_10, rfl, (by omega), haf_0, haf_1⟩, ht⟩) (fun _ h => by cases h) dX8_loudOf_45
theorem lf_X8_letLoose_1 {fs : Nat → Int32} {w9 : Nat} {k9 : Nat} {h9 : Nat} {i : Nat} {L : Nat} {n : Int32} {g_2 : Nat → Int32} {g_4 : Nat → Int32} {g_6 : Nat → Int32} (hM : okM fs w9 k9 h9) (hi : i < 6) (hL1 : 1 ≤ L) (hL2 : L ≤ 20) (hu_2 : g_2 = upd fs (26 + i) 0) (hu_4 : g_4 = upd g_2 (20 + i) n) (hu_6 : g_6 = upd g_4 (32 + i) (nI L)) : g_6 = upd (upd (upd fs (26 + i) 0) (20 + i) n) (32 + i) (nI L) := by
  grind
set_option maxHeartbeats 4000000 in
set_option maxRecDepth 100000 in
theorem r_X8_letLoose (l : Launch) (dC : Nat → ClassId) (dI : Nat → Nat → Nat) (cI cZ cL cJ : ClassId) (sz : Nat) (mo : Nat) (m_la : Nat) (m_sz : Nat) (m_it : Nat) (m_st : Nat) (m_mv : Nat) (m_tp : Nat) (m_rd : Nat) (m_ac : Nat) (m_as : Nat) (m_wo : Nat) (m_ik : Nat) (m_ke : Nat) (m_tr : Nat) (ms : Int32) (mt : Int32) (ml : Int32) (mk : Int32) (mv : Int32) (mb : Int32) (mw : Int32) (mz : Nat) (mp : Nat) (ma : Nat) (mx : Nat) (fs : Nat → Int32) (w9 : Nat) (k9 : Nat) (h9 : Nat) (i : Nat) (L : Nat) (n : Int32) (hM : okM fs w9 k9 h9) (hi : i < 6) (hL1 : 1 ≤ L) (hL2 : L ≤ 20) : Met l yX8_letLoose wsX8_letLoose ({ frames := 0, cells := 0, slots := 0, locals := 0 }) (va_Pc [.ref mo, .int (nI i), .int n, .int (nI L)] (fun U => U.heap.size = sz ∧ va_P (dC, dI) vwCl [(xo_8_rrriirrriiiiiiirrirrrrri mo m_la m_sz m_it ms mt m_st m_mv m_tp (nI mz) ml (nI mp) mk mv mb mw m_rd m_ac (nI ma) m_as m_wo m_ik m_ke m_tr (nI mx)), (xI m_st cI 38 fs)] U.heap ∧ va_K (dC, dI) vwCl [(cI, .int), (cZ, .boolean), (cL, .object RX3), (cJ, .array .int)] U ∧ va_D (fun _ => True) [(xo_8_rrriirrriiiiiiirrirrrrri mo m_la m_sz m_it ms mt m_st m_mv m_tp (nI mz) ml (nI mp) mk mv mb mw m_rd m_ac (nI ma) m_as m_wo m_ik m_ke m_tr (nI mx)), (xI m_st cI 38 fs)])) (va_Qv (fun (_ : Unit) => True) (fun (_ : Unit) t => ∃ (fsn : Nat → Int32), va_P (dC, dI) vwCl [(xo_8_rrriirrriiiiiiirrirrrrri mo m_la m_sz m_it ms mt m_st m_mv m_tp (nI mz) ml (nI mp) mk mv mb mw m_rd m_ac (nI ma) m_as m_wo m_ik m_ke m_tr (nI mx)), (xI m_st cI 38 fsn)] t.heap ∧ va_D (va_A [(xo_8_rrriirrriiiiiiirrirrrrri mo m_la m_sz m_it ms mt m_st m_mv m_tp (nI mz) ml (nI mp) mk mv mb mw m_rd m_ac (nI ma) m_as m_wo m_ik m_ke m_tr (nI mx)), (xI m_st cI 38 fs)] sz) [(xo_8_rrriirrriiiiiiirrirrrrri mo m_la m_sz m_it ms mt m_st m_mv m_tp (nI mz) ml (nI mp) mk mv mb mw m_rd m_ac (nI ma) m_as m_wo m_ik m_ke m_tr (nI mx)), (xI m_st cI 38 fsn)] ∧ okM fsn w9 k9 h9 ∧ fsn = upd (upd (upd fs (26 + i) 0) (20 + i) n) (32 + i) (nI L)) (va_A [(xo_8_rrriirrriiiiiiirrirrrrri mo m_la m_sz m_it ms mt m_st m_mv m_tp (nI mz) ml (nI mp) mk mv mb mw m_rd m_ac (nI ma) m_as m_wo m_ik m_ke m_tr (nI mx)), (xI m_st cI 38 fs)] sz)) 0 0 (va_A [(xo_8_rrriirrriiiiiiirrirrrrri mo m_la m_sz m_it ms mt m_st m_mv m_tp (nI mz) ml (nI mp) mk mv mb mw m_rd m_ac (nI ma) m_as m_wo m_ik m_ke m_tr (nI mx)), (xI m_st cI 38 fs)] sz) := by
  refine Met.ofW (cc := cX8_letLoose) (maxL := 4) (ret := none) (by decide) rfl ?_
  intro p e s m args below meth c s₁ B hml hv
  obtain ⟨rfl, hsz, hP, hK, hD0⟩ := hv
  have hx := B.exec
  have hb := B.bytes
  have hr := B.returns
  have hts := atoms_spec (ws := wsX8_letLoose) B.pre
  have hown : s.vm.findClass RX8 = some m.cls := findClass_of_methodNamed B.named
  have hlocks := B.notSynchronized
  subst hsz
  have hD := hD0.self (sz := s.heap.size)
  generalize hAe : va_A [(xo_8_rrriirrriiiiiiirrirrrrri mo m_la m_sz m_it ms mt m_st m_mv m_tp (nI mz) ml (nI mp) mk mv mb mw m_rd m_ac (nI ma) m_as m_wo m_ik m_ke m_tr (nI mx)), (xI m_st cI 38 fs)] s.heap.size = A at hD ⊢
  have hA : ∀ q : Nat, s.heap.size ≤ q → A q := fun q h => by rw [← hAe]; exact Or.inr h
  have hS : va_S A s.heap s.heap [] := va_S.rf
  have hP : va_P (dC, dI) vwCl [(xo_8_rrriirrriiiiiiirrirrrrri mo m_la m_sz m_it ms mt m_st m_mv m_tp (nI mz) ml (nI mp) mk mv mb mw m_rd m_ac (nI ma) m_as m_wo m_ik m_ke m_tr (nI mx)), (xI m_st cI 38 fs)] s.heap := hP
  have hl := lv_entry ([.ref mo, .int (nI i), .int n, .int (nI L)]) (n := 4) (Nat.le_of_ble_eq_true rfl)
  rw [lg_entry_eq]
  generalize (lg_sl ([.ref mo, .int (nI i), .int n, .int (nI L)]) ++ List.replicate (4 - (lg_sl ([.ref mo, .int (nI i), .int n, .int (nI L)])).length) Slot.unset).toArray = ls at hl ⊢
  have hl : lv_has ls 4 [(0, .ref mo), (1, .int (nI i)), (2, .int n), (3, .int (nI L))] := hl
  have hk6 := hM.2.2.2.2.1
  have hw6 := hM.2.2.2.1
  refine lv_aload_n hx hb dX8_letLoose_0 rfl (lv_at hl 0 rfl) ?_
  refine va_get (D := (dC, dI)) (ci := 8) (v := .ref m_st) (C := RX8) (T := TX8) (N := 24) hx hb hts i_X8_letLoose_X8 hown hK hP 0 rfl rfl 5 (by decide) (hts _ mx_X8_letLoose_1) (fun _ h9 => h9) rfl dX8_letLoose_1 ?_
  refine lv_bipush (v := 26) hx hb dX8_letLoose_4 (by decide) ?_
  refine lv_iload_n hx hb dX8_letLoose_6 rfl (lv_at hl 1 rfl) ?_
  refine lv_iadd hx hb dX8_letLoose_7 ?_
  refine lv_topi (fun v_1 e_1 => ?_)
  obtain rfl : v_1 = (nI (26 + i)) := (e_1).trans (nI_add 26 i)
  refine lv_iconst (v := 0) hx hb dX8_letLoose_8 (by decide) ?_
  refine va_iast hx hb hK hP hD hS 1 0 rfl rfl (vp_in_nI (by omega) (by omega)) dX8_letLoose_9 (fun H locs hP hD hS => ?_)
  generalize hg_2 : upd fs ((nI (26 + i)) : Int32).toNatClampNeg 0 = g_2 at hP hD
  have hu_2 : g_2 = upd fs (26 + i) 0 := (by rw [← hg_2, nI_clamp (by omega)])
  have hM_2 : okM g_2 w9 k9 h9 := okM_off (i := (26 + i)) hM hg_2 (by omega) (by omega) (by omega) (by omega) (by omega)
  have hP : va_P (dC, dI) vwCl [(xo_8_rrriirrriiiiiiirrirrrrri mo m_la m_sz m_it ms mt m_st m_mv m_tp (nI mz) ml (nI mp) mk mv mb mw m_rd m_ac (nI ma) m_as m_wo m_ik m_ke m_tr (nI mx)), (xI m_st cI 38 g_2)] H := hP
  have hD := dto hP hD
  refine lv_aload_n hx hb dX8_letLoose_10 rfl (lv_at hl 0 rfl) ?_
  refine va_get (D := (dC, dI)) (ci := 8) (v := .ref m_st) (C := RX8) (T := TX8) (N := 24) hx hb hts i_X8_letLoose_X8 hown hK hP 0 rfl rfl 5 (by decide) (hts _ mx_X8_letLoose_1) (fun _ h9 => h9) rfl dX8_letLoose_11 ?_
  refine lv_bipush (v := 20) hx hb dX8_letLoose_14 (by decide) ?_
  refine lv_iload_n hx hb dX8_letLoose_16 rfl (lv_at hl 1 rfl) ?_
  refine lv_iadd hx hb dX8_letLoose_17 ?_
  refine lv_topi (fun v_3 e_3 => ?_)
  obtain rfl : v_3 = (nI (20 + i)) := (e_3).trans (nI_add 20 i)
  refine lv_iload_n hx hb dX8_letLoose_18 rfl (lv_at hl 2 rfl) ?_
  refine va_iast hx hb hK hP hD hS 1 0 rfl rfl (vp_in_nI (by omega) (by omega)) dX8_letLoose_19 (fun H locs hP hD hS => ?_)
  generalize hg_4 : upd g_2 ((nI (20 + i)) : Int32).toNatClampNeg n = g_4 at hP hD
  have hu_4 : g_4 = upd g_2 (20 + i) n := (by rw [← hg_4, nI_clamp (by omega)])
  have hM_4 : okM g_4 w9 k9 h9 := okM_off (i := (20 + i)) hM_2 hg_4 (by omega) (by omega) (by omega) (by omega) (by omega)
  have hP : va_P (dC, dI) vwCl [(xo_8_rrriirrriiiiiiirrirrrrri mo m_la m_sz m_it ms mt m_st m_mv m_tp (nI mz) ml (nI mp) mk mv mb mw m_rd m_ac (nI ma) m_as m_wo m_ik m_ke m_tr (nI mx)), (xI m_st cI 38 g_4)] H := hP
  have hD := dto hP hD
  refine lv_aload_n hx hb dX8_letLoose_20 rfl (lv_at hl 0 rfl) ?_
  refine va_get (D := (dC, dI)) (ci := 8) (v := .ref m_st) (C := RX8) (T := TX8) (N := 24) hx hb hts i_X8_letLoose_X8 hown hK hP 0 rfl rfl 5 (by decide) (hts _ mx_X8_letLoose_1) (fun _ h9 => h9) rfl dX8_letLoose_21 ?_
  refine lv_bipush (v := 32) hx hb dX8_letLoose_24 (by decide) ?_
  refine lv_iload_n hx hb dX8_letLoose_26 rfl (lv_at hl 1 rfl) ?_
  refine lv_iadd hx hb dX8_letLoose_27 ?_
  refine lv_topi (fun v_5 e_5 => ?_)
  obtain rfl : v_5 = (nI (32 + i)) := (e_5).trans (nI_add 32 i)
  refine lv_iload_n hx hb dX8_letLoose_28 rfl (lv_at hl 3 rfl) ?_
  refine va_iast hx hb hK hP hD hS 1 0 rfl rfl (vp_in_nI (by omega) (by omega)) dX8_letLoose_29 (fun H locs hP hD hS => ?_)
  generalize hg_6 : upd g_4 ((nI (32 + i)) : Int32).toNatClampNeg (nI L) = g_6 at hP hD
  have hu_6 : g_6 = upd g_4 (32 + i) (nI L) := (by rw [← hg_6, nI_clamp (by omega)])
  have hM_6 : okM g_6 w9 k9 h9 := okM_loud hM_4 hg_6 (by omega) (by omega) (by omega)
  have hP : va_P (dC, dI) vwCl [(xo_8_rrriirrriiiiiiirrirrrrri mo m_la m_sz m_it ms mt m_st m_mv m_tp (nI mz) ml (nI mp) mk mv mb mw m_rd m_ac (nI ma) m_as m_wo m_ik m_ke m_tr (nI mx)), (xI m_st cI 38 g_6)] H := hP
  have hD := dto hP hD
  have hX9 := cut2 (wc := [(xo_8_rrriirrriiiiiiirrirrrrri mo m_la m_sz m_it ms mt m_st m_mv m_tp (nI mz) ml (nI mp) mk mv mb mw m_rd m_ac (nI ma) m_as m_wo m_ik m_ke m_tr (nI mx)), (xI m_st cI 38 g_6)]) hP hD [0, 1] (by decide +kernel) rfl
  exact W.vret hx hb hr (fun t ht hW => ⟨⟨(), rfl, trivial, ⟨g_6, va_Ht ht hX9.1, hX9.2, hM_6, (lf_X8_letLoose_1 hM hi hL1 hL2 hu_2 hu_4 hu_6)⟩⟩, hS.F ht⟩) hS.2.2 dX8_letLoose_30
theorem lf_X8_drift_1 {fs : Nat → Int32} {w9 : Nat} {k9 : Nat} {h9 : Nat} {i : Nat} {n : Int32} {v_2 : Int32} {v_4 : Int32} {r_5 : Int32} {v_6 : Int32} {L_10 : Nat} {g_15 : Nat → Int32} {v_19 : Int32} {g_20 : Nat → Int32} {L_24 : Nat} {g_25 : Nat → Int32} (hM : okM fs w9 k9 h9) (hi : i < k9) (e_2 : v_2 = fs (14 + i)) (e_4 : v_4 = fs (20 + i)) (h_5 : r_5 = (dfM v_2 n)) (e_6 : v_6 = (v_4 + r_5)) (c_7 : ¬ (v_2 = 4)) (c_8 : ¬ (v_2 = 5)) (hL1_10 : 1 ≤ L_10) (hL2_10 : L_10 ≤ 20) (hLe_10 : fs (32 + i) = nI L_10) (f_11_0_0 : ¬ iC (fs 0) v_6) (hu_15 : g_15 = upd fs (26 + i) 2) (e_19 : v_19 = g_15 (20 + i)) (hu_20 : g_20 = upd g_15 (20 + i) v_19) (hL1_24 : 1 ≤ L_24) (hL2_24 : L_24 ≤ 20) (hLe_24 : g_20 (32 + i) = nI L_24) (hu_25 : g_25 = upd g_20 (32 + i) (nI L_24)) : g_25 = mDr fs i n := by
  have t : toM fs i n = v_6 := by rw [e_6, e_4, h_5, e_2]; rfl
  first
  | (exfalso; omega)
  | exact (dr_lost (by assumption) (by assumption) (by assumption) (by assumption) (by assumption)).trans (mDr_1 t (by assumption)).symm
  | exact (dr_lost (by assumption) (by assumption) (by assumption) (by assumption) (by assumption)).trans (mDr_2 (lo4 e_2 (by assumption) (by assumption) (by omega)) (n0 (by assumption))).symm
  | exact (dr_kept (by assumption) (by assumption) (by assumption)).trans (mDr_3 t (by assumption) (lo4 e_2 (by assumption) (by assumption) (by omega)) (nI_ne0 (by omega) (by omega))).symm
  | exact (dr_kept (by assumption) (by assumption) (by assumption)).trans (mDr_3 t (by assumption) (lo5 e_2 (by assumption) (by assumption) (by assumption) (by omega)) (nI_ne0 (by omega) (by omega))).symm
  | exact (dr_kept (by assumption) (by assumption) (by assumption)).trans (mDr_3 t (by assumption) (lon e_2 (by assumption) (by assumption) (by assumption)) (nI_ne0 (by omega) (by omega))).symm
  | exact (dr_kept (by assumption) (by assumption) (by assumption)).trans (mDr_3 t (by assumption) (lo5b e_2 (by assumption) (by assumption) (by omega) (by omega)) (nI_ne0 (by omega) (by omega))).symm
theorem lf_X8_drift_2 {fs : Nat → Int32} {w9 : Nat} {k9 : Nat} {h9 : Nat} {i : Nat} {n : Int32} {v_2 : Int32} {v_4 : Int32} {r_5 : Int32} {v_6 : Int32} {L_10 : Nat} {g_30 : Nat → Int32} {g_33 : Nat → Int32} {g_36 : Nat → Int32} (hM : okM fs w9 k9 h9) (hi : i < k9) (e_2 : v_2 = fs (14 + i)) (e_4 : v_4 = fs (20 + i)) (h_5 : r_5 = (dfM v_2 n)) (e_6 : v_6 = (v_4 + r_5)) (c_7 : ¬ (v_2 = 4)) (c_8 : ¬ (v_2 = 5)) (hL1_10 : 1 ≤ L_10) (hL2_10 : L_10 ≤ 20) (hLe_10 : fs (32 + i) = nI L_10) (f_11_1_0 : iC (fs 0) v_6) (c_27 : ¬ (L_10 = 0)) (hu_30 : g_30 = upd fs (26 + i) 0) (hu_33 : g_33 = upd g_30 (20 + i) v_6) (hu_36 : g_36 = upd g_33 (32 + i) (nI L_10)) : g_36 = mDr fs i n := by
  have t : toM fs i n = v_6 := by rw [e_6, e_4, h_5, e_2]; rfl
  first
  | (exfalso; omega)
  | exact (dr_lost (by assumption) (by assumption) (by assumption) (by assumption) (by assumption)).trans (mDr_1 t (by assumption)).symm
  | exact (dr_lost (by assumption) (by assumption) (by assumption) (by assumption) (by assumption)).trans (mDr_2 (lo4 e_2 (by assumption) (by assumption) (by omega)) (n0 (by assumption))).symm
  | exact (dr_kept (by assumption) (by assumption) (by assumption)).trans (mDr_3 t (by assumption) (lo4 e_2 (by assumption) (by assumption) (by omega)) (nI_ne0 (by omega) (by omega))).symm
  | exact (dr_kept (by assumption) (by assumption) (by assumption)).trans (mDr_3 t (by assumption) (lo5 e_2 (by assumption) (by assumption) (by assumption) (by omega)) (nI_ne0 (by omega) (by omega))).symm
  | exact (dr_kept (by assumption) (by assumption) (by assumption)).trans (mDr_3 t (by assumption) (lon e_2 (by assumption) (by assumption) (by assumption)) (nI_ne0 (by omega) (by omega))).symm
  | exact (dr_kept (by assumption) (by assumption) (by assumption)).trans (mDr_3 t (by assumption) (lo5b e_2 (by assumption) (by assumption) (by omega) (by omega)) (nI_ne0 (by omega) (by omega))).symm
theorem lf_X8_drift_3 {fs : Nat → Int32} {w9 : Nat} {k9 : Nat} {h9 : Nat} {i : Nat} {n : Int32} {v_2 : Int32} {v_4 : Int32} {r_5 : Int32} {v_6 : Int32} {L_10 : Nat} {g_39 : Nat → Int32} {v_43 : Int32} {g_44 : Nat → Int32} {L_48 : Nat} {g_49 : Nat → Int32} (hM : okM fs w9 k9 h9) (hi : i < k9) (e_2 : v_2 = fs (14 + i)) (e_4 : v_4 = fs (20 + i)) (h_5 : r_5 = (dfM v_2 n)) (e_6 : v_6 = (v_4 + r_5)) (c_7 : ¬ (v_2 = 4)) (c_8 : ¬ (v_2 = 5)) (hL1_10 : 1 ≤ L_10) (hL2_10 : L_10 ≤ 20) (hLe_10 : fs (32 + i) = nI L_10) (f_11_1_0 : iC (fs 0) v_6) (c_27 : L_10 = 0) (hu_39 : g_39 = upd fs (26 + i) 2) (e_43 : v_43 = g_39 (20 + i)) (hu_44 : g_44 = upd g_39 (20 + i) v_43) (hL1_48 : 1 ≤ L_48) (hL2_48 : L_48 ≤ 20) (hLe_48 : g_44 (32 + i) = nI L_48) (hu_49 : g_49 = upd g_44 (32 + i) (nI L_48)) : g_49 = mDr fs i n := by
  have t : toM fs i n = v_6 := by rw [e_6, e_4, h_5, e_2]; rfl
  first
  | (exfalso; omega)
  | exact (dr_lost (by assumption) (by assumption) (by assumption) (by assumption) (by assumption)).trans (mDr_1 t (by assumption)).symm
  | exact (dr_lost (by assumption) (by assumption) (by assumption) (by assumption) (by assumption)).trans (mDr_2 (lo4 e_2 (by assumption) (by assumption) (by omega)) (n0 (by assumption))).symm
  | exact (dr_kept (by assumption) (by assumption) (by assumption)).trans (mDr_3 t (by assumption) (lo4 e_2 (by assumption) (by assumption) (by omega)) (nI_ne0 (by omega) (by omega))).symm
  | exact (dr_kept (by assumption) (by assumption) (by assumption)).trans (mDr_3 t (by assumption) (lo5 e_2 (by assumption) (by assumption) (by assumption) (by omega)) (nI_ne0 (by omega) (by omega))).symm
  | exact (dr_kept (by assumption) (by assumption) (by assumption)).trans (mDr_3 t (by assumption) (lon e_2 (by assumption) (by assumption) (by assumption)) (nI_ne0 (by omega) (by omega))).symm
  | exact (dr_kept (by assumption) (by assumption) (by assumption)).trans (mDr_3 t (by assumption) (lo5b e_2 (by assumption) (by assumption) (by omega) (by omega)) (nI_ne0 (by omega) (by omega))).symm
theorem lf_X8_drift_4 {fs : Nat → Int32} {w9 : Nat} {k9 : Nat} {h9 : Nat} {i : Nat} {n : Int32} {v_2 : Int32} {v_4 : Int32} {r_5 : Int32} {v_6 : Int32} {L_51 : Nat} {g_59 : Nat → Int32} {v_63 : Int32} {g_64 : Nat → Int32} {L_68 : Nat} {g_69 : Nat → Int32} (hM : okM fs w9 k9 h9) (hi : i < k9) (e_2 : v_2 = fs (14 + i)) (e_4 : v_4 = fs (20 + i)) (h_5 : r_5 = (dfM v_2 n)) (e_6 : v_6 = (v_4 + r_5)) (c_7 : ¬ (v_2 = 4)) (c_8 : v_2 = 5) (hL1_51 : 1 ≤ L_51) (hL2_51 : L_51 ≤ 20) (hLe_51 : fs (32 + i) = nI L_51) (c_52 : 20 ≤ L_51) (f_55_0_0 : ¬ iC (fs 0) v_6) (hu_59 : g_59 = upd fs (26 + i) 2) (e_63 : v_63 = g_59 (20 + i)) (hu_64 : g_64 = upd g_59 (20 + i) v_63) (hL1_68 : 1 ≤ L_68) (hL2_68 : L_68 ≤ 20) (hLe_68 : g_64 (32 + i) = nI L_68) (hu_69 : g_69 = upd g_64 (32 + i) (nI L_68)) : g_69 = mDr fs i n := by
  have t : toM fs i n = v_6 := by rw [e_6, e_4, h_5, e_2]; rfl
  first
  | (exfalso; omega)
  | exact (dr_lost (by assumption) (by assumption) (by assumption) (by assumption) (by assumption)).trans (mDr_1 t (by assumption)).symm
  | exact (dr_lost (by assumption) (by assumption) (by assumption) (by assumption) (by assumption)).trans (mDr_2 (lo4 e_2 (by assumption) (by assumption) (by omega)) (n0 (by assumption))).symm
  | exact (dr_kept (by assumption) (by assumption) (by assumption)).trans (mDr_3 t (by assumption) (lo4 e_2 (by assumption) (by assumption) (by omega)) (nI_ne0 (by omega) (by omega))).symm
  | exact (dr_kept (by assumption) (by assumption) (by assumption)).trans (mDr_3 t (by assumption) (lo5 e_2 (by assumption) (by assumption) (by assumption) (by omega)) (nI_ne0 (by omega) (by omega))).symm
  | exact (dr_kept (by assumption) (by assumption) (by assumption)).trans (mDr_3 t (by assumption) (lon e_2 (by assumption) (by assumption) (by assumption)) (nI_ne0 (by omega) (by omega))).symm
  | exact (dr_kept (by assumption) (by assumption) (by assumption)).trans (mDr_3 t (by assumption) (lo5b e_2 (by assumption) (by assumption) (by omega) (by omega)) (nI_ne0 (by omega) (by omega))).symm
theorem lf_X8_drift_5 {fs : Nat → Int32} {w9 : Nat} {k9 : Nat} {h9 : Nat} {i : Nat} {n : Int32} {v_2 : Int32} {v_4 : Int32} {r_5 : Int32} {v_6 : Int32} {L_51 : Nat} {g_74 : Nat → Int32} {g_77 : Nat → Int32} {g_80 : Nat → Int32} (hM : okM fs w9 k9 h9) (hi : i < k9) (e_2 : v_2 = fs (14 + i)) (e_4 : v_4 = fs (20 + i)) (h_5 : r_5 = (dfM v_2 n)) (e_6 : v_6 = (v_4 + r_5)) (c_7 : ¬ (v_2 = 4)) (c_8 : v_2 = 5) (hL1_51 : 1 ≤ L_51) (hL2_51 : L_51 ≤ 20) (hLe_51 : fs (32 + i) = nI L_51) (c_52 : 20 ≤ L_51) (f_55_1_0 : iC (fs 0) v_6) (c_71 : ¬ (L_51 = 0)) (hu_74 : g_74 = upd fs (26 + i) 0) (hu_77 : g_77 = upd g_74 (20 + i) v_6) (hu_80 : g_80 = upd g_77 (32 + i) (nI L_51)) : g_80 = mDr fs i n := by
  have t : toM fs i n = v_6 := by rw [e_6, e_4, h_5, e_2]; rfl
  first
  | (exfalso; omega)
  | exact (dr_lost (by assumption) (by assumption) (by assumption) (by assumption) (by assumption)).trans (mDr_1 t (by assumption)).symm
  | exact (dr_lost (by assumption) (by assumption) (by assumption) (by assumption) (by assumption)).trans (mDr_2 (lo4 e_2 (by assumption) (by assumption) (by omega)) (n0 (by assumption))).symm
  | exact (dr_kept (by assumption) (by assumption) (by assumption)).trans (mDr_3 t (by assumption) (lo4 e_2 (by assumption) (by assumption) (by omega)) (nI_ne0 (by omega) (by omega))).symm
  | exact (dr_kept (by assumption) (by assumption) (by assumption)).trans (mDr_3 t (by assumption) (lo5 e_2 (by assumption) (by assumption) (by assumption) (by omega)) (nI_ne0 (by omega) (by omega))).symm
  | exact (dr_kept (by assumption) (by assumption) (by assumption)).trans (mDr_3 t (by assumption) (lon e_2 (by assumption) (by assumption) (by assumption)) (nI_ne0 (by omega) (by omega))).symm
  | exact (dr_kept (by assumption) (by assumption) (by assumption)).trans (mDr_3 t (by assumption) (lo5b e_2 (by assumption) (by assumption) (by omega) (by omega)) (nI_ne0 (by omega) (by omega))).symm
theorem lf_X8_drift_6 {fs : Nat → Int32} {w9 : Nat} {k9 : Nat} {h9 : Nat} {i : Nat} {n : Int32} {v_2 : Int32} {v_4 : Int32} {r_5 : Int32} {v_6 : Int32} {L_51 : Nat} {g_83 : Nat → Int32} {v_87 : Int32} {g_88 : Nat → Int32} {L_92 : Nat} {g_93 : Nat → Int32} (hM : okM fs w9 k9 h9) (hi : i < k9) (e_2 : v_2 = fs (14 + i)) (e_4 : v_4 = fs (20 + i)) (h_5 : r_5 = (dfM v_2 n)) (e_6 : v_6 = (v_4 + r_5)) (c_7 : ¬ (v_2 = 4)) (c_8 : v_2 = 5) (hL1_51 : 1 ≤ L_51) (hL2_51 : L_51 ≤ 20) (hLe_51 : fs (32 + i) = nI L_51) (c_52 : 20 ≤ L_51) (f_55_1_0 : iC (fs 0) v_6) (c_71 : L_51 = 0) (hu_83 : g_83 = upd fs (26 + i) 2) (e_87 : v_87 = g_83 (20 + i)) (hu_88 : g_88 = upd g_83 (20 + i) v_87) (hL1_92 : 1 ≤ L_92) (hL2_92 : L_92 ≤ 20) (hLe_92 : g_88 (32 + i) = nI L_92) (hu_93 : g_93 = upd g_88 (32 + i) (nI L_92)) : g_93 = mDr fs i n := by
  have t : toM fs i n = v_6 := by rw [e_6, e_4, h_5, e_2]; rfl
  first
  | (exfalso; omega)
  | exact (dr_lost (by assumption) (by assumption) (by assumption) (by assumption) (by assumption)).trans (mDr_1 t (by assumption)).symm
  | exact (dr_lost (by assumption) (by assumption) (by assumption) (by assumption) (by assumption)).trans (mDr_2 (lo4 e_2 (by assumption) (by assumption) (by omega)) (n0 (by assumption))).symm
  | exact (dr_kept (by assumption) (by assumption) (by assumption)).trans (mDr_3 t (by assumption) (lo4 e_2 (by assumption) (by assumption) (by omega)) (nI_ne0 (by omega) (by omega))).symm
  | exact (dr_kept (by assumption) (by assumption) (by assumption)).trans (mDr_3 t (by assumption) (lo5 e_2 (by assumption) (by assumption) (by assumption) (by omega)) (nI_ne0 (by omega) (by omega))).symm
  | exact (dr_kept (by assumption) (by assumption) (by assumption)).trans (mDr_3 t (by assumption) (lon e_2 (by assumption) (by assumption) (by assumption)) (nI_ne0 (by omega) (by omega))).symm
  | exact (dr_kept (by assumption) (by assumption) (by assumption)).trans (mDr_3 t (by assumption) (lo5b e_2 (by assumption) (by assumption) (by omega) (by omega)) (nI_ne0 (by omega) (by omega))).symm
theorem lf_X8_drift_7 {fs : Nat → Int32} {w9 : Nat} {k9 : Nat} {h9 : Nat} {i : Nat} {n : Int32} {v_2 : Int32} {v_4 : Int32} {r_5 : Int32} {v_6 : Int32} {L_51 : Nat} {g_101 : Nat → Int32} {v_105 : Int32} {g_106 : Nat → Int32} {L_110 : Nat} {g_111 : Nat → Int32} (hM : okM fs w9 k9 h9) (hi : i < k9) (e_2 : v_2 = fs (14 + i)) (e_4 : v_4 = fs (20 + i)) (h_5 : r_5 = (dfM v_2 n)) (e_6 : v_6 = (v_4 + r_5)) (c_7 : ¬ (v_2 = 4)) (c_8 : v_2 = 5) (hL1_51 : 1 ≤ L_51) (hL2_51 : L_51 ≤ 20) (hLe_51 : fs (32 + i) = nI L_51) (c_52 : ¬ (20 ≤ L_51)) (f_97_0_0 : ¬ iC (fs 0) v_6) (hu_101 : g_101 = upd fs (26 + i) 2) (e_105 : v_105 = g_101 (20 + i)) (hu_106 : g_106 = upd g_101 (20 + i) v_105) (hL1_110 : 1 ≤ L_110) (hL2_110 : L_110 ≤ 20) (hLe_110 : g_106 (32 + i) = nI L_110) (hu_111 : g_111 = upd g_106 (32 + i) (nI L_110)) : g_111 = mDr fs i n := by
  have t : toM fs i n = v_6 := by rw [e_6, e_4, h_5, e_2]; rfl
  first
  | (exfalso; omega)
  | exact (dr_lost (by assumption) (by assumption) (by assumption) (by assumption) (by assumption)).trans (mDr_1 t (by assumption)).symm
  | exact (dr_lost (by assumption) (by assumption) (by assumption) (by assumption) (by assumption)).trans (mDr_2 (lo4 e_2 (by assumption) (by assumption) (by omega)) (n0 (by assumption))).symm
  | exact (dr_kept (by assumption) (by assumption) (by assumption)).trans (mDr_3 t (by assumption) (lo4 e_2 (by assumption) (by assumption) (by omega)) (nI_ne0 (by omega) (by omega))).symm
  | exact (dr_kept (by assumption) (by assumption) (by assumption)).trans (mDr_3 t (by assumption) (lo5 e_2 (by assumption) (by assumption) (by assumption) (by omega)) (nI_ne0 (by omega) (by omega))).symm
  | exact (dr_kept (by assumption) (by assumption) (by assumption)).trans (mDr_3 t (by assumption) (lon e_2 (by assumption) (by assumption) (by assumption)) (nI_ne0 (by omega) (by omega))).symm
  | exact (dr_kept (by assumption) (by assumption) (by assumption)).trans (mDr_3 t (by assumption) (lo5b e_2 (by assumption) (by assumption) (by omega) (by omega)) (nI_ne0 (by omega) (by omega))).symm
theorem lf_X8_drift_8 {fs : Nat → Int32} {w9 : Nat} {k9 : Nat} {h9 : Nat} {i : Nat} {n : Int32} {v_2 : Int32} {v_4 : Int32} {r_5 : Int32} {v_6 : Int32} {L_51 : Nat} {g_116 : Nat → Int32} {g_119 : Nat → Int32} {g_122 : Nat → Int32} (hM : okM fs w9 k9 h9) (hi : i < k9) (e_2 : v_2 = fs (14 + i)) (e_4 : v_4 = fs (20 + i)) (h_5 : r_5 = (dfM v_2 n)) (e_6 : v_6 = (v_4 + r_5)) (c_7 : ¬ (v_2 = 4)) (c_8 : v_2 = 5) (hL1_51 : 1 ≤ L_51) (hL2_51 : L_51 ≤ 20) (hLe_51 : fs (32 + i) = nI L_51) (c_52 : ¬ (20 ≤ L_51)) (f_97_1_0 : iC (fs 0) v_6) (c_113 : ¬ ((L_51 + 1) = 0)) (hu_116 : g_116 = upd fs (26 + i) 0) (hu_119 : g_119 = upd g_116 (20 + i) v_6) (hu_122 : g_122 = upd g_119 (32 + i) (nI (L_51 + 1))) : g_122 = mDr fs i n := by
  have t : toM fs i n = v_6 := by rw [e_6, e_4, h_5, e_2]; rfl
  first
  | (exfalso; omega)
  | exact (dr_lost (by assumption) (by assumption) (by assumption) (by assumption) (by assumption)).trans (mDr_1 t (by assumption)).symm
  | exact (dr_lost (by assumption) (by assumption) (by assumption) (by assumption) (by assumption)).trans (mDr_2 (lo4 e_2 (by assumption) (by assumption) (by omega)) (n0 (by assumption))).symm
  | exact (dr_kept (by assumption) (by assumption) (by assumption)).trans (mDr_3 t (by assumption) (lo4 e_2 (by assumption) (by assumption) (by omega)) (nI_ne0 (by omega) (by omega))).symm
  | exact (dr_kept (by assumption) (by assumption) (by assumption)).trans (mDr_3 t (by assumption) (lo5 e_2 (by assumption) (by assumption) (by assumption) (by omega)) (nI_ne0 (by omega) (by omega))).symm
  | exact (dr_kept (by assumption) (by assumption) (by assumption)).trans (mDr_3 t (by assumption) (lon e_2 (by assumption) (by assumption) (by assumption)) (nI_ne0 (by omega) (by omega))).symm
  | exact (dr_kept (by assumption) (by assumption) (by assumption)).trans (mDr_3 t (by assumption) (lo5b e_2 (by assumption) (by assumption) (by omega) (by omega)) (nI_ne0 (by omega) (by omega))).symm
theorem lf_X8_drift_9 {fs : Nat → Int32} {w9 : Nat} {k9 : Nat} {h9 : Nat} {i : Nat} {n : Int32} {v_2 : Int32} {v_4 : Int32} {r_5 : Int32} {v_6 : Int32} {L_51 : Nat} {g_125 : Nat → Int32} {v_129 : Int32} {g_130 : Nat → Int32} {L_134 : Nat} {g_135 : Nat → Int32} (hM : okM fs w9 k9 h9) (hi : i < k9) (e_2 : v_2 = fs (14 + i)) (e_4 : v_4 = fs (20 + i)) (h_5 : r_5 = (dfM v_2 n)) (e_6 : v_6 = (v_4 + r_5)) (c_7 : ¬ (v_2 = 4)) (c_8 : v_2 = 5) (hL1_51 : 1 ≤ L_51) (hL2_51 : L_51 ≤ 20) (hLe_51 : fs (32 + i) = nI L_51) (c_52 : ¬ (20 ≤ L_51)) (f_97_1_0 : iC (fs 0) v_6) (c_113 : (L_51 + 1) = 0) (hu_125 : g_125 = upd fs (26 + i) 2) (e_129 : v_129 = g_125 (20 + i)) (hu_130 : g_130 = upd g_125 (20 + i) v_129) (hL1_134 : 1 ≤ L_134) (hL2_134 : L_134 ≤ 20) (hLe_134 : g_130 (32 + i) = nI L_134) (hu_135 : g_135 = upd g_130 (32 + i) (nI L_134)) : g_135 = mDr fs i n := by
  have t : toM fs i n = v_6 := by rw [e_6, e_4, h_5, e_2]; rfl
  first
  | (exfalso; omega)
  | exact (dr_lost (by assumption) (by assumption) (by assumption) (by assumption) (by assumption)).trans (mDr_1 t (by assumption)).symm
  | exact (dr_lost (by assumption) (by assumption) (by assumption) (by assumption) (by assumption)).trans (mDr_2 (lo4 e_2 (by assumption) (by assumption) (by omega)) (n0 (by assumption))).symm
  | exact (dr_kept (by assumption) (by assumption) (by assumption)).trans (mDr_3 t (by assumption) (lo4 e_2 (by assumption) (by assumption) (by omega)) (nI_ne0 (by omega) (by omega))).symm
  | exact (dr_kept (by assumption) (by assumption) (by assumption)).trans (mDr_3 t (by assumption) (lo5 e_2 (by assumption) (by assumption) (by assumption) (by omega)) (nI_ne0 (by omega) (by omega))).symm
  | exact (dr_kept (by assumption) (by assumption) (by assumption)).trans (mDr_3 t (by assumption) (lon e_2 (by assumption) (by assumption) (by assumption)) (nI_ne0 (by omega) (by omega))).symm
  | exact (dr_kept (by assumption) (by assumption) (by assumption)).trans (mDr_3 t (by assumption) (lo5b e_2 (by assumption) (by assumption) (by omega) (by omega)) (nI_ne0 (by omega) (by omega))).symm
theorem lf_X8_drift_10 {fs : Nat → Int32} {w9 : Nat} {k9 : Nat} {h9 : Nat} {i : Nat} {n : Int32} {v_2 : Int32} {v_4 : Int32} {r_5 : Int32} {v_6 : Int32} {L_137 : Nat} {g_143 : Nat → Int32} {v_147 : Int32} {g_148 : Nat → Int32} {L_152 : Nat} {g_153 : Nat → Int32} (hM : okM fs w9 k9 h9) (hi : i < k9) (e_2 : v_2 = fs (14 + i)) (e_4 : v_4 = fs (20 + i)) (h_5 : r_5 = (dfM v_2 n)) (e_6 : v_6 = (v_4 + r_5)) (c_7 : v_2 = 4) (hL1_137 : 1 ≤ L_137) (hL2_137 : L_137 ≤ 20) (hLe_137 : fs (32 + i) = nI L_137) (f_139_0_0 : ¬ iC (fs 0) v_6) (hu_143 : g_143 = upd fs (26 + i) 2) (e_147 : v_147 = g_143 (20 + i)) (hu_148 : g_148 = upd g_143 (20 + i) v_147) (hL1_152 : 1 ≤ L_152) (hL2_152 : L_152 ≤ 20) (hLe_152 : g_148 (32 + i) = nI L_152) (hu_153 : g_153 = upd g_148 (32 + i) (nI L_152)) : g_153 = mDr fs i n := by
  have t : toM fs i n = v_6 := by rw [e_6, e_4, h_5, e_2]; rfl
  first
  | (exfalso; omega)
  | exact (dr_lost (by assumption) (by assumption) (by assumption) (by assumption) (by assumption)).trans (mDr_1 t (by assumption)).symm
  | exact (dr_lost (by assumption) (by assumption) (by assumption) (by assumption) (by assumption)).trans (mDr_2 (lo4 e_2 (by assumption) (by assumption) (by omega)) (n0 (by assumption))).symm
  | exact (dr_kept (by assumption) (by assumption) (by assumption)).trans (mDr_3 t (by assumption) (lo4 e_2 (by assumption) (by assumption) (by omega)) (nI_ne0 (by omega) (by omega))).symm
  | exact (dr_kept (by assumption) (by assumption) (by assumption)).trans (mDr_3 t (by assumption) (lo5 e_2 (by assumption) (by assumption) (by assumption) (by omega)) (nI_ne0 (by omega) (by omega))).symm
  | exact (dr_kept (by assumption) (by assumption) (by assumption)).trans (mDr_3 t (by assumption) (lon e_2 (by assumption) (by assumption) (by assumption)) (nI_ne0 (by omega) (by omega))).symm
  | exact (dr_kept (by assumption) (by assumption) (by assumption)).trans (mDr_3 t (by assumption) (lo5b e_2 (by assumption) (by assumption) (by omega) (by omega)) (nI_ne0 (by omega) (by omega))).symm
theorem lf_X8_drift_11 {fs : Nat → Int32} {w9 : Nat} {k9 : Nat} {h9 : Nat} {i : Nat} {n : Int32} {v_2 : Int32} {v_4 : Int32} {r_5 : Int32} {v_6 : Int32} {L_137 : Nat} {g_158 : Nat → Int32} {g_161 : Nat → Int32} {g_164 : Nat → Int32} (hM : okM fs w9 k9 h9) (hi : i < k9) (e_2 : v_2 = fs (14 + i)) (e_4 : v_4 = fs (20 + i)) (h_5 : r_5 = (dfM v_2 n)) (e_6 : v_6 = (v_4 + r_5)) (c_7 : v_2 = 4) (hL1_137 : 1 ≤ L_137) (hL2_137 : L_137 ≤ 20) (hLe_137 : fs (32 + i) = nI L_137) (f_139_1_0 : iC (fs 0) v_6) (c_155 : ¬ ((L_137 - 1) = 0)) (hu_158 : g_158 = upd fs (26 + i) 0) (hu_161 : g_161 = upd g_158 (20 + i) v_6) (hu_164 : g_164 = upd g_161 (32 + i) (nI (L_137 - 1))) : g_164 = mDr fs i n := by
  have t : toM fs i n = v_6 := by rw [e_6, e_4, h_5, e_2]; rfl
  first
  | (exfalso; omega)
  | exact (dr_lost (by assumption) (by assumption) (by assumption) (by assumption) (by assumption)).trans (mDr_1 t (by assumption)).symm
  | exact (dr_lost (by assumption) (by assumption) (by assumption) (by assumption) (by assumption)).trans (mDr_2 (lo4 e_2 (by assumption) (by assumption) (by omega)) (n0 (by assumption))).symm
  | exact (dr_kept (by assumption) (by assumption) (by assumption)).trans (mDr_3 t (by assumption) (lo4 e_2 (by assumption) (by assumption) (by omega)) (nI_ne0 (by omega) (by omega))).symm
  | exact (dr_kept (by assumption) (by assumption) (by assumption)).trans (mDr_3 t (by assumption) (lo5 e_2 (by assumption) (by assumption) (by assumption) (by omega)) (nI_ne0 (by omega) (by omega))).symm
  | exact (dr_kept (by assumption) (by assumption) (by assumption)).trans (mDr_3 t (by assumption) (lon e_2 (by assumption) (by assumption) (by assumption)) (nI_ne0 (by omega) (by omega))).symm
  | exact (dr_kept (by assumption) (by assumption) (by assumption)).trans (mDr_3 t (by assumption) (lo5b e_2 (by assumption) (by assumption) (by omega) (by omega)) (nI_ne0 (by omega) (by omega))).symm
theorem lf_X8_drift_12 {fs : Nat → Int32} {w9 : Nat} {k9 : Nat} {h9 : Nat} {i : Nat} {n : Int32} {v_2 : Int32} {v_4 : Int32} {r_5 : Int32} {v_6 : Int32} {L_137 : Nat} {g_167 : Nat → Int32} {v_171 : Int32} {g_172 : Nat → Int32} {L_176 : Nat} {g_177 : Nat → Int32} (hM : okM fs w9 k9 h9) (hi : i < k9) (e_2 : v_2 = fs (14 + i)) (e_4 : v_4 = fs (20 + i)) (h_5 : r_5 = (dfM v_2 n)) (e_6 : v_6 = (v_4 + r_5)) (c_7 : v_2 = 4) (hL1_137 : 1 ≤ L_137) (hL2_137 : L_137 ≤ 20) (hLe_137 : fs (32 + i) = nI L_137) (f_139_1_0 : iC (fs 0) v_6) (c_155 : (L_137 - 1) = 0) (hu_167 : g_167 = upd fs (26 + i) 2) (e_171 : v_171 = g_167 (20 + i)) (hu_172 : g_172 = upd g_167 (20 + i) v_171) (hL1_176 : 1 ≤ L_176) (hL2_176 : L_176 ≤ 20) (hLe_176 : g_172 (32 + i) = nI L_176) (hu_177 : g_177 = upd g_172 (32 + i) (nI L_176)) : g_177 = mDr fs i n := by
  have t : toM fs i n = v_6 := by rw [e_6, e_4, h_5, e_2]; rfl
  first
  | (exfalso; omega)
  | exact (dr_lost (by assumption) (by assumption) (by assumption) (by assumption) (by assumption)).trans (mDr_1 t (by assumption)).symm
  | exact (dr_lost (by assumption) (by assumption) (by assumption) (by assumption) (by assumption)).trans (mDr_2 (lo4 e_2 (by assumption) (by assumption) (by omega)) (n0 (by assumption))).symm
  | exact (dr_kept (by assumption) (by assumption) (by assumption)).trans (mDr_3 t (by assumption) (lo4 e_2 (by assumption) (by assumption) (by omega)) (nI_ne0 (by omega) (by omega))).symm
  | exact (dr_kept (by assumption) (by assumption) (by assumption)).trans (mDr_3 t (by assumption) (lo5 e_2 (by assumption) (by assumption) (by assumption) (by omega)) (nI_ne0 (by omega) (by omega))).symm
  | exact (dr_kept (by assumption) (by assumption) (by assumption)).trans (mDr_3 t (by assumption) (lon e_2 (by assumption) (by assumption) (by assumption)) (nI_ne0 (by omega) (by omega))).symm
  | exact (dr_kept (by assumption) (by assumption) (by assumption)).trans (mDr_3 t (by assumption) (lo5b e_2 (by assumption) (by assumption) (by omega) (by omega)) (nI_ne0 (by omega) (by omega))).symm
set_option maxHeartbeats 4000000 in
set_option maxRecDepth 100000 in
theorem r_X8_drift (l : Launch) (dC : Nat → ClassId) (dI : Nat → Nat → Nat) (cI cZ cL cJ : ClassId) (sz : Nat) (mo : Nat) (m_la : Nat) (m_sz : Nat) (m_it : Nat) (m_st : Nat) (m_mv : Nat) (m_tp : Nat) (m_rd : Nat) (m_ac : Nat) (m_as : Nat) (m_wo : Nat) (m_ik : Nat) (m_ke : Nat) (m_tr : Nat) (ms : Int32) (mt : Int32) (ml : Int32) (mk : Int32) (mv : Int32) (mb : Int32) (mw : Int32) (mz : Nat) (mp : Nat) (ma : Nat) (mx : Nat) (fs : Nat → Int32) (w9 : Nat) (k9 : Nat) (h9 : Nat) (i : Nat) (n : Int32) (hM : okM fs w9 k9 h9) (hi : i < k9) : Met l yX8_drift wsX8_drift ({ frames := 2, cells := 0, slots := 0, locals := 46 }) (va_Pc [.ref mo, .int (nI i), .int n] (fun U => U.heap.size = sz ∧ va_P (dC, dI) vwCl [(xo_8_rrriirrriiiiiiirrirrrrri mo m_la m_sz m_it ms mt m_st m_mv m_tp (nI mz) ml (nI mp) mk mv mb mw m_rd m_ac (nI ma) m_as m_wo m_ik m_ke m_tr (nI mx)), (xI m_st cI 38 fs)] U.heap ∧ va_K (dC, dI) vwCl [(cI, .int), (cZ, .boolean), (cL, .object RX3), (cJ, .array .int)] U ∧ va_D (fun _ => True) [(xo_8_rrriirrriiiiiiirrirrrrri mo m_la m_sz m_it ms mt m_st m_mv m_tp (nI mz) ml (nI mp) mk mv mb mw m_rd m_ac (nI ma) m_as m_wo m_ik m_ke m_tr (nI mx)), (xI m_st cI 38 fs)])) (va_Qv (fun (_ : Unit) => True) (fun (_ : Unit) t => ∃ (fsn : Nat → Int32), va_P (dC, dI) vwCl [(xo_8_rrriirrriiiiiiirrirrrrri mo m_la m_sz m_it ms mt m_st m_mv m_tp (nI mz) ml (nI mp) mk mv mb mw m_rd m_ac (nI ma) m_as m_wo m_ik m_ke m_tr (nI mx)), (xI m_st cI 38 fsn)] t.heap ∧ va_D (va_A [(xo_8_rrriirrriiiiiiirrirrrrri mo m_la m_sz m_it ms mt m_st m_mv m_tp (nI mz) ml (nI mp) mk mv mb mw m_rd m_ac (nI ma) m_as m_wo m_ik m_ke m_tr (nI mx)), (xI m_st cI 38 fs)] sz) [(xo_8_rrriirrriiiiiiirrirrrrri mo m_la m_sz m_it ms mt m_st m_mv m_tp (nI mz) ml (nI mp) mk mv mb mw m_rd m_ac (nI ma) m_as m_wo m_ik m_ke m_tr (nI mx)), (xI m_st cI 38 fsn)] ∧ okM fsn w9 k9 h9 ∧ fsn = mDr fs i n) (va_A [(xo_8_rrriirrriiiiiiirrirrrrri mo m_la m_sz m_it ms mt m_st m_mv m_tp (nI mz) ml (nI mp) mk mv mb mw m_rd m_ac (nI ma) m_as m_wo m_ik m_ke m_tr (nI mx)), (xI m_st cI 38 fs)] sz)) 0 0 (va_A [(xo_8_rrriirrriiiiiiirrirrrrri mo m_la m_sz m_it ms mt m_st m_mv m_tp (nI mz) ml (nI mp) mk mv mb mw m_rd m_ac (nI ma) m_as m_wo m_ik m_ke m_tr (nI mx)), (xI m_st cI 38 fs)] sz) := by
  refine Met.ofW (cc := cX8_drift) (maxL := 7) (ret := none) (by decide) rfl ?_
  intro p e s m args below meth c s₁ B hml hv
  obtain ⟨rfl, hsz, hP, hK, hD0⟩ := hv
  have hx := B.exec
  have hb := B.bytes
  have hr := B.returns
  have hts := atoms_spec (ws := wsX8_drift) B.pre
  have hown : s.vm.findClass RX8 = some m.cls := findClass_of_methodNamed B.named
  have hlocks := B.notSynchronized
  subst hsz
  have hD := hD0.self (sz := s.heap.size)
  generalize hAe : va_A [(xo_8_rrriirrriiiiiiirrirrrrri mo m_la m_sz m_it ms mt m_st m_mv m_tp (nI mz) ml (nI mp) mk mv mb mw m_rd m_ac (nI ma) m_as m_wo m_ik m_ke m_tr (nI mx)), (xI m_st cI 38 fs)] s.heap.size = A at hD ⊢
  have hA : ∀ q : Nat, s.heap.size ≤ q → A q := fun q h => by rw [← hAe]; exact Or.inr h
  have hS : va_S A s.heap s.heap [] := va_S.rf
  have hP : va_P (dC, dI) vwCl [(xo_8_rrriirrriiiiiiirrirrrrri mo m_la m_sz m_it ms mt m_st m_mv m_tp (nI mz) ml (nI mp) mk mv mb mw m_rd m_ac (nI ma) m_as m_wo m_ik m_ke m_tr (nI mx)), (xI m_st cI 38 fs)] s.heap := hP
  have hl := lv_entry ([.ref mo, .int (nI i), .int n]) (n := 7) (Nat.le_of_ble_eq_true rfl)
  rw [lg_entry_eq]
  generalize (lg_sl ([.ref mo, .int (nI i), .int n]) ++ List.replicate (7 - (lg_sl ([.ref mo, .int (nI i), .int n])).length) Slot.unset).toArray = ls at hl ⊢
  have hl : lv_has ls 7 [(0, .ref mo), (1, .int (nI i)), (2, .int n)] := hl
  have hk6 := hM.2.2.2.2.1
  have hw6 := hM.2.2.2.1
  refine lv_aload_n hx hb dX8_drift_0 rfl (lv_at hl 0 rfl) ?_
  refine va_get (D := (dC, dI)) (ci := 8) (v := .ref m_st) (C := RX8) (T := TX8) (N := 24) hx hb hts i_X8_drift_X8 hown hK hP 0 rfl rfl 5 (by decide) (hts _ mx_X8_drift_1) (fun _ h9 => h9) rfl dX8_drift_1 ?_
  refine lv_bipush (v := 14) hx hb dX8_drift_4 (by decide) ?_
  refine lv_iload_n hx hb dX8_drift_6 rfl (lv_at hl 1 rfl) ?_
  refine lv_iadd hx hb dX8_drift_7 ?_
  refine lv_topi (fun v_1 e_1 => ?_)
  obtain rfl : v_1 = (nI (14 + i)) := (e_1).trans (nI_add 14 i)
  refine va_iald hx hb hK hP 1 0 rfl rfl (vp_in_nI (by omega) (by omega)) dX8_drift_8 ?_
  refine lv_topi (fun v_2 e_2 => ?_)
  have e_2 : v_2 = fs (14 + i) := e_2.trans (congrArg fs (nI_clamp (by omega)))
  refine lv_istore_n (lv' := [(3, .int v_2), (0, .ref mo), (1, .int (nI i)), (2, .int n)]) hx hb dX8_drift_9 rfl hl (by decide) rfl (fun ls hl => ?_)
  refine lv_aload_n hx hb dX8_drift_10 rfl (lv_at hl 1 rfl) ?_
  refine va_get (D := (dC, dI)) (ci := 8) (v := .ref m_st) (C := RX8) (T := TX8) (N := 24) hx hb hts i_X8_drift_X8 hown hK hP 0 rfl rfl 5 (by decide) (hts _ mx_X8_drift_1) (fun _ h9 => h9) rfl dX8_drift_11 ?_
  refine lv_bipush (v := 20) hx hb dX8_drift_14 (by decide) ?_
  refine lv_iload_n hx hb dX8_drift_16 rfl (lv_at hl 2 rfl) ?_
  refine lv_iadd hx hb dX8_drift_17 ?_
  refine lv_topi (fun v_3 e_3 => ?_)
  obtain rfl : v_3 = (nI (20 + i)) := (e_3).trans (nI_add 20 i)
  refine va_iald hx hb hK hP 1 0 rfl rfl (vp_in_nI (by omega) (by omega)) dX8_drift_18 ?_
  refine lv_topi (fun v_4 e_4 => ?_)
  have e_4 : v_4 = fs (20 + i) := e_4.trans (congrArg fs (nI_clamp (by omega)))
  refine lv_iload_n hx hb dX8_drift_19 rfl (lv_at hl 0 rfl) ?_
  refine lv_iload_n hx hb dX8_drift_20 rfl (lv_at hl 3 rfl) ?_
  have hPc_5 := hP.sub (ws' := []) [] rfl
  refine vp_callSi (W.runS (As := [.int v_2, .int n]) (rest := [.int v_4]) ⟨hx, hb, hml, hown, hts⟩ (r_X8_drifts l dC dI cI cZ cL cJ v_2 n ) (va_cwS 2 hts gX8_drift_X8_drifts rfl rfl rfl (by decide +kernel) ⟨Nat.le_of_ble_eq_true rfl, Nat.le_of_ble_eq_true rfl⟩) (psP hK hPc_5) rfl rfl hl.1 rfl (lv_room (Nat.le_of_ble_eq_true rfl)) dX8_drift_21 ⟨Nat.le_of_ble_eq_true rfl, Nat.le_of_ble_eq_true rfl⟩) (fun r_5 h_5 => ?_)
  refine lv_iadd hx hb dX8_drift_24 ?_
  refine lv_topi (fun v_6 e_6 => ?_)
  refine lv_istore (lv' := [(4, .int v_6), (3, .int v_2), (0, .ref mo), (1, .int (nI i)), (2, .int n)]) hx hb dX8_drift_25 hl (by decide) rfl (fun ls hl => ?_)
  refine lv_iload_n hx hb dX8_drift_27 rfl (lv_at hl 1 rfl) ?_
  refine lv_iconst (v := 4) hx hb dX8_drift_28 (by decide) ?_
  refine lv_icmp_ne (tgt := 46) hx hb dX8_drift_29 (by decide) (fun c_7 => ?_) (fun c_7 => ?_)
  · skip
    refine lv_iload_n hx hb dX8_drift_46 rfl (lv_at hl 1 rfl) ?_
    refine lv_iconst (v := 5) hx hb dX8_drift_47 (by decide) ?_
    refine lv_icmp_ne (tgt := 79) hx hb dX8_drift_48 (by decide) (fun c_8 => ?_) (fun c_8 => ?_)
    · skip
      refine lv_aload_n hx hb dX8_drift_79 rfl (lv_at hl 2 rfl) ?_
      refine va_get (D := (dC, dI)) (ci := 8) (v := .ref m_st) (C := RX8) (T := TX8) (N := 24) hx hb hts i_X8_drift_X8 hown hK hP 0 rfl rfl 5 (by decide) (hts _ mx_X8_drift_1) (fun _ h9 => h9) rfl dX8_drift_80 ?_
      refine lv_bipush (v := 32) hx hb dX8_drift_83 (by decide) ?_
      refine lv_iload_n hx hb dX8_drift_85 rfl (lv_at hl 3 rfl) ?_
      refine lv_iadd hx hb dX8_drift_86 ?_
      refine lv_topi (fun v_9 e_9 => ?_)
      obtain rfl : v_9 = (nI (32 + i)) := (e_9).trans (nI_add 32 i)
      refine va_iald hx hb hK hP 1 0 rfl rfl (vp_in_nI (by omega) (by omega)) dX8_drift_87 ?_
      obtain ⟨L_10, hL1_10, hL2_10, hLe_10⟩ := hM.2.2.2.2.2.2.2 i (by omega)
      refine lv_topi (fun v_10 e_10 => ?_)
      obtain rfl : v_10 = nI L_10 := e_10.trans (by rw [nI_clamp (by omega)]; exact hLe_10)
      refine lv_istore (lv' := [(5, .int (nI L_10)), (4, .int v_6), (3, .int v_2), (0, .ref mo), (1, .int (nI i)), (2, .int n)]) hx hb dX8_drift_88 hl (by decide) rfl (fun ls hl => ?_)
      refine lv_aload_n hx hb dX8_drift_90 rfl (lv_at hl 3 rfl) ?_
      refine lv_iload hx hb dX8_drift_91 (lv_at hl 1 rfl) ?_
      have hPc_11 := hP
      refine vp_callSi (W.runV (As := [.int v_6]) (rest := []) ⟨hx, hb, hml, hown, hts⟩ (r_X8_isCell l dC dI cI cZ cL cJ mo m_la m_sz m_it m_st m_mv m_tp m_rd m_ac m_as m_wo m_ik m_ke m_tr ms mt ml mk mv mb mw mz mp ma mx fs w9 k9 h9 v_6 (hM)) (cwV 1 hts gX8_drift_X8_isCell rfl rfl rfl (by decide +kernel) ⟨Nat.le_of_ble_eq_true rfl, Nat.le_of_ble_eq_true rfl⟩) (pvP 8 0 hK hP rfl rfl hPc_11) rfl rfl hl.1 rfl (lv_room (Nat.le_of_ble_eq_true rfl)) dX8_drift_93 ⟨Nat.le_of_ble_eq_true rfl, Nat.le_of_ble_eq_true rfl⟩) (fun r_11 h_11 => ?_)
      rcases h_11 with ⟨h_11, f_11_0_0⟩ | ⟨h_11, f_11_1_0⟩
      · subst h_11
        refine lv_if_eq (tgt := 104) hx hb dX8_drift_96 (by decide) (fun _ => ?_) (fun c_ => absurd (by decide) c_)
        refine lv_iconst (v := 1) hx hb dX8_drift_104 (by decide) ?_
        refine lv_goto (tgt := 109) hx hb dX8_drift_105 (by decide) ?_
        refine lv_istore (lv' := [(6, .int 1), (5, .int (nI L_10)), (4, .int v_6), (3, .int v_2), (0, .ref mo), (1, .int (nI i)), (2, .int n)]) hx hb dX8_drift_109 hl (by decide) rfl (fun ls hl => ?_)
        refine lv_aload_n hx hb dX8_drift_111 rfl (lv_at hl 4 rfl) ?_
        refine va_get (D := (dC, dI)) (ci := 8) (v := .ref m_st) (C := RX8) (T := TX8) (N := 24) hx hb hts i_X8_drift_X8 hown hK hP 0 rfl rfl 5 (by decide) (hts _ mx_X8_drift_1) (fun _ h9 => h9) rfl dX8_drift_112 ?_
        refine lv_bipush (v := 26) hx hb dX8_drift_115 (by decide) ?_
        refine lv_iload_n hx hb dX8_drift_117 rfl (lv_at hl 5 rfl) ?_
        refine lv_iadd hx hb dX8_drift_118 ?_
        refine lv_topi (fun v_13 e_13 => ?_)
        obtain rfl : v_13 = (nI (26 + i)) := (e_13).trans (nI_add 26 i)
        refine lv_iload hx hb dX8_drift_119 (lv_at hl 0 rfl) ?_
        refine lv_if_eq (tgt := 128) hx hb dX8_drift_121 (by decide) (fun c_ => absurd c_ (by decide)) (fun _ => ?_)
        refine lv_iconst (v := 2) hx hb dX8_drift_124 (by decide) ?_
        refine lv_goto (tgt := 129) hx hb dX8_drift_125 (by decide) ?_
        refine va_iast hx hb hK hP hD hS 1 0 rfl rfl (vp_in_nI (by omega) (by omega)) dX8_drift_129 (fun H locs hP hD hS => ?_)
        generalize hg_15 : upd fs ((nI (26 + i)) : Int32).toNatClampNeg 2 = g_15 at hP hD
        have hu_15 : g_15 = upd fs (26 + i) 2 := (by rw [← hg_15, nI_clamp (by omega)])
        have hM_15 : okM g_15 w9 k9 h9 := okM_off (i := (26 + i)) hM hg_15 (by omega) (by omega) (by omega) (by omega) (by omega)
        have hP : va_P (dC, dI) vwCl [(xo_8_rrriirrriiiiiiirrirrrrri mo m_la m_sz m_it ms mt m_st m_mv m_tp (nI mz) ml (nI mp) mk mv mb mw m_rd m_ac (nI ma) m_as m_wo m_ik m_ke m_tr (nI mx)), (xI m_st cI 38 g_15)] H := hP
        have hD := dto hP hD
        refine lv_aload_n hx hb dX8_drift_130 rfl (lv_at hl 4 rfl) ?_
        refine va_get (D := (dC, dI)) (ci := 8) (v := .ref m_st) (C := RX8) (T := TX8) (N := 24) hx hb hts i_X8_drift_X8 hown hK hP 0 rfl rfl 5 (by decide) (hts _ mx_X8_drift_1) (fun _ h9 => h9) rfl dX8_drift_131 ?_
        refine lv_bipush (v := 20) hx hb dX8_drift_134 (by decide) ?_
        refine lv_iload_n hx hb dX8_drift_136 rfl (lv_at hl 5 rfl) ?_
        refine lv_iadd hx hb dX8_drift_137 ?_
        refine lv_topi (fun v_16 e_16 => ?_)
        obtain rfl : v_16 = (nI (20 + i)) := (e_16).trans (nI_add 20 i)
        refine lv_iload hx hb dX8_drift_138 (lv_at hl 0 rfl) ?_
        refine lv_if_eq (tgt := 155) hx hb dX8_drift_140 (by decide) (fun c_ => absurd c_ (by decide)) (fun _ => ?_)
        refine lv_aload_n hx hb dX8_drift_143 rfl (lv_at hl 4 rfl) ?_
        refine va_get (D := (dC, dI)) (ci := 8) (v := .ref m_st) (C := RX8) (T := TX8) (N := 24) hx hb hts i_X8_drift_X8 hown hK hP 0 rfl rfl 5 (by decide) (hts _ mx_X8_drift_1) (fun _ h9 => h9) rfl dX8_drift_144 ?_
        refine lv_bipush (v := 20) hx hb dX8_drift_147 (by decide) ?_
        refine lv_iload_n hx hb dX8_drift_149 rfl (lv_at hl 5 rfl) ?_
        refine lv_iadd hx hb dX8_drift_150 ?_
        refine lv_topi (fun v_18 e_18 => ?_)
        obtain rfl : v_18 = (nI (20 + i)) := (e_18).trans (nI_add 20 i)
        refine va_iald hx hb hK hP 1 0 rfl rfl (vp_in_nI (by omega) (by omega)) dX8_drift_151 ?_
        refine lv_topi (fun v_19 e_19 => ?_)
        have e_19 : v_19 = g_15 (20 + i) := e_19.trans (congrArg g_15 (nI_clamp (by omega)))
        refine lv_goto (tgt := 157) hx hb dX8_drift_152 (by decide) ?_
        refine va_iast hx hb hK hP hD hS 1 0 rfl rfl (vp_in_nI (by omega) (by omega)) dX8_drift_157 (fun H locs hP hD hS => ?_)
        generalize hg_20 : upd g_15 ((nI (20 + i)) : Int32).toNatClampNeg v_19 = g_20 at hP hD
        have hu_20 : g_20 = upd g_15 (20 + i) v_19 := (by rw [← hg_20, nI_clamp (by omega)])
        have hM_20 : okM g_20 w9 k9 h9 := okM_off (i := (20 + i)) hM_15 hg_20 (by omega) (by omega) (by omega) (by omega) (by omega)
        have hP : va_P (dC, dI) vwCl [(xo_8_rrriirrriiiiiiirrirrrrri mo m_la m_sz m_it ms mt m_st m_mv m_tp (nI mz) ml (nI mp) mk mv mb mw m_rd m_ac (nI ma) m_as m_wo m_ik m_ke m_tr (nI mx)), (xI m_st cI 38 g_20)] H := hP
        have hD := dto hP hD
        refine lv_aload_n hx hb dX8_drift_158 rfl (lv_at hl 4 rfl) ?_
        refine va_get (D := (dC, dI)) (ci := 8) (v := .ref m_st) (C := RX8) (T := TX8) (N := 24) hx hb hts i_X8_drift_X8 hown hK hP 0 rfl rfl 5 (by decide) (hts _ mx_X8_drift_1) (fun _ h9 => h9) rfl dX8_drift_159 ?_
        refine lv_bipush (v := 32) hx hb dX8_drift_162 (by decide) ?_
        refine lv_iload_n hx hb dX8_drift_164 rfl (lv_at hl 5 rfl) ?_
        refine lv_iadd hx hb dX8_drift_165 ?_
        refine lv_topi (fun v_21 e_21 => ?_)
        obtain rfl : v_21 = (nI (32 + i)) := (e_21).trans (nI_add 32 i)
        refine lv_iload hx hb dX8_drift_166 (lv_at hl 0 rfl) ?_
        refine lv_if_eq (tgt := 183) hx hb dX8_drift_168 (by decide) (fun c_ => absurd c_ (by decide)) (fun _ => ?_)
        refine lv_aload_n hx hb dX8_drift_171 rfl (lv_at hl 4 rfl) ?_
        refine va_get (D := (dC, dI)) (ci := 8) (v := .ref m_st) (C := RX8) (T := TX8) (N := 24) hx hb hts i_X8_drift_X8 hown hK hP 0 rfl rfl 5 (by decide) (hts _ mx_X8_drift_1) (fun _ h9 => h9) rfl dX8_drift_172 ?_
        refine lv_bipush (v := 32) hx hb dX8_drift_175 (by decide) ?_
        refine lv_iload_n hx hb dX8_drift_177 rfl (lv_at hl 5 rfl) ?_
        refine lv_iadd hx hb dX8_drift_178 ?_
        refine lv_topi (fun v_23 e_23 => ?_)
        obtain rfl : v_23 = (nI (32 + i)) := (e_23).trans (nI_add 32 i)
        refine va_iald hx hb hK hP 1 0 rfl rfl (vp_in_nI (by omega) (by omega)) dX8_drift_179 ?_
        obtain ⟨L_24, hL1_24, hL2_24, hLe_24⟩ := hM_20.2.2.2.2.2.2.2 i (by omega)
        refine lv_topi (fun v_24 e_24 => ?_)
        obtain rfl : v_24 = nI L_24 := e_24.trans (by rw [nI_clamp (by omega)]; exact hLe_24)
        refine lv_goto (tgt := 185) hx hb dX8_drift_180 (by decide) ?_
        refine va_iast hx hb hK hP hD hS 1 0 rfl rfl (vp_in_nI (by omega) (by omega)) dX8_drift_185 (fun H locs hP hD hS => ?_)
        generalize hg_25 : upd g_20 ((nI (32 + i)) : Int32).toNatClampNeg (nI L_24) = g_25 at hP hD
        have hu_25 : g_25 = upd g_20 (32 + i) (nI L_24) := (by rw [← hg_25, nI_clamp (by omega)])
        have hM_25 : okM g_25 w9 k9 h9 := okM_loud hM_20 hg_25 (by omega) (by omega) (by omega)
        have hP : va_P (dC, dI) vwCl [(xo_8_rrriirrriiiiiiirrirrrrri mo m_la m_sz m_it ms mt m_st m_mv m_tp (nI mz) ml (nI mp) mk mv mb mw m_rd m_ac (nI ma) m_as m_wo m_ik m_ke m_tr (nI mx)), (xI m_st cI 38 g_25)] H := hP
        have hD := dto hP hD
        have hX9 := cut2 (wc := [(xo_8_rrriirrriiiiiiirrirrrrri mo m_la m_sz m_it ms mt m_st m_mv m_tp (nI mz) ml (nI mp) mk mv mb mw m_rd m_ac (nI ma) m_as m_wo m_ik m_ke m_tr (nI mx)), (xI m_st cI 38 g_25)]) hP hD [0, 1] (by decide +kernel) rfl
        exact W.vret hx hb hr (fun t ht hW => ⟨⟨(), rfl, trivial, ⟨g_25, va_Ht ht hX9.1, hX9.2, hM_25, (lf_X8_drift_1 hM hi e_2 e_4 h_5 e_6 c_7 c_8 hL1_10 hL2_10 hLe_10 f_11_0_0 hu_15 e_19 hu_20 hL1_24 hL2_24 hLe_24 hu_25)⟩⟩, hS.F ht⟩) hS.2.2 dX8_drift_186
      · subst h_11
        refine lv_if_eq (tgt := 104) hx hb dX8_drift_96 (by decide) (fun c_ => absurd c_ (by decide)) (fun _ => ?_)
        refine lv_iload hx hb dX8_drift_99 (lv_at hl 0 rfl) ?_
        refine lv_if_ne (tgt := 108) hx hb dX8_drift_101 (by decide) (fun c_27 => ?_) (fun c_27 => ?_)
        · have c_27 : ¬ (L_10 = 0) := fun q_ => c_27 ((nI_eq (a := L_10) (b := 0) (by omega) (by omega)).mpr q_)
          refine lv_iconst (v := 0) hx hb dX8_drift_108 (by decide) ?_
          refine lv_istore (lv' := [(6, .int 0), (5, .int (nI L_10)), (4, .int v_6), (3, .int v_2), (0, .ref mo), (1, .int (nI i)), (2, .int n)]) hx hb dX8_drift_109 hl (by decide) rfl (fun ls hl => ?_)
          refine lv_aload_n hx hb dX8_drift_111 rfl (lv_at hl 4 rfl) ?_
          refine va_get (D := (dC, dI)) (ci := 8) (v := .ref m_st) (C := RX8) (T := TX8) (N := 24) hx hb hts i_X8_drift_X8 hown hK hP 0 rfl rfl 5 (by decide) (hts _ mx_X8_drift_1) (fun _ h9 => h9) rfl dX8_drift_112 ?_
          refine lv_bipush (v := 26) hx hb dX8_drift_115 (by decide) ?_
          refine lv_iload_n hx hb dX8_drift_117 rfl (lv_at hl 5 rfl) ?_
          refine lv_iadd hx hb dX8_drift_118 ?_
          refine lv_topi (fun v_28 e_28 => ?_)
          obtain rfl : v_28 = (nI (26 + i)) := (e_28).trans (nI_add 26 i)
          refine lv_iload hx hb dX8_drift_119 (lv_at hl 0 rfl) ?_
          refine lv_if_eq (tgt := 128) hx hb dX8_drift_121 (by decide) (fun _ => ?_) (fun c_ => absurd (by decide) c_)
          refine lv_iconst (v := 0) hx hb dX8_drift_128 (by decide) ?_
          refine va_iast hx hb hK hP hD hS 1 0 rfl rfl (vp_in_nI (by omega) (by omega)) dX8_drift_129 (fun H locs hP hD hS => ?_)
          generalize hg_30 : upd fs ((nI (26 + i)) : Int32).toNatClampNeg 0 = g_30 at hP hD
          have hu_30 : g_30 = upd fs (26 + i) 0 := (by rw [← hg_30, nI_clamp (by omega)])
          have hM_30 : okM g_30 w9 k9 h9 := okM_off (i := (26 + i)) hM hg_30 (by omega) (by omega) (by omega) (by omega) (by omega)
          have hP : va_P (dC, dI) vwCl [(xo_8_rrriirrriiiiiiirrirrrrri mo m_la m_sz m_it ms mt m_st m_mv m_tp (nI mz) ml (nI mp) mk mv mb mw m_rd m_ac (nI ma) m_as m_wo m_ik m_ke m_tr (nI mx)), (xI m_st cI 38 g_30)] H := hP
          have hD := dto hP hD
          refine lv_aload_n hx hb dX8_drift_130 rfl (lv_at hl 4 rfl) ?_
          refine va_get (D := (dC, dI)) (ci := 8) (v := .ref m_st) (C := RX8) (T := TX8) (N := 24) hx hb hts i_X8_drift_X8 hown hK hP 0 rfl rfl 5 (by decide) (hts _ mx_X8_drift_1) (fun _ h9 => h9) rfl dX8_drift_131 ?_
          refine lv_bipush (v := 20) hx hb dX8_drift_134 (by decide) ?_
          refine lv_iload_n hx hb dX8_drift_136 rfl (lv_at hl 5 rfl) ?_
          refine lv_iadd hx hb dX8_drift_137 ?_
          refine lv_topi (fun v_31 e_31 => ?_)
          obtain rfl : v_31 = (nI (20 + i)) := (e_31).trans (nI_add 20 i)
          refine lv_iload hx hb dX8_drift_138 (lv_at hl 0 rfl) ?_
          refine lv_if_eq (tgt := 155) hx hb dX8_drift_140 (by decide) (fun _ => ?_) (fun c_ => absurd (by decide) c_)
          refine lv_iload hx hb dX8_drift_155 (lv_at hl 2 rfl) ?_
          refine va_iast hx hb hK hP hD hS 1 0 rfl rfl (vp_in_nI (by omega) (by omega)) dX8_drift_157 (fun H locs hP hD hS => ?_)
          generalize hg_33 : upd g_30 ((nI (20 + i)) : Int32).toNatClampNeg v_6 = g_33 at hP hD
          have hu_33 : g_33 = upd g_30 (20 + i) v_6 := (by rw [← hg_33, nI_clamp (by omega)])
          have hM_33 : okM g_33 w9 k9 h9 := okM_off (i := (20 + i)) hM_30 hg_33 (by omega) (by omega) (by omega) (by omega) (by omega)
          have hP : va_P (dC, dI) vwCl [(xo_8_rrriirrriiiiiiirrirrrrri mo m_la m_sz m_it ms mt m_st m_mv m_tp (nI mz) ml (nI mp) mk mv mb mw m_rd m_ac (nI ma) m_as m_wo m_ik m_ke m_tr (nI mx)), (xI m_st cI 38 g_33)] H := hP
          have hD := dto hP hD
          refine lv_aload_n hx hb dX8_drift_158 rfl (lv_at hl 4 rfl) ?_
          refine va_get (D := (dC, dI)) (ci := 8) (v := .ref m_st) (C := RX8) (T := TX8) (N := 24) hx hb hts i_X8_drift_X8 hown hK hP 0 rfl rfl 5 (by decide) (hts _ mx_X8_drift_1) (fun _ h9 => h9) rfl dX8_drift_159 ?_
          refine lv_bipush (v := 32) hx hb dX8_drift_162 (by decide) ?_
          refine lv_iload_n hx hb dX8_drift_164 rfl (lv_at hl 5 rfl) ?_
          refine lv_iadd hx hb dX8_drift_165 ?_
          refine lv_topi (fun v_34 e_34 => ?_)
          obtain rfl : v_34 = (nI (32 + i)) := (e_34).trans (nI_add 32 i)
          refine lv_iload hx hb dX8_drift_166 (lv_at hl 0 rfl) ?_
          refine lv_if_eq (tgt := 183) hx hb dX8_drift_168 (by decide) (fun _ => ?_) (fun c_ => absurd (by decide) c_)
          refine lv_iload hx hb dX8_drift_183 (lv_at hl 1 rfl) ?_
          refine va_iast hx hb hK hP hD hS 1 0 rfl rfl (vp_in_nI (by omega) (by omega)) dX8_drift_185 (fun H locs hP hD hS => ?_)
          generalize hg_36 : upd g_33 ((nI (32 + i)) : Int32).toNatClampNeg (nI L_10) = g_36 at hP hD
          have hu_36 : g_36 = upd g_33 (32 + i) (nI L_10) := (by rw [← hg_36, nI_clamp (by omega)])
          have hM_36 : okM g_36 w9 k9 h9 := okM_loud hM_33 hg_36 (by omega) (by omega) (by omega)
          have hP : va_P (dC, dI) vwCl [(xo_8_rrriirrriiiiiiirrirrrrri mo m_la m_sz m_it ms mt m_st m_mv m_tp (nI mz) ml (nI mp) mk mv mb mw m_rd m_ac (nI ma) m_as m_wo m_ik m_ke m_tr (nI mx)), (xI m_st cI 38 g_36)] H := hP
          have hD := dto hP hD
          have hX9 := cut2 (wc := [(xo_8_rrriirrriiiiiiirrirrrrri mo m_la m_sz m_it ms mt m_st m_mv m_tp (nI mz) ml (nI mp) mk mv mb mw m_rd m_ac (nI ma) m_as m_wo m_ik m_ke m_tr (nI mx)), (xI m_st cI 38 g_36)]) hP hD [0, 1] (by decide +kernel) rfl
          exact W.vret hx hb hr (fun t ht hW => ⟨⟨(), rfl, trivial, ⟨g_36, va_Ht ht hX9.1, hX9.2, hM_36, (lf_X8_drift_2 hM hi e_2 e_4 h_5 e_6 c_7 c_8 hL1_10 hL2_10 hLe_10 f_11_1_0 c_27 hu_30 hu_33 hu_36)⟩⟩, hS.F ht⟩) hS.2.2 dX8_drift_186
        · have c_27 : L_10 = 0 := (nI_eq (a := L_10) (b := 0) (by omega) (by omega)).mp c_27
          refine lv_iconst (v := 1) hx hb dX8_drift_104 (by decide) ?_
          refine lv_goto (tgt := 109) hx hb dX8_drift_105 (by decide) ?_
          refine lv_istore (lv' := [(6, .int 1), (5, .int (nI L_10)), (4, .int v_6), (3, .int v_2), (0, .ref mo), (1, .int (nI i)), (2, .int n)]) hx hb dX8_drift_109 hl (by decide) rfl (fun ls hl => ?_)
          refine lv_aload_n hx hb dX8_drift_111 rfl (lv_at hl 4 rfl) ?_
          refine va_get (D := (dC, dI)) (ci := 8) (v := .ref m_st) (C := RX8) (T := TX8) (N := 24) hx hb hts i_X8_drift_X8 hown hK hP 0 rfl rfl 5 (by decide) (hts _ mx_X8_drift_1) (fun _ h9 => h9) rfl dX8_drift_112 ?_
          refine lv_bipush (v := 26) hx hb dX8_drift_115 (by decide) ?_
          refine lv_iload_n hx hb dX8_drift_117 rfl (lv_at hl 5 rfl) ?_
          refine lv_iadd hx hb dX8_drift_118 ?_
          refine lv_topi (fun v_37 e_37 => ?_)
          obtain rfl : v_37 = (nI (26 + i)) := (e_37).trans (nI_add 26 i)
          refine lv_iload hx hb dX8_drift_119 (lv_at hl 0 rfl) ?_
          refine lv_if_eq (tgt := 128) hx hb dX8_drift_121 (by decide) (fun c_ => absurd c_ (by decide)) (fun _ => ?_)
          refine lv_iconst (v := 2) hx hb dX8_drift_124 (by decide) ?_
          refine lv_goto (tgt := 129) hx hb dX8_drift_125 (by decide) ?_
          refine va_iast hx hb hK hP hD hS 1 0 rfl rfl (vp_in_nI (by omega) (by omega)) dX8_drift_129 (fun H locs hP hD hS => ?_)
          generalize hg_39 : upd fs ((nI (26 + i)) : Int32).toNatClampNeg 2 = g_39 at hP hD
          have hu_39 : g_39 = upd fs (26 + i) 2 := (by rw [← hg_39, nI_clamp (by omega)])
          have hM_39 : okM g_39 w9 k9 h9 := okM_off (i := (26 + i)) hM hg_39 (by omega) (by omega) (by omega) (by omega) (by omega)
          have hP : va_P (dC, dI) vwCl [(xo_8_rrriirrriiiiiiirrirrrrri mo m_la m_sz m_it ms mt m_st m_mv m_tp (nI mz) ml (nI mp) mk mv mb mw m_rd m_ac (nI ma) m_as m_wo m_ik m_ke m_tr (nI mx)), (xI m_st cI 38 g_39)] H := hP
          have hD := dto hP hD
          refine lv_aload_n hx hb dX8_drift_130 rfl (lv_at hl 4 rfl) ?_
          refine va_get (D := (dC, dI)) (ci := 8) (v := .ref m_st) (C := RX8) (T := TX8) (N := 24) hx hb hts i_X8_drift_X8 hown hK hP 0 rfl rfl 5 (by decide) (hts _ mx_X8_drift_1) (fun _ h9 => h9) rfl dX8_drift_131 ?_
          refine lv_bipush (v := 20) hx hb dX8_drift_134 (by decide) ?_
          refine lv_iload_n hx hb dX8_drift_136 rfl (lv_at hl 5 rfl) ?_
          refine lv_iadd hx hb dX8_drift_137 ?_
          refine lv_topi (fun v_40 e_40 => ?_)
          obtain rfl : v_40 = (nI (20 + i)) := (e_40).trans (nI_add 20 i)
          refine lv_iload hx hb dX8_drift_138 (lv_at hl 0 rfl) ?_
          refine lv_if_eq (tgt := 155) hx hb dX8_drift_140 (by decide) (fun c_ => absurd c_ (by decide)) (fun _ => ?_)
          refine lv_aload_n hx hb dX8_drift_143 rfl (lv_at hl 4 rfl) ?_
          refine va_get (D := (dC, dI)) (ci := 8) (v := .ref m_st) (C := RX8) (T := TX8) (N := 24) hx hb hts i_X8_drift_X8 hown hK hP 0 rfl rfl 5 (by decide) (hts _ mx_X8_drift_1) (fun _ h9 => h9) rfl dX8_drift_144 ?_
          refine lv_bipush (v := 20) hx hb dX8_drift_147 (by decide) ?_
          refine lv_iload_n hx hb dX8_drift_149 rfl (lv_at hl 5 rfl) ?_
          refine lv_iadd hx hb dX8_drift_150 ?_
          refine lv_topi (fun v_42 e_42 => ?_)
          obtain rfl : v_42 = (nI (20 + i)) := (e_42).trans (nI_add 20 i)
          refine va_iald hx hb hK hP 1 0 rfl rfl (vp_in_nI (by omega) (by omega)) dX8_drift_151 ?_
          refine lv_topi (fun v_43 e_43 => ?_)
          have e_43 : v_43 = g_39 (20 + i) := e_43.trans (congrArg g_39 (nI_clamp (by omega)))
          refine lv_goto (tgt := 157) hx hb dX8_drift_152 (by decide) ?_
          refine va_iast hx hb hK hP hD hS 1 0 rfl rfl (vp_in_nI (by omega) (by omega)) dX8_drift_157 (fun H locs hP hD hS => ?_)
          generalize hg_44 : upd g_39 ((nI (20 + i)) : Int32).toNatClampNeg v_43 = g_44 at hP hD
          have hu_44 : g_44 = upd g_39 (20 + i) v_43 := (by rw [← hg_44, nI_clamp (by omega)])
          have hM_44 : okM g_44 w9 k9 h9 := okM_off (i := (20 + i)) hM_39 hg_44 (by omega) (by omega) (by omega) (by omega) (by omega)
          have hP : va_P (dC, dI) vwCl [(xo_8_rrriirrriiiiiiirrirrrrri mo m_la m_sz m_it ms mt m_st m_mv m_tp (nI mz) ml (nI mp) mk mv mb mw m_rd m_ac (nI ma) m_as m_wo m_ik m_ke m_tr (nI mx)), (xI m_st cI 38 g_44)] H := hP
          have hD := dto hP hD
          refine lv_aload_n hx hb dX8_drift_158 rfl (lv_at hl 4 rfl) ?_
          refine va_get (D := (dC, dI)) (ci := 8) (v := .ref m_st) (C := RX8) (T := TX8) (N := 24) hx hb hts i_X8_drift_X8 hown hK hP 0 rfl rfl 5 (by decide) (hts _ mx_X8_drift_1) (fun _ h9 => h9) rfl dX8_drift_159 ?_
          refine lv_bipush (v := 32) hx hb dX8_drift_162 (by decide) ?_
          refine lv_iload_n hx hb dX8_drift_164 rfl (lv_at hl 5 rfl) ?_
          refine lv_iadd hx hb dX8_drift_165 ?_
          refine lv_topi (fun v_45 e_45 => ?_)
          obtain rfl : v_45 = (nI (32 + i)) := (e_45).trans (nI_add 32 i)
          refine lv_iload hx hb dX8_drift_166 (lv_at hl 0 rfl) ?_
          refine lv_if_eq (tgt := 183) hx hb dX8_drift_168 (by decide) (fun c_ => absurd c_ (by decide)) (fun _ => ?_)
          refine lv_aload_n hx hb dX8_drift_171 rfl (lv_at hl 4 rfl) ?_
          refine va_get (D := (dC, dI)) (ci := 8) (v := .ref m_st) (C := RX8) (T := TX8) (N := 24) hx hb hts i_X8_drift_X8 hown hK hP 0 rfl rfl 5 (by decide) (hts _ mx_X8_drift_1) (fun _ h9 => h9) rfl dX8_drift_172 ?_
          refine lv_bipush (v := 32) hx hb dX8_drift_175 (by decide) ?_
          refine lv_iload_n hx hb dX8_drift_177 rfl (lv_at hl 5 rfl) ?_
          refine lv_iadd hx hb dX8_drift_178 ?_
          refine lv_topi (fun v_47 e_47 => ?_)
          obtain rfl : v_47 = (nI (32 + i)) := (e_47).trans (nI_add 32 i)
          refine va_iald hx hb hK hP 1 0 rfl rfl (vp_in_nI (by omega) (by omega)) dX8_drift_179 ?_
          obtain ⟨L_48, hL1_48, hL2_48, hLe_48⟩ := hM_44.2.2.2.2.2.2.2 i (by omega)
          refine lv_topi (fun v_48 e_48 => ?_)
          obtain rfl : v_48 = nI L_48 := e_48.trans (by rw [nI_clamp (by omega)]; exact hLe_48)
          refine lv_goto (tgt := 185) hx hb dX8_drift_180 (by decide) ?_
          refine va_iast hx hb hK hP hD hS 1 0 rfl rfl (vp_in_nI (by omega) (by omega)) dX8_drift_185 (fun H locs hP hD hS => ?_)
          generalize hg_49 : upd g_44 ((nI (32 + i)) : Int32).toNatClampNeg (nI L_48) = g_49 at hP hD
          have hu_49 : g_49 = upd g_44 (32 + i) (nI L_48) := (by rw [← hg_49, nI_clamp (by omega)])
          have hM_49 : okM g_49 w9 k9 h9 := okM_loud hM_44 hg_49 (by omega) (by omega) (by omega)
          have hP : va_P (dC, dI) vwCl [(xo_8_rrriirrriiiiiiirrirrrrri mo m_la m_sz m_it ms mt m_st m_mv m_tp (nI mz) ml (nI mp) mk mv mb mw m_rd m_ac (nI ma) m_as m_wo m_ik m_ke m_tr (nI mx)), (xI m_st cI 38 g_49)] H := hP
          have hD := dto hP hD
          have hX9 := cut2 (wc := [(xo_8_rrriirrriiiiiiirrirrrrri mo m_la m_sz m_it ms mt m_st m_mv m_tp (nI mz) ml (nI mp) mk mv mb mw m_rd m_ac (nI ma) m_as m_wo m_ik m_ke m_tr (nI mx)), (xI m_st cI 38 g_49)]) hP hD [0, 1] (by decide +kernel) rfl
          exact W.vret hx hb hr (fun t ht hW => ⟨⟨(), rfl, trivial, ⟨g_49, va_Ht ht hX9.1, hX9.2, hM_49, (lf_X8_drift_3 hM hi e_2 e_4 h_5 e_6 c_7 c_8 hL1_10 hL2_10 hLe_10 f_11_1_0 c_27 hu_39 e_43 hu_44 hL1_48 hL2_48 hLe_48 hu_49)⟩⟩, hS.F ht⟩) hS.2.2 dX8_drift_186
    · skip
      refine lv_aload_n hx hb dX8_drift_51 rfl (lv_at hl 2 rfl) ?_
      refine va_get (D := (dC, dI)) (ci := 8) (v := .ref m_st) (C := RX8) (T := TX8) (N := 24) hx hb hts i_X8_drift_X8 hown hK hP 0 rfl rfl 5 (by decide) (hts _ mx_X8_drift_1) (fun _ h9 => h9) rfl dX8_drift_52 ?_
      refine lv_bipush (v := 32) hx hb dX8_drift_55 (by decide) ?_
      refine lv_iload_n hx hb dX8_drift_57 rfl (lv_at hl 3 rfl) ?_
      refine lv_iadd hx hb dX8_drift_58 ?_
      refine lv_topi (fun v_50 e_50 => ?_)
      obtain rfl : v_50 = (nI (32 + i)) := (e_50).trans (nI_add 32 i)
      refine va_iald hx hb hK hP 1 0 rfl rfl (vp_in_nI (by omega) (by omega)) dX8_drift_59 ?_
      obtain ⟨L_51, hL1_51, hL2_51, hLe_51⟩ := hM.2.2.2.2.2.2.2 i (by omega)
      refine lv_topi (fun v_51 e_51 => ?_)
      obtain rfl : v_51 = nI L_51 := e_51.trans (by rw [nI_clamp (by omega)]; exact hLe_51)
      refine lv_bipush (v := 20) hx hb dX8_drift_60 (by decide) ?_
      refine lv_icmp_ge (tgt := 79) hx hb dX8_drift_62 (by decide) (fun c_52 => ?_) (fun c_52 => ?_)
      · have c_52 : 20 ≤ L_51 := (nI_leI (a := 20) (b := L_51) (by omega) (by omega)).mp c_52
        refine lv_aload_n hx hb dX8_drift_79 rfl (lv_at hl 2 rfl) ?_
        refine va_get (D := (dC, dI)) (ci := 8) (v := .ref m_st) (C := RX8) (T := TX8) (N := 24) hx hb hts i_X8_drift_X8 hown hK hP 0 rfl rfl 5 (by decide) (hts _ mx_X8_drift_1) (fun _ h9 => h9) rfl dX8_drift_80 ?_
        refine lv_bipush (v := 32) hx hb dX8_drift_83 (by decide) ?_
        refine lv_iload_n hx hb dX8_drift_85 rfl (lv_at hl 3 rfl) ?_
        refine lv_iadd hx hb dX8_drift_86 ?_
        refine lv_topi (fun v_53 e_53 => ?_)
        obtain rfl : v_53 = (nI (32 + i)) := (e_53).trans (nI_add 32 i)
        refine va_iald hx hb hK hP 1 0 rfl rfl (vp_in_nI (by omega) (by omega)) dX8_drift_87 ?_
        refine lv_topi (fun v_54 e_54 => ?_)
        obtain rfl : v_54 = nI L_51 := e_54.trans (by rw [nI_clamp (by omega)]; exact hLe_51)
        refine lv_istore (lv' := [(5, .int (nI L_51)), (4, .int v_6), (3, .int v_2), (0, .ref mo), (1, .int (nI i)), (2, .int n)]) hx hb dX8_drift_88 hl (by decide) rfl (fun ls hl => ?_)
        refine lv_aload_n hx hb dX8_drift_90 rfl (lv_at hl 3 rfl) ?_
        refine lv_iload hx hb dX8_drift_91 (lv_at hl 1 rfl) ?_
        have hPc_55 := hP
        refine vp_callSi (W.runV (As := [.int v_6]) (rest := []) ⟨hx, hb, hml, hown, hts⟩ (r_X8_isCell l dC dI cI cZ cL cJ mo m_la m_sz m_it m_st m_mv m_tp m_rd m_ac m_as m_wo m_ik m_ke m_tr ms mt ml mk mv mb mw mz mp ma mx fs w9 k9 h9 v_6 (hM)) (cwV 1 hts gX8_drift_X8_isCell rfl rfl rfl (by decide +kernel) ⟨Nat.le_of_ble_eq_true rfl, Nat.le_of_ble_eq_true rfl⟩) (pvP 8 0 hK hP rfl rfl hPc_55) rfl rfl hl.1 rfl (lv_room (Nat.le_of_ble_eq_true rfl)) dX8_drift_93 ⟨Nat.le_of_ble_eq_true rfl, Nat.le_of_ble_eq_true rfl⟩) (fun r_55 h_55 => ?_)
        rcases h_55 with ⟨h_55, f_55_0_0⟩ | ⟨h_55, f_55_1_0⟩
        · subst h_55
          refine lv_if_eq (tgt := 104) hx hb dX8_drift_96 (by decide) (fun _ => ?_) (fun c_ => absurd (by decide) c_)
          refine lv_iconst (v := 1) hx hb dX8_drift_104 (by decide) ?_
          refine lv_goto (tgt := 109) hx hb dX8_drift_105 (by decide) ?_
          refine lv_istore (lv' := [(6, .int 1), (5, .int (nI L_51)), (4, .int v_6), (3, .int v_2), (0, .ref mo), (1, .int (nI i)), (2, .int n)]) hx hb dX8_drift_109 hl (by decide) rfl (fun ls hl => ?_)
          refine lv_aload_n hx hb dX8_drift_111 rfl (lv_at hl 4 rfl) ?_
          refine va_get (D := (dC, dI)) (ci := 8) (v := .ref m_st) (C := RX8) (T := TX8) (N := 24) hx hb hts i_X8_drift_X8 hown hK hP 0 rfl rfl 5 (by decide) (hts _ mx_X8_drift_1) (fun _ h9 => h9) rfl dX8_drift_112 ?_
          refine lv_bipush (v := 26) hx hb dX8_drift_115 (by decide) ?_
          refine lv_iload_n hx hb dX8_drift_117 rfl (lv_at hl 5 rfl) ?_
          refine lv_iadd hx hb dX8_drift_118 ?_
          refine lv_topi (fun v_57 e_57 => ?_)
          obtain rfl : v_57 = (nI (26 + i)) := (e_57).trans (nI_add 26 i)
          refine lv_iload hx hb dX8_drift_119 (lv_at hl 0 rfl) ?_
          refine lv_if_eq (tgt := 128) hx hb dX8_drift_121 (by decide) (fun c_ => absurd c_ (by decide)) (fun _ => ?_)
          refine lv_iconst (v := 2) hx hb dX8_drift_124 (by decide) ?_
          refine lv_goto (tgt := 129) hx hb dX8_drift_125 (by decide) ?_
          refine va_iast hx hb hK hP hD hS 1 0 rfl rfl (vp_in_nI (by omega) (by omega)) dX8_drift_129 (fun H locs hP hD hS => ?_)
          generalize hg_59 : upd fs ((nI (26 + i)) : Int32).toNatClampNeg 2 = g_59 at hP hD
          have hu_59 : g_59 = upd fs (26 + i) 2 := (by rw [← hg_59, nI_clamp (by omega)])
          have hM_59 : okM g_59 w9 k9 h9 := okM_off (i := (26 + i)) hM hg_59 (by omega) (by omega) (by omega) (by omega) (by omega)
          have hP : va_P (dC, dI) vwCl [(xo_8_rrriirrriiiiiiirrirrrrri mo m_la m_sz m_it ms mt m_st m_mv m_tp (nI mz) ml (nI mp) mk mv mb mw m_rd m_ac (nI ma) m_as m_wo m_ik m_ke m_tr (nI mx)), (xI m_st cI 38 g_59)] H := hP
          have hD := dto hP hD
          refine lv_aload_n hx hb dX8_drift_130 rfl (lv_at hl 4 rfl) ?_
          refine va_get (D := (dC, dI)) (ci := 8) (v := .ref m_st) (C := RX8) (T := TX8) (N := 24) hx hb hts i_X8_drift_X8 hown hK hP 0 rfl rfl 5 (by decide) (hts _ mx_X8_drift_1) (fun _ h9 => h9) rfl dX8_drift_131 ?_
          refine lv_bipush (v := 20) hx hb dX8_drift_134 (by decide) ?_
          refine lv_iload_n hx hb dX8_drift_136 rfl (lv_at hl 5 rfl) ?_
          refine lv_iadd hx hb dX8_drift_137 ?_
          refine lv_topi (fun v_60 e_60 => ?_)
          obtain rfl : v_60 = (nI (20 + i)) := (e_60).trans (nI_add 20 i)
          refine lv_iload hx hb dX8_drift_138 (lv_at hl 0 rfl) ?_
          refine lv_if_eq (tgt := 155) hx hb dX8_drift_140 (by decide) (fun c_ => absurd c_ (by decide)) (fun _ => ?_)
          refine lv_aload_n hx hb dX8_drift_143 rfl (lv_at hl 4 rfl) ?_
          refine va_get (D := (dC, dI)) (ci := 8) (v := .ref m_st) (C := RX8) (T := TX8) (N := 24) hx hb hts i_X8_drift_X8 hown hK hP 0 rfl rfl 5 (by decide) (hts _ mx_X8_drift_1) (fun _ h9 => h9) rfl dX8_drift_144 ?_
          refine lv_bipush (v := 20) hx hb dX8_drift_147 (by decide) ?_
          refine lv_iload_n hx hb dX8_drift_149 rfl (lv_at hl 5 rfl) ?_
          refine lv_iadd hx hb dX8_drift_150 ?_
          refine lv_topi (fun v_62 e_62 => ?_)
          obtain rfl : v_62 = (nI (20 + i)) := (e_62).trans (nI_add 20 i)
          refine va_iald hx hb hK hP 1 0 rfl rfl (vp_in_nI (by omega) (by omega)) dX8_drift_151 ?_
          refine lv_topi (fun v_63 e_63 => ?_)
          have e_63 : v_63 = g_59 (20 + i) := e_63.trans (congrArg g_59 (nI_clamp (by omega)))
          refine lv_goto (tgt := 157) hx hb dX8_drift_152 (by decide) ?_
          refine va_iast hx hb hK hP hD hS 1 0 rfl rfl (vp_in_nI (by omega) (by omega)) dX8_drift_157 (fun H locs hP hD hS => ?_)
          generalize hg_64 : upd g_59 ((nI (20 + i)) : Int32).toNatClampNeg v_63 = g_64 at hP hD
          have hu_64 : g_64 = upd g_59 (20 + i) v_63 := (by rw [← hg_64, nI_clamp (by omega)])
          have hM_64 : okM g_64 w9 k9 h9 := okM_off (i := (20 + i)) hM_59 hg_64 (by omega) (by omega) (by omega) (by omega) (by omega)
          have hP : va_P (dC, dI) vwCl [(xo_8_rrriirrriiiiiiirrirrrrri mo m_la m_sz m_it ms mt m_st m_mv m_tp (nI mz) ml (nI mp) mk mv mb mw m_rd m_ac (nI ma) m_as m_wo m_ik m_ke m_tr (nI mx)), (xI m_st cI 38 g_64)] H := hP
          have hD := dto hP hD
          refine lv_aload_n hx hb dX8_drift_158 rfl (lv_at hl 4 rfl) ?_
          refine va_get (D := (dC, dI)) (ci := 8) (v := .ref m_st) (C := RX8) (T := TX8) (N := 24) hx hb hts i_X8_drift_X8 hown hK hP 0 rfl rfl 5 (by decide) (hts _ mx_X8_drift_1) (fun _ h9 => h9) rfl dX8_drift_159 ?_
          refine lv_bipush (v := 32) hx hb dX8_drift_162 (by decide) ?_
          refine lv_iload_n hx hb dX8_drift_164 rfl (lv_at hl 5 rfl) ?_
          refine lv_iadd hx hb dX8_drift_165 ?_
          refine lv_topi (fun v_65 e_65 => ?_)
          obtain rfl : v_65 = (nI (32 + i)) := (e_65).trans (nI_add 32 i)
          refine lv_iload hx hb dX8_drift_166 (lv_at hl 0 rfl) ?_
          refine lv_if_eq (tgt := 183) hx hb dX8_drift_168 (by decide) (fun c_ => absurd c_ (by decide)) (fun _ => ?_)
          refine lv_aload_n hx hb dX8_drift_171 rfl (lv_at hl 4 rfl) ?_
          refine va_get (D := (dC, dI)) (ci := 8) (v := .ref m_st) (C := RX8) (T := TX8) (N := 24) hx hb hts i_X8_drift_X8 hown hK hP 0 rfl rfl 5 (by decide) (hts _ mx_X8_drift_1) (fun _ h9 => h9) rfl dX8_drift_172 ?_
          refine lv_bipush (v := 32) hx hb dX8_drift_175 (by decide) ?_
          refine lv_iload_n hx hb dX8_drift_177 rfl (lv_at hl 5 rfl) ?_
          refine lv_iadd hx hb dX8_drift_178 ?_
          refine lv_topi (fun v_67 e_67 => ?_)
          obtain rfl : v_67 = (nI (32 + i)) := (e_67).trans (nI_add 32 i)
          refine va_iald hx hb hK hP 1 0 rfl rfl (vp_in_nI (by omega) (by omega)) dX8_drift_179 ?_
          obtain ⟨L_68, hL1_68, hL2_68, hLe_68⟩ := hM_64.2.2.2.2.2.2.2 i (by omega)
          refine lv_topi (fun v_68 e_68 => ?_)
          obtain rfl : v_68 = nI L_68 := e_68.trans (by rw [nI_clamp (by omega)]; exact hLe_68)
          refine lv_goto (tgt := 185) hx hb dX8_drift_180 (by decide) ?_
          refine va_iast hx hb hK hP hD hS 1 0 rfl rfl (vp_in_nI (by omega) (by omega)) dX8_drift_185 (fun H locs hP hD hS => ?_)
          generalize hg_69 : upd g_64 ((nI (32 + i)) : Int32).toNatClampNeg (nI L_68) = g_69 at hP hD
          have hu_69 : g_69 = upd g_64 (32 + i) (nI L_68) := (by rw [← hg_69, nI_clamp (by omega)])
          have hM_69 : okM g_69 w9 k9 h9 := okM_loud hM_64 hg_69 (by omega) (by omega) (by omega)
          have hP : va_P (dC, dI) vwCl [(xo_8_rrriirrriiiiiiirrirrrrri mo m_la m_sz m_it ms mt m_st m_mv m_tp (nI mz) ml (nI mp) mk mv mb mw m_rd m_ac (nI ma) m_as m_wo m_ik m_ke m_tr (nI mx)), (xI m_st cI 38 g_69)] H := hP
          have hD := dto hP hD
          have hX9 := cut2 (wc := [(xo_8_rrriirrriiiiiiirrirrrrri mo m_la m_sz m_it ms mt m_st m_mv m_tp (nI mz) ml (nI mp) mk mv mb mw m_rd m_ac (nI ma) m_as m_wo m_ik m_ke m_tr (nI mx)), (xI m_st cI 38 g_69)]) hP hD [0, 1] (by decide +kernel) rfl
          exact W.vret hx hb hr (fun t ht hW => ⟨⟨(), rfl, trivial, ⟨g_69, va_Ht ht hX9.1, hX9.2, hM_69, (lf_X8_drift_4 hM hi e_2 e_4 h_5 e_6 c_7 c_8 hL1_51 hL2_51 hLe_51 c_52 f_55_0_0 hu_59 e_63 hu_64 hL1_68 hL2_68 hLe_68 hu_69)⟩⟩, hS.F ht⟩) hS.2.2 dX8_drift_186
        · subst h_55
          refine lv_if_eq (tgt := 104) hx hb dX8_drift_96 (by decide) (fun c_ => absurd c_ (by decide)) (fun _ => ?_)
          refine lv_iload hx hb dX8_drift_99 (lv_at hl 0 rfl) ?_
          refine lv_if_ne (tgt := 108) hx hb dX8_drift_101 (by decide) (fun c_71 => ?_) (fun c_71 => ?_)
          · have c_71 : ¬ (L_51 = 0) := fun q_ => c_71 ((nI_eq (a := L_51) (b := 0) (by omega) (by omega)).mpr q_)
            refine lv_iconst (v := 0) hx hb dX8_drift_108 (by decide) ?_
            refine lv_istore (lv' := [(6, .int 0), (5, .int (nI L_51)), (4, .int v_6), (3, .int v_2), (0, .ref mo), (1, .int (nI i)), (2, .int n)]) hx hb dX8_drift_109 hl (by decide) rfl (fun ls hl => ?_)
            refine lv_aload_n hx hb dX8_drift_111 rfl (lv_at hl 4 rfl) ?_
            refine va_get (D := (dC, dI)) (ci := 8) (v := .ref m_st) (C := RX8) (T := TX8) (N := 24) hx hb hts i_X8_drift_X8 hown hK hP 0 rfl rfl 5 (by decide) (hts _ mx_X8_drift_1) (fun _ h9 => h9) rfl dX8_drift_112 ?_
            refine lv_bipush (v := 26) hx hb dX8_drift_115 (by decide) ?_
            refine lv_iload_n hx hb dX8_drift_117 rfl (lv_at hl 5 rfl) ?_
            refine lv_iadd hx hb dX8_drift_118 ?_
            refine lv_topi (fun v_72 e_72 => ?_)
            obtain rfl : v_72 = (nI (26 + i)) := (e_72).trans (nI_add 26 i)
            refine lv_iload hx hb dX8_drift_119 (lv_at hl 0 rfl) ?_
            refine lv_if_eq (tgt := 128) hx hb dX8_drift_121 (by decide) (fun _ => ?_) (fun c_ => absurd (by decide) c_)
            refine lv_iconst (v := 0) hx hb dX8_drift_128 (by decide) ?_
            refine va_iast hx hb hK hP hD hS 1 0 rfl rfl (vp_in_nI (by omega) (by omega)) dX8_drift_129 (fun H locs hP hD hS => ?_)
            generalize hg_74 : upd fs ((nI (26 + i)) : Int32).toNatClampNeg 0 = g_74 at hP hD
            have hu_74 : g_74 = upd fs (26 + i) 0 := (by rw [← hg_74, nI_clamp (by omega)])
            have hM_74 : okM g_74 w9 k9 h9 := okM_off (i := (26 + i)) hM hg_74 (by omega) (by omega) (by omega) (by omega) (by omega)
            have hP : va_P (dC, dI) vwCl [(xo_8_rrriirrriiiiiiirrirrrrri mo m_la m_sz m_it ms mt m_st m_mv m_tp (nI mz) ml (nI mp) mk mv mb mw m_rd m_ac (nI ma) m_as m_wo m_ik m_ke m_tr (nI mx)), (xI m_st cI 38 g_74)] H := hP
            have hD := dto hP hD
            refine lv_aload_n hx hb dX8_drift_130 rfl (lv_at hl 4 rfl) ?_
            refine va_get (D := (dC, dI)) (ci := 8) (v := .ref m_st) (C := RX8) (T := TX8) (N := 24) hx hb hts i_X8_drift_X8 hown hK hP 0 rfl rfl 5 (by decide) (hts _ mx_X8_drift_1) (fun _ h9 => h9) rfl dX8_drift_131 ?_
            refine lv_bipush (v := 20) hx hb dX8_drift_134 (by decide) ?_
            refine lv_iload_n hx hb dX8_drift_136 rfl (lv_at hl 5 rfl) ?_
            refine lv_iadd hx hb dX8_drift_137 ?_
            refine lv_topi (fun v_75 e_75 => ?_)
            obtain rfl : v_75 = (nI (20 + i)) := (e_75).trans (nI_add 20 i)
            refine lv_iload hx hb dX8_drift_138 (lv_at hl 0 rfl) ?_
            refine lv_if_eq (tgt := 155) hx hb dX8_drift_140 (by decide) (fun _ => ?_) (fun c_ => absurd (by decide) c_)
            refine lv_iload hx hb dX8_drift_155 (lv_at hl 2 rfl) ?_
            refine va_iast hx hb hK hP hD hS 1 0 rfl rfl (vp_in_nI (by omega) (by omega)) dX8_drift_157 (fun H locs hP hD hS => ?_)
            generalize hg_77 : upd g_74 ((nI (20 + i)) : Int32).toNatClampNeg v_6 = g_77 at hP hD
            have hu_77 : g_77 = upd g_74 (20 + i) v_6 := (by rw [← hg_77, nI_clamp (by omega)])
            have hM_77 : okM g_77 w9 k9 h9 := okM_off (i := (20 + i)) hM_74 hg_77 (by omega) (by omega) (by omega) (by omega) (by omega)
            have hP : va_P (dC, dI) vwCl [(xo_8_rrriirrriiiiiiirrirrrrri mo m_la m_sz m_it ms mt m_st m_mv m_tp (nI mz) ml (nI mp) mk mv mb mw m_rd m_ac (nI ma) m_as m_wo m_ik m_ke m_tr (nI mx)), (xI m_st cI 38 g_77)] H := hP
            have hD := dto hP hD
            refine lv_aload_n hx hb dX8_drift_158 rfl (lv_at hl 4 rfl) ?_
            refine va_get (D := (dC, dI)) (ci := 8) (v := .ref m_st) (C := RX8) (T := TX8) (N := 24) hx hb hts i_X8_drift_X8 hown hK hP 0 rfl rfl 5 (by decide) (hts _ mx_X8_drift_1) (fun _ h9 => h9) rfl dX8_drift_159 ?_
            refine lv_bipush (v := 32) hx hb dX8_drift_162 (by decide) ?_
            refine lv_iload_n hx hb dX8_drift_164 rfl (lv_at hl 5 rfl) ?_
            refine lv_iadd hx hb dX8_drift_165 ?_
            refine lv_topi (fun v_78 e_78 => ?_)
            obtain rfl : v_78 = (nI (32 + i)) := (e_78).trans (nI_add 32 i)
            refine lv_iload hx hb dX8_drift_166 (lv_at hl 0 rfl) ?_
            refine lv_if_eq (tgt := 183) hx hb dX8_drift_168 (by decide) (fun _ => ?_) (fun c_ => absurd (by decide) c_)
            refine lv_iload hx hb dX8_drift_183 (lv_at hl 1 rfl) ?_
            refine va_iast hx hb hK hP hD hS 1 0 rfl rfl (vp_in_nI (by omega) (by omega)) dX8_drift_185 (fun H locs hP hD hS => ?_)
            generalize hg_80 : upd g_77 ((nI (32 + i)) : Int32).toNatClampNeg (nI L_51) = g_80 at hP hD
            have hu_80 : g_80 = upd g_77 (32 + i) (nI L_51) := (by rw [← hg_80, nI_clamp (by omega)])
            have hM_80 : okM g_80 w9 k9 h9 := okM_loud hM_77 hg_80 (by omega) (by omega) (by omega)
            have hP : va_P (dC, dI) vwCl [(xo_8_rrriirrriiiiiiirrirrrrri mo m_la m_sz m_it ms mt m_st m_mv m_tp (nI mz) ml (nI mp) mk mv mb mw m_rd m_ac (nI ma) m_as m_wo m_ik m_ke m_tr (nI mx)), (xI m_st cI 38 g_80)] H := hP
            have hD := dto hP hD
            have hX9 := cut2 (wc := [(xo_8_rrriirrriiiiiiirrirrrrri mo m_la m_sz m_it ms mt m_st m_mv m_tp (nI mz) ml (nI mp) mk mv mb mw m_rd m_ac (nI ma) m_as m_wo m_ik m_ke m_tr (nI mx)), (xI m_st cI 38 g_80)]) hP hD [0, 1] (by decide +kernel) rfl
            exact W.vret hx hb hr (fun t ht hW => ⟨⟨(), rfl, trivial, ⟨g_80, va_Ht ht hX9.1, hX9.2, hM_80, (lf_X8_drift_5 hM hi e_2 e_4 h_5 e_6 c_7 c_8 hL1_51 hL2_51 hLe_51 c_52 f_55_1_0 c_71 hu_74 hu_77 hu_80)⟩⟩, hS.F ht⟩) hS.2.2 dX8_drift_186
          · have c_71 : L_51 = 0 := (nI_eq (a := L_51) (b := 0) (by omega) (by omega)).mp c_71
            refine lv_iconst (v := 1) hx hb dX8_drift_104 (by decide) ?_
            refine lv_goto (tgt := 109) hx hb dX8_drift_105 (by decide) ?_
            refine lv_istore (lv' := [(6, .int 1), (5, .int (nI L_51)), (4, .int v_6), (3, .int v_2), (0, .ref mo), (1, .int (nI i)), (2, .int n)]) hx hb dX8_drift_109 hl (by decide) rfl (fun ls hl => ?_)
            refine lv_aload_n hx hb dX8_drift_111 rfl (lv_at hl 4 rfl) ?_
            refine va_get (D := (dC, dI)) (ci := 8) (v := .ref m_st) (C := RX8) (T := TX8) (N := 24) hx hb hts i_X8_drift_X8 hown hK hP 0 rfl rfl 5 (by decide) (hts _ mx_X8_drift_1) (fun _ h9 => h9) rfl dX8_drift_112 ?_
            refine lv_bipush (v := 26) hx hb dX8_drift_115 (by decide) ?_
            refine lv_iload_n hx hb dX8_drift_117 rfl (lv_at hl 5 rfl) ?_
            refine lv_iadd hx hb dX8_drift_118 ?_
            refine lv_topi (fun v_81 e_81 => ?_)
            obtain rfl : v_81 = (nI (26 + i)) := (e_81).trans (nI_add 26 i)
            refine lv_iload hx hb dX8_drift_119 (lv_at hl 0 rfl) ?_
            refine lv_if_eq (tgt := 128) hx hb dX8_drift_121 (by decide) (fun c_ => absurd c_ (by decide)) (fun _ => ?_)
            refine lv_iconst (v := 2) hx hb dX8_drift_124 (by decide) ?_
            refine lv_goto (tgt := 129) hx hb dX8_drift_125 (by decide) ?_
            refine va_iast hx hb hK hP hD hS 1 0 rfl rfl (vp_in_nI (by omega) (by omega)) dX8_drift_129 (fun H locs hP hD hS => ?_)
            generalize hg_83 : upd fs ((nI (26 + i)) : Int32).toNatClampNeg 2 = g_83 at hP hD
            have hu_83 : g_83 = upd fs (26 + i) 2 := (by rw [← hg_83, nI_clamp (by omega)])
            have hM_83 : okM g_83 w9 k9 h9 := okM_off (i := (26 + i)) hM hg_83 (by omega) (by omega) (by omega) (by omega) (by omega)
            have hP : va_P (dC, dI) vwCl [(xo_8_rrriirrriiiiiiirrirrrrri mo m_la m_sz m_it ms mt m_st m_mv m_tp (nI mz) ml (nI mp) mk mv mb mw m_rd m_ac (nI ma) m_as m_wo m_ik m_ke m_tr (nI mx)), (xI m_st cI 38 g_83)] H := hP
            have hD := dto hP hD
            refine lv_aload_n hx hb dX8_drift_130 rfl (lv_at hl 4 rfl) ?_
            refine va_get (D := (dC, dI)) (ci := 8) (v := .ref m_st) (C := RX8) (T := TX8) (N := 24) hx hb hts i_X8_drift_X8 hown hK hP 0 rfl rfl 5 (by decide) (hts _ mx_X8_drift_1) (fun _ h9 => h9) rfl dX8_drift_131 ?_
            refine lv_bipush (v := 20) hx hb dX8_drift_134 (by decide) ?_
            refine lv_iload_n hx hb dX8_drift_136 rfl (lv_at hl 5 rfl) ?_
            refine lv_iadd hx hb dX8_drift_137 ?_
            refine lv_topi (fun v_84 e_84 => ?_)
            obtain rfl : v_84 = (nI (20 + i)) := (e_84).trans (nI_add 20 i)
            refine lv_iload hx hb dX8_drift_138 (lv_at hl 0 rfl) ?_
            refine lv_if_eq (tgt := 155) hx hb dX8_drift_140 (by decide) (fun c_ => absurd c_ (by decide)) (fun _ => ?_)
            refine lv_aload_n hx hb dX8_drift_143 rfl (lv_at hl 4 rfl) ?_
            refine va_get (D := (dC, dI)) (ci := 8) (v := .ref m_st) (C := RX8) (T := TX8) (N := 24) hx hb hts i_X8_drift_X8 hown hK hP 0 rfl rfl 5 (by decide) (hts _ mx_X8_drift_1) (fun _ h9 => h9) rfl dX8_drift_144 ?_
            refine lv_bipush (v := 20) hx hb dX8_drift_147 (by decide) ?_
            refine lv_iload_n hx hb dX8_drift_149 rfl (lv_at hl 5 rfl) ?_
            refine lv_iadd hx hb dX8_drift_150 ?_
            refine lv_topi (fun v_86 e_86 => ?_)
            obtain rfl : v_86 = (nI (20 + i)) := (e_86).trans (nI_add 20 i)
            refine va_iald hx hb hK hP 1 0 rfl rfl (vp_in_nI (by omega) (by omega)) dX8_drift_151 ?_
            refine lv_topi (fun v_87 e_87 => ?_)
            have e_87 : v_87 = g_83 (20 + i) := e_87.trans (congrArg g_83 (nI_clamp (by omega)))
            refine lv_goto (tgt := 157) hx hb dX8_drift_152 (by decide) ?_
            refine va_iast hx hb hK hP hD hS 1 0 rfl rfl (vp_in_nI (by omega) (by omega)) dX8_drift_157 (fun H locs hP hD hS => ?_)
            generalize hg_88 : upd g_83 ((nI (20 + i)) : Int32).toNatClampNeg v_87 = g_88 at hP hD
            have hu_88 : g_88 = upd g_83 (20 + i) v_87 := (by rw [← hg_88, nI_clamp (by omega)])
            have hM_88 : okM g_88 w9 k9 h9 := okM_off (i := (20 + i)) hM_83 hg_88 (by omega) (by omega) (by omega) (by omega) (by omega)
            have hP : va_P (dC, dI) vwCl [(xo_8_rrriirrriiiiiiirrirrrrri mo m_la m_sz m_it ms mt m_st m_mv m_tp (nI mz) ml (nI mp) mk mv mb mw m_rd m_ac (nI ma) m_as m_wo m_ik m_ke m_tr (nI mx)), (xI m_st cI 38 g_88)] H := hP
            have hD := dto hP hD
            refine lv_aload_n hx hb dX8_drift_158 rfl (lv_at hl 4 rfl) ?_
            refine va_get (D := (dC, dI)) (ci := 8) (v := .ref m_st) (C := RX8) (T := TX8) (N := 24) hx hb hts i_X8_drift_X8 hown hK hP 0 rfl rfl 5 (by decide) (hts _ mx_X8_drift_1) (fun _ h9 => h9) rfl dX8_drift_159 ?_
            refine lv_bipush (v := 32) hx hb dX8_drift_162 (by decide) ?_
            refine lv_iload_n hx hb dX8_drift_164 rfl (lv_at hl 5 rfl) ?_
            refine lv_iadd hx hb dX8_drift_165 ?_
            refine lv_topi (fun v_89 e_89 => ?_)
            obtain rfl : v_89 = (nI (32 + i)) := (e_89).trans (nI_add 32 i)
            refine lv_iload hx hb dX8_drift_166 (lv_at hl 0 rfl) ?_
            refine lv_if_eq (tgt := 183) hx hb dX8_drift_168 (by decide) (fun c_ => absurd c_ (by decide)) (fun _ => ?_)
            refine lv_aload_n hx hb dX8_drift_171 rfl (lv_at hl 4 rfl) ?_
            refine va_get (D := (dC, dI)) (ci := 8) (v := .ref m_st) (C := RX8) (T := TX8) (N := 24) hx hb hts i_X8_drift_X8 hown hK hP 0 rfl rfl 5 (by decide) (hts _ mx_X8_drift_1) (fun _ h9 => h9) rfl dX8_drift_172 ?_
            refine lv_bipush (v := 32) hx hb dX8_drift_175 (by decide) ?_
            refine lv_iload_n hx hb dX8_drift_177 rfl (lv_at hl 5 rfl) ?_
            refine lv_iadd hx hb dX8_drift_178 ?_
            refine lv_topi (fun v_91 e_91 => ?_)
            obtain rfl : v_91 = (nI (32 + i)) := (e_91).trans (nI_add 32 i)
            refine va_iald hx hb hK hP 1 0 rfl rfl (vp_in_nI (by omega) (by omega)) dX8_drift_179 ?_
            obtain ⟨L_92, hL1_92, hL2_92, hLe_92⟩ := hM_88.2.2.2.2.2.2.2 i (by omega)
            refine lv_topi (fun v_92 e_92 => ?_)
            obtain rfl : v_92 = nI L_92 := e_92.trans (by rw [nI_clamp (by omega)]; exact hLe_92)
            refine lv_goto (tgt := 185) hx hb dX8_drift_180 (by decide) ?_
            refine va_iast hx hb hK hP hD hS 1 0 rfl rfl (vp_in_nI (by omega) (by omega)) dX8_drift_185 (fun H locs hP hD hS => ?_)
            generalize hg_93 : upd g_88 ((nI (32 + i)) : Int32).toNatClampNeg (nI L_92) = g_93 at hP hD
            have hu_93 : g_93 = upd g_88 (32 + i) (nI L_92) := (by rw [← hg_93, nI_clamp (by omega)])
            have hM_93 : okM g_93 w9 k9 h9 := okM_loud hM_88 hg_93 (by omega) (by omega) (by omega)
            have hP : va_P (dC, dI) vwCl [(xo_8_rrriirrriiiiiiirrirrrrri mo m_la m_sz m_it ms mt m_st m_mv m_tp (nI mz) ml (nI mp) mk mv mb mw m_rd m_ac (nI ma) m_as m_wo m_ik m_ke m_tr (nI mx)), (xI m_st cI 38 g_93)] H := hP
            have hD := dto hP hD
            have hX9 := cut2 (wc := [(xo_8_rrriirrriiiiiiirrirrrrri mo m_la m_sz m_it ms mt m_st m_mv m_tp (nI mz) ml (nI mp) mk mv mb mw m_rd m_ac (nI ma) m_as m_wo m_ik m_ke m_tr (nI mx)), (xI m_st cI 38 g_93)]) hP hD [0, 1] (by decide +kernel) rfl
            exact W.vret hx hb hr (fun t ht hW => ⟨⟨(), rfl, trivial, ⟨g_93, va_Ht ht hX9.1, hX9.2, hM_93, (lf_X8_drift_6 hM hi e_2 e_4 h_5 e_6 c_7 c_8 hL1_51 hL2_51 hLe_51 c_52 f_55_1_0 c_71 hu_83 e_87 hu_88 hL1_92 hL2_92 hLe_92 hu_93)⟩⟩, hS.F ht⟩) hS.2.2 dX8_drift_186
      · have c_52 : ¬ (20 ≤ L_51) := fun q_ => c_52 ((nI_leI (a := 20) (b := L_51) (by omega) (by omega)).mpr q_)
        refine lv_aload_n hx hb dX8_drift_65 rfl (lv_at hl 2 rfl) ?_
        refine va_get (D := (dC, dI)) (ci := 8) (v := .ref m_st) (C := RX8) (T := TX8) (N := 24) hx hb hts i_X8_drift_X8 hown hK hP 0 rfl rfl 5 (by decide) (hts _ mx_X8_drift_1) (fun _ h9 => h9) rfl dX8_drift_66 ?_
        refine lv_bipush (v := 32) hx hb dX8_drift_69 (by decide) ?_
        refine lv_iload_n hx hb dX8_drift_71 rfl (lv_at hl 3 rfl) ?_
        refine lv_iadd hx hb dX8_drift_72 ?_
        refine lv_topi (fun v_94 e_94 => ?_)
        obtain rfl : v_94 = (nI (32 + i)) := (e_94).trans (nI_add 32 i)
        refine va_iald hx hb hK hP 1 0 rfl rfl (vp_in_nI (by omega) (by omega)) dX8_drift_73 ?_
        refine lv_topi (fun v_95 e_95 => ?_)
        obtain rfl : v_95 = nI L_51 := e_95.trans (by rw [nI_clamp (by omega)]; exact hLe_51)
        refine lv_iconst (v := 1) hx hb dX8_drift_74 (by decide) ?_
        refine lv_iadd hx hb dX8_drift_75 ?_
        refine lv_topi (fun v_96 e_96 => ?_)
        obtain rfl : v_96 = (nI (L_51 + 1)) := (e_96).trans (nI_add L_51 1)
        refine lv_goto (tgt := 88) hx hb dX8_drift_76 (by decide) ?_
        refine lv_istore (lv' := [(5, .int (nI (L_51 + 1))), (4, .int v_6), (3, .int v_2), (0, .ref mo), (1, .int (nI i)), (2, .int n)]) hx hb dX8_drift_88 hl (by decide) rfl (fun ls hl => ?_)
        refine lv_aload_n hx hb dX8_drift_90 rfl (lv_at hl 3 rfl) ?_
        refine lv_iload hx hb dX8_drift_91 (lv_at hl 1 rfl) ?_
        have hPc_97 := hP
        refine vp_callSi (W.runV (As := [.int v_6]) (rest := []) ⟨hx, hb, hml, hown, hts⟩ (r_X8_isCell l dC dI cI cZ cL cJ mo m_la m_sz m_it m_st m_mv m_tp m_rd m_ac m_as m_wo m_ik m_ke m_tr ms mt ml mk mv mb mw mz mp ma mx fs w9 k9 h9 v_6 (hM)) (cwV 1 hts gX8_drift_X8_isCell rfl rfl rfl (by decide +kernel) ⟨Nat.le_of_ble_eq_true rfl, Nat.le_of_ble_eq_true rfl⟩) (pvP 8 0 hK hP rfl rfl hPc_97) rfl rfl hl.1 rfl (lv_room (Nat.le_of_ble_eq_true rfl)) dX8_drift_93 ⟨Nat.le_of_ble_eq_true rfl, Nat.le_of_ble_eq_true rfl⟩) (fun r_97 h_97 => ?_)
        rcases h_97 with ⟨h_97, f_97_0_0⟩ | ⟨h_97, f_97_1_0⟩
        · subst h_97
          refine lv_if_eq (tgt := 104) hx hb dX8_drift_96 (by decide) (fun _ => ?_) (fun c_ => absurd (by decide) c_)
          refine lv_iconst (v := 1) hx hb dX8_drift_104 (by decide) ?_
          refine lv_goto (tgt := 109) hx hb dX8_drift_105 (by decide) ?_
          refine lv_istore (lv' := [(6, .int 1), (5, .int (nI (L_51 + 1))), (4, .int v_6), (3, .int v_2), (0, .ref mo), (1, .int (nI i)), (2, .int n)]) hx hb dX8_drift_109 hl (by decide) rfl (fun ls hl => ?_)
          refine lv_aload_n hx hb dX8_drift_111 rfl (lv_at hl 4 rfl) ?_
          refine va_get (D := (dC, dI)) (ci := 8) (v := .ref m_st) (C := RX8) (T := TX8) (N := 24) hx hb hts i_X8_drift_X8 hown hK hP 0 rfl rfl 5 (by decide) (hts _ mx_X8_drift_1) (fun _ h9 => h9) rfl dX8_drift_112 ?_
          refine lv_bipush (v := 26) hx hb dX8_drift_115 (by decide) ?_
          refine lv_iload_n hx hb dX8_drift_117 rfl (lv_at hl 5 rfl) ?_
          refine lv_iadd hx hb dX8_drift_118 ?_
          refine lv_topi (fun v_99 e_99 => ?_)
          obtain rfl : v_99 = (nI (26 + i)) := (e_99).trans (nI_add 26 i)
          refine lv_iload hx hb dX8_drift_119 (lv_at hl 0 rfl) ?_
          refine lv_if_eq (tgt := 128) hx hb dX8_drift_121 (by decide) (fun c_ => absurd c_ (by decide)) (fun _ => ?_)
          refine lv_iconst (v := 2) hx hb dX8_drift_124 (by decide) ?_
          refine lv_goto (tgt := 129) hx hb dX8_drift_125 (by decide) ?_
          refine va_iast hx hb hK hP hD hS 1 0 rfl rfl (vp_in_nI (by omega) (by omega)) dX8_drift_129 (fun H locs hP hD hS => ?_)
          generalize hg_101 : upd fs ((nI (26 + i)) : Int32).toNatClampNeg 2 = g_101 at hP hD
          have hu_101 : g_101 = upd fs (26 + i) 2 := (by rw [← hg_101, nI_clamp (by omega)])
          have hM_101 : okM g_101 w9 k9 h9 := okM_off (i := (26 + i)) hM hg_101 (by omega) (by omega) (by omega) (by omega) (by omega)
          have hP : va_P (dC, dI) vwCl [(xo_8_rrriirrriiiiiiirrirrrrri mo m_la m_sz m_it ms mt m_st m_mv m_tp (nI mz) ml (nI mp) mk mv mb mw m_rd m_ac (nI ma) m_as m_wo m_ik m_ke m_tr (nI mx)), (xI m_st cI 38 g_101)] H := hP
          have hD := dto hP hD
          refine lv_aload_n hx hb dX8_drift_130 rfl (lv_at hl 4 rfl) ?_
          refine va_get (D := (dC, dI)) (ci := 8) (v := .ref m_st) (C := RX8) (T := TX8) (N := 24) hx hb hts i_X8_drift_X8 hown hK hP 0 rfl rfl 5 (by decide) (hts _ mx_X8_drift_1) (fun _ h9 => h9) rfl dX8_drift_131 ?_
          refine lv_bipush (v := 20) hx hb dX8_drift_134 (by decide) ?_
          refine lv_iload_n hx hb dX8_drift_136 rfl (lv_at hl 5 rfl) ?_
          refine lv_iadd hx hb dX8_drift_137 ?_
          refine lv_topi (fun v_102 e_102 => ?_)
          obtain rfl : v_102 = (nI (20 + i)) := (e_102).trans (nI_add 20 i)
          refine lv_iload hx hb dX8_drift_138 (lv_at hl 0 rfl) ?_
          refine lv_if_eq (tgt := 155) hx hb dX8_drift_140 (by decide) (fun c_ => absurd c_ (by decide)) (fun _ => ?_)
          refine lv_aload_n hx hb dX8_drift_143 rfl (lv_at hl 4 rfl) ?_
          refine va_get (D := (dC, dI)) (ci := 8) (v := .ref m_st) (C := RX8) (T := TX8) (N := 24) hx hb hts i_X8_drift_X8 hown hK hP 0 rfl rfl 5 (by decide) (hts _ mx_X8_drift_1) (fun _ h9 => h9) rfl dX8_drift_144 ?_
          refine lv_bipush (v := 20) hx hb dX8_drift_147 (by decide) ?_
          refine lv_iload_n hx hb dX8_drift_149 rfl (lv_at hl 5 rfl) ?_
          refine lv_iadd hx hb dX8_drift_150 ?_
          refine lv_topi (fun v_104 e_104 => ?_)
          obtain rfl : v_104 = (nI (20 + i)) := (e_104).trans (nI_add 20 i)
          refine va_iald hx hb hK hP 1 0 rfl rfl (vp_in_nI (by omega) (by omega)) dX8_drift_151 ?_
          refine lv_topi (fun v_105 e_105 => ?_)
          have e_105 : v_105 = g_101 (20 + i) := e_105.trans (congrArg g_101 (nI_clamp (by omega)))
          refine lv_goto (tgt := 157) hx hb dX8_drift_152 (by decide) ?_
          refine va_iast hx hb hK hP hD hS 1 0 rfl rfl (vp_in_nI (by omega) (by omega)) dX8_drift_157 (fun H locs hP hD hS => ?_)
          generalize hg_106 : upd g_101 ((nI (20 + i)) : Int32).toNatClampNeg v_105 = g_106 at hP hD
          have hu_106 : g_106 = upd g_101 (20 + i) v_105 := (by rw [← hg_106, nI_clamp (by omega)])
          have hM_106 : okM g_106 w9 k9 h9 := okM_off (i := (20 + i)) hM_101 hg_106 (by omega) (by omega) (by omega) (by omega) (by omega)
          have hP : va_P (dC, dI) vwCl [(xo_8_rrriirrriiiiiiirrirrrrri mo m_la m_sz m_it ms mt m_st m_mv m_tp (nI mz) ml (nI mp) mk mv mb mw m_rd m_ac (nI ma) m_as m_wo m_ik m_ke m_tr (nI mx)), (xI m_st cI 38 g_106)] H := hP
          have hD := dto hP hD
          refine lv_aload_n hx hb dX8_drift_158 rfl (lv_at hl 4 rfl) ?_
          refine va_get (D := (dC, dI)) (ci := 8) (v := .ref m_st) (C := RX8) (T := TX8) (N := 24) hx hb hts i_X8_drift_X8 hown hK hP 0 rfl rfl 5 (by decide) (hts _ mx_X8_drift_1) (fun _ h9 => h9) rfl dX8_drift_159 ?_
          refine lv_bipush (v := 32) hx hb dX8_drift_162 (by decide) ?_
          refine lv_iload_n hx hb dX8_drift_164 rfl (lv_at hl 5 rfl) ?_
          refine lv_iadd hx hb dX8_drift_165 ?_
          refine lv_topi (fun v_107 e_107 => ?_)
          obtain rfl : v_107 = (nI (32 + i)) := (e_107).trans (nI_add 32 i)
          refine lv_iload hx hb dX8_drift_166 (lv_at hl 0 rfl) ?_
          refine lv_if_eq (tgt := 183) hx hb dX8_drift_168 (by decide) (fun c_ => absurd c_ (by decide)) (fun _ => ?_)
          refine lv_aload_n hx hb dX8_drift_171 rfl (lv_at hl 4 rfl) ?_
          refine va_get (D := (dC, dI)) (ci := 8) (v := .ref m_st) (C := RX8) (T := TX8) (N := 24) hx hb hts i_X8_drift_X8 hown hK hP 0 rfl rfl 5 (by decide) (hts _ mx_X8_drift_1) (fun _ h9 => h9) rfl dX8_drift_172 ?_
          refine lv_bipush (v := 32) hx hb dX8_drift_175 (by decide) ?_
          refine lv_iload_n hx hb dX8_drift_177 rfl (lv_at hl 5 rfl) ?_
          refine lv_iadd hx hb dX8_drift_178 ?_
          refine lv_topi (fun v_109 e_109 => ?_)
          obtain rfl : v_109 = (nI (32 + i)) := (e_109).trans (nI_add 32 i)
          refine va_iald hx hb hK hP 1 0 rfl rfl (vp_in_nI (by omega) (by omega)) dX8_drift_179 ?_
          obtain ⟨L_110, hL1_110, hL2_110, hLe_110⟩ := hM_106.2.2.2.2.2.2.2 i (by omega)
          refine lv_topi (fun v_110 e_110 => ?_)
          obtain rfl : v_110 = nI L_110 := e_110.trans (by rw [nI_clamp (by omega)]; exact hLe_110)
          refine lv_goto (tgt := 185) hx hb dX8_drift_180 (by decide) ?_
          refine va_iast hx hb hK hP hD hS 1 0 rfl rfl (vp_in_nI (by omega) (by omega)) dX8_drift_185 (fun H locs hP hD hS => ?_)
          generalize hg_111 : upd g_106 ((nI (32 + i)) : Int32).toNatClampNeg (nI L_110) = g_111 at hP hD
          have hu_111 : g_111 = upd g_106 (32 + i) (nI L_110) := (by rw [← hg_111, nI_clamp (by omega)])
          have hM_111 : okM g_111 w9 k9 h9 := okM_loud hM_106 hg_111 (by omega) (by omega) (by omega)
          have hP : va_P (dC, dI) vwCl [(xo_8_rrriirrriiiiiiirrirrrrri mo m_la m_sz m_it ms mt m_st m_mv m_tp (nI mz) ml (nI mp) mk mv mb mw m_rd m_ac (nI ma) m_as m_wo m_ik m_ke m_tr (nI mx)), (xI m_st cI 38 g_111)] H := hP
          have hD := dto hP hD
          have hX9 := cut2 (wc := [(xo_8_rrriirrriiiiiiirrirrrrri mo m_la m_sz m_it ms mt m_st m_mv m_tp (nI mz) ml (nI mp) mk mv mb mw m_rd m_ac (nI ma) m_as m_wo m_ik m_ke m_tr (nI mx)), (xI m_st cI 38 g_111)]) hP hD [0, 1] (by decide +kernel) rfl
          exact W.vret hx hb hr (fun t ht hW => ⟨⟨(), rfl, trivial, ⟨g_111, va_Ht ht hX9.1, hX9.2, hM_111, (lf_X8_drift_7 hM hi e_2 e_4 h_5 e_6 c_7 c_8 hL1_51 hL2_51 hLe_51 c_52 f_97_0_0 hu_101 e_105 hu_106 hL1_110 hL2_110 hLe_110 hu_111)⟩⟩, hS.F ht⟩) hS.2.2 dX8_drift_186
        · subst h_97
          refine lv_if_eq (tgt := 104) hx hb dX8_drift_96 (by decide) (fun c_ => absurd c_ (by decide)) (fun _ => ?_)
          refine lv_iload hx hb dX8_drift_99 (lv_at hl 0 rfl) ?_
          refine lv_if_ne (tgt := 108) hx hb dX8_drift_101 (by decide) (fun c_113 => ?_) (fun c_113 => ?_)
          · have c_113 : ¬ ((L_51 + 1) = 0) := fun q_ => c_113 ((nI_eq (a := (L_51 + 1)) (b := 0) (by omega) (by omega)).mpr q_)
            refine lv_iconst (v := 0) hx hb dX8_drift_108 (by decide) ?_
            refine lv_istore (lv' := [(6, .int 0), (5, .int (nI (L_51 + 1))), (4, .int v_6), (3, .int v_2), (0, .ref mo), (1, .int (nI i)), (2, .int n)]) hx hb dX8_drift_109 hl (by decide) rfl (fun ls hl => ?_)
            refine lv_aload_n hx hb dX8_drift_111 rfl (lv_at hl 4 rfl) ?_
            refine va_get (D := (dC, dI)) (ci := 8) (v := .ref m_st) (C := RX8) (T := TX8) (N := 24) hx hb hts i_X8_drift_X8 hown hK hP 0 rfl rfl 5 (by decide) (hts _ mx_X8_drift_1) (fun _ h9 => h9) rfl dX8_drift_112 ?_
            refine lv_bipush (v := 26) hx hb dX8_drift_115 (by decide) ?_
            refine lv_iload_n hx hb dX8_drift_117 rfl (lv_at hl 5 rfl) ?_
            refine lv_iadd hx hb dX8_drift_118 ?_
            refine lv_topi (fun v_114 e_114 => ?_)
            obtain rfl : v_114 = (nI (26 + i)) := (e_114).trans (nI_add 26 i)
            refine lv_iload hx hb dX8_drift_119 (lv_at hl 0 rfl) ?_
            refine lv_if_eq (tgt := 128) hx hb dX8_drift_121 (by decide) (fun _ => ?_) (fun c_ => absurd (by decide) c_)
            refine lv_iconst (v := 0) hx hb dX8_drift_128 (by decide) ?_
            refine va_iast hx hb hK hP hD hS 1 0 rfl rfl (vp_in_nI (by omega) (by omega)) dX8_drift_129 (fun H locs hP hD hS => ?_)
            generalize hg_116 : upd fs ((nI (26 + i)) : Int32).toNatClampNeg 0 = g_116 at hP hD
            have hu_116 : g_116 = upd fs (26 + i) 0 := (by rw [← hg_116, nI_clamp (by omega)])
            have hM_116 : okM g_116 w9 k9 h9 := okM_off (i := (26 + i)) hM hg_116 (by omega) (by omega) (by omega) (by omega) (by omega)
            have hP : va_P (dC, dI) vwCl [(xo_8_rrriirrriiiiiiirrirrrrri mo m_la m_sz m_it ms mt m_st m_mv m_tp (nI mz) ml (nI mp) mk mv mb mw m_rd m_ac (nI ma) m_as m_wo m_ik m_ke m_tr (nI mx)), (xI m_st cI 38 g_116)] H := hP
            have hD := dto hP hD
            refine lv_aload_n hx hb dX8_drift_130 rfl (lv_at hl 4 rfl) ?_
            refine va_get (D := (dC, dI)) (ci := 8) (v := .ref m_st) (C := RX8) (T := TX8) (N := 24) hx hb hts i_X8_drift_X8 hown hK hP 0 rfl rfl 5 (by decide) (hts _ mx_X8_drift_1) (fun _ h9 => h9) rfl dX8_drift_131 ?_
            refine lv_bipush (v := 20) hx hb dX8_drift_134 (by decide) ?_
            refine lv_iload_n hx hb dX8_drift_136 rfl (lv_at hl 5 rfl) ?_
            refine lv_iadd hx hb dX8_drift_137 ?_
            refine lv_topi (fun v_117 e_117 => ?_)
            obtain rfl : v_117 = (nI (20 + i)) := (e_117).trans (nI_add 20 i)
            refine lv_iload hx hb dX8_drift_138 (lv_at hl 0 rfl) ?_
            refine lv_if_eq (tgt := 155) hx hb dX8_drift_140 (by decide) (fun _ => ?_) (fun c_ => absurd (by decide) c_)
            refine lv_iload hx hb dX8_drift_155 (lv_at hl 2 rfl) ?_
            refine va_iast hx hb hK hP hD hS 1 0 rfl rfl (vp_in_nI (by omega) (by omega)) dX8_drift_157 (fun H locs hP hD hS => ?_)
            generalize hg_119 : upd g_116 ((nI (20 + i)) : Int32).toNatClampNeg v_6 = g_119 at hP hD
            have hu_119 : g_119 = upd g_116 (20 + i) v_6 := (by rw [← hg_119, nI_clamp (by omega)])
            have hM_119 : okM g_119 w9 k9 h9 := okM_off (i := (20 + i)) hM_116 hg_119 (by omega) (by omega) (by omega) (by omega) (by omega)
            have hP : va_P (dC, dI) vwCl [(xo_8_rrriirrriiiiiiirrirrrrri mo m_la m_sz m_it ms mt m_st m_mv m_tp (nI mz) ml (nI mp) mk mv mb mw m_rd m_ac (nI ma) m_as m_wo m_ik m_ke m_tr (nI mx)), (xI m_st cI 38 g_119)] H := hP
            have hD := dto hP hD
            refine lv_aload_n hx hb dX8_drift_158 rfl (lv_at hl 4 rfl) ?_
            refine va_get (D := (dC, dI)) (ci := 8) (v := .ref m_st) (C := RX8) (T := TX8) (N := 24) hx hb hts i_X8_drift_X8 hown hK hP 0 rfl rfl 5 (by decide) (hts _ mx_X8_drift_1) (fun _ h9 => h9) rfl dX8_drift_159 ?_
            refine lv_bipush (v := 32) hx hb dX8_drift_162 (by decide) ?_
            refine lv_iload_n hx hb dX8_drift_164 rfl (lv_at hl 5 rfl) ?_
            refine lv_iadd hx hb dX8_drift_165 ?_
            refine lv_topi (fun v_120 e_120 => ?_)
            obtain rfl : v_120 = (nI (32 + i)) := (e_120).trans (nI_add 32 i)
            refine lv_iload hx hb dX8_drift_166 (lv_at hl 0 rfl) ?_
            refine lv_if_eq (tgt := 183) hx hb dX8_drift_168 (by decide) (fun _ => ?_) (fun c_ => absurd (by decide) c_)
            refine lv_iload hx hb dX8_drift_183 (lv_at hl 1 rfl) ?_
            refine va_iast hx hb hK hP hD hS 1 0 rfl rfl (vp_in_nI (by omega) (by omega)) dX8_drift_185 (fun H locs hP hD hS => ?_)
            generalize hg_122 : upd g_119 ((nI (32 + i)) : Int32).toNatClampNeg (nI (L_51 + 1)) = g_122 at hP hD
            have hu_122 : g_122 = upd g_119 (32 + i) (nI (L_51 + 1)) := (by rw [← hg_122, nI_clamp (by omega)])
            have hM_122 : okM g_122 w9 k9 h9 := okM_loud hM_119 hg_122 (by omega) (by omega) (by omega)
            have hP : va_P (dC, dI) vwCl [(xo_8_rrriirrriiiiiiirrirrrrri mo m_la m_sz m_it ms mt m_st m_mv m_tp (nI mz) ml (nI mp) mk mv mb mw m_rd m_ac (nI ma) m_as m_wo m_ik m_ke m_tr (nI mx)), (xI m_st cI 38 g_122)] H := hP
            have hD := dto hP hD
            have hX9 := cut2 (wc := [(xo_8_rrriirrriiiiiiirrirrrrri mo m_la m_sz m_it ms mt m_st m_mv m_tp (nI mz) ml (nI mp) mk mv mb mw m_rd m_ac (nI ma) m_as m_wo m_ik m_ke m_tr (nI mx)), (xI m_st cI 38 g_122)]) hP hD [0, 1] (by decide +kernel) rfl
            exact W.vret hx hb hr (fun t ht hW => ⟨⟨(), rfl, trivial, ⟨g_122, va_Ht ht hX9.1, hX9.2, hM_122, (lf_X8_drift_8 hM hi e_2 e_4 h_5 e_6 c_7 c_8 hL1_51 hL2_51 hLe_51 c_52 f_97_1_0 c_113 hu_116 hu_119 hu_122)⟩⟩, hS.F ht⟩) hS.2.2 dX8_drift_186
          · have c_113 : (L_51 + 1) = 0 := (nI_eq (a := (L_51 + 1)) (b := 0) (by omega) (by omega)).mp c_113
            refine lv_iconst (v := 1) hx hb dX8_drift_104 (by decide) ?_
            refine lv_goto (tgt := 109) hx hb dX8_drift_105 (by decide) ?_
            refine lv_istore (lv' := [(6, .int 1), (5, .int (nI (L_51 + 1))), (4, .int v_6), (3, .int v_2), (0, .ref mo), (1, .int (nI i)), (2, .int n)]) hx hb dX8_drift_109 hl (by decide) rfl (fun ls hl => ?_)
            refine lv_aload_n hx hb dX8_drift_111 rfl (lv_at hl 4 rfl) ?_
            refine va_get (D := (dC, dI)) (ci := 8) (v := .ref m_st) (C := RX8) (T := TX8) (N := 24) hx hb hts i_X8_drift_X8 hown hK hP 0 rfl rfl 5 (by decide) (hts _ mx_X8_drift_1) (fun _ h9 => h9) rfl dX8_drift_112 ?_
            refine lv_bipush (v := 26) hx hb dX8_drift_115 (by decide) ?_
            refine lv_iload_n hx hb dX8_drift_117 rfl (lv_at hl 5 rfl) ?_
            refine lv_iadd hx hb dX8_drift_118 ?_
            refine lv_topi (fun v_123 e_123 => ?_)
            obtain rfl : v_123 = (nI (26 + i)) := (e_123).trans (nI_add 26 i)
            refine lv_iload hx hb dX8_drift_119 (lv_at hl 0 rfl) ?_
            refine lv_if_eq (tgt := 128) hx hb dX8_drift_121 (by decide) (fun c_ => absurd c_ (by decide)) (fun _ => ?_)
            refine lv_iconst (v := 2) hx hb dX8_drift_124 (by decide) ?_
            refine lv_goto (tgt := 129) hx hb dX8_drift_125 (by decide) ?_
            refine va_iast hx hb hK hP hD hS 1 0 rfl rfl (vp_in_nI (by omega) (by omega)) dX8_drift_129 (fun H locs hP hD hS => ?_)
            generalize hg_125 : upd fs ((nI (26 + i)) : Int32).toNatClampNeg 2 = g_125 at hP hD
            have hu_125 : g_125 = upd fs (26 + i) 2 := (by rw [← hg_125, nI_clamp (by omega)])
            have hM_125 : okM g_125 w9 k9 h9 := okM_off (i := (26 + i)) hM hg_125 (by omega) (by omega) (by omega) (by omega) (by omega)
            have hP : va_P (dC, dI) vwCl [(xo_8_rrriirrriiiiiiirrirrrrri mo m_la m_sz m_it ms mt m_st m_mv m_tp (nI mz) ml (nI mp) mk mv mb mw m_rd m_ac (nI ma) m_as m_wo m_ik m_ke m_tr (nI mx)), (xI m_st cI 38 g_125)] H := hP
            have hD := dto hP hD
            refine lv_aload_n hx hb dX8_drift_130 rfl (lv_at hl 4 rfl) ?_
            refine va_get (D := (dC, dI)) (ci := 8) (v := .ref m_st) (C := RX8) (T := TX8) (N := 24) hx hb hts i_X8_drift_X8 hown hK hP 0 rfl rfl 5 (by decide) (hts _ mx_X8_drift_1) (fun _ h9 => h9) rfl dX8_drift_131 ?_
            refine lv_bipush (v := 20) hx hb dX8_drift_134 (by decide) ?_
            refine lv_iload_n hx hb dX8_drift_136 rfl (lv_at hl 5 rfl) ?_
            refine lv_iadd hx hb dX8_drift_137 ?_
            refine lv_topi (fun v_126 e_126 => ?_)
            obtain rfl : v_126 = (nI (20 + i)) := (e_126).trans (nI_add 20 i)
            refine lv_iload hx hb dX8_drift_138 (lv_at hl 0 rfl) ?_
            refine lv_if_eq (tgt := 155) hx hb dX8_drift_140 (by decide) (fun c_ => absurd c_ (by decide)) (fun _ => ?_)
            refine lv_aload_n hx hb dX8_drift_143 rfl (lv_at hl 4 rfl) ?_
            refine va_get (D := (dC, dI)) (ci := 8) (v := .ref m_st) (C := RX8) (T := TX8) (N := 24) hx hb hts i_X8_drift_X8 hown hK hP 0 rfl rfl 5 (by decide) (hts _ mx_X8_drift_1) (fun _ h9 => h9) rfl dX8_drift_144 ?_
            refine lv_bipush (v := 20) hx hb dX8_drift_147 (by decide) ?_
            refine lv_iload_n hx hb dX8_drift_149 rfl (lv_at hl 5 rfl) ?_
            refine lv_iadd hx hb dX8_drift_150 ?_
            refine lv_topi (fun v_128 e_128 => ?_)
            obtain rfl : v_128 = (nI (20 + i)) := (e_128).trans (nI_add 20 i)
            refine va_iald hx hb hK hP 1 0 rfl rfl (vp_in_nI (by omega) (by omega)) dX8_drift_151 ?_
            refine lv_topi (fun v_129 e_129 => ?_)
            have e_129 : v_129 = g_125 (20 + i) := e_129.trans (congrArg g_125 (nI_clamp (by omega)))
            refine lv_goto (tgt := 157) hx hb dX8_drift_152 (by decide) ?_
            refine va_iast hx hb hK hP hD hS 1 0 rfl rfl (vp_in_nI (by omega) (by omega)) dX8_drift_157 (fun H locs hP hD hS => ?_)
            generalize hg_130 : upd g_125 ((nI (20 + i)) : Int32).toNatClampNeg v_129 = g_130 at hP hD
            have hu_130 : g_130 = upd g_125 (20 + i) v_129 := (by rw [← hg_130, nI_clamp (by omega)])
            have hM_130 : okM g_130 w9 k9 h9 := okM_off (i := (20 + i)) hM_125 hg_130 (by omega) (by omega) (by omega) (by omega) (by omega)
            have hP : va_P (dC, dI) vwCl [(xo_8_rrriirrriiiiiiirrirrrrri mo m_la m_sz m_it ms mt m_st m_mv m_tp (nI mz) ml (nI mp) mk mv mb mw m_rd m_ac (nI ma) m_as m_wo m_ik m_ke m_tr (nI mx)), (xI m_st cI 38 g_130)] H := hP
            have hD := dto hP hD
            refine lv_aload_n hx hb dX8_drift_158 rfl (lv_at hl 4 rfl) ?_
            refine va_get (D := (dC, dI)) (ci := 8) (v := .ref m_st) (C := RX8) (T := TX8) (N := 24) hx hb hts i_X8_drift_X8 hown hK hP 0 rfl rfl 5 (by decide) (hts _ mx_X8_drift_1) (fun _ h9 => h9) rfl dX8_drift_159 ?_
            refine lv_bipush (v := 32) hx hb dX8_drift_162 (by decide) ?_
            refine lv_iload_n hx hb dX8_drift_164 rfl (lv_at hl 5 rfl) ?_
            refine lv_iadd hx hb dX8_drift_165 ?_
            refine lv_topi (fun v_131 e_131 => ?_)
            obtain rfl : v_131 = (nI (32 + i)) := (e_131).trans (nI_add 32 i)
            refine lv_iload hx hb dX8_drift_166 (lv_at hl 0 rfl) ?_
            refine lv_if_eq (tgt := 183) hx hb dX8_drift_168 (by decide) (fun c_ => absurd c_ (by decide)) (fun _ => ?_)
            refine lv_aload_n hx hb dX8_drift_171 rfl (lv_at hl 4 rfl) ?_
            refine va_get (D := (dC, dI)) (ci := 8) (v := .ref m_st) (C := RX8) (T := TX8) (N := 24) hx hb hts i_X8_drift_X8 hown hK hP 0 rfl rfl 5 (by decide) (hts _ mx_X8_drift_1) (fun _ h9 => h9) rfl dX8_drift_172 ?_
            refine lv_bipush (v := 32) hx hb dX8_drift_175 (by decide) ?_
            refine lv_iload_n hx hb dX8_drift_177 rfl (lv_at hl 5 rfl) ?_
            refine lv_iadd hx hb dX8_drift_178 ?_
            refine lv_topi (fun v_133 e_133 => ?_)
            obtain rfl : v_133 = (nI (32 + i)) := (e_133).trans (nI_add 32 i)
            refine va_iald hx hb hK hP 1 0 rfl rfl (vp_in_nI (by omega) (by omega)) dX8_drift_179 ?_
            obtain ⟨L_134, hL1_134, hL2_134, hLe_134⟩ := hM_130.2.2.2.2.2.2.2 i (by omega)
            refine lv_topi (fun v_134 e_134 => ?_)
            obtain rfl : v_134 = nI L_134 := e_134.trans (by rw [nI_clamp (by omega)]; exact hLe_134)
            refine lv_goto (tgt := 185) hx hb dX8_drift_180 (by decide) ?_
            refine va_iast hx hb hK hP hD hS 1 0 rfl rfl (vp_in_nI (by omega) (by omega)) dX8_drift_185 (fun H locs hP hD hS => ?_)
            generalize hg_135 : upd g_130 ((nI (32 + i)) : Int32).toNatClampNeg (nI L_134) = g_135 at hP hD
            have hu_135 : g_135 = upd g_130 (32 + i) (nI L_134) := (by rw [← hg_135, nI_clamp (by omega)])
            have hM_135 : okM g_135 w9 k9 h9 := okM_loud hM_130 hg_135 (by omega) (by omega) (by omega)
            have hP : va_P (dC, dI) vwCl [(xo_8_rrriirrriiiiiiirrirrrrri mo m_la m_sz m_it ms mt m_st m_mv m_tp (nI mz) ml (nI mp) mk mv mb mw m_rd m_ac (nI ma) m_as m_wo m_ik m_ke m_tr (nI mx)), (xI m_st cI 38 g_135)] H := hP
            have hD := dto hP hD
            have hX9 := cut2 (wc := [(xo_8_rrriirrriiiiiiirrirrrrri mo m_la m_sz m_it ms mt m_st m_mv m_tp (nI mz) ml (nI mp) mk mv mb mw m_rd m_ac (nI ma) m_as m_wo m_ik m_ke m_tr (nI mx)), (xI m_st cI 38 g_135)]) hP hD [0, 1] (by decide +kernel) rfl
            exact W.vret hx hb hr (fun t ht hW => ⟨⟨(), rfl, trivial, ⟨g_135, va_Ht ht hX9.1, hX9.2, hM_135, (lf_X8_drift_9 hM hi e_2 e_4 h_5 e_6 c_7 c_8 hL1_51 hL2_51 hLe_51 c_52 f_97_1_0 c_113 hu_125 e_129 hu_130 hL1_134 hL2_134 hLe_134 hu_135)⟩⟩, hS.F ht⟩) hS.2.2 dX8_drift_186
  · skip
    refine lv_aload_n hx hb dX8_drift_32 rfl (lv_at hl 2 rfl) ?_
    refine va_get (D := (dC, dI)) (ci := 8) (v := .ref m_st) (C := RX8) (T := TX8) (N := 24) hx hb hts i_X8_drift_X8 hown hK hP 0 rfl rfl 5 (by decide) (hts _ mx_X8_drift_1) (fun _ h9 => h9) rfl dX8_drift_33 ?_
    refine lv_bipush (v := 32) hx hb dX8_drift_36 (by decide) ?_
    refine lv_iload_n hx hb dX8_drift_38 rfl (lv_at hl 3 rfl) ?_
    refine lv_iadd hx hb dX8_drift_39 ?_
    refine lv_topi (fun v_136 e_136 => ?_)
    obtain rfl : v_136 = (nI (32 + i)) := (e_136).trans (nI_add 32 i)
    refine va_iald hx hb hK hP 1 0 rfl rfl (vp_in_nI (by omega) (by omega)) dX8_drift_40 ?_
    obtain ⟨L_137, hL1_137, hL2_137, hLe_137⟩ := hM.2.2.2.2.2.2.2 i (by omega)
    refine lv_topi (fun v_137 e_137 => ?_)
    obtain rfl : v_137 = nI L_137 := e_137.trans (by rw [nI_clamp (by omega)]; exact hLe_137)
    refine lv_iconst (v := 1) hx hb dX8_drift_41 (by decide) ?_
    refine lv_isub hx hb dX8_drift_42 ?_
    refine lv_topi (fun v_138 e_138 => ?_)
    obtain rfl : v_138 = (nI (L_137 - 1)) := (e_138).trans (pk_sub (a := L_137) (b := 1) (by omega))
    refine lv_goto (tgt := 88) hx hb dX8_drift_43 (by decide) ?_
    refine lv_istore (lv' := [(5, .int (nI (L_137 - 1))), (4, .int v_6), (3, .int v_2), (0, .ref mo), (1, .int (nI i)), (2, .int n)]) hx hb dX8_drift_88 hl (by decide) rfl (fun ls hl => ?_)
    refine lv_aload_n hx hb dX8_drift_90 rfl (lv_at hl 3 rfl) ?_
    refine lv_iload hx hb dX8_drift_91 (lv_at hl 1 rfl) ?_
    have hPc_139 := hP
    refine vp_callSi (W.runV (As := [.int v_6]) (rest := []) ⟨hx, hb, hml, hown, hts⟩ (r_X8_isCell l dC dI cI cZ cL cJ mo m_la m_sz m_it m_st m_mv m_tp m_rd m_ac m_as m_wo m_ik m_ke m_tr ms mt ml mk mv mb mw mz mp ma mx fs w9 k9 h9 v_6 (hM)) (cwV 1 hts gX8_drift_X8_isCell rfl rfl rfl (by decide +kernel) ⟨Nat.le_of_ble_eq_true rfl, Nat.le_of_ble_eq_true rfl⟩) (pvP 8 0 hK hP rfl rfl hPc_139) rfl rfl hl.1 rfl (lv_room (Nat.le_of_ble_eq_true rfl)) dX8_drift_93 ⟨Nat.le_of_ble_eq_true rfl, Nat.le_of_ble_eq_true rfl⟩) (fun r_139 h_139 => ?_)
    rcases h_139 with ⟨h_139, f_139_0_0⟩ | ⟨h_139, f_139_1_0⟩
    · subst h_139
      refine lv_if_eq (tgt := 104) hx hb dX8_drift_96 (by decide) (fun _ => ?_) (fun c_ => absurd (by decide) c_)
      refine lv_iconst (v := 1) hx hb dX8_drift_104 (by decide) ?_
      refine lv_goto (tgt := 109) hx hb dX8_drift_105 (by decide) ?_
      refine lv_istore (lv' := [(6, .int 1), (5, .int (nI (L_137 - 1))), (4, .int v_6), (3, .int v_2), (0, .ref mo), (1, .int (nI i)), (2, .int n)]) hx hb dX8_drift_109 hl (by decide) rfl (fun ls hl => ?_)
      refine lv_aload_n hx hb dX8_drift_111 rfl (lv_at hl 4 rfl) ?_
      refine va_get (D := (dC, dI)) (ci := 8) (v := .ref m_st) (C := RX8) (T := TX8) (N := 24) hx hb hts i_X8_drift_X8 hown hK hP 0 rfl rfl 5 (by decide) (hts _ mx_X8_drift_1) (fun _ h9 => h9) rfl dX8_drift_112 ?_
      refine lv_bipush (v := 26) hx hb dX8_drift_115 (by decide) ?_
      refine lv_iload_n hx hb dX8_drift_117 rfl (lv_at hl 5 rfl) ?_
      refine lv_iadd hx hb dX8_drift_118 ?_
      refine lv_topi (fun v_141 e_141 => ?_)
      obtain rfl : v_141 = (nI (26 + i)) := (e_141).trans (nI_add 26 i)
      refine lv_iload hx hb dX8_drift_119 (lv_at hl 0 rfl) ?_
      refine lv_if_eq (tgt := 128) hx hb dX8_drift_121 (by decide) (fun c_ => absurd c_ (by decide)) (fun _ => ?_)
      refine lv_iconst (v := 2) hx hb dX8_drift_124 (by decide) ?_
      refine lv_goto (tgt := 129) hx hb dX8_drift_125 (by decide) ?_
      refine va_iast hx hb hK hP hD hS 1 0 rfl rfl (vp_in_nI (by omega) (by omega)) dX8_drift_129 (fun H locs hP hD hS => ?_)
      generalize hg_143 : upd fs ((nI (26 + i)) : Int32).toNatClampNeg 2 = g_143 at hP hD
      have hu_143 : g_143 = upd fs (26 + i) 2 := (by rw [← hg_143, nI_clamp (by omega)])
      have hM_143 : okM g_143 w9 k9 h9 := okM_off (i := (26 + i)) hM hg_143 (by omega) (by omega) (by omega) (by omega) (by omega)
      have hP : va_P (dC, dI) vwCl [(xo_8_rrriirrriiiiiiirrirrrrri mo m_la m_sz m_it ms mt m_st m_mv m_tp (nI mz) ml (nI mp) mk mv mb mw m_rd m_ac (nI ma) m_as m_wo m_ik m_ke m_tr (nI mx)), (xI m_st cI 38 g_143)] H := hP
      have hD := dto hP hD
      refine lv_aload_n hx hb dX8_drift_130 rfl (lv_at hl 4 rfl) ?_
      refine va_get (D := (dC, dI)) (ci := 8) (v := .ref m_st) (C := RX8) (T := TX8) (N := 24) hx hb hts i_X8_drift_X8 hown hK hP 0 rfl rfl 5 (by decide) (hts _ mx_X8_drift_1) (fun _ h9 => h9) rfl dX8_drift_131 ?_
      refine lv_bipush (v := 20) hx hb dX8_drift_134 (by decide) ?_
      refine lv_iload_n hx hb dX8_drift_136 rfl (lv_at hl 5 rfl) ?_
      refine lv_iadd hx hb dX8_drift_137 ?_
      refine lv_topi (fun v_144 e_144 => ?_)
      obtain rfl : v_144 = (nI (20 + i)) := (e_144).trans (nI_add 20 i)
      refine lv_iload hx hb dX8_drift_138 (lv_at hl 0 rfl) ?_
      refine lv_if_eq (tgt := 155) hx hb dX8_drift_140 (by decide) (fun c_ => absurd c_ (by decide)) (fun _ => ?_)
      refine lv_aload_n hx hb dX8_drift_143 rfl (lv_at hl 4 rfl) ?_
      refine va_get (D := (dC, dI)) (ci := 8) (v := .ref m_st) (C := RX8) (T := TX8) (N := 24) hx hb hts i_X8_drift_X8 hown hK hP 0 rfl rfl 5 (by decide) (hts _ mx_X8_drift_1) (fun _ h9 => h9) rfl dX8_drift_144 ?_
      refine lv_bipush (v := 20) hx hb dX8_drift_147 (by decide) ?_
      refine lv_iload_n hx hb dX8_drift_149 rfl (lv_at hl 5 rfl) ?_
      refine lv_iadd hx hb dX8_drift_150 ?_
      refine lv_topi (fun v_146 e_146 => ?_)
      obtain rfl : v_146 = (nI (20 + i)) := (e_146).trans (nI_add 20 i)
      refine va_iald hx hb hK hP 1 0 rfl rfl (vp_in_nI (by omega) (by omega)) dX8_drift_151 ?_
      refine lv_topi (fun v_147 e_147 => ?_)
      have e_147 : v_147 = g_143 (20 + i) := e_147.trans (congrArg g_143 (nI_clamp (by omega)))
      refine lv_goto (tgt := 157) hx hb dX8_drift_152 (by decide) ?_
      refine va_iast hx hb hK hP hD hS 1 0 rfl rfl (vp_in_nI (by omega) (by omega)) dX8_drift_157 (fun H locs hP hD hS => ?_)
      generalize hg_148 : upd g_143 ((nI (20 + i)) : Int32).toNatClampNeg v_147 = g_148 at hP hD
      have hu_148 : g_148 = upd g_143 (20 + i) v_147 := (by rw [← hg_148, nI_clamp (by omega)])
      have hM_148 : okM g_148 w9 k9 h9 := okM_off (i := (20 + i)) hM_143 hg_148 (by omega) (by omega) (by omega) (by omega) (by omega)
      have hP : va_P (dC, dI) vwCl [(xo_8_rrriirrriiiiiiirrirrrrri mo m_la m_sz m_it ms mt m_st m_mv m_tp (nI mz) ml (nI mp) mk mv mb mw m_rd m_ac (nI ma) m_as m_wo m_ik m_ke m_tr (nI mx)), (xI m_st cI 38 g_148)] H := hP
      have hD := dto hP hD
      refine lv_aload_n hx hb dX8_drift_158 rfl (lv_at hl 4 rfl) ?_
      refine va_get (D := (dC, dI)) (ci := 8) (v := .ref m_st) (C := RX8) (T := TX8) (N := 24) hx hb hts i_X8_drift_X8 hown hK hP 0 rfl rfl 5 (by decide) (hts _ mx_X8_drift_1) (fun _ h9 => h9) rfl dX8_drift_159 ?_
      refine lv_bipush (v := 32) hx hb dX8_drift_162 (by decide) ?_
      refine lv_iload_n hx hb dX8_drift_164 rfl (lv_at hl 5 rfl) ?_
      refine lv_iadd hx hb dX8_drift_165 ?_
      refine lv_topi (fun v_149 e_149 => ?_)
      obtain rfl : v_149 = (nI (32 + i)) := (e_149).trans (nI_add 32 i)
      refine lv_iload hx hb dX8_drift_166 (lv_at hl 0 rfl) ?_
      refine lv_if_eq (tgt := 183) hx hb dX8_drift_168 (by decide) (fun c_ => absurd c_ (by decide)) (fun _ => ?_)
      refine lv_aload_n hx hb dX8_drift_171 rfl (lv_at hl 4 rfl) ?_
      refine va_get (D := (dC, dI)) (ci := 8) (v := .ref m_st) (C := RX8) (T := TX8) (N := 24) hx hb hts i_X8_drift_X8 hown hK hP 0 rfl rfl 5 (by decide) (hts _ mx_X8_drift_1) (fun _ h9 => h9) rfl dX8_drift_172 ?_
      refine lv_bipush (v := 32) hx hb dX8_drift_175 (by decide) ?_
      refine lv_iload_n hx hb dX8_drift_177 rfl (lv_at hl 5 rfl) ?_
      refine lv_iadd hx hb dX8_drift_178 ?_
      refine lv_topi (fun v_151 e_151 => ?_)
      obtain rfl : v_151 = (nI (32 + i)) := (e_151).trans (nI_add 32 i)
      refine va_iald hx hb hK hP 1 0 rfl rfl (vp_in_nI (by omega) (by omega)) dX8_drift_179 ?_
      obtain ⟨L_152, hL1_152, hL2_152, hLe_152⟩ := hM_148.2.2.2.2.2.2.2 i (by omega)
      refine lv_topi (fun v_152 e_152 => ?_)
      obtain rfl : v_152 = nI L_152 := e_152.trans (by rw [nI_clamp (by omega)]; exact hLe_152)
      refine lv_goto (tgt := 185) hx hb dX8_drift_180 (by decide) ?_
      refine va_iast hx hb hK hP hD hS 1 0 rfl rfl (vp_in_nI (by omega) (by omega)) dX8_drift_185 (fun H locs hP hD hS => ?_)
      generalize hg_153 : upd g_148 ((nI (32 + i)) : Int32).toNatClampNeg (nI L_152) = g_153 at hP hD
      have hu_153 : g_153 = upd g_148 (32 + i) (nI L_152) := (by rw [← hg_153, nI_clamp (by omega)])
      have hM_153 : okM g_153 w9 k9 h9 := okM_loud hM_148 hg_153 (by omega) (by omega) (by omega)
      have hP : va_P (dC, dI) vwCl [(xo_8_rrriirrriiiiiiirrirrrrri mo m_la m_sz m_it ms mt m_st m_mv m_tp (nI mz) ml (nI mp) mk mv mb mw m_rd m_ac (nI ma) m_as m_wo m_ik m_ke m_tr (nI mx)), (xI m_st cI 38 g_153)] H := hP
      have hD := dto hP hD
      have hX9 := cut2 (wc := [(xo_8_rrriirrriiiiiiirrirrrrri mo m_la m_sz m_it ms mt m_st m_mv m_tp (nI mz) ml (nI mp) mk mv mb mw m_rd m_ac (nI ma) m_as m_wo m_ik m_ke m_tr (nI mx)), (xI m_st cI 38 g_153)]) hP hD [0, 1] (by decide +kernel) rfl
      exact W.vret hx hb hr (fun t ht hW => ⟨⟨(), rfl, trivial, ⟨g_153, va_Ht ht hX9.1, hX9.2, hM_153, (lf_X8_drift_10 hM hi e_2 e_4 h_5 e_6 c_7 hL1_137 hL2_137 hLe_137 f_139_0_0 hu_143 e_147 hu_148 hL1_152 hL2_152 hLe_152 hu_153)⟩⟩, hS.F ht⟩) hS.2.2 dX8_drift_186
    · subst h_139
      refine lv_if_eq (tgt := 104) hx hb dX8_drift_96 (by decide) (fun c_ => absurd c_ (by decide)) (fun _ => ?_)
      refine lv_iload hx hb dX8_drift_99 (lv_at hl 0 rfl) ?_
      refine lv_if_ne (tgt := 108) hx hb dX8_drift_101 (by decide) (fun c_155 => ?_) (fun c_155 => ?_)
      · have c_155 : ¬ ((L_137 - 1) = 0) := fun q_ => c_155 ((nI_eq (a := (L_137 - 1)) (b := 0) (by omega) (by omega)).mpr q_)
        refine lv_iconst (v := 0) hx hb dX8_drift_108 (by decide) ?_
        refine lv_istore (lv' := [(6, .int 0), (5, .int (nI (L_137 - 1))), (4, .int v_6), (3, .int v_2), (0, .ref mo), (1, .int (nI i)), (2, .int n)]) hx hb dX8_drift_109 hl (by decide) rfl (fun ls hl => ?_)
        refine lv_aload_n hx hb dX8_drift_111 rfl (lv_at hl 4 rfl) ?_
        refine va_get (D := (dC, dI)) (ci := 8) (v := .ref m_st) (C := RX8) (T := TX8) (N := 24) hx hb hts i_X8_drift_X8 hown hK hP 0 rfl rfl 5 (by decide) (hts _ mx_X8_drift_1) (fun _ h9 => h9) rfl dX8_drift_112 ?_
        refine lv_bipush (v := 26) hx hb dX8_drift_115 (by decide) ?_
        refine lv_iload_n hx hb dX8_drift_117 rfl (lv_at hl 5 rfl) ?_
        refine lv_iadd hx hb dX8_drift_118 ?_
        refine lv_topi (fun v_156 e_156 => ?_)
        obtain rfl : v_156 = (nI (26 + i)) := (e_156).trans (nI_add 26 i)
        refine lv_iload hx hb dX8_drift_119 (lv_at hl 0 rfl) ?_
        refine lv_if_eq (tgt := 128) hx hb dX8_drift_121 (by decide) (fun _ => ?_) (fun c_ => absurd (by decide) c_)
        refine lv_iconst (v := 0) hx hb dX8_drift_128 (by decide) ?_
        refine va_iast hx hb hK hP hD hS 1 0 rfl rfl (vp_in_nI (by omega) (by omega)) dX8_drift_129 (fun H locs hP hD hS => ?_)
        generalize hg_158 : upd fs ((nI (26 + i)) : Int32).toNatClampNeg 0 = g_158 at hP hD
        have hu_158 : g_158 = upd fs (26 + i) 0 := (by rw [← hg_158, nI_clamp (by omega)])
        have hM_158 : okM g_158 w9 k9 h9 := okM_off (i := (26 + i)) hM hg_158 (by omega) (by omega) (by omega) (by omega) (by omega)
        have hP : va_P (dC, dI) vwCl [(xo_8_rrriirrriiiiiiirrirrrrri mo m_la m_sz m_it ms mt m_st m_mv m_tp (nI mz) ml (nI mp) mk mv mb mw m_rd m_ac (nI ma) m_as m_wo m_ik m_ke m_tr (nI mx)), (xI m_st cI 38 g_158)] H := hP
        have hD := dto hP hD
        refine lv_aload_n hx hb dX8_drift_130 rfl (lv_at hl 4 rfl) ?_
        refine va_get (D := (dC, dI)) (ci := 8) (v := .ref m_st) (C := RX8) (T := TX8) (N := 24) hx hb hts i_X8_drift_X8 hown hK hP 0 rfl rfl 5 (by decide) (hts _ mx_X8_drift_1) (fun _ h9 => h9) rfl dX8_drift_131 ?_
        refine lv_bipush (v := 20) hx hb dX8_drift_134 (by decide) ?_
        refine lv_iload_n hx hb dX8_drift_136 rfl (lv_at hl 5 rfl) ?_
        refine lv_iadd hx hb dX8_drift_137 ?_
        refine lv_topi (fun v_159 e_159 => ?_)
        obtain rfl : v_159 = (nI (20 + i)) := (e_159).trans (nI_add 20 i)
        refine lv_iload hx hb dX8_drift_138 (lv_at hl 0 rfl) ?_
        refine lv_if_eq (tgt := 155) hx hb dX8_drift_140 (by decide) (fun _ => ?_) (fun c_ => absurd (by decide) c_)
        refine lv_iload hx hb dX8_drift_155 (lv_at hl 2 rfl) ?_
        refine va_iast hx hb hK hP hD hS 1 0 rfl rfl (vp_in_nI (by omega) (by omega)) dX8_drift_157 (fun H locs hP hD hS => ?_)
        generalize hg_161 : upd g_158 ((nI (20 + i)) : Int32).toNatClampNeg v_6 = g_161 at hP hD
        have hu_161 : g_161 = upd g_158 (20 + i) v_6 := (by rw [← hg_161, nI_clamp (by omega)])
        have hM_161 : okM g_161 w9 k9 h9 := okM_off (i := (20 + i)) hM_158 hg_161 (by omega) (by omega) (by omega) (by omega) (by omega)
        have hP : va_P (dC, dI) vwCl [(xo_8_rrriirrriiiiiiirrirrrrri mo m_la m_sz m_it ms mt m_st m_mv m_tp (nI mz) ml (nI mp) mk mv mb mw m_rd m_ac (nI ma) m_as m_wo m_ik m_ke m_tr (nI mx)), (xI m_st cI 38 g_161)] H := hP
        have hD := dto hP hD
        refine lv_aload_n hx hb dX8_drift_158 rfl (lv_at hl 4 rfl) ?_
        refine va_get (D := (dC, dI)) (ci := 8) (v := .ref m_st) (C := RX8) (T := TX8) (N := 24) hx hb hts i_X8_drift_X8 hown hK hP 0 rfl rfl 5 (by decide) (hts _ mx_X8_drift_1) (fun _ h9 => h9) rfl dX8_drift_159 ?_
        refine lv_bipush (v := 32) hx hb dX8_drift_162 (by decide) ?_
        refine lv_iload_n hx hb dX8_drift_164 rfl (lv_at hl 5 rfl) ?_
        refine lv_iadd hx hb dX8_drift_165 ?_
        refine lv_topi (fun v_162 e_162 => ?_)
        obtain rfl : v_162 = (nI (32 + i)) := (e_162).trans (nI_add 32 i)
        refine lv_iload hx hb dX8_drift_166 (lv_at hl 0 rfl) ?_
        refine lv_if_eq (tgt := 183) hx hb dX8_drift_168 (by decide) (fun _ => ?_) (fun c_ => absurd (by decide) c_)
        refine lv_iload hx hb dX8_drift_183 (lv_at hl 1 rfl) ?_
        refine va_iast hx hb hK hP hD hS 1 0 rfl rfl (vp_in_nI (by omega) (by omega)) dX8_drift_185 (fun H locs hP hD hS => ?_)
        generalize hg_164 : upd g_161 ((nI (32 + i)) : Int32).toNatClampNeg (nI (L_137 - 1)) = g_164 at hP hD
        have hu_164 : g_164 = upd g_161 (32 + i) (nI (L_137 - 1)) := (by rw [← hg_164, nI_clamp (by omega)])
        have hM_164 : okM g_164 w9 k9 h9 := okM_loud hM_161 hg_164 (by omega) (by omega) (by omega)
        have hP : va_P (dC, dI) vwCl [(xo_8_rrriirrriiiiiiirrirrrrri mo m_la m_sz m_it ms mt m_st m_mv m_tp (nI mz) ml (nI mp) mk mv mb mw m_rd m_ac (nI ma) m_as m_wo m_ik m_ke m_tr (nI mx)), (xI m_st cI 38 g_164)] H := hP
        have hD := dto hP hD
        have hX9 := cut2 (wc := [(xo_8_rrriirrriiiiiiirrirrrrri mo m_la m_sz m_it ms mt m_st m_mv m_tp (nI mz) ml (nI mp) mk mv mb mw m_rd m_ac (nI ma) m_as m_wo m_ik m_ke m_tr (nI mx)), (xI m_st cI 38 g_164)]) hP hD [0, 1] (by decide +kernel) rfl
        exact W.vret hx hb hr (fun t ht hW => ⟨⟨(), rfl, trivial, ⟨g_164, va_Ht ht hX9.1, hX9.2, hM_164, (lf_X8_drift_11 hM hi e_2 e_4 h_5 e_6 c_7 hL1_137 hL2_137 hLe_137 f_139_1_0 c_155 hu_158 hu_161 hu_164)⟩⟩, hS.F ht⟩) hS.2.2 dX8_drift_186
      · have c_155 : (L_137 - 1) = 0 := (nI_eq (a := (L_137 - 1)) (b := 0) (by omega) (by omega)).mp c_155
        refine lv_iconst (v := 1) hx hb dX8_drift_104 (by decide) ?_
        refine lv_goto (tgt := 109) hx hb dX8_drift_105 (by decide) ?_
        refine lv_istore (lv' := [(6, .int 1), (5, .int (nI (L_137 - 1))), (4, .int v_6), (3, .int v_2), (0, .ref mo), (1, .int (nI i)), (2, .int n)]) hx hb dX8_drift_109 hl (by decide) rfl (fun ls hl => ?_)
        refine lv_aload_n hx hb dX8_drift_111 rfl (lv_at hl 4 rfl) ?_
        refine va_get (D := (dC, dI)) (ci := 8) (v := .ref m_st) (C := RX8) (T := TX8) (N := 24) hx hb hts i_X8_drift_X8 hown hK hP 0 rfl rfl 5 (by decide) (hts _ mx_X8_drift_1) (fun _ h9 => h9) rfl dX8_drift_112 ?_
        refine lv_bipush (v := 26) hx hb dX8_drift_115 (by decide) ?_
        refine lv_iload_n hx hb dX8_drift_117 rfl (lv_at hl 5 rfl) ?_
        refine lv_iadd hx hb dX8_drift_118 ?_
        refine lv_topi (fun v_165 e_165 => ?_)
        obtain rfl : v_165 = (nI (26 + i)) := (e_165).trans (nI_add 26 i)
        refine lv_iload hx hb dX8_drift_119 (lv_at hl 0 rfl) ?_
        refine lv_if_eq (tgt := 128) hx hb dX8_drift_121 (by decide) (fun c_ => absurd c_ (by decide)) (fun _ => ?_)
        refine lv_iconst (v := 2) hx hb dX8_drift_124 (by decide) ?_
        refine lv_goto (tgt := 129) hx hb dX8_drift_125 (by decide) ?_
        refine va_iast hx hb hK hP hD hS 1 0 rfl rfl (vp_in_nI (by omega) (by omega)) dX8_drift_129 (fun H locs hP hD hS => ?_)
        generalize hg_167 : upd fs ((nI (26 + i)) : Int32).toNatClampNeg 2 = g_167 at hP hD
        have hu_167 : g_167 = upd fs (26 + i) 2 := (by rw [← hg_167, nI_clamp (by omega)])
        have hM_167 : okM g_167 w9 k9 h9 := okM_off (i := (26 + i)) hM hg_167 (by omega) (by omega) (by omega) (by omega) (by omega)
        have hP : va_P (dC, dI) vwCl [(xo_8_rrriirrriiiiiiirrirrrrri mo m_la m_sz m_it ms mt m_st m_mv m_tp (nI mz) ml (nI mp) mk mv mb mw m_rd m_ac (nI ma) m_as m_wo m_ik m_ke m_tr (nI mx)), (xI m_st cI 38 g_167)] H := hP
        have hD := dto hP hD
        refine lv_aload_n hx hb dX8_drift_130 rfl (lv_at hl 4 rfl) ?_
        refine va_get (D := (dC, dI)) (ci := 8) (v := .ref m_st) (C := RX8) (T := TX8) (N := 24) hx hb hts i_X8_drift_X8 hown hK hP 0 rfl rfl 5 (by decide) (hts _ mx_X8_drift_1) (fun _ h9 => h9) rfl dX8_drift_131 ?_
        refine lv_bipush (v := 20) hx hb dX8_drift_134 (by decide) ?_
        refine lv_iload_n hx hb dX8_drift_136 rfl (lv_at hl 5 rfl) ?_
        refine lv_iadd hx hb dX8_drift_137 ?_
        refine lv_topi (fun v_168 e_168 => ?_)
        obtain rfl : v_168 = (nI (20 + i)) := (e_168).trans (nI_add 20 i)
        refine lv_iload hx hb dX8_drift_138 (lv_at hl 0 rfl) ?_
        refine lv_if_eq (tgt := 155) hx hb dX8_drift_140 (by decide) (fun c_ => absurd c_ (by decide)) (fun _ => ?_)
        refine lv_aload_n hx hb dX8_drift_143 rfl (lv_at hl 4 rfl) ?_
        refine va_get (D := (dC, dI)) (ci := 8) (v := .ref m_st) (C := RX8) (T := TX8) (N := 24) hx hb hts i_X8_drift_X8 hown hK hP 0 rfl rfl 5 (by decide) (hts _ mx_X8_drift_1) (fun _ h9 => h9) rfl dX8_drift_144 ?_
        refine lv_bipush (v := 20) hx hb dX8_drift_147 (by decide) ?_
        refine lv_iload_n hx hb dX8_drift_149 rfl (lv_at hl 5 rfl) ?_
        refine lv_iadd hx hb dX8_drift_150 ?_
        refine lv_topi (fun v_170 e_170 => ?_)
        obtain rfl : v_170 = (nI (20 + i)) := (e_170).trans (nI_add 20 i)
        refine va_iald hx hb hK hP 1 0 rfl rfl (vp_in_nI (by omega) (by omega)) dX8_drift_151 ?_
        refine lv_topi (fun v_171 e_171 => ?_)
        have e_171 : v_171 = g_167 (20 + i) := e_171.trans (congrArg g_167 (nI_clamp (by omega)))
        refine lv_goto (tgt := 157) hx hb dX8_drift_152 (by decide) ?_
        refine va_iast hx hb hK hP hD hS 1 0 rfl rfl (vp_in_nI (by omega) (by omega)) dX8_drift_157 (fun H locs hP hD hS => ?_)
        generalize hg_172 : upd g_167 ((nI (20 + i)) : Int32).toNatClampNeg v_171 = g_172 at hP hD
        have hu_172 : g_172 = upd g_167 (20 + i) v_171 := (by rw [← hg_172, nI_clamp (by omega)])
        have hM_172 : okM g_172 w9 k9 h9 := okM_off (i := (20 + i)) hM_167 hg_172 (by omega) (by omega) (by omega) (by omega) (by omega)
        have hP : va_P (dC, dI) vwCl [(xo_8_rrriirrriiiiiiirrirrrrri mo m_la m_sz m_it ms mt m_st m_mv m_tp (nI mz) ml (nI mp) mk mv mb mw m_rd m_ac (nI ma) m_as m_wo m_ik m_ke m_tr (nI mx)), (xI m_st cI 38 g_172)] H := hP
        have hD := dto hP hD
        refine lv_aload_n hx hb dX8_drift_158 rfl (lv_at hl 4 rfl) ?_
        refine va_get (D := (dC, dI)) (ci := 8) (v := .ref m_st) (C := RX8) (T := TX8) (N := 24) hx hb hts i_X8_drift_X8 hown hK hP 0 rfl rfl 5 (by decide) (hts _ mx_X8_drift_1) (fun _ h9 => h9) rfl dX8_drift_159 ?_
        refine lv_bipush (v := 32) hx hb dX8_drift_162 (by decide) ?_
        refine lv_iload_n hx hb dX8_drift_164 rfl (lv_at hl 5 rfl) ?_
        refine lv_iadd hx hb dX8_drift_165 ?_
        refine lv_topi (fun v_173 e_173 => ?_)
        obtain rfl : v_173 = (nI (32 + i)) := (e_173).trans (nI_add 32 i)
        refine lv_iload hx hb dX8_drift_166 (lv_at hl 0 rfl) ?_
        refine lv_if_eq (tgt := 183) hx hb dX8_drift_168 (by decide) (fun c_ => absurd c_ (by decide)) (fun _ => ?_)
        refine lv_aload_n hx hb dX8_drift_171 rfl (lv_at hl 4 rfl) ?_
        refine va_get (D := (dC, dI)) (ci := 8) (v := .ref m_st) (C := RX8) (T := TX8) (N := 24) hx hb hts i_X8_drift_X8 hown hK hP 0 rfl rfl 5 (by decide) (hts _ mx_X8_drift_1) (fun _ h9 => h9) rfl dX8_drift_172 ?_
        refine lv_bipush (v := 32) hx hb dX8_drift_175 (by decide) ?_
        refine lv_iload_n hx hb dX8_drift_177 rfl (lv_at hl 5 rfl) ?_
        refine lv_iadd hx hb dX8_drift_178 ?_
        refine lv_topi (fun v_175 e_175 => ?_)
        obtain rfl : v_175 = (nI (32 + i)) := (e_175).trans (nI_add 32 i)
        refine va_iald hx hb hK hP 1 0 rfl rfl (vp_in_nI (by omega) (by omega)) dX8_drift_179 ?_
        obtain ⟨L_176, hL1_176, hL2_176, hLe_176⟩ := hM_172.2.2.2.2.2.2.2 i (by omega)
        refine lv_topi (fun v_176 e_176 => ?_)
        obtain rfl : v_176 = nI L_176 := e_176.trans (by rw [nI_clamp (by omega)]; exact hLe_176)
        refine lv_goto (tgt := 185) hx hb dX8_drift_180 (by decide) ?_
        refine va_iast hx hb hK hP hD hS 1 0 rfl rfl (vp_in_nI (by omega) (by omega)) dX8_drift_185 (fun H locs hP hD hS => ?_)
        generalize hg_177 : upd g_172 ((nI (32 + i)) : Int32).toNatClampNeg (nI L_176) = g_177 at hP hD
        have hu_177 : g_177 = upd g_172 (32 + i) (nI L_176) := (by rw [← hg_177, nI_clamp (by omega)])
        have hM_177 : okM g_177 w9 k9 h9 := okM_loud hM_172 hg_177 (by omega) (by omega) (by omega)
        have hP : va_P (dC, dI) vwCl [(xo_8_rrriirrriiiiiiirrirrrrri mo m_la m_sz m_it ms mt m_st m_mv m_tp (nI mz) ml (nI mp) mk mv mb mw m_rd m_ac (nI ma) m_as m_wo m_ik m_ke m_tr (nI mx)), (xI m_st cI 38 g_177)] H := hP
        have hD := dto hP hD
        have hX9 := cut2 (wc := [(xo_8_rrriirrriiiiiiirrirrrrri mo m_la m_sz m_it ms mt m_st m_mv m_tp (nI mz) ml (nI mp) mk mv mb mw m_rd m_ac (nI ma) m_as m_wo m_ik m_ke m_tr (nI mx)), (xI m_st cI 38 g_177)]) hP hD [0, 1] (by decide +kernel) rfl
        exact W.vret hx hb hr (fun t ht hW => ⟨⟨(), rfl, trivial, ⟨g_177, va_Ht ht hX9.1, hX9.2, hM_177, (lf_X8_drift_12 hM hi e_2 e_4 h_5 e_6 c_7 hL1_137 hL2_137 hLe_137 f_139_1_0 c_155 hu_167 e_171 hu_172 hL1_176 hL2_176 hLe_176 hu_177)⟩⟩, hS.F ht⟩) hS.2.2 dX8_drift_186
theorem lf_X8_oneHour_1 {fs : Nat → Int32} {w9 : Nat} {k9 : Nat} {h9 : Nat} {r_2 : Int32} {v_3 : Int32} {w_34 : Int32} {w_35 : Nat → Int32} {ii : Nat} {v_71 : Int32} {v_74 : Int32} (hM : okM fs w9 k9 h9) (hw1 : 1 ≤ w9) (hh9 : h9 < 2000000000) (hmW : mW fs = fs (8 + h9 % w9) ∧ (fs 4).toNatClampNeg = k9 ∧ fs 5 = nI h9) (h_2 : r_2 = (fs (8 + h9 % w9))) (e_3 : v_3 = (r_2 - 2)) (hii : ii < k9) (haf_0 : (mHs (mW fs - 2) ii (fs, 0) = (w_35, w_34))) (hMl : okM w_35 w9 k9 h9) (e_71 : v_71 = w_35 (26 + ii)) (c_72 : ¬ (v_71 = 0)) (e_74 : v_74 = w_35 (26 + ii)) (c_75 : ¬ (v_74 = 0)) : mHs (mW fs - 2) (ii + 1) (fs, 0) = (w_35, w_34) := by
  have hn : mW fs - 2 = v_3 := by rw [hmW.1, e_3, h_2]
  rw [hn] at haf_0 ⊢
  first
  | exact oh_1 haf_0 (mSt_n (by rw [← e_71]; assumption))
  | (exfalso; exact c_72 (e_71.trans (e_74.symm.trans c_75)))
  | exact oh_1 haf_0 (mSt_l (by rw [← e_71]; assumption) (by assumption) (Or.inl (by rw [← e_87]; assumption)))
  | exact oh_1 haf_0 (mSt_l (by rw [← e_71]; assumption) (by assumption) (Or.inr (Or.inl (by assumption))))
  | exact oh_1 haf_0 (mSt_l (by rw [← e_71]; assumption) (by assumption) (Or.inr (Or.inr (by assumption))))
  | exact oh_1 haf_0 (mSt_g (by rw [← e_71]; assumption) (by assumption) (by rw [← e_87]; assumption) (by assumption) (by assumption) (by assumption) (by assumption) (by assumption))
theorem lf_X8_oneHour_2 {fs : Nat → Int32} {w9 : Nat} {k9 : Nat} {h9 : Nat} {r_2 : Int32} {v_3 : Int32} {w_34 : Int32} {w_35 : Nat → Int32} {ii : Nat} {v_71 : Int32} {v_74 : Int32} (hM : okM fs w9 k9 h9) (hw1 : 1 ≤ w9) (hh9 : h9 < 2000000000) (hmW : mW fs = fs (8 + h9 % w9) ∧ (fs 4).toNatClampNeg = k9 ∧ fs 5 = nI h9) (h_2 : r_2 = (fs (8 + h9 % w9))) (e_3 : v_3 = (r_2 - 2)) (hii : ii < k9) (haf_0 : (mHs (mW fs - 2) ii (fs, 0) = (w_35, w_34))) (hMl : okM w_35 w9 k9 h9) (e_71 : v_71 = w_35 (26 + ii)) (c_72 : ¬ (v_71 = 0)) (e_74 : v_74 = w_35 (26 + ii)) (c_75 : v_74 = 0) (c_76 : v_3 = 0) : mHs (mW fs - 2) (ii + 1) (fs, 0) = (w_35, w_34) := by
  have hn : mW fs - 2 = v_3 := by rw [hmW.1, e_3, h_2]
  rw [hn] at haf_0 ⊢
  first
  | exact oh_1 haf_0 (mSt_n (by rw [← e_71]; assumption))
  | (exfalso; exact c_72 (e_71.trans (e_74.symm.trans c_75)))
  | exact oh_1 haf_0 (mSt_l (by rw [← e_71]; assumption) (by assumption) (Or.inl (by rw [← e_87]; assumption)))
  | exact oh_1 haf_0 (mSt_l (by rw [← e_71]; assumption) (by assumption) (Or.inr (Or.inl (by assumption))))
  | exact oh_1 haf_0 (mSt_l (by rw [← e_71]; assumption) (by assumption) (Or.inr (Or.inr (by assumption))))
  | exact oh_1 haf_0 (mSt_g (by rw [← e_71]; assumption) (by assumption) (by rw [← e_87]; assumption) (by assumption) (by assumption) (by assumption) (by assumption) (by assumption))
theorem lf_X8_oneHour_3 {fs : Nat → Int32} {w9 : Nat} {k9 : Nat} {h9 : Nat} {r_2 : Int32} {v_3 : Int32} {w_34 : Int32} {w_35 : Nat → Int32} {ii : Nat} {v_71 : Int32} {v_74 : Int32} (hM : okM fs w9 k9 h9) (hw1 : 1 ≤ w9) (hh9 : h9 < 2000000000) (hmW : mW fs = fs (8 + h9 % w9) ∧ (fs 4).toNatClampNeg = k9 ∧ fs 5 = nI h9) (h_2 : r_2 = (fs (8 + h9 % w9))) (e_3 : v_3 = (r_2 - 2)) (hii : ii < k9) (haf_0 : (mHs (mW fs - 2) ii (fs, 0) = (w_35, w_34))) (hMl : okM w_35 w9 k9 h9) (e_71 : v_71 = w_35 (26 + ii)) (c_72 : ¬ (v_71 = 0)) (e_74 : v_74 = w_35 (26 + ii)) (c_75 : v_74 = 0) (c_76 : ¬ (v_3 = 0)) (f_77_0_0 : ¬ amM w_35 ii) : mHs (mW fs - 2) (ii + 1) (fs, 0) = (w_35, w_34) := by
  have hn : mW fs - 2 = v_3 := by rw [hmW.1, e_3, h_2]
  rw [hn] at haf_0 ⊢
  first
  | exact oh_1 haf_0 (mSt_n (by rw [← e_71]; assumption))
  | (exfalso; exact c_72 (e_71.trans (e_74.symm.trans c_75)))
  | exact oh_1 haf_0 (mSt_l (by rw [← e_71]; assumption) (by assumption) (Or.inl (by rw [← e_87]; assumption)))
  | exact oh_1 haf_0 (mSt_l (by rw [← e_71]; assumption) (by assumption) (Or.inr (Or.inl (by assumption))))
  | exact oh_1 haf_0 (mSt_l (by rw [← e_71]; assumption) (by assumption) (Or.inr (Or.inr (by assumption))))
  | exact oh_1 haf_0 (mSt_g (by rw [← e_71]; assumption) (by assumption) (by rw [← e_87]; assumption) (by assumption) (by assumption) (by assumption) (by assumption) (by assumption))
theorem lf_X8_oneHour_4 {fs : Nat → Int32} {w9 : Nat} {k9 : Nat} {h9 : Nat} {r_2 : Int32} {v_3 : Int32} {w_34 : Int32} {w_35 : Nat → Int32} {ii : Nat} {v_71 : Int32} {v_74 : Int32} {g_81 : Nat → Int32} {v_83 : Int32} {v_84 : Int32} (hM : okM fs w9 k9 h9) (hw1 : 1 ≤ w9) (hh9 : h9 < 2000000000) (hmW : mW fs = fs (8 + h9 % w9) ∧ (fs 4).toNatClampNeg = k9 ∧ fs 5 = nI h9) (h_2 : r_2 = (fs (8 + h9 % w9))) (e_3 : v_3 = (r_2 - 2)) (hii : ii < k9) (haf_0 : (mHs (mW fs - 2) ii (fs, 0) = (w_35, w_34))) (hMl : okM w_35 w9 k9 h9) (e_71 : v_71 = w_35 (26 + ii)) (c_72 : ¬ (v_71 = 0)) (e_74 : v_74 = w_35 (26 + ii)) (c_75 : v_74 = 0) (c_76 : ¬ (v_3 = 0)) (f_77_1_0 : amM w_35 ii) (hu_81 : g_81 = upd w_35 (26 + ii) 1) (e_83 : v_83 = g_81 (32 + ii)) (e_84 : v_84 = (w_34 + v_83)) : mHs (mW fs - 2) (ii + 1) (fs, 0) = (g_81, v_84) := by
  have hn : mW fs - 2 = v_3 := by rw [hmW.1, e_3, h_2]
  rw [hn] at haf_0 ⊢
  first
  | exact oh_1 haf_0 (mSt_n (by rw [← e_71]; assumption))
  | (exfalso; exact c_72 (e_71.trans (e_74.symm.trans c_75)))
  | exact oh_1 haf_0 (mSt_l (by rw [← e_71]; assumption) (by assumption) (Or.inl (by rw [← e_87]; assumption)))
  | exact oh_1 haf_0 (mSt_l (by rw [← e_71]; assumption) (by assumption) (Or.inr (Or.inl (by assumption))))
  | exact oh_1 haf_0 (mSt_l (by rw [← e_71]; assumption) (by assumption) (Or.inr (Or.inr (by assumption))))
  | exact oh_1 haf_0 (mSt_g (by rw [← e_71]; assumption) (by assumption) (by rw [← e_87]; assumption) (by assumption) (by assumption) (by assumption) (by assumption) (by assumption))
theorem lf_X8_oneHour_5 {fs : Nat → Int32} {w9 : Nat} {k9 : Nat} {h9 : Nat} {r_2 : Int32} {v_3 : Int32} {w_34 : Int32} {w_35 : Nat → Int32} {ii : Nat} {v_71 : Int32} {fsn_85 : Nat → Int32} {v_87 : Int32} (hM : okM fs w9 k9 h9) (hw1 : 1 ≤ w9) (hh9 : h9 < 2000000000) (hmW : mW fs = fs (8 + h9 % w9) ∧ (fs 4).toNatClampNeg = k9 ∧ fs 5 = nI h9) (h_2 : r_2 = (fs (8 + h9 % w9))) (e_3 : v_3 = (r_2 - 2)) (hii : ii < k9) (haf_0 : (mHs (mW fs - 2) ii (fs, 0) = (w_35, w_34))) (hMl : okM w_35 w9 k9 h9) (e_71 : v_71 = w_35 (26 + ii)) (c_72 : v_71 = 0) (hF_85_0 : okM fsn_85 w9 k9 h9) (hF_85_1 : fsn_85 = mDr w_35 ii v_3) (e_87 : v_87 = fsn_85 (26 + ii)) (c_88 : ¬ (v_87 = 0)) : mHs (mW fs - 2) (ii + 1) (fs, 0) = (fsn_85, w_34) := by
  have hn : mW fs - 2 = v_3 := by rw [hmW.1, e_3, h_2]
  rw [hn] at haf_0 ⊢
  first
  | exact oh_1 haf_0 (mSt_n (by rw [← e_71]; assumption))
  | (exfalso; exact c_72 (e_71.trans (e_74.symm.trans c_75)))
  | exact oh_1 haf_0 (mSt_l (by rw [← e_71]; assumption) (by assumption) (Or.inl (by rw [← e_87]; assumption)))
  | exact oh_1 haf_0 (mSt_l (by rw [← e_71]; assumption) (by assumption) (Or.inr (Or.inl (by assumption))))
  | exact oh_1 haf_0 (mSt_l (by rw [← e_71]; assumption) (by assumption) (Or.inr (Or.inr (by assumption))))
  | exact oh_1 haf_0 (mSt_g (by rw [← e_71]; assumption) (by assumption) (by rw [← e_87]; assumption) (by assumption) (by assumption) (by assumption) (by assumption) (by assumption))
theorem lf_X8_oneHour_6 {fs : Nat → Int32} {w9 : Nat} {k9 : Nat} {h9 : Nat} {r_2 : Int32} {v_3 : Int32} {w_34 : Int32} {w_35 : Nat → Int32} {ii : Nat} {v_71 : Int32} {fsn_85 : Nat → Int32} {v_87 : Int32} (hM : okM fs w9 k9 h9) (hw1 : 1 ≤ w9) (hh9 : h9 < 2000000000) (hmW : mW fs = fs (8 + h9 % w9) ∧ (fs 4).toNatClampNeg = k9 ∧ fs 5 = nI h9) (h_2 : r_2 = (fs (8 + h9 % w9))) (e_3 : v_3 = (r_2 - 2)) (hii : ii < k9) (haf_0 : (mHs (mW fs - 2) ii (fs, 0) = (w_35, w_34))) (hMl : okM w_35 w9 k9 h9) (e_71 : v_71 = w_35 (26 + ii)) (c_72 : v_71 = 0) (hF_85_0 : okM fsn_85 w9 k9 h9) (hF_85_1 : fsn_85 = mDr w_35 ii v_3) (e_87 : v_87 = fsn_85 (26 + ii)) (c_88 : v_87 = 0) (c_89 : v_3 = 0) : mHs (mW fs - 2) (ii + 1) (fs, 0) = (fsn_85, w_34) := by
  have hn : mW fs - 2 = v_3 := by rw [hmW.1, e_3, h_2]
  rw [hn] at haf_0 ⊢
  first
  | exact oh_1 haf_0 (mSt_n (by rw [← e_71]; assumption))
  | (exfalso; exact c_72 (e_71.trans (e_74.symm.trans c_75)))
  | exact oh_1 haf_0 (mSt_l (by rw [← e_71]; assumption) (by assumption) (Or.inl (by rw [← e_87]; assumption)))
  | exact oh_1 haf_0 (mSt_l (by rw [← e_71]; assumption) (by assumption) (Or.inr (Or.inl (by assumption))))
  | exact oh_1 haf_0 (mSt_l (by rw [← e_71]; assumption) (by assumption) (Or.inr (Or.inr (by assumption))))
  | exact oh_1 haf_0 (mSt_g (by rw [← e_71]; assumption) (by assumption) (by rw [← e_87]; assumption) (by assumption) (by assumption) (by assumption) (by assumption) (by assumption))
theorem lf_X8_oneHour_7 {fs : Nat → Int32} {w9 : Nat} {k9 : Nat} {h9 : Nat} {r_2 : Int32} {v_3 : Int32} {w_34 : Int32} {w_35 : Nat → Int32} {ii : Nat} {v_71 : Int32} {fsn_85 : Nat → Int32} {v_87 : Int32} (hM : okM fs w9 k9 h9) (hw1 : 1 ≤ w9) (hh9 : h9 < 2000000000) (hmW : mW fs = fs (8 + h9 % w9) ∧ (fs 4).toNatClampNeg = k9 ∧ fs 5 = nI h9) (h_2 : r_2 = (fs (8 + h9 % w9))) (e_3 : v_3 = (r_2 - 2)) (hii : ii < k9) (haf_0 : (mHs (mW fs - 2) ii (fs, 0) = (w_35, w_34))) (hMl : okM w_35 w9 k9 h9) (e_71 : v_71 = w_35 (26 + ii)) (c_72 : v_71 = 0) (hF_85_0 : okM fsn_85 w9 k9 h9) (hF_85_1 : fsn_85 = mDr w_35 ii v_3) (e_87 : v_87 = fsn_85 (26 + ii)) (c_88 : v_87 = 0) (c_89 : ¬ (v_3 = 0)) (f_90_0_0 : ¬ amM fsn_85 ii) : mHs (mW fs - 2) (ii + 1) (fs, 0) = (fsn_85, w_34) := by
  have hn : mW fs - 2 = v_3 := by rw [hmW.1, e_3, h_2]
  rw [hn] at haf_0 ⊢
  first
  | exact oh_1 haf_0 (mSt_n (by rw [← e_71]; assumption))
  | (exfalso; exact c_72 (e_71.trans (e_74.symm.trans c_75)))
  | exact oh_1 haf_0 (mSt_l (by rw [← e_71]; assumption) (by assumption) (Or.inl (by rw [← e_87]; assumption)))
  | exact oh_1 haf_0 (mSt_l (by rw [← e_71]; assumption) (by assumption) (Or.inr (Or.inl (by assumption))))
  | exact oh_1 haf_0 (mSt_l (by rw [← e_71]; assumption) (by assumption) (Or.inr (Or.inr (by assumption))))
  | exact oh_1 haf_0 (mSt_g (by rw [← e_71]; assumption) (by assumption) (by rw [← e_87]; assumption) (by assumption) (by assumption) (by assumption) (by assumption) (by assumption))
theorem lf_X8_oneHour_8 {fs : Nat → Int32} {w9 : Nat} {k9 : Nat} {h9 : Nat} {r_2 : Int32} {v_3 : Int32} {w_34 : Int32} {w_35 : Nat → Int32} {ii : Nat} {v_71 : Int32} {fsn_85 : Nat → Int32} {v_87 : Int32} {g_94 : Nat → Int32} {v_96 : Int32} {v_97 : Int32} (hM : okM fs w9 k9 h9) (hw1 : 1 ≤ w9) (hh9 : h9 < 2000000000) (hmW : mW fs = fs (8 + h9 % w9) ∧ (fs 4).toNatClampNeg = k9 ∧ fs 5 = nI h9) (h_2 : r_2 = (fs (8 + h9 % w9))) (e_3 : v_3 = (r_2 - 2)) (hii : ii < k9) (haf_0 : (mHs (mW fs - 2) ii (fs, 0) = (w_35, w_34))) (hMl : okM w_35 w9 k9 h9) (e_71 : v_71 = w_35 (26 + ii)) (c_72 : v_71 = 0) (hF_85_0 : okM fsn_85 w9 k9 h9) (hF_85_1 : fsn_85 = mDr w_35 ii v_3) (e_87 : v_87 = fsn_85 (26 + ii)) (c_88 : v_87 = 0) (c_89 : ¬ (v_3 = 0)) (f_90_1_0 : amM fsn_85 ii) (hu_94 : g_94 = upd fsn_85 (26 + ii) 1) (e_96 : v_96 = g_94 (32 + ii)) (e_97 : v_97 = (w_34 + v_96)) : mHs (mW fs - 2) (ii + 1) (fs, 0) = (g_94, v_97) := by
  have hn : mW fs - 2 = v_3 := by rw [hmW.1, e_3, h_2]
  rw [hn] at haf_0 ⊢
  first
  | exact oh_1 haf_0 (mSt_n (by rw [← e_71]; assumption))
  | (exfalso; exact c_72 (e_71.trans (e_74.symm.trans c_75)))
  | exact oh_1 haf_0 (mSt_l (by rw [← e_71]; assumption) (by assumption) (Or.inl (by rw [← e_87]; assumption)))
  | exact oh_1 haf_0 (mSt_l (by rw [← e_71]; assumption) (by assumption) (Or.inr (Or.inl (by assumption))))
  | exact oh_1 haf_0 (mSt_l (by rw [← e_71]; assumption) (by assumption) (Or.inr (Or.inr (by assumption))))
  | exact oh_1 haf_0 (mSt_g (by rw [← e_71]; assumption) (by assumption) (by rw [← e_87]; assumption) (by assumption) (by assumption) (by assumption) (by assumption) (by assumption))
theorem lf_X8_oneHour_9 {fs : Nat → Int32} {w9 : Nat} {k9 : Nat} {h9 : Nat} {r_2 : Int32} {v_3 : Int32} {w_34 : Int32} {w_35 : Nat → Int32} {v_100 : Int32} {v_101 : Int32} {v_103 : Int32} {v_104 : Int32} {g_105 : Nat → Int32} {g_108 : Nat → Int32} (hM : okM fs w9 k9 h9) (hw1 : 1 ≤ w9) (hh9 : h9 < 2000000000) (hmW : mW fs = fs (8 + h9 % w9) ∧ (fs 4).toNatClampNeg = k9 ∧ fs 5 = nI h9) (h_2 : r_2 = (fs (8 + h9 % w9))) (e_3 : v_3 = (r_2 - 2)) (haf_0 : (mHs (mW fs - 2) k9 (fs, 0) = (w_35, w_34))) (hMl : okM w_35 w9 k9 h9) (e_100 : v_100 = w_35 7) (e_101 : v_101 = (v_100 + w_34)) (c_102 : v_101 ≤ 999) (e_103 : v_103 = w_35 7) (e_104 : v_104 = (v_103 + w_34)) (hu_105 : g_105 = upd w_35 7 v_104) (hu_108 : g_108 = upd g_105 5 (nI (h9 + 1))) : g_108 = mH fs := by
  subst_vars
  first
  | exact oh_e1 hmW.2.1 haf_0 hMl.2.2.1 (by assumption)
  | exact oh_e2 hmW.2.1 haf_0 hMl.2.2.1 (by assumption)
theorem lf_X8_oneHour_10 {fs : Nat → Int32} {w9 : Nat} {k9 : Nat} {h9 : Nat} {r_2 : Int32} {v_3 : Int32} {w_34 : Int32} {w_35 : Nat → Int32} {v_100 : Int32} {v_101 : Int32} {g_109 : Nat → Int32} {g_112 : Nat → Int32} (hM : okM fs w9 k9 h9) (hw1 : 1 ≤ w9) (hh9 : h9 < 2000000000) (hmW : mW fs = fs (8 + h9 % w9) ∧ (fs 4).toNatClampNeg = k9 ∧ fs 5 = nI h9) (h_2 : r_2 = (fs (8 + h9 % w9))) (e_3 : v_3 = (r_2 - 2)) (haf_0 : (mHs (mW fs - 2) k9 (fs, 0) = (w_35, w_34))) (hMl : okM w_35 w9 k9 h9) (e_100 : v_100 = w_35 7) (e_101 : v_101 = (v_100 + w_34)) (c_102 : ¬ (v_101 ≤ 999)) (hu_109 : g_109 = upd w_35 7 999) (hu_112 : g_112 = upd g_109 5 (nI (h9 + 1))) : g_112 = mH fs := by
  subst_vars
  first
  | exact oh_e1 hmW.2.1 haf_0 hMl.2.2.1 (by assumption)
  | exact oh_e2 hmW.2.1 haf_0 hMl.2.2.1 (by assumption)
set_option maxHeartbeats 4000000 in
set_option maxRecDepth 100000 in
theorem r_X8_oneHour (l : Launch) (dC : Nat → ClassId) (dI : Nat → Nat → Nat) (cI cZ cL cJ : ClassId) (sz : Nat) (mo : Nat) (m_la : Nat) (m_sz : Nat) (m_it : Nat) (m_st : Nat) (m_mv : Nat) (m_tp : Nat) (m_rd : Nat) (m_ac : Nat) (m_as : Nat) (m_wo : Nat) (m_ik : Nat) (m_ke : Nat) (m_tr : Nat) (ms : Int32) (mt : Int32) (ml : Int32) (mk : Int32) (mv : Int32) (mb : Int32) (mw : Int32) (mz : Nat) (mp : Nat) (ma : Nat) (mx : Nat) (fs : Nat → Int32) (w9 : Nat) (k9 : Nat) (h9 : Nat) (hM : okM fs w9 k9 h9) (hw1 : 1 ≤ w9) (hh9 : h9 < 2000000000) : Met l yX8_oneHour wsX8_oneHour ({ frames := 3, cells := 0, slots := 0, locals := 72 }) (va_Pc [.ref mo] (fun U => U.heap.size = sz ∧ va_P (dC, dI) vwCl [(xo_8_rrriirrriiiiiiirrirrrrri mo m_la m_sz m_it ms mt m_st m_mv m_tp (nI mz) ml (nI mp) mk mv mb mw m_rd m_ac (nI ma) m_as m_wo m_ik m_ke m_tr (nI mx)), (xI m_st cI 38 fs)] U.heap ∧ va_K (dC, dI) vwCl [(cI, .int), (cZ, .boolean), (cL, .object RX3), (cJ, .array .int)] U ∧ va_D (fun _ => True) [(xo_8_rrriirrriiiiiiirrirrrrri mo m_la m_sz m_it ms mt m_st m_mv m_tp (nI mz) ml (nI mp) mk mv mb mw m_rd m_ac (nI ma) m_as m_wo m_ik m_ke m_tr (nI mx)), (xI m_st cI 38 fs)])) (va_Qi (fun r (_ : Unit) => True) (fun (_ : Unit) t => ∃ (fsn : Nat → Int32), va_P (dC, dI) vwCl [(xo_8_rrriirrriiiiiiirrirrrrri mo m_la m_sz m_it ms mt m_st m_mv m_tp (nI mz) ml (nI mp) mk mv mb mw m_rd m_ac (nI ma) m_as m_wo m_ik m_ke m_tr (nI mx)), (xI m_st cI 38 fsn)] t.heap ∧ va_D (va_A [(xo_8_rrriirrriiiiiiirrirrrrri mo m_la m_sz m_it ms mt m_st m_mv m_tp (nI mz) ml (nI mp) mk mv mb mw m_rd m_ac (nI ma) m_as m_wo m_ik m_ke m_tr (nI mx)), (xI m_st cI 38 fs)] sz) [(xo_8_rrriirrriiiiiiirrirrrrri mo m_la m_sz m_it ms mt m_st m_mv m_tp (nI mz) ml (nI mp) mk mv mb mw m_rd m_ac (nI ma) m_as m_wo m_ik m_ke m_tr (nI mx)), (xI m_st cI 38 fsn)] ∧ okM fsn w9 k9 (h9 + 1) ∧ fsn = mH fs) (va_A [(xo_8_rrriirrriiiiiiirrirrrrri mo m_la m_sz m_it ms mt m_st m_mv m_tp (nI mz) ml (nI mp) mk mv mb mw m_rd m_ac (nI ma) m_as m_wo m_ik m_ke m_tr (nI mx)), (xI m_st cI 38 fs)] sz)) 0 0 (va_A [(xo_8_rrriirrriiiiiiirrirrrrri mo m_la m_sz m_it ms mt m_st m_mv m_tp (nI mz) ml (nI mp) mk mv mb mw m_rd m_ac (nI ma) m_as m_wo m_ik m_ke m_tr (nI mx)), (xI m_st cI 38 fs)] sz) := by
  refine Met.ofW (cc := cX8_oneHour) (maxL := 4) (ret := (some .int)) (by decide) rfl ?_
  intro p e s m args below meth c s₁ B hml hv
  obtain ⟨rfl, hsz, hP, hK, hD0⟩ := hv
  have hx := B.exec
  have hb := B.bytes
  have hr := B.returns
  have hts := atoms_spec (ws := wsX8_oneHour) B.pre
  have hown : s.vm.findClass RX8 = some m.cls := findClass_of_methodNamed B.named
  have hlocks := B.notSynchronized
  subst hsz
  have hD := hD0.self (sz := s.heap.size)
  generalize hAe : va_A [(xo_8_rrriirrriiiiiiirrirrrrri mo m_la m_sz m_it ms mt m_st m_mv m_tp (nI mz) ml (nI mp) mk mv mb mw m_rd m_ac (nI ma) m_as m_wo m_ik m_ke m_tr (nI mx)), (xI m_st cI 38 fs)] s.heap.size = A at hD ⊢
  have hA : ∀ q : Nat, s.heap.size ≤ q → A q := fun q h => by rw [← hAe]; exact Or.inr h
  have hS : va_S A s.heap s.heap [] := va_S.rf
  have hP : va_P (dC, dI) vwCl [(xo_8_rrriirrriiiiiiirrirrrrri mo m_la m_sz m_it ms mt m_st m_mv m_tp (nI mz) ml (nI mp) mk mv mb mw m_rd m_ac (nI ma) m_as m_wo m_ik m_ke m_tr (nI mx)), (xI m_st cI 38 fs)] s.heap := hP
  have hl := lv_entry ([.ref mo]) (n := 4) (Nat.le_of_ble_eq_true rfl)
  rw [lg_entry_eq]
  generalize (lg_sl ([.ref mo]) ++ List.replicate (4 - (lg_sl ([.ref mo])).length) Slot.unset).toArray = ls at hl ⊢
  have hl : lv_has ls 4 [(0, .ref mo)] := hl
  have hk6 := hM.2.2.2.2.1
  have hw6 := hM.2.2.2.1
  have hmW := mW_M hM (by omega)
  refine lv_aload_n hx hb dX8_oneHour_0 rfl (lv_at hl 0 rfl) ?_
  refine lv_aload_n hx hb dX8_oneHour_1 rfl (lv_at hl 0 rfl) ?_
  refine va_get (D := (dC, dI)) (ci := 8) (v := .ref m_st) (C := RX8) (T := TX8) (N := 24) hx hb hts i_X8_oneHour_X8 hown hK hP 0 rfl rfl 5 (by decide) (hts _ mx_X8_oneHour_1) (fun _ h9 => h9) rfl dX8_oneHour_2 ?_
  refine lv_iconst (v := 5) hx hb dX8_oneHour_5 (by decide) ?_
  refine va_iald hx hb hK hP 1 0 rfl rfl (by unfold vp_in; decide) dX8_oneHour_6 ?_
  refine lv_topi (fun v_1 e_1 => ?_)
  obtain rfl : v_1 = (nI h9) := (e_1).trans hM.2.2.1
  have hPc_2 := hP
  refine vp_callSi (W.runV (As := [.int (nI h9)]) (rest := []) ⟨hx, hb, hml, hown, hts⟩ (r_X8_gustOf l dC dI cI cZ cL cJ mo m_la m_sz m_it m_st m_mv m_tp m_rd m_ac m_as m_wo m_ik m_ke m_tr ms mt ml mk mv mb mw mz mp ma mx fs w9 k9 h9 h9 (hM) (by omega) (by omega)) (cwV 1 hts gX8_oneHour_X8_gustOf rfl rfl rfl (by decide +kernel) ⟨Nat.le_of_ble_eq_true rfl, Nat.le_of_ble_eq_true rfl⟩) (pvP 8 0 hK hP rfl rfl hPc_2) rfl rfl hl.1 rfl (lv_room (Nat.le_of_ble_eq_true rfl)) dX8_oneHour_7 ⟨Nat.le_of_ble_eq_true rfl, Nat.le_of_ble_eq_true rfl⟩) (fun r_2 h_2 => ?_)
  refine lv_iconst (v := 2) hx hb dX8_oneHour_10 (by decide) ?_
  refine lv_isub hx hb dX8_oneHour_11 ?_
  refine lv_topi (fun v_3 e_3 => ?_)
  refine lv_istore_n (lv' := [(1, .int v_3), (0, .ref mo)]) hx hb dX8_oneHour_12 rfl hl (by decide) rfl (fun ls hl => ?_)
  refine lv_iconst (v := 0) hx hb dX8_oneHour_13 (by decide) ?_
  refine lv_istore_n (lv' := [(2, .int 0), (1, .int v_3), (0, .ref mo)]) hx hb dX8_oneHour_14 rfl hl (by decide) rfl (fun ls hl => ?_)
  refine lv_iconst (v := 0) hx hb dX8_oneHour_15 (by decide) ?_
  refine lv_istore_n (lv' := [(3, .int 0), (2, .int 0), (1, .int v_3), (0, .ref mo)]) hx hb dX8_oneHour_16 rfl hl (by decide) rfl (fun ls hl => ?_)
  refine lp_go (σ := (Int32) × (Nat → Int32)) (fun ii (st : (Int32) × (Nat → Int32)) H locs ls => match st with | (w_34, w_35) => lv_has ls 4 [(3, .int (nI ii)), (2, .int w_34), (1, .int v_3), (0, .ref mo)] ∧ va_P (dC, dI) vwCl [(xo_8_rrriirrriiiiiiirrirrrrri mo m_la m_sz m_it ms mt m_st m_mv m_tp (nI mz) ml (nI mp) mk mv mb mw m_rd m_ac (nI ma) m_as m_wo m_ik m_ke m_tr (nI mx)), (xI m_st cI 38 w_35)] H ∧ va_D A [(xo_8_rrriirrriiiiiiirrirrrrri mo m_la m_sz m_it ms mt m_st m_mv m_tp (nI mz) ml (nI mp) mk mv mb mw m_rd m_ac (nI ma) m_as m_wo m_ik m_ke m_tr (nI mx)), (xI m_st cI 38 w_35)] ∧ va_S A s.heap H locs ∧ okM w_35 w9 k9 h9 ∧ (mHs (mW fs - 2) ii (fs, 0) = (w_35, w_34))) k9 ?_ ?_ 0 (by omega) (0, fs) ⟨lv_sub hl [0, 1, 2, 3] rfl, hP.sub (ws' := [(xo_8_rrriirrriiiiiiirrirrrrri mo m_la m_sz m_it ms mt m_st m_mv m_tp (nI mz) ml (nI mp) mk mv mb mw m_rd m_ac (nI ma) m_as m_wo m_ik m_ke m_tr (nI mx)), (xI m_st cI 38 fs)]) [0, 1] rfl, hD.sub (ws' := [(xo_8_rrriirrriiiiiiirrirrrrri mo m_la m_sz m_it ms mt m_st m_mv m_tp (nI mz) ml (nI mp) mk mv mb mw m_rd m_ac (nI ma) m_as m_wo m_ik m_ke m_tr (nI mx)), (xI m_st cI 38 fs)]) [0, 1] (by decide +kernel) rfl, hS, hM, rfl⟩
  · rintro ii ⟨w_34, w_35⟩ H locs ls hii ⟨hl, hP, hD, hS, hMl, haf_0⟩ ih
    refine lv_iload_n hx hb dX8_oneHour_17 rfl (lv_at hl 0 rfl) ?_
    refine lv_aload_n hx hb dX8_oneHour_18 rfl (lv_at hl 3 rfl) ?_
    refine va_get (D := (dC, dI)) (ci := 8) (v := .ref m_st) (C := RX8) (T := TX8) (N := 24) hx hb hts i_X8_oneHour_X8 hown hK hP 0 rfl rfl 5 (by decide) (hts _ mx_X8_oneHour_1) (fun _ h9 => h9) rfl dX8_oneHour_19 ?_
    refine lv_iconst (v := 4) hx hb dX8_oneHour_22 (by decide) ?_
    refine va_iald hx hb hK hP 1 0 rfl rfl (by unfold vp_in; decide) dX8_oneHour_23 ?_
    refine lv_topi (fun v_68 e_68 => ?_)
    obtain rfl : v_68 = (nI k9) := (e_68).trans hMl.2.1
    refine lv_icmp_ge (tgt := 97) hx hb dX8_oneHour_24 (by decide) (fun c_ => absurd c_ (fun q_ => absurd ((nI_leI (a := k9) (b := ii) (by omega) (by omega)).mp q_) (by omega))) (fun _ => ?_)
    refine lv_aload_n hx hb dX8_oneHour_27 rfl (lv_at hl 3 rfl) ?_
    refine va_get (D := (dC, dI)) (ci := 8) (v := .ref m_st) (C := RX8) (T := TX8) (N := 24) hx hb hts i_X8_oneHour_X8 hown hK hP 0 rfl rfl 5 (by decide) (hts _ mx_X8_oneHour_1) (fun _ h9 => h9) rfl dX8_oneHour_28 ?_
    refine lv_bipush (v := 26) hx hb dX8_oneHour_31 (by decide) ?_
    refine lv_iload_n hx hb dX8_oneHour_33 rfl (lv_at hl 0 rfl) ?_
    refine lv_iadd hx hb dX8_oneHour_34 ?_
    refine lv_topi (fun v_70 e_70 => ?_)
    obtain rfl : v_70 = (nI (26 + ii)) := (e_70).trans (nI_add 26 ii)
    refine va_iald hx hb hK hP 1 0 rfl rfl (vp_in_nI (by omega) (by omega)) dX8_oneHour_35 ?_
    refine lv_topi (fun v_71 e_71 => ?_)
    have e_71 : v_71 = w_35 (26 + ii) := e_71.trans (congrArg w_35 (nI_clamp (by omega)))
    refine lv_if_ne (tgt := 45) hx hb dX8_oneHour_36 (by decide) (fun c_72 => ?_) (fun c_72 => ?_)
    · skip
      refine lv_aload_n hx hb dX8_oneHour_45 rfl (lv_at hl 3 rfl) ?_
      refine va_get (D := (dC, dI)) (ci := 8) (v := .ref m_st) (C := RX8) (T := TX8) (N := 24) hx hb hts i_X8_oneHour_X8 hown hK hP 0 rfl rfl 5 (by decide) (hts _ mx_X8_oneHour_1) (fun _ h9 => h9) rfl dX8_oneHour_46 ?_
      refine lv_bipush (v := 26) hx hb dX8_oneHour_49 (by decide) ?_
      refine lv_iload_n hx hb dX8_oneHour_51 rfl (lv_at hl 0 rfl) ?_
      refine lv_iadd hx hb dX8_oneHour_52 ?_
      refine lv_topi (fun v_73 e_73 => ?_)
      obtain rfl : v_73 = (nI (26 + ii)) := (e_73).trans (nI_add 26 ii)
      refine va_iald hx hb hK hP 1 0 rfl rfl (vp_in_nI (by omega) (by omega)) dX8_oneHour_53 ?_
      refine lv_topi (fun v_74 e_74 => ?_)
      have e_74 : v_74 = w_35 (26 + ii) := e_74.trans (congrArg w_35 (nI_clamp (by omega)))
      refine lv_if_ne (tgt := 91) hx hb dX8_oneHour_54 (by decide) (fun c_75 => ?_) (fun c_75 => ?_)
      · skip
        refine lv_iinc (v := (nI (ii + 1))) (lv' := [(3, .int (nI (ii + 1))), (2, .int w_34), (1, .int v_3), (0, .ref mo)]) hx hb dX8_oneHour_91 hl (k := 0) rfl (nI_add ii 1) (by decide) rfl (fun ls hl => ?_)
        refine lv_goto (tgt := 17) hx hb dX8_oneHour_94 (by decide) ?_
        exact ih (w_34, w_35) _ _ _ ⟨lv_sub hl [0, 1, 2, 3] rfl, hP.sub (ws' := [(xo_8_rrriirrriiiiiiirrirrrrri mo m_la m_sz m_it ms mt m_st m_mv m_tp (nI mz) ml (nI mp) mk mv mb mw m_rd m_ac (nI ma) m_as m_wo m_ik m_ke m_tr (nI mx)), (xI m_st cI 38 w_35)]) [0, 1] rfl, hD.sub (ws' := [(xo_8_rrriirrriiiiiiirrirrrrri mo m_la m_sz m_it ms mt m_st m_mv m_tp (nI mz) ml (nI mp) mk mv mb mw m_rd m_ac (nI ma) m_as m_wo m_ik m_ke m_tr (nI mx)), (xI m_st cI 38 w_35)]) [0, 1] (by decide +kernel) rfl, hS, hMl, (lf_X8_oneHour_1 hM hw1 hh9 hmW h_2 e_3 hii haf_0 hMl e_71 c_72 e_74 c_75)⟩
      · skip
        refine lv_iload_n hx hb dX8_oneHour_57 rfl (lv_at hl 2 rfl) ?_
        refine lv_if_eq (tgt := 91) hx hb dX8_oneHour_58 (by decide) (fun c_76 => ?_) (fun c_76 => ?_)
        · skip
          refine lv_iinc (v := (nI (ii + 1))) (lv' := [(3, .int (nI (ii + 1))), (2, .int w_34), (1, .int v_3), (0, .ref mo)]) hx hb dX8_oneHour_91 hl (k := 0) rfl (nI_add ii 1) (by decide) rfl (fun ls hl => ?_)
          refine lv_goto (tgt := 17) hx hb dX8_oneHour_94 (by decide) ?_
          exact ih (w_34, w_35) _ _ _ ⟨lv_sub hl [0, 1, 2, 3] rfl, hP.sub (ws' := [(xo_8_rrriirrriiiiiiirrirrrrri mo m_la m_sz m_it ms mt m_st m_mv m_tp (nI mz) ml (nI mp) mk mv mb mw m_rd m_ac (nI ma) m_as m_wo m_ik m_ke m_tr (nI mx)), (xI m_st cI 38 w_35)]) [0, 1] rfl, hD.sub (ws' := [(xo_8_rrriirrriiiiiiirrirrrrri mo m_la m_sz m_it ms mt m_st m_mv m_tp (nI mz) ml (nI mp) mk mv mb mw m_rd m_ac (nI ma) m_as m_wo m_ik m_ke m_tr (nI mx)), (xI m_st cI 38 w_35)]) [0, 1] (by decide +kernel) rfl, hS, hMl, (lf_X8_oneHour_2 hM hw1 hh9 hmW h_2 e_3 hii haf_0 hMl e_71 c_72 e_74 c_75 c_76)⟩
        · skip
          refine lv_aload_n hx hb dX8_oneHour_61 rfl (lv_at hl 3 rfl) ?_
          refine lv_iload_n hx hb dX8_oneHour_62 rfl (lv_at hl 0 rfl) ?_
          have hPc_77 := hP
          refine vp_callSi (W.runV (As := [.int (nI ii)]) (rest := []) ⟨hx, hb, hml, hown, hts⟩ (r_X8_isAtMill l dC dI cI cZ cL cJ mo m_la m_sz m_it m_st m_mv m_tp m_rd m_ac m_as m_wo m_ik m_ke m_tr ms mt ml mk mv mb mw mz mp ma mx w_35 w9 k9 h9 ii (hMl) (by omega)) (cwV 1 hts gX8_oneHour_X8_isAtMill rfl rfl rfl (by decide +kernel) ⟨Nat.le_of_ble_eq_true rfl, Nat.le_of_ble_eq_true rfl⟩) (pvP 8 0 hK hP rfl rfl hPc_77) rfl rfl hl.1 rfl (lv_room (Nat.le_of_ble_eq_true rfl)) dX8_oneHour_63 ⟨Nat.le_of_ble_eq_true rfl, Nat.le_of_ble_eq_true rfl⟩) (fun r_77 h_77 => ?_)
          rcases h_77 with ⟨h_77, f_77_0_0⟩ | ⟨h_77, f_77_1_0⟩
          · subst h_77
            refine lv_if_eq (tgt := 91) hx hb dX8_oneHour_66 (by decide) (fun _ => ?_) (fun c_ => absurd (by decide) c_)
            refine lv_iinc (v := (nI (ii + 1))) (lv' := [(3, .int (nI (ii + 1))), (2, .int w_34), (1, .int v_3), (0, .ref mo)]) hx hb dX8_oneHour_91 hl (k := 0) rfl (nI_add ii 1) (by decide) rfl (fun ls hl => ?_)
            refine lv_goto (tgt := 17) hx hb dX8_oneHour_94 (by decide) ?_
            exact ih (w_34, w_35) _ _ _ ⟨lv_sub hl [0, 1, 2, 3] rfl, hP.sub (ws' := [(xo_8_rrriirrriiiiiiirrirrrrri mo m_la m_sz m_it ms mt m_st m_mv m_tp (nI mz) ml (nI mp) mk mv mb mw m_rd m_ac (nI ma) m_as m_wo m_ik m_ke m_tr (nI mx)), (xI m_st cI 38 w_35)]) [0, 1] rfl, hD.sub (ws' := [(xo_8_rrriirrriiiiiiirrirrrrri mo m_la m_sz m_it ms mt m_st m_mv m_tp (nI mz) ml (nI mp) mk mv mb mw m_rd m_ac (nI ma) m_as m_wo m_ik m_ke m_tr (nI mx)), (xI m_st cI 38 w_35)]) [0, 1] (by decide +kernel) rfl, hS, hMl, (lf_X8_oneHour_3 hM hw1 hh9 hmW h_2 e_3 hii haf_0 hMl e_71 c_72 e_74 c_75 c_76 f_77_0_0)⟩
          · subst h_77
            refine lv_if_eq (tgt := 91) hx hb dX8_oneHour_66 (by decide) (fun c_ => absurd c_ (by decide)) (fun _ => ?_)
            refine lv_aload_n hx hb dX8_oneHour_69 rfl (lv_at hl 3 rfl) ?_
            refine va_get (D := (dC, dI)) (ci := 8) (v := .ref m_st) (C := RX8) (T := TX8) (N := 24) hx hb hts i_X8_oneHour_X8 hown hK hP 0 rfl rfl 5 (by decide) (hts _ mx_X8_oneHour_1) (fun _ h9 => h9) rfl dX8_oneHour_70 ?_
            refine lv_bipush (v := 26) hx hb dX8_oneHour_73 (by decide) ?_
            refine lv_iload_n hx hb dX8_oneHour_75 rfl (lv_at hl 0 rfl) ?_
            refine lv_iadd hx hb dX8_oneHour_76 ?_
            refine lv_topi (fun v_80 e_80 => ?_)
            obtain rfl : v_80 = (nI (26 + ii)) := (e_80).trans (nI_add 26 ii)
            refine lv_iconst (v := 1) hx hb dX8_oneHour_77 (by decide) ?_
            refine va_iast hx hb hK hP hD hS 1 0 rfl rfl (vp_in_nI (by omega) (by omega)) dX8_oneHour_78 (fun H locs hP hD hS => ?_)
            generalize hg_81 : upd w_35 ((nI (26 + ii)) : Int32).toNatClampNeg 1 = g_81 at hP hD
            have hu_81 : g_81 = upd w_35 (26 + ii) 1 := (by rw [← hg_81, nI_clamp (by omega)])
            have hM_81 : okM g_81 w9 k9 h9 := okM_off (i := (26 + ii)) hMl hg_81 (by omega) (by omega) (by omega) (by omega) (by omega)
            have hP : va_P (dC, dI) vwCl [(xo_8_rrriirrriiiiiiirrirrrrri mo m_la m_sz m_it ms mt m_st m_mv m_tp (nI mz) ml (nI mp) mk mv mb mw m_rd m_ac (nI ma) m_as m_wo m_ik m_ke m_tr (nI mx)), (xI m_st cI 38 g_81)] H := hP
            have hD := dto hP hD
            refine lv_iload_n hx hb dX8_oneHour_79 rfl (lv_at hl 1 rfl) ?_
            refine lv_aload_n hx hb dX8_oneHour_80 rfl (lv_at hl 3 rfl) ?_
            refine va_get (D := (dC, dI)) (ci := 8) (v := .ref m_st) (C := RX8) (T := TX8) (N := 24) hx hb hts i_X8_oneHour_X8 hown hK hP 0 rfl rfl 5 (by decide) (hts _ mx_X8_oneHour_1) (fun _ h9 => h9) rfl dX8_oneHour_81 ?_
            refine lv_bipush (v := 32) hx hb dX8_oneHour_84 (by decide) ?_
            refine lv_iload_n hx hb dX8_oneHour_86 rfl (lv_at hl 0 rfl) ?_
            refine lv_iadd hx hb dX8_oneHour_87 ?_
            refine lv_topi (fun v_82 e_82 => ?_)
            obtain rfl : v_82 = (nI (32 + ii)) := (e_82).trans (nI_add 32 ii)
            refine va_iald hx hb hK hP 1 0 rfl rfl (vp_in_nI (by omega) (by omega)) dX8_oneHour_88 ?_
            refine lv_topi (fun v_83 e_83 => ?_)
            have e_83 : v_83 = g_81 (32 + ii) := e_83.trans (congrArg g_81 (nI_clamp (by omega)))
            refine lv_iadd hx hb dX8_oneHour_89 ?_
            refine lv_topi (fun v_84 e_84 => ?_)
            refine lv_istore_n (lv' := [(2, .int v_84), (3, .int (nI ii)), (1, .int v_3), (0, .ref mo)]) hx hb dX8_oneHour_90 rfl hl (by decide) rfl (fun ls hl => ?_)
            refine lv_iinc (v := (nI (ii + 1))) (lv' := [(3, .int (nI (ii + 1))), (2, .int v_84), (1, .int v_3), (0, .ref mo)]) hx hb dX8_oneHour_91 hl (k := 1) rfl (nI_add ii 1) (by decide) rfl (fun ls hl => ?_)
            refine lv_goto (tgt := 17) hx hb dX8_oneHour_94 (by decide) ?_
            exact ih (v_84, g_81) _ _ _ ⟨lv_sub hl [0, 1, 2, 3] rfl, hP.sub (ws' := [(xo_8_rrriirrriiiiiiirrirrrrri mo m_la m_sz m_it ms mt m_st m_mv m_tp (nI mz) ml (nI mp) mk mv mb mw m_rd m_ac (nI ma) m_as m_wo m_ik m_ke m_tr (nI mx)), (xI m_st cI 38 g_81)]) [0, 1] rfl, hD.sub (ws' := [(xo_8_rrriirrriiiiiiirrirrrrri mo m_la m_sz m_it ms mt m_st m_mv m_tp (nI mz) ml (nI mp) mk mv mb mw m_rd m_ac (nI ma) m_as m_wo m_ik m_ke m_tr (nI mx)), (xI m_st cI 38 g_81)]) [0, 1] (by decide +kernel) rfl, hS, hM_81, (lf_X8_oneHour_4 hM hw1 hh9 hmW h_2 e_3 hii haf_0 hMl e_71 c_72 e_74 c_75 c_76 f_77_1_0 hu_81 e_83 e_84)⟩
    · skip
      refine lv_aload_n hx hb dX8_oneHour_39 rfl (lv_at hl 3 rfl) ?_
      refine lv_iload_n hx hb dX8_oneHour_40 rfl (lv_at hl 0 rfl) ?_
      refine lv_iload_n hx hb dX8_oneHour_41 rfl (lv_at hl 2 rfl) ?_
      have hc_85 := cutW (wc := [(xo_8_rrriirrriiiiiiirrirrrrri mo m_la m_sz m_it ms mt m_st m_mv m_tp (nI mz) ml (nI mp) mk mv mb mw m_rd m_ac (nI ma) m_as m_wo m_ik m_ke m_tr (nI mx)), (xI m_st cI 38 w_35)]) hP hD hS hA [0, 1] (by decide +kernel) rfl
      refine va_callv (va_runV (As := [.int (nI ii), .int v_3]) (rest := []) ⟨hx, hb, hml, hown, hts⟩ (r_X8_drift l dC dI cI cZ cL cJ H.size mo m_la m_sz m_it m_st m_mv m_tp m_rd m_ac m_as m_wo m_ik m_ke m_tr ms mt ml mk mv mb mw mz mp ma mx w_35 w9 k9 h9 ii v_3 (hMl) (by omega)) (cwV 2 hts gX8_oneHour_X8_drift rfl rfl rfl (by decide +kernel) ⟨Nat.le_of_ble_eq_true rfl, Nat.le_of_ble_eq_true rfl⟩) (pvW 8 0 hK hP rfl rfl hc_85) rfl rfl hl.1 rfl (lv_room (Nat.le_of_ble_eq_true rfl)) dX8_oneHour_42 ⟨Nat.le_of_ble_eq_true rfl, Nat.le_of_ble_eq_true rfl⟩) hS (fun q _ h => hc_85.2.2 q h) hc_85.2.2 (fun u_85 t_85 H1 locs ht hvm h_85 hB hz1 hk1 hS => ?_)
      refine xl_1_4 hB (fun fsn_85 hP1 hD1 hF_85_0 hF_85_1 => ?_)
      clear hB
      rw [ht] at hP1
      obtain ⟨hP, hD⟩ := va_join (wr := []) (w1 := [(xo_8_rrriirrriiiiiiirrirrrrri mo m_la m_sz m_it ms mt m_st m_mv m_tp (nI mz) ml (nI mp) mk mv mb mw m_rd m_ac (nI ma) m_as m_wo m_ik m_ke m_tr (nI mx)), (xI m_st cI 38 fsn_85)]) hP hD [0, 1] [] rfl rfl (by decide +kernel) (by decide +kernel) hk1 hc_85.2.2 hP1 hD1
      generalize H1 = H at hP hS ⊢
      have hP : va_P (dC, dI) vwCl [(xo_8_rrriirrriiiiiiirrirrrrri mo m_la m_sz m_it ms mt m_st m_mv m_tp (nI mz) ml (nI mp) mk mv mb mw m_rd m_ac (nI ma) m_as m_wo m_ik m_ke m_tr (nI mx)), (xI m_st cI 38 fsn_85)] H := hP
      have hD := dto hP hD
      refine lv_aload_n hx hb dX8_oneHour_45 rfl (lv_at hl 3 rfl) ?_
      refine va_get (D := (dC, dI)) (ci := 8) (v := .ref m_st) (C := RX8) (T := TX8) (N := 24) hx hb hts i_X8_oneHour_X8 hown hK hP 0 rfl rfl 5 (by decide) (hts _ mx_X8_oneHour_1) (fun _ h9 => h9) rfl dX8_oneHour_46 ?_
      refine lv_bipush (v := 26) hx hb dX8_oneHour_49 (by decide) ?_
      refine lv_iload_n hx hb dX8_oneHour_51 rfl (lv_at hl 0 rfl) ?_
      refine lv_iadd hx hb dX8_oneHour_52 ?_
      refine lv_topi (fun v_86 e_86 => ?_)
      obtain rfl : v_86 = (nI (26 + ii)) := (e_86).trans (nI_add 26 ii)
      refine va_iald hx hb hK hP 1 0 rfl rfl (vp_in_nI (by omega) (by omega)) dX8_oneHour_53 ?_
      refine lv_topi (fun v_87 e_87 => ?_)
      have e_87 : v_87 = fsn_85 (26 + ii) := e_87.trans (congrArg fsn_85 (nI_clamp (by omega)))
      refine lv_if_ne (tgt := 91) hx hb dX8_oneHour_54 (by decide) (fun c_88 => ?_) (fun c_88 => ?_)
      · skip
        refine lv_iinc (v := (nI (ii + 1))) (lv' := [(3, .int (nI (ii + 1))), (2, .int w_34), (1, .int v_3), (0, .ref mo)]) hx hb dX8_oneHour_91 hl (k := 0) rfl (nI_add ii 1) (by decide) rfl (fun ls hl => ?_)
        refine lv_goto (tgt := 17) hx hb dX8_oneHour_94 (by decide) ?_
        exact ih (w_34, fsn_85) _ _ _ ⟨lv_sub hl [0, 1, 2, 3] rfl, hP.sub (ws' := [(xo_8_rrriirrriiiiiiirrirrrrri mo m_la m_sz m_it ms mt m_st m_mv m_tp (nI mz) ml (nI mp) mk mv mb mw m_rd m_ac (nI ma) m_as m_wo m_ik m_ke m_tr (nI mx)), (xI m_st cI 38 fsn_85)]) [0, 1] rfl, hD.sub (ws' := [(xo_8_rrriirrriiiiiiirrirrrrri mo m_la m_sz m_it ms mt m_st m_mv m_tp (nI mz) ml (nI mp) mk mv mb mw m_rd m_ac (nI ma) m_as m_wo m_ik m_ke m_tr (nI mx)), (xI m_st cI 38 fsn_85)]) [0, 1] (by decide +kernel) rfl, hS, hF_85_0, (lf_X8_oneHour_5 hM hw1 hh9 hmW h_2 e_3 hii haf_0 hMl e_71 c_72 hF_85_0 hF_85_1 e_87 c_88)⟩
      · skip
        refine lv_iload_n hx hb dX8_oneHour_57 rfl (lv_at hl 2 rfl) ?_
        refine lv_if_eq (tgt := 91) hx hb dX8_oneHour_58 (by decide) (fun c_89 => ?_) (fun c_89 => ?_)
        · skip
          refine lv_iinc (v := (nI (ii + 1))) (lv' := [(3, .int (nI (ii + 1))), (2, .int w_34), (1, .int v_3), (0, .ref mo)]) hx hb dX8_oneHour_91 hl (k := 0) rfl (nI_add ii 1) (by decide) rfl (fun ls hl => ?_)
          refine lv_goto (tgt := 17) hx hb dX8_oneHour_94 (by decide) ?_
          exact ih (w_34, fsn_85) _ _ _ ⟨lv_sub hl [0, 1, 2, 3] rfl, hP.sub (ws' := [(xo_8_rrriirrriiiiiiirrirrrrri mo m_la m_sz m_it ms mt m_st m_mv m_tp (nI mz) ml (nI mp) mk mv mb mw m_rd m_ac (nI ma) m_as m_wo m_ik m_ke m_tr (nI mx)), (xI m_st cI 38 fsn_85)]) [0, 1] rfl, hD.sub (ws' := [(xo_8_rrriirrriiiiiiirrirrrrri mo m_la m_sz m_it ms mt m_st m_mv m_tp (nI mz) ml (nI mp) mk mv mb mw m_rd m_ac (nI ma) m_as m_wo m_ik m_ke m_tr (nI mx)), (xI m_st cI 38 fsn_85)]) [0, 1] (by decide +kernel) rfl, hS, hF_85_0, (lf_X8_oneHour_6 hM hw1 hh9 hmW h_2 e_3 hii haf_0 hMl e_71 c_72 hF_85_0 hF_85_1 e_87 c_88 c_89)⟩
        · skip
          refine lv_aload_n hx hb dX8_oneHour_61 rfl (lv_at hl 3 rfl) ?_
          refine lv_iload_n hx hb dX8_oneHour_62 rfl (lv_at hl 0 rfl) ?_
          have hPc_90 := hP
          refine vp_callSi (W.runV (As := [.int (nI ii)]) (rest := []) ⟨hx, hb, hml, hown, hts⟩ (r_X8_isAtMill l dC dI cI cZ cL cJ mo m_la m_sz m_it m_st m_mv m_tp m_rd m_ac m_as m_wo m_ik m_ke m_tr ms mt ml mk mv mb mw mz mp ma mx fsn_85 w9 k9 h9 ii (hF_85_0) (by omega)) (cwV 1 hts gX8_oneHour_X8_isAtMill rfl rfl rfl (by decide +kernel) ⟨Nat.le_of_ble_eq_true rfl, Nat.le_of_ble_eq_true rfl⟩) (pvP 8 0 hK hP rfl rfl hPc_90) rfl rfl hl.1 rfl (lv_room (Nat.le_of_ble_eq_true rfl)) dX8_oneHour_63 ⟨Nat.le_of_ble_eq_true rfl, Nat.le_of_ble_eq_true rfl⟩) (fun r_90 h_90 => ?_)
          rcases h_90 with ⟨h_90, f_90_0_0⟩ | ⟨h_90, f_90_1_0⟩
          · subst h_90
            refine lv_if_eq (tgt := 91) hx hb dX8_oneHour_66 (by decide) (fun _ => ?_) (fun c_ => absurd (by decide) c_)
            refine lv_iinc (v := (nI (ii + 1))) (lv' := [(3, .int (nI (ii + 1))), (2, .int w_34), (1, .int v_3), (0, .ref mo)]) hx hb dX8_oneHour_91 hl (k := 0) rfl (nI_add ii 1) (by decide) rfl (fun ls hl => ?_)
            refine lv_goto (tgt := 17) hx hb dX8_oneHour_94 (by decide) ?_
            exact ih (w_34, fsn_85) _ _ _ ⟨lv_sub hl [0, 1, 2, 3] rfl, hP.sub (ws' := [(xo_8_rrriirrriiiiiiirrirrrrri mo m_la m_sz m_it ms mt m_st m_mv m_tp (nI mz) ml (nI mp) mk mv mb mw m_rd m_ac (nI ma) m_as m_wo m_ik m_ke m_tr (nI mx)), (xI m_st cI 38 fsn_85)]) [0, 1] rfl, hD.sub (ws' := [(xo_8_rrriirrriiiiiiirrirrrrri mo m_la m_sz m_it ms mt m_st m_mv m_tp (nI mz) ml (nI mp) mk mv mb mw m_rd m_ac (nI ma) m_as m_wo m_ik m_ke m_tr (nI mx)), (xI m_st cI 38 fsn_85)]) [0, 1] (by decide +kernel) rfl, hS, hF_85_0, (lf_X8_oneHour_7 hM hw1 hh9 hmW h_2 e_3 hii haf_0 hMl e_71 c_72 hF_85_0 hF_85_1 e_87 c_88 c_89 f_90_0_0)⟩
          · subst h_90
            refine lv_if_eq (tgt := 91) hx hb dX8_oneHour_66 (by decide) (fun c_ => absurd c_ (by decide)) (fun _ => ?_)
            refine lv_aload_n hx hb dX8_oneHour_69 rfl (lv_at hl 3 rfl) ?_
            refine va_get (D := (dC, dI)) (ci := 8) (v := .ref m_st) (C := RX8) (T := TX8) (N := 24) hx hb hts i_X8_oneHour_X8 hown hK hP 0 rfl rfl 5 (by decide) (hts _ mx_X8_oneHour_1) (fun _ h9 => h9) rfl dX8_oneHour_70 ?_
            refine lv_bipush (v := 26) hx hb dX8_oneHour_73 (by decide) ?_
            refine lv_iload_n hx hb dX8_oneHour_75 rfl (lv_at hl 0 rfl) ?_
            refine lv_iadd hx hb dX8_oneHour_76 ?_
            refine lv_topi (fun v_93 e_93 => ?_)
            obtain rfl : v_93 = (nI (26 + ii)) := (e_93).trans (nI_add 26 ii)
            refine lv_iconst (v := 1) hx hb dX8_oneHour_77 (by decide) ?_
            refine va_iast hx hb hK hP hD hS 1 0 rfl rfl (vp_in_nI (by omega) (by omega)) dX8_oneHour_78 (fun H locs hP hD hS => ?_)
            generalize hg_94 : upd fsn_85 ((nI (26 + ii)) : Int32).toNatClampNeg 1 = g_94 at hP hD
            have hu_94 : g_94 = upd fsn_85 (26 + ii) 1 := (by rw [← hg_94, nI_clamp (by omega)])
            have hM_94 : okM g_94 w9 k9 h9 := okM_off (i := (26 + ii)) hF_85_0 hg_94 (by omega) (by omega) (by omega) (by omega) (by omega)
            have hP : va_P (dC, dI) vwCl [(xo_8_rrriirrriiiiiiirrirrrrri mo m_la m_sz m_it ms mt m_st m_mv m_tp (nI mz) ml (nI mp) mk mv mb mw m_rd m_ac (nI ma) m_as m_wo m_ik m_ke m_tr (nI mx)), (xI m_st cI 38 g_94)] H := hP
            have hD := dto hP hD
            refine lv_iload_n hx hb dX8_oneHour_79 rfl (lv_at hl 1 rfl) ?_
            refine lv_aload_n hx hb dX8_oneHour_80 rfl (lv_at hl 3 rfl) ?_
            refine va_get (D := (dC, dI)) (ci := 8) (v := .ref m_st) (C := RX8) (T := TX8) (N := 24) hx hb hts i_X8_oneHour_X8 hown hK hP 0 rfl rfl 5 (by decide) (hts _ mx_X8_oneHour_1) (fun _ h9 => h9) rfl dX8_oneHour_81 ?_
            refine lv_bipush (v := 32) hx hb dX8_oneHour_84 (by decide) ?_
            refine lv_iload_n hx hb dX8_oneHour_86 rfl (lv_at hl 0 rfl) ?_
            refine lv_iadd hx hb dX8_oneHour_87 ?_
            refine lv_topi (fun v_95 e_95 => ?_)
            obtain rfl : v_95 = (nI (32 + ii)) := (e_95).trans (nI_add 32 ii)
            refine va_iald hx hb hK hP 1 0 rfl rfl (vp_in_nI (by omega) (by omega)) dX8_oneHour_88 ?_
            refine lv_topi (fun v_96 e_96 => ?_)
            have e_96 : v_96 = g_94 (32 + ii) := e_96.trans (congrArg g_94 (nI_clamp (by omega)))
            refine lv_iadd hx hb dX8_oneHour_89 ?_
            refine lv_topi (fun v_97 e_97 => ?_)
            refine lv_istore_n (lv' := [(2, .int v_97), (3, .int (nI ii)), (1, .int v_3), (0, .ref mo)]) hx hb dX8_oneHour_90 rfl hl (by decide) rfl (fun ls hl => ?_)
            refine lv_iinc (v := (nI (ii + 1))) (lv' := [(3, .int (nI (ii + 1))), (2, .int v_97), (1, .int v_3), (0, .ref mo)]) hx hb dX8_oneHour_91 hl (k := 1) rfl (nI_add ii 1) (by decide) rfl (fun ls hl => ?_)
            refine lv_goto (tgt := 17) hx hb dX8_oneHour_94 (by decide) ?_
            exact ih (v_97, g_94) _ _ _ ⟨lv_sub hl [0, 1, 2, 3] rfl, hP.sub (ws' := [(xo_8_rrriirrriiiiiiirrirrrrri mo m_la m_sz m_it ms mt m_st m_mv m_tp (nI mz) ml (nI mp) mk mv mb mw m_rd m_ac (nI ma) m_as m_wo m_ik m_ke m_tr (nI mx)), (xI m_st cI 38 g_94)]) [0, 1] rfl, hD.sub (ws' := [(xo_8_rrriirrriiiiiiirrirrrrri mo m_la m_sz m_it ms mt m_st m_mv m_tp (nI mz) ml (nI mp) mk mv mb mw m_rd m_ac (nI ma) m_as m_wo m_ik m_ke m_tr (nI mx)), (xI m_st cI 38 g_94)]) [0, 1] (by decide +kernel) rfl, hS, hM_94, (lf_X8_oneHour_8 hM hw1 hh9 hmW h_2 e_3 hii haf_0 hMl e_71 c_72 hF_85_0 hF_85_1 e_87 c_88 c_89 f_90_1_0 hu_94 e_96 e_97)⟩
  · rintro ⟨w_34, w_35⟩ H locs ls ⟨hl, hP, hD, hS, hMl, haf_0⟩
    refine lv_iload_n hx hb dX8_oneHour_17 rfl (lv_at hl 0 rfl) ?_
    refine lv_aload_n hx hb dX8_oneHour_18 rfl (lv_at hl 3 rfl) ?_
    refine va_get (D := (dC, dI)) (ci := 8) (v := .ref m_st) (C := RX8) (T := TX8) (N := 24) hx hb hts i_X8_oneHour_X8 hown hK hP 0 rfl rfl 5 (by decide) (hts _ mx_X8_oneHour_1) (fun _ h9 => h9) rfl dX8_oneHour_19 ?_
    refine lv_iconst (v := 4) hx hb dX8_oneHour_22 (by decide) ?_
    refine va_iald hx hb hK hP 1 0 rfl rfl (by unfold vp_in; decide) dX8_oneHour_23 ?_
    refine lv_topi (fun v_98 e_98 => ?_)
    obtain rfl : v_98 = (nI k9) := (e_98).trans hMl.2.1
    refine lv_icmp_ge (tgt := 97) hx hb dX8_oneHour_24 (by decide) (fun _ => ?_) (fun c_ => absurd ((nI_leI (a := k9) (b := k9) (by omega) (by omega)).mpr (by omega)) c_)
    refine lv_aload_n hx hb dX8_oneHour_97 rfl (lv_at hl 3 rfl) ?_
    refine va_get (D := (dC, dI)) (ci := 8) (v := .ref m_st) (C := RX8) (T := TX8) (N := 24) hx hb hts i_X8_oneHour_X8 hown hK hP 0 rfl rfl 5 (by decide) (hts _ mx_X8_oneHour_1) (fun _ h9 => h9) rfl dX8_oneHour_98 ?_
    refine lv_bipush (v := 7) hx hb dX8_oneHour_101 (by decide) ?_
    refine lv_aload_n hx hb dX8_oneHour_103 rfl (lv_at hl 3 rfl) ?_
    refine va_get (D := (dC, dI)) (ci := 8) (v := .ref m_st) (C := RX8) (T := TX8) (N := 24) hx hb hts i_X8_oneHour_X8 hown hK hP 0 rfl rfl 5 (by decide) (hts _ mx_X8_oneHour_1) (fun _ h9 => h9) rfl dX8_oneHour_104 ?_
    refine lv_bipush (v := 7) hx hb dX8_oneHour_107 (by decide) ?_
    refine va_iald hx hb hK hP 1 0 rfl rfl (by unfold vp_in; decide) dX8_oneHour_109 ?_
    refine lv_topi (fun v_100 e_100 => ?_)
    have e_100 : v_100 = w_35 7 := e_100
    refine lv_iload_n hx hb dX8_oneHour_110 rfl (lv_at hl 1 rfl) ?_
    refine lv_iadd hx hb dX8_oneHour_111 ?_
    refine lv_topi (fun v_101 e_101 => ?_)
    refine lv_sipush (v := 999) hx hb dX8_oneHour_112 (by decide) ?_
    refine lv_icmp_le (tgt := 124) hx hb dX8_oneHour_115 (by decide) (fun c_102 => ?_) (fun c_102 => ?_)
    · skip
      refine lv_aload_n hx hb dX8_oneHour_124 rfl (lv_at hl 3 rfl) ?_
      refine va_get (D := (dC, dI)) (ci := 8) (v := .ref m_st) (C := RX8) (T := TX8) (N := 24) hx hb hts i_X8_oneHour_X8 hown hK hP 0 rfl rfl 5 (by decide) (hts _ mx_X8_oneHour_1) (fun _ h9 => h9) rfl dX8_oneHour_125 ?_
      refine lv_bipush (v := 7) hx hb dX8_oneHour_128 (by decide) ?_
      refine va_iald hx hb hK hP 1 0 rfl rfl (by unfold vp_in; decide) dX8_oneHour_130 ?_
      refine lv_topi (fun v_103 e_103 => ?_)
      have e_103 : v_103 = w_35 7 := e_103
      refine lv_iload_n hx hb dX8_oneHour_131 rfl (lv_at hl 1 rfl) ?_
      refine lv_iadd hx hb dX8_oneHour_132 ?_
      refine lv_topi (fun v_104 e_104 => ?_)
      refine va_iast hx hb hK hP hD hS 1 0 rfl rfl (by unfold vp_in; decide) dX8_oneHour_133 (fun H locs hP hD hS => ?_)
      generalize hg_105 : upd w_35 (7 : Int32).toNatClampNeg v_104 = g_105 at hP hD
      have hu_105 : g_105 = upd w_35 7 v_104 := hg_105.symm
      have hM_105 : okM g_105 w9 k9 h9 := okM_off (i := 7) hMl hg_105 (by omega) (by omega) (by omega) (by omega) (by omega)
      have hP : va_P (dC, dI) vwCl [(xo_8_rrriirrriiiiiiirrirrrrri mo m_la m_sz m_it ms mt m_st m_mv m_tp (nI mz) ml (nI mp) mk mv mb mw m_rd m_ac (nI ma) m_as m_wo m_ik m_ke m_tr (nI mx)), (xI m_st cI 38 g_105)] H := hP
      have hD := dto hP hD
      refine lv_aload_n hx hb dX8_oneHour_134 rfl (lv_at hl 3 rfl) ?_
      refine va_get (D := (dC, dI)) (ci := 8) (v := .ref m_st) (C := RX8) (T := TX8) (N := 24) hx hb hts i_X8_oneHour_X8 hown hK hP 0 rfl rfl 5 (by decide) (hts _ mx_X8_oneHour_1) (fun _ h9 => h9) rfl dX8_oneHour_135 ?_
      refine lv_iconst (v := 5) hx hb dX8_oneHour_138 (by decide) ?_
      refine lv_dup2_11 hx hb dX8_oneHour_139 rfl rfl ?_
      refine va_iald hx hb hK hP 1 0 rfl rfl (by unfold vp_in; decide) dX8_oneHour_140 ?_
      refine lv_topi (fun v_106 e_106 => ?_)
      obtain rfl : v_106 = (nI h9) := (e_106).trans hM_105.2.2.1
      refine lv_iconst (v := 1) hx hb dX8_oneHour_141 (by decide) ?_
      refine lv_iadd hx hb dX8_oneHour_142 ?_
      refine lv_topi (fun v_107 e_107 => ?_)
      obtain rfl : v_107 = (nI (h9 + 1)) := (e_107).trans (nI_add h9 1)
      refine va_iast hx hb hK hP hD hS 1 0 rfl rfl (by unfold vp_in; decide) dX8_oneHour_143 (fun H locs hP hD hS => ?_)
      generalize hg_108 : upd g_105 (5 : Int32).toNatClampNeg (nI (h9 + 1)) = g_108 at hP hD
      have hu_108 : g_108 = upd g_105 5 (nI (h9 + 1)) := hg_108.symm
      have hM_108 : okM g_108 w9 k9 (h9 + 1) := okM_hour hM_105 hg_108
      have hP : va_P (dC, dI) vwCl [(xo_8_rrriirrriiiiiiirrirrrrri mo m_la m_sz m_it ms mt m_st m_mv m_tp (nI mz) ml (nI mp) mk mv mb mw m_rd m_ac (nI ma) m_as m_wo m_ik m_ke m_tr (nI mx)), (xI m_st cI 38 g_108)] H := hP
      have hD := dto hP hD
      refine lv_iload_n hx hb dX8_oneHour_144 rfl (lv_at hl 1 rfl) ?_
      have hX9 := cut2 (wc := [(xo_8_rrriirrriiiiiiirrirrrrri mo m_la m_sz m_it ms mt m_st m_mv m_tp (nI mz) ml (nI mp) mk mv mb mw m_rd m_ac (nI ma) m_as m_wo m_ik m_ke m_tr (nI mx)), (xI m_st cI 38 g_108)]) hP hD [0, 1] (by decide +kernel) rfl
      exact W.iret (v := w_34) hx hb hr (fun t ht hW => ⟨⟨w_34, (), rfl, trivial, ⟨g_108, va_Ht ht hX9.1, hX9.2, hM_108, (lf_X8_oneHour_9 hM hw1 hh9 hmW h_2 e_3 haf_0 hMl e_100 e_101 c_102 e_103 e_104 hu_105 hu_108)⟩⟩, hS.F ht⟩) hS.2.2 dX8_oneHour_145
    · skip
      refine lv_sipush (v := 999) hx hb dX8_oneHour_118 (by decide) ?_
      refine lv_goto (tgt := 133) hx hb dX8_oneHour_121 (by decide) ?_
      refine va_iast hx hb hK hP hD hS 1 0 rfl rfl (by unfold vp_in; decide) dX8_oneHour_133 (fun H locs hP hD hS => ?_)
      generalize hg_109 : upd w_35 (7 : Int32).toNatClampNeg 999 = g_109 at hP hD
      have hu_109 : g_109 = upd w_35 7 999 := hg_109.symm
      have hM_109 : okM g_109 w9 k9 h9 := okM_off (i := 7) hMl hg_109 (by omega) (by omega) (by omega) (by omega) (by omega)
      have hP : va_P (dC, dI) vwCl [(xo_8_rrriirrriiiiiiirrirrrrri mo m_la m_sz m_it ms mt m_st m_mv m_tp (nI mz) ml (nI mp) mk mv mb mw m_rd m_ac (nI ma) m_as m_wo m_ik m_ke m_tr (nI mx)), (xI m_st cI 38 g_109)] H := hP
      have hD := dto hP hD
      refine lv_aload_n hx hb dX8_oneHour_134 rfl (lv_at hl 3 rfl) ?_
      refine va_get (D := (dC, dI)) (ci := 8) (v := .ref m_st) (C := RX8) (T := TX8) (N := 24) hx hb hts i_X8_oneHour_X8 hown hK hP 0 rfl rfl 5 (by decide) (hts _ mx_X8_oneHour_1) (fun _ h9 => h9) rfl dX8_oneHour_135 ?_
      refine lv_iconst (v := 5) hx hb dX8_oneHour_138 (by decide) ?_
      refine lv_dup2_11 hx hb dX8_oneHour_139 rfl rfl ?_
      refine va_iald hx hb hK hP 1 0 rfl rfl (by unfold vp_in; decide) dX8_oneHour_140 ?_
      refine lv_topi (fun v_110 e_110 => ?_)
      obtain rfl : v_110 = (nI h9) := (e_110).trans hM_109.2.2.1
      refine lv_iconst (v := 1) hx hb dX8_oneHour_141 (by decide) ?_
      refine lv_iadd hx hb dX8_oneHour_142 ?_
      refine lv_topi (fun v_111 e_111 => ?_)
      obtain rfl : v_111 = (nI (h9 + 1)) := (e_111).trans (nI_add h9 1)
      refine va_iast hx hb hK hP hD hS 1 0 rfl rfl (by unfold vp_in; decide) dX8_oneHour_143 (fun H locs hP hD hS => ?_)
      generalize hg_112 : upd g_109 (5 : Int32).toNatClampNeg (nI (h9 + 1)) = g_112 at hP hD
      have hu_112 : g_112 = upd g_109 5 (nI (h9 + 1)) := hg_112.symm
      have hM_112 : okM g_112 w9 k9 (h9 + 1) := okM_hour hM_109 hg_112
      have hP : va_P (dC, dI) vwCl [(xo_8_rrriirrriiiiiiirrirrrrri mo m_la m_sz m_it ms mt m_st m_mv m_tp (nI mz) ml (nI mp) mk mv mb mw m_rd m_ac (nI ma) m_as m_wo m_ik m_ke m_tr (nI mx)), (xI m_st cI 38 g_112)] H := hP
      have hD := dto hP hD
      refine lv_iload_n hx hb dX8_oneHour_144 rfl (lv_at hl 1 rfl) ?_
      have hX9 := cut2 (wc := [(xo_8_rrriirrriiiiiiirrirrrrri mo m_la m_sz m_it ms mt m_st m_mv m_tp (nI mz) ml (nI mp) mk mv mb mw m_rd m_ac (nI ma) m_as m_wo m_ik m_ke m_tr (nI mx)), (xI m_st cI 38 g_112)]) hP hD [0, 1] (by decide +kernel) rfl
      exact W.iret (v := w_34) hx hb hr (fun t ht hW => ⟨⟨w_34, (), rfl, trivial, ⟨g_112, va_Ht ht hX9.1, hX9.2, hM_112, (lf_X8_oneHour_10 hM hw1 hh9 hmW h_2 e_3 haf_0 hMl e_100 e_101 c_102 hu_109 hu_112)⟩⟩, hS.F ht⟩) hS.2.2 dX8_oneHour_145
