set_option maxHeartbeats 4000000 in
set_option maxRecDepth 100000 in
theorem r_X8_in (l : Launch) (dC : Nat → ClassId) (dI : Nat → Nat → Nat) (cI cZ cL cJ : ClassId) (v : Int64) (lo : Int64) (hi : Int64)  : Met l yX8_in wsX8_in ({ frames := 0, cells := 0, slots := 0, locals := 0 }) (va_Pc [.long v, .long lo, .long hi] (fun U => va_P (dC, dI) vwCl [] U.heap ∧ va_K (dC, dI) vwCl [(cI, .int), (cZ, .boolean), (cL, .object RX3), (cJ, .array .int)] U)) (vp_Si (fun r => (r = 0 ∧ (v < lo ∨ hi < v)) ∨ (r = 1 ∧ (¬ (v < lo ∨ hi < v))))) 0 0 (fun _ => False) := by
  refine Met.ofW (cc := cX8_in) (maxL := 6) (ret := (some .boolean)) (by decide) rfl ?_
  intro p e s m args below meth c s₁ B hml hv
  obtain ⟨rfl, hP, hK⟩ := hv
  have hx := B.exec
  have hb := B.bytes
  have hr := B.returns
  have hts := atoms_spec (ws := wsX8_in) B.pre
  have hown : s.vm.findClass RX8 = some m.cls := findClass_of_methodNamed B.named
  have hlocks := B.notSynchronized
  have hP : va_P (dC, dI) vwCl [] s.heap := hP
  have hl := lv_entry ([.long v, .long lo, .long hi]) (n := 6) (Nat.le_of_ble_eq_true rfl)
  rw [lg_entry_eq]
  generalize (lg_sl ([.long v, .long lo, .long hi]) ++ List.replicate (6 - (lg_sl ([.long v, .long lo, .long hi])).length) Slot.unset).toArray = ls at hl ⊢
  have hl : lv_has ls 6 [(0, .long v), (2, .long lo), (4, .long hi)] := hl
  refine lv_lload_n hx hb dX8_in_0 rfl (lv_at hl 0 rfl) ?_
  refine lv_lload_n hx hb dX8_in_1 rfl (lv_at hl 1 rfl) ?_
  refine W.lcmp hx hb dX8_in_2 ?_
  refine lv_if_lt (tgt := 17) hx hb dX8_in_3 (by decide) (fun c_1 => ?_) (fun c_1 => ?_)
  · have c_1 : (v < lo : Prop) := (lg_cmp_lt _ _).mp c_1
    refine lv_iconst (v := 0) hx hb dX8_in_17 (by decide) ?_
    exact W.zret (v := 0) hx hb hr (by decide) (fun t ht hW => ⟨0, rfl, Or.inl (⟨rfl, (by first | assumption | grind)⟩), ht⟩) (fun _ h => by cases h) dX8_in_18
  · have c_1 : ¬ (v < lo) := fun h => c_1 ((lg_cmp_lt _ _).mpr h)
    refine lv_lload_n hx hb dX8_in_6 rfl (lv_at hl 0 rfl) ?_
    refine lv_lload hx hb dX8_in_7 (lv_at hl 2 rfl) ?_
    refine W.lcmp hx hb dX8_in_9 ?_
    refine lv_if_gt (tgt := 17) hx hb dX8_in_10 (by decide) (fun c_2 => ?_) (fun c_2 => ?_)
    · have c_2 : (hi < v : Prop) := (lg_cmp_gt _ _).mp c_2
      refine lv_iconst (v := 0) hx hb dX8_in_17 (by decide) ?_
      exact W.zret (v := 0) hx hb hr (by decide) (fun t ht hW => ⟨0, rfl, Or.inl (⟨rfl, (by first | assumption | grind)⟩), ht⟩) (fun _ h => by cases h) dX8_in_18
    · have c_2 : ¬ (hi < v) := fun h => c_2 ((lg_cmp_gt _ _).mpr h)
      refine lv_iconst (v := 1) hx hb dX8_in_13 (by decide) ?_
      refine lv_goto (tgt := 18) hx hb dX8_in_14 (by decide) ?_
      exact W.zret (v := 1) hx hb hr (by decide) (fun t ht hW => ⟨1, rfl, Or.inr (⟨rfl, (by first | assumption | grind)⟩), ht⟩) (fun _ h => by cases h) dX8_in_18
set_option maxHeartbeats 4000000 in
set_option maxRecDepth 100000 in
theorem r_X8_has (l : Launch) (dC : Nat → ClassId) (dI : Nat → Nat → Nat) (cI cZ cL cJ : ClassId) (x : Int32) (y : Int32)  : Met l yX8_has wsX8_has ({ frames := 0, cells := 0, slots := 0, locals := 0 }) (va_Pc [.int x, .int y] (fun U => va_P (dC, dI) vwCl [] U.heap ∧ va_K (dC, dI) vwCl [(cI, .int), (cZ, .boolean), (cL, .object RX3), (cJ, .array .int)] U)) (vp_Si (fun r => (r = 0 ∧ ¬ hasB x y) ∨ (r = 1 ∧ hasB x y))) 0 0 (fun _ => False) := by
  refine Met.ofW (cc := cX8_has) (maxL := 2) (ret := (some .boolean)) (by decide) rfl ?_
  intro p e s m args below meth c s₁ B hml hv
  obtain ⟨rfl, hP, hK⟩ := hv
  have hx := B.exec
  have hb := B.bytes
  have hr := B.returns
  have hts := atoms_spec (ws := wsX8_has) B.pre
  have hown : s.vm.findClass RX8 = some m.cls := findClass_of_methodNamed B.named
  have hlocks := B.notSynchronized
  have hP : va_P (dC, dI) vwCl [] s.heap := hP
  have hl := lv_entry ([.int x, .int y]) (n := 2) (Nat.le_of_ble_eq_true rfl)
  rw [lg_entry_eq]
  generalize (lg_sl ([.int x, .int y]) ++ List.replicate (2 - (lg_sl ([.int x, .int y])).length) Slot.unset).toArray = ls at hl ⊢
  have hl : lv_has ls 2 [(0, .int x), (1, .int y)] := hl
  refine lv_iload_n hx hb dX8_has_0 rfl (lv_at hl 0 rfl) ?_
  refine lv_iload_n hx hb dX8_has_1 rfl (lv_at hl 1 rfl) ?_
  refine lv_ishr hx hb dX8_has_2 ?_
  refine lv_topi (fun v_1 e_1 => ?_)
  refine lv_iconst (v := 1) hx hb dX8_has_3 (by decide) ?_
  refine lv_iand hx hb dX8_has_4 ?_
  refine lv_topi (fun v_2 e_2 => ?_)
  refine lv_iconst (v := 1) hx hb dX8_has_5 (by decide) ?_
  refine lv_icmp_ne (tgt := 13) hx hb dX8_has_6 (by decide) (fun c_3 => ?_) (fun c_3 => ?_)
  · skip
    refine lv_iconst (v := 0) hx hb dX8_has_13 (by decide) ?_
    exact W.zret (v := 0) hx hb hr (by decide) (fun t ht hW => ⟨0, rfl, Or.inl ⟨rfl, fun q_ => c_3 (by rw [e_2, e_1]; exact q_)⟩, ht⟩) (fun _ h => by cases h) dX8_has_14
  · skip
    refine lv_iconst (v := 1) hx hb dX8_has_9 (by decide) ?_
    refine lv_goto (tgt := 14) hx hb dX8_has_10 (by decide) ?_
    exact W.zret (v := 1) hx hb hr (by decide) (fun t ht hW => ⟨1, rfl, Or.inr ⟨rfl, by rw [e_2, e_1] at c_3; exact c_3⟩, ht⟩) (fun _ h => by cases h) dX8_has_14
theorem lf_X8_drifts_1 {x : Int32} {y : Int32} (c_1 : ¬ (x = 1)) (c_2 : ¬ (x = 2)) (c_3 : ¬ (x = 3)) (c_4 : ¬ (x = 4)) : 0 = (dfM x y) := by
  simp only [dfM]; grind
theorem lf_X8_drifts_2 {x : Int32} {y : Int32} {v_5 : Int32} (c_1 : ¬ (x = 1)) (c_2 : ¬ (x = 2)) (c_3 : ¬ (x = 3)) (c_4 : x = 4) (e_5 : v_5 = (-y)) : v_5 = (dfM x y) := by
  simp only [dfM]; grind
theorem lf_X8_drifts_3 {x : Int32} {y : Int32} {v_6 : Int32} (c_1 : ¬ (x = 1)) (c_2 : ¬ (x = 2)) (c_3 : x = 3) (e_6 : v_6 = (2 * y)) : v_6 = (dfM x y) := by
  simp only [dfM]; grind
theorem lf_X8_drifts_4 {x : Int32} {y : Int32} {v_7 : Int32} (c_1 : ¬ (x = 1)) (c_2 : x = 2) (e_7 : v_7 = (y / 2)) : v_7 = (dfM x y) := by
  simp only [dfM]; grind
theorem lf_X8_drifts_5 {x : Int32} {y : Int32} (c_1 : x = 1) : y = (dfM x y) := by
  simp only [dfM]; grind
set_option maxHeartbeats 4000000 in
set_option maxRecDepth 100000 in
theorem r_X8_drifts (l : Launch) (dC : Nat → ClassId) (dI : Nat → Nat → Nat) (cI cZ cL cJ : ClassId) (x : Int32) (y : Int32)  : Met l yX8_drifts wsX8_drifts ({ frames := 0, cells := 0, slots := 0, locals := 0 }) (va_Pc [.int x, .int y] (fun U => va_P (dC, dI) vwCl [] U.heap ∧ va_K (dC, dI) vwCl [(cI, .int), (cZ, .boolean), (cL, .object RX3), (cJ, .array .int)] U)) (vp_Si (fun r => r = (dfM x y))) 0 0 (fun _ => False) := by
  refine Met.ofW (cc := cX8_drifts) (maxL := 2) (ret := (some .int)) (by decide) rfl ?_
  intro p e s m args below meth c s₁ B hml hv
  obtain ⟨rfl, hP, hK⟩ := hv
  have hx := B.exec
  have hb := B.bytes
  have hr := B.returns
  have hts := atoms_spec (ws := wsX8_drifts) B.pre
  have hown : s.vm.findClass RX8 = some m.cls := findClass_of_methodNamed B.named
  have hlocks := B.notSynchronized
  have hP : va_P (dC, dI) vwCl [] s.heap := hP
  have hl := lv_entry ([.int x, .int y]) (n := 2) (Nat.le_of_ble_eq_true rfl)
  rw [lg_entry_eq]
  generalize (lg_sl ([.int x, .int y]) ++ List.replicate (2 - (lg_sl ([.int x, .int y])).length) Slot.unset).toArray = ls at hl ⊢
  have hl : lv_has ls 2 [(0, .int x), (1, .int y)] := hl
  refine lv_iload_n hx hb dX8_drifts_0 rfl (lv_at hl 0 rfl) ?_
  refine lv_iconst (v := 1) hx hb dX8_drifts_1 (by decide) ?_
  refine lv_icmp_ne (tgt := 9) hx hb dX8_drifts_2 (by decide) (fun c_1 => ?_) (fun c_1 => ?_)
  · skip
    refine lv_iload_n hx hb dX8_drifts_9 rfl (lv_at hl 0 rfl) ?_
    refine lv_iconst (v := 2) hx hb dX8_drifts_10 (by decide) ?_
    refine lv_icmp_ne (tgt := 20) hx hb dX8_drifts_11 (by decide) (fun c_2 => ?_) (fun c_2 => ?_)
    · skip
      refine lv_iload_n hx hb dX8_drifts_20 rfl (lv_at hl 0 rfl) ?_
      refine lv_iconst (v := 3) hx hb dX8_drifts_21 (by decide) ?_
      refine lv_icmp_ne (tgt := 31) hx hb dX8_drifts_22 (by decide) (fun c_3 => ?_) (fun c_3 => ?_)
      · skip
        refine lv_iload_n hx hb dX8_drifts_31 rfl (lv_at hl 0 rfl) ?_
        refine lv_iconst (v := 4) hx hb dX8_drifts_32 (by decide) ?_
        refine lv_icmp_ne (tgt := 41) hx hb dX8_drifts_33 (by decide) (fun c_4 => ?_) (fun c_4 => ?_)
        · skip
          refine lv_iconst (v := 0) hx hb dX8_drifts_41 (by decide) ?_
          exact W.iret (v := 0) hx hb hr (fun t ht hW => ⟨0, rfl, (lf_X8_drifts_1 c_1 c_2 c_3 c_4), ht⟩) (fun _ h => by cases h) dX8_drifts_42
        · skip
          refine lv_iload_n hx hb dX8_drifts_36 rfl (lv_at hl 1 rfl) ?_
          refine lv_ineg hx hb dX8_drifts_37 ?_
          refine lv_topi (fun v_5 e_5 => ?_)
          refine lv_goto (tgt := 42) hx hb dX8_drifts_38 (by decide) ?_
          exact W.iret (v := v_5) hx hb hr (fun t ht hW => ⟨v_5, rfl, (lf_X8_drifts_2 c_1 c_2 c_3 c_4 e_5), ht⟩) (fun _ h => by cases h) dX8_drifts_42
      · skip
        refine lv_iconst (v := 2) hx hb dX8_drifts_25 (by decide) ?_
        refine lv_iload_n hx hb dX8_drifts_26 rfl (lv_at hl 1 rfl) ?_
        refine lv_imul hx hb dX8_drifts_27 ?_
        refine lv_topi (fun v_6 e_6 => ?_)
        refine lv_goto (tgt := 42) hx hb dX8_drifts_28 (by decide) ?_
        exact W.iret (v := v_6) hx hb hr (fun t ht hW => ⟨v_6, rfl, (lf_X8_drifts_3 c_1 c_2 c_3 e_6), ht⟩) (fun _ h => by cases h) dX8_drifts_42
    · skip
      refine lv_iload_n hx hb dX8_drifts_14 rfl (lv_at hl 1 rfl) ?_
      refine lv_iconst (v := 2) hx hb dX8_drifts_15 (by decide) ?_
      refine lv_idiv hx hb dX8_drifts_16 (by decide) ?_
      refine lv_topi (fun v_7 e_7 => ?_)
      refine lv_goto (tgt := 42) hx hb dX8_drifts_17 (by decide) ?_
      exact W.iret (v := v_7) hx hb hr (fun t ht hW => ⟨v_7, rfl, (lf_X8_drifts_4 c_1 c_2 e_7), ht⟩) (fun _ h => by cases h) dX8_drifts_42
  · skip
    refine lv_iload_n hx hb dX8_drifts_5 rfl (lv_at hl 1 rfl) ?_
    refine lv_goto (tgt := 42) hx hb dX8_drifts_6 (by decide) ?_
    exact W.iret (v := y) hx hb hr (fun t ht hW => ⟨y, rfl, (lf_X8_drifts_5 c_1), ht⟩) (fun _ h => by cases h) dX8_drifts_42
theorem lf_X8_kindBy_1 {x : Int32} (c_1 : ¬ (x = 118)) (c_2 : ¬ (x = 98)) (c_3 : ¬ (x = 104)) (c_4 : ¬ (x = 100)) (c_5 : ¬ (x = 115)) : 0 = (kindX x) := by
  unfold kindX; grind
theorem lf_X8_kindBy_2 {x : Int32} (c_1 : ¬ (x = 118)) (c_2 : ¬ (x = 98)) (c_3 : ¬ (x = 104)) (c_4 : ¬ (x = 100)) (c_5 : x = 115) : 5 = (kindX x) := by
  unfold kindX; grind
theorem lf_X8_kindBy_3 {x : Int32} (c_1 : ¬ (x = 118)) (c_2 : ¬ (x = 98)) (c_3 : ¬ (x = 104)) (c_4 : x = 100) : 4 = (kindX x) := by
  unfold kindX; grind
theorem lf_X8_kindBy_4 {x : Int32} (c_1 : ¬ (x = 118)) (c_2 : ¬ (x = 98)) (c_3 : x = 104) : 3 = (kindX x) := by
  unfold kindX; grind
theorem lf_X8_kindBy_5 {x : Int32} (c_1 : ¬ (x = 118)) (c_2 : x = 98) : 2 = (kindX x) := by
  unfold kindX; grind
theorem lf_X8_kindBy_6 {x : Int32} (c_1 : x = 118) : 1 = (kindX x) := by
  unfold kindX; grind
set_option maxHeartbeats 4000000 in
set_option maxRecDepth 100000 in
theorem r_X8_kindBy (l : Launch) (dC : Nat → ClassId) (dI : Nat → Nat → Nat) (cI cZ cL cJ : ClassId) (x : Int32)  : Met l yX8_kindBy wsX8_kindBy ({ frames := 0, cells := 0, slots := 0, locals := 0 }) (va_Pc [.int x] (fun U => va_P (dC, dI) vwCl [] U.heap ∧ va_K (dC, dI) vwCl [(cI, .int), (cZ, .boolean), (cL, .object RX3), (cJ, .array .int)] U)) (vp_Si (fun r => r = (kindX x))) 0 0 (fun _ => False) := by
  refine Met.ofW (cc := cX8_kindBy) (maxL := 1) (ret := (some .int)) (by decide) rfl ?_
  intro p e s m args below meth c s₁ B hml hv
  obtain ⟨rfl, hP, hK⟩ := hv
  have hx := B.exec
  have hb := B.bytes
  have hr := B.returns
  have hts := atoms_spec (ws := wsX8_kindBy) B.pre
  have hown : s.vm.findClass RX8 = some m.cls := findClass_of_methodNamed B.named
  have hlocks := B.notSynchronized
  have hP : va_P (dC, dI) vwCl [] s.heap := hP
  have hl := lv_entry ([.int x]) (n := 1) (Nat.le_of_ble_eq_true rfl)
  rw [lg_entry_eq]
  generalize (lg_sl ([.int x]) ++ List.replicate (1 - (lg_sl ([.int x])).length) Slot.unset).toArray = ls at hl ⊢
  have hl : lv_has ls 1 [(0, .int x)] := hl
  refine lv_iload_n hx hb dX8_kindBy_0 rfl (lv_at hl 0 rfl) ?_
  refine lv_bipush (v := 118) hx hb dX8_kindBy_1 (by decide) ?_
  refine lv_icmp_ne (tgt := 10) hx hb dX8_kindBy_3 (by decide) (fun c_1 => ?_) (fun c_1 => ?_)
  · skip
    refine lv_iload_n hx hb dX8_kindBy_10 rfl (lv_at hl 0 rfl) ?_
    refine lv_bipush (v := 98) hx hb dX8_kindBy_11 (by decide) ?_
    refine lv_icmp_ne (tgt := 20) hx hb dX8_kindBy_13 (by decide) (fun c_2 => ?_) (fun c_2 => ?_)
    · skip
      refine lv_iload_n hx hb dX8_kindBy_20 rfl (lv_at hl 0 rfl) ?_
      refine lv_bipush (v := 104) hx hb dX8_kindBy_21 (by decide) ?_
      refine lv_icmp_ne (tgt := 30) hx hb dX8_kindBy_23 (by decide) (fun c_3 => ?_) (fun c_3 => ?_)
      · skip
        refine lv_iload_n hx hb dX8_kindBy_30 rfl (lv_at hl 0 rfl) ?_
        refine lv_bipush (v := 100) hx hb dX8_kindBy_31 (by decide) ?_
        refine lv_icmp_ne (tgt := 40) hx hb dX8_kindBy_33 (by decide) (fun c_4 => ?_) (fun c_4 => ?_)
        · skip
          refine lv_iload_n hx hb dX8_kindBy_40 rfl (lv_at hl 0 rfl) ?_
          refine lv_bipush (v := 115) hx hb dX8_kindBy_41 (by decide) ?_
          refine lv_icmp_ne (tgt := 50) hx hb dX8_kindBy_43 (by decide) (fun c_5 => ?_) (fun c_5 => ?_)
          · skip
            refine lv_iconst (v := 0) hx hb dX8_kindBy_50 (by decide) ?_
            exact W.iret (v := 0) hx hb hr (fun t ht hW => ⟨0, rfl, (lf_X8_kindBy_1 c_1 c_2 c_3 c_4 c_5), ht⟩) (fun _ h => by cases h) dX8_kindBy_51
          · skip
            refine lv_iconst (v := 5) hx hb dX8_kindBy_46 (by decide) ?_
            refine lv_goto (tgt := 51) hx hb dX8_kindBy_47 (by decide) ?_
            exact W.iret (v := 5) hx hb hr (fun t ht hW => ⟨5, rfl, (lf_X8_kindBy_2 c_1 c_2 c_3 c_4 c_5), ht⟩) (fun _ h => by cases h) dX8_kindBy_51
        · skip
          refine lv_iconst (v := 4) hx hb dX8_kindBy_36 (by decide) ?_
          refine lv_goto (tgt := 51) hx hb dX8_kindBy_37 (by decide) ?_
          exact W.iret (v := 4) hx hb hr (fun t ht hW => ⟨4, rfl, (lf_X8_kindBy_3 c_1 c_2 c_3 c_4), ht⟩) (fun _ h => by cases h) dX8_kindBy_51
      · skip
        refine lv_iconst (v := 3) hx hb dX8_kindBy_26 (by decide) ?_
        refine lv_goto (tgt := 51) hx hb dX8_kindBy_27 (by decide) ?_
        exact W.iret (v := 3) hx hb hr (fun t ht hW => ⟨3, rfl, (lf_X8_kindBy_4 c_1 c_2 c_3), ht⟩) (fun _ h => by cases h) dX8_kindBy_51
    · skip
      refine lv_iconst (v := 2) hx hb dX8_kindBy_16 (by decide) ?_
      refine lv_goto (tgt := 51) hx hb dX8_kindBy_17 (by decide) ?_
      exact W.iret (v := 2) hx hb hr (fun t ht hW => ⟨2, rfl, (lf_X8_kindBy_5 c_1 c_2), ht⟩) (fun _ h => by cases h) dX8_kindBy_51
  · skip
    refine lv_iconst (v := 1) hx hb dX8_kindBy_6 (by decide) ?_
    refine lv_goto (tgt := 51) hx hb dX8_kindBy_7 (by decide) ?_
    exact W.iret (v := 1) hx hb hr (fun t ht hW => ⟨1, rfl, (lf_X8_kindBy_6 c_1), ht⟩) (fun _ h => by cases h) dX8_kindBy_51
theorem lf_X8_isKind_1 {x : Int32} {y : Int32} (c_1 : y = 0) : isK x y := by
  simp only [isK]; grind
theorem lf_X8_isKind_2 {x : Int32} {y : Int32} (c_1 : ¬ (y = 0)) (c_2 : x = y) : isK x y := by
  simp only [isK]; grind
theorem lf_X8_isKind_3 {x : Int32} {y : Int32} (c_1 : ¬ (y = 0)) (c_2 : ¬ (x = y)) (c_3 : ¬ (y = 1)) (c_4 : ¬ (y = 4)) : ¬ isK x y := by
  simp only [isK]; grind
theorem lf_X8_isKind_4 {x : Int32} {y : Int32} (c_1 : ¬ (y = 0)) (c_2 : ¬ (x = y)) (c_3 : ¬ (y = 1)) (c_4 : y = 4) (c_5 : ¬ (x = 5)) : ¬ isK x y := by
  simp only [isK]; grind
theorem lf_X8_isKind_5 {x : Int32} {y : Int32} (c_1 : ¬ (y = 0)) (c_2 : ¬ (x = y)) (c_3 : ¬ (y = 1)) (c_4 : y = 4) (c_5 : x = 5) : isK x y := by
  simp only [isK]; grind
theorem lf_X8_isKind_6 {x : Int32} {y : Int32} (c_1 : ¬ (y = 0)) (c_2 : ¬ (x = y)) (c_3 : y = 1) (c_6 : x < 4) : isK x y := by
  simp only [isK]; grind
theorem lf_X8_isKind_7 {x : Int32} {y : Int32} (c_1 : ¬ (y = 0)) (c_2 : ¬ (x = y)) (c_3 : y = 1) (c_6 : ¬ (x < 4)) (c_7 : ¬ (y = 4)) : ¬ isK x y := by
  simp only [isK]; grind
theorem lf_X8_isKind_8 {x : Int32} {y : Int32} (c_1 : ¬ (y = 0)) (c_2 : ¬ (x = y)) (c_3 : y = 1) (c_6 : ¬ (x < 4)) (c_7 : y = 4) (c_8 : ¬ (x = 5)) : ¬ isK x y := by
  simp only [isK]; grind
theorem lf_X8_isKind_9 {x : Int32} {y : Int32} (c_1 : ¬ (y = 0)) (c_2 : ¬ (x = y)) (c_3 : y = 1) (c_6 : ¬ (x < 4)) (c_7 : y = 4) (c_8 : x = 5) : isK x y := by
  simp only [isK]; grind
set_option maxHeartbeats 4000000 in
set_option maxRecDepth 100000 in
theorem r_X8_isKind (l : Launch) (dC : Nat → ClassId) (dI : Nat → Nat → Nat) (cI cZ cL cJ : ClassId) (x : Int32) (y : Int32)  : Met l yX8_isKind wsX8_isKind ({ frames := 0, cells := 0, slots := 0, locals := 0 }) (va_Pc [.int x, .int y] (fun U => va_P (dC, dI) vwCl [] U.heap ∧ va_K (dC, dI) vwCl [(cI, .int), (cZ, .boolean), (cL, .object RX3), (cJ, .array .int)] U)) (vp_Si (fun r => (r = 0 ∧ ¬ isK x y) ∨ (r = 1 ∧ isK x y))) 0 0 (fun _ => False) := by
  refine Met.ofW (cc := cX8_isKind) (maxL := 2) (ret := (some .boolean)) (by decide) rfl ?_
  intro p e s m args below meth c s₁ B hml hv
  obtain ⟨rfl, hP, hK⟩ := hv
  have hx := B.exec
  have hb := B.bytes
  have hr := B.returns
  have hts := atoms_spec (ws := wsX8_isKind) B.pre
  have hown : s.vm.findClass RX8 = some m.cls := findClass_of_methodNamed B.named
  have hlocks := B.notSynchronized
  have hP : va_P (dC, dI) vwCl [] s.heap := hP
  have hl := lv_entry ([.int x, .int y]) (n := 2) (Nat.le_of_ble_eq_true rfl)
  rw [lg_entry_eq]
  generalize (lg_sl ([.int x, .int y]) ++ List.replicate (2 - (lg_sl ([.int x, .int y])).length) Slot.unset).toArray = ls at hl ⊢
  have hl : lv_has ls 2 [(0, .int x), (1, .int y)] := hl
  refine lv_iload_n hx hb dX8_isKind_0 rfl (lv_at hl 1 rfl) ?_
  refine lv_if_eq (tgt := 29) hx hb dX8_isKind_1 (by decide) (fun c_1 => ?_) (fun c_1 => ?_)
  · skip
    refine lv_iconst (v := 1) hx hb dX8_isKind_29 (by decide) ?_
    refine lv_goto (tgt := 34) hx hb dX8_isKind_30 (by decide) ?_
    exact W.zret (v := 1) hx hb hr (by decide) (fun t ht hW => ⟨1, rfl, Or.inr (⟨rfl, (lf_X8_isKind_1 c_1)⟩), ht⟩) (fun _ h => by cases h) dX8_isKind_34
  · skip
    refine lv_iload_n hx hb dX8_isKind_4 rfl (lv_at hl 0 rfl) ?_
    refine lv_iload_n hx hb dX8_isKind_5 rfl (lv_at hl 1 rfl) ?_
    refine lv_icmp_eq (tgt := 29) hx hb dX8_isKind_6 (by decide) (fun c_2 => ?_) (fun c_2 => ?_)
    · skip
      refine lv_iconst (v := 1) hx hb dX8_isKind_29 (by decide) ?_
      refine lv_goto (tgt := 34) hx hb dX8_isKind_30 (by decide) ?_
      exact W.zret (v := 1) hx hb hr (by decide) (fun t ht hW => ⟨1, rfl, Or.inr (⟨rfl, (lf_X8_isKind_2 c_1 c_2)⟩), ht⟩) (fun _ h => by cases h) dX8_isKind_34
    · skip
      refine lv_iload_n hx hb dX8_isKind_9 rfl (lv_at hl 1 rfl) ?_
      refine lv_iconst (v := 1) hx hb dX8_isKind_10 (by decide) ?_
      refine lv_icmp_ne (tgt := 19) hx hb dX8_isKind_11 (by decide) (fun c_3 => ?_) (fun c_3 => ?_)
      · skip
        refine lv_iload_n hx hb dX8_isKind_19 rfl (lv_at hl 1 rfl) ?_
        refine lv_iconst (v := 4) hx hb dX8_isKind_20 (by decide) ?_
        refine lv_icmp_ne (tgt := 33) hx hb dX8_isKind_21 (by decide) (fun c_4 => ?_) (fun c_4 => ?_)
        · skip
          refine lv_iconst (v := 0) hx hb dX8_isKind_33 (by decide) ?_
          exact W.zret (v := 0) hx hb hr (by decide) (fun t ht hW => ⟨0, rfl, Or.inl (⟨rfl, (lf_X8_isKind_3 c_1 c_2 c_3 c_4)⟩), ht⟩) (fun _ h => by cases h) dX8_isKind_34
        · skip
          refine lv_iload_n hx hb dX8_isKind_24 rfl (lv_at hl 0 rfl) ?_
          refine lv_iconst (v := 5) hx hb dX8_isKind_25 (by decide) ?_
          refine lv_icmp_ne (tgt := 33) hx hb dX8_isKind_26 (by decide) (fun c_5 => ?_) (fun c_5 => ?_)
          · skip
            refine lv_iconst (v := 0) hx hb dX8_isKind_33 (by decide) ?_
            exact W.zret (v := 0) hx hb hr (by decide) (fun t ht hW => ⟨0, rfl, Or.inl (⟨rfl, (lf_X8_isKind_4 c_1 c_2 c_3 c_4 c_5)⟩), ht⟩) (fun _ h => by cases h) dX8_isKind_34
          · skip
            refine lv_iconst (v := 1) hx hb dX8_isKind_29 (by decide) ?_
            refine lv_goto (tgt := 34) hx hb dX8_isKind_30 (by decide) ?_
            exact W.zret (v := 1) hx hb hr (by decide) (fun t ht hW => ⟨1, rfl, Or.inr (⟨rfl, (lf_X8_isKind_5 c_1 c_2 c_3 c_4 c_5)⟩), ht⟩) (fun _ h => by cases h) dX8_isKind_34
      · skip
        refine lv_iload_n hx hb dX8_isKind_14 rfl (lv_at hl 0 rfl) ?_
        refine lv_iconst (v := 4) hx hb dX8_isKind_15 (by decide) ?_
        refine lv_icmp_lt (tgt := 29) hx hb dX8_isKind_16 (by decide) (fun c_6 => ?_) (fun c_6 => ?_)
        · skip
          refine lv_iconst (v := 1) hx hb dX8_isKind_29 (by decide) ?_
          refine lv_goto (tgt := 34) hx hb dX8_isKind_30 (by decide) ?_
          exact W.zret (v := 1) hx hb hr (by decide) (fun t ht hW => ⟨1, rfl, Or.inr (⟨rfl, (lf_X8_isKind_6 c_1 c_2 c_3 c_6)⟩), ht⟩) (fun _ h => by cases h) dX8_isKind_34
        · skip
          refine lv_iload_n hx hb dX8_isKind_19 rfl (lv_at hl 1 rfl) ?_
          refine lv_iconst (v := 4) hx hb dX8_isKind_20 (by decide) ?_
          refine lv_icmp_ne (tgt := 33) hx hb dX8_isKind_21 (by decide) (fun c_7 => ?_) (fun c_7 => ?_)
          · skip
            refine lv_iconst (v := 0) hx hb dX8_isKind_33 (by decide) ?_
            exact W.zret (v := 0) hx hb hr (by decide) (fun t ht hW => ⟨0, rfl, Or.inl (⟨rfl, (lf_X8_isKind_7 c_1 c_2 c_3 c_6 c_7)⟩), ht⟩) (fun _ h => by cases h) dX8_isKind_34
          · skip
            refine lv_iload_n hx hb dX8_isKind_24 rfl (lv_at hl 0 rfl) ?_
            refine lv_iconst (v := 5) hx hb dX8_isKind_25 (by decide) ?_
            refine lv_icmp_ne (tgt := 33) hx hb dX8_isKind_26 (by decide) (fun c_8 => ?_) (fun c_8 => ?_)
            · skip
              refine lv_iconst (v := 0) hx hb dX8_isKind_33 (by decide) ?_
              exact W.zret (v := 0) hx hb hr (by decide) (fun t ht hW => ⟨0, rfl, Or.inl (⟨rfl, (lf_X8_isKind_8 c_1 c_2 c_3 c_6 c_7 c_8)⟩), ht⟩) (fun _ h => by cases h) dX8_isKind_34
            · skip
              refine lv_iconst (v := 1) hx hb dX8_isKind_29 (by decide) ?_
              refine lv_goto (tgt := 34) hx hb dX8_isKind_30 (by decide) ?_
              exact W.zret (v := 1) hx hb hr (by decide) (fun t ht hW => ⟨1, rfl, Or.inr (⟨rfl, (lf_X8_isKind_9 c_1 c_2 c_3 c_6 c_7 c_8)⟩), ht⟩) (fun _ h => by cases h) dX8_isKind_34
theorem lf_X8_asLane_1 {x : Int32} {y : Int32} (c_1 : ¬ (x = 0)) (c_2 : ¬ (x = 1)) : y = (laneM x y) := by
  unfold laneM; grind
theorem lf_X8_asLane_2 {x : Int32} {y : Int32} {v_3 : Int32} {v_4 : Int32} (c_1 : ¬ (x = 0)) (c_2 : x = 1) (e_3 : v_3 = ((y : Int32) <<< ((16 : Int32) &&& 31))) (e_4 : v_4 = ((v_3 : Int32) >>> ((16 : Int32) &&& 31))) : v_4 = (laneM x y) := by
  unfold laneM; grind
theorem lf_X8_asLane_3 {x : Int32} {y : Int32} {v_5 : Int32} {v_6 : Int32} (c_1 : x = 0) (e_5 : v_5 = ((y : Int32) <<< ((24 : Int32) &&& 31))) (e_6 : v_6 = ((v_5 : Int32) >>> ((24 : Int32) &&& 31))) : v_6 = (laneM x y) := by
  unfold laneM; grind
set_option maxHeartbeats 4000000 in
set_option maxRecDepth 100000 in
theorem r_X8_asLane (l : Launch) (dC : Nat → ClassId) (dI : Nat → Nat → Nat) (cI cZ cL cJ : ClassId) (x : Int32) (y : Int32)  : Met l yX8_asLane wsX8_asLane ({ frames := 0, cells := 0, slots := 0, locals := 0 }) (va_Pc [.int x, .int y] (fun U => va_P (dC, dI) vwCl [] U.heap ∧ va_K (dC, dI) vwCl [(cI, .int), (cZ, .boolean), (cL, .object RX3), (cJ, .array .int)] U)) (vp_Si (fun r => r = (laneM x y))) 0 0 (fun _ => False) := by
  refine Met.ofW (cc := cX8_asLane) (maxL := 2) (ret := (some .int)) (by decide) rfl ?_
  intro p e s m args below meth c s₁ B hml hv
  obtain ⟨rfl, hP, hK⟩ := hv
  have hx := B.exec
  have hb := B.bytes
  have hr := B.returns
  have hts := atoms_spec (ws := wsX8_asLane) B.pre
  have hown : s.vm.findClass RX8 = some m.cls := findClass_of_methodNamed B.named
  have hlocks := B.notSynchronized
  have hP : va_P (dC, dI) vwCl [] s.heap := hP
  have hl := lv_entry ([.int x, .int y]) (n := 2) (Nat.le_of_ble_eq_true rfl)
  rw [lg_entry_eq]
  generalize (lg_sl ([.int x, .int y]) ++ List.replicate (2 - (lg_sl ([.int x, .int y])).length) Slot.unset).toArray = ls at hl ⊢
  have hl : lv_has ls 2 [(0, .int x), (1, .int y)] := hl
  refine lv_iload_n hx hb dX8_asLane_0 rfl (lv_at hl 0 rfl) ?_
  refine lv_if_ne (tgt := 14) hx hb dX8_asLane_1 (by decide) (fun c_1 => ?_) (fun c_1 => ?_)
  · skip
    refine lv_iload_n hx hb dX8_asLane_14 rfl (lv_at hl 0 rfl) ?_
    refine lv_iconst (v := 1) hx hb dX8_asLane_15 (by decide) ?_
    refine lv_icmp_ne (tgt := 29) hx hb dX8_asLane_16 (by decide) (fun c_2 => ?_) (fun c_2 => ?_)
    · skip
      refine lv_iload_n hx hb dX8_asLane_29 rfl (lv_at hl 1 rfl) ?_
      exact W.iret (v := y) hx hb hr (fun t ht hW => ⟨y, rfl, (lf_X8_asLane_1 c_1 c_2), ht⟩) (fun _ h => by cases h) dX8_asLane_30
    · skip
      refine lv_iload_n hx hb dX8_asLane_19 rfl (lv_at hl 1 rfl) ?_
      refine lv_bipush (v := 16) hx hb dX8_asLane_20 (by decide) ?_
      refine lv_ishl hx hb dX8_asLane_22 ?_
      refine lv_topi (fun v_3 e_3 => ?_)
      refine lv_bipush (v := 16) hx hb dX8_asLane_23 (by decide) ?_
      refine lv_ishr hx hb dX8_asLane_25 ?_
      refine lv_topi (fun v_4 e_4 => ?_)
      refine lv_goto (tgt := 30) hx hb dX8_asLane_26 (by decide) ?_
      exact W.iret (v := v_4) hx hb hr (fun t ht hW => ⟨v_4, rfl, (lf_X8_asLane_2 c_1 c_2 e_3 e_4), ht⟩) (fun _ h => by cases h) dX8_asLane_30
  · skip
    refine lv_iload_n hx hb dX8_asLane_4 rfl (lv_at hl 1 rfl) ?_
    refine lv_bipush (v := 24) hx hb dX8_asLane_5 (by decide) ?_
    refine lv_ishl hx hb dX8_asLane_7 ?_
    refine lv_topi (fun v_5 e_5 => ?_)
    refine lv_bipush (v := 24) hx hb dX8_asLane_8 (by decide) ?_
    refine lv_ishr hx hb dX8_asLane_10 ?_
    refine lv_topi (fun v_6 e_6 => ?_)
    refine lv_goto (tgt := 30) hx hb dX8_asLane_11 (by decide) ?_
    exact W.iret (v := v_6) hx hb hr (fun t ht hW => ⟨v_6, rfl, (lf_X8_asLane_3 c_1 e_5 e_6), ht⟩) (fun _ h => by cases h) dX8_asLane_30
theorem lf_X8_isWhat_1 {x : Int32} (f_1_0_0 : ((x).toInt64 < 0 ∨ 1 < (x).toInt64)) (q_1 : (x < 0 ∨ 1 < x)) : (x < 0 ∨ 1 < x) := by
  assumption
theorem lf_X8_isWhat_2 {x : Int32} (f_1_1_0 : (¬ ((x).toInt64 < 0 ∨ 1 < (x).toInt64))) (q_1 : ¬ (x < 0 ∨ 1 < x)) : (¬ (x < 0 ∨ 1 < x)) := by
  assumption
set_option maxHeartbeats 4000000 in
set_option maxRecDepth 100000 in
theorem r_X8_isWhat (l : Launch) (dC : Nat → ClassId) (dI : Nat → Nat → Nat) (cI cZ cL cJ : ClassId) (x : Int32)  : Met l yX8_isWhat wsX8_isWhat ({ frames := 1, cells := 0, slots := 0, locals := 25 }) (va_Pc [.int x] (fun U => va_P (dC, dI) vwCl [] U.heap ∧ va_K (dC, dI) vwCl [(cI, .int), (cZ, .boolean), (cL, .object RX3), (cJ, .array .int)] U)) (vp_Si (fun r => (r = 0 ∧ (x < 0 ∨ 1 < x)) ∨ (r = 1 ∧ (¬ (x < 0 ∨ 1 < x))))) 0 0 (fun _ => False) := by
  refine Met.ofW (cc := cX8_isWhat) (maxL := 1) (ret := (some .boolean)) (by decide) rfl ?_
  intro p e s m args below meth c s₁ B hml hv
  obtain ⟨rfl, hP, hK⟩ := hv
  have hx := B.exec
  have hb := B.bytes
  have hr := B.returns
  have hts := atoms_spec (ws := wsX8_isWhat) B.pre
  have hown : s.vm.findClass RX8 = some m.cls := findClass_of_methodNamed B.named
  have hlocks := B.notSynchronized
  have hP : va_P (dC, dI) vwCl [] s.heap := hP
  have hl := lv_entry ([.int x]) (n := 1) (Nat.le_of_ble_eq_true rfl)
  rw [lg_entry_eq]
  generalize (lg_sl ([.int x]) ++ List.replicate (1 - (lg_sl ([.int x])).length) Slot.unset).toArray = ls at hl ⊢
  have hl : lv_has ls 1 [(0, .int x)] := hl
  refine lv_iload_n hx hb dX8_isWhat_0 rfl (lv_at hl 0 rfl) ?_
  refine lv_i2l hx hb dX8_isWhat_1 rfl ?_
  refine lv_lconst (v := 0) hx hb dX8_isWhat_2 (by decide) ?_
  refine lv_lconst (v := 1) hx hb dX8_isWhat_3 (by decide) ?_
  have hPc_1 := hP
  refine vp_callSi (W.runS (As := [.long (x).toInt64, .long 0, .long 1]) (rest := []) ⟨hx, hb, hml, hown, hts⟩ (r_X8_in l dC dI cI cZ cL cJ ((x).toInt64) 0 1 ) (va_cwS 3 hts gX8_isWhat_X8_in rfl rfl rfl (by decide +kernel) ⟨Nat.le_of_ble_eq_true rfl, Nat.le_of_ble_eq_true rfl⟩) (psP hK hPc_1) rfl rfl hl.1 rfl (lv_room (Nat.le_of_ble_eq_true rfl)) dX8_isWhat_4 ⟨Nat.le_of_ble_eq_true rfl, Nat.le_of_ble_eq_true rfl⟩) (fun r_1 h_1 => ?_)
  rcases h_1 with ⟨h_1, f_1_0_0⟩ | ⟨h_1, f_1_1_0⟩
  · subst h_1
    have q_1 : (x < 0 ∨ 1 < x) := (in32 (x := x) (l := 0) (u := 1) (by decide) (by decide)).mp f_1_0_0
    exact W.zret (v := 0) hx hb hr (by decide) (fun t ht hW => ⟨0, rfl, Or.inl (⟨rfl, (lf_X8_isWhat_1 f_1_0_0 q_1)⟩), ht⟩) (fun _ h => by cases h) dX8_isWhat_7
  · subst h_1
    have q_1 : ¬ (x < 0 ∨ 1 < x) := fun q_ => f_1_1_0 ((in32 (x := x) (l := 0) (u := 1) (by decide) (by decide)).mpr q_)
    exact W.zret (v := 1) hx hb hr (by decide) (fun t ht hW => ⟨1, rfl, Or.inr (⟨rfl, (lf_X8_isWhat_2 f_1_1_0 q_1)⟩), ht⟩) (fun _ h => by cases h) dX8_isWhat_7
set_option maxHeartbeats 4000000 in
set_option maxRecDepth 100000 in
theorem r_X8_isRow (l : Launch) (dC : Nat → ClassId) (dI : Nat → Nat → Nat) (cI cZ cL cJ : ClassId) (a : Int32)  : Met l yX8_isRow wsX8_isRow ({ frames := 1, cells := 0, slots := 0, locals := 25 }) (va_Pc [.int a] (fun U => va_P (dC, dI) vwCl [] U.heap ∧ va_K (dC, dI) vwCl [(cI, .int), (cZ, .boolean), (cL, .object RX3), (cJ, .array .int)] U)) (vp_Si (fun r => (r = 0 ∧ (a < 0 ∨ 8 ≤ a)) ∨ (r = 1 ∧ vp_in a 8))) 0 0 (fun _ => False) := by
  refine Met.ofW (cc := cX8_isRow) (maxL := 1) (ret := (some .boolean)) (by decide) rfl ?_
  intro p e s m args below meth c s₁ B hml hv
  obtain ⟨rfl, hP, hK⟩ := hv
  have hx := B.exec
  have hb := B.bytes
  have hr := B.returns
  have hts := atoms_spec (ws := wsX8_isRow) B.pre
  have hown : s.vm.findClass RX8 = some m.cls := findClass_of_methodNamed B.named
  have hlocks := B.notSynchronized
  have hP : va_P (dC, dI) vwCl [] s.heap := hP
  have hl := lv_entry ([.int a]) (n := 1) (Nat.le_of_ble_eq_true rfl)
  rw [lg_entry_eq]
  generalize (lg_sl ([.int a]) ++ List.replicate (1 - (lg_sl ([.int a])).length) Slot.unset).toArray = ls at hl ⊢
  have hl : lv_has ls 1 [(0, .int a)] := hl
  refine lv_iload_n hx hb dX8_isRow_0 rfl (lv_at hl 0 rfl) ?_
  refine lv_i2l hx hb dX8_isRow_1 rfl ?_
  refine lv_lconst (v := 0) hx hb dX8_isRow_2 (by decide) ?_
  refine lv_ldc2 (own := RX8) (v := 7) hx hb hown (hts _ mx_X8_isRow_1) dX8_isRow_3 ?_
  have hPc_1 := hP
  refine vp_callSi (W.runS (As := [.long (a).toInt64, .long 0, .long 7]) (rest := []) ⟨hx, hb, hml, hown, hts⟩ (r_X8_in l dC dI cI cZ cL cJ ((a).toInt64) 0 7 ) (va_cwS 3 hts gX8_isRow_X8_in rfl rfl rfl (by decide +kernel) ⟨Nat.le_of_ble_eq_true rfl, Nat.le_of_ble_eq_true rfl⟩) (psP hK hPc_1) rfl rfl hl.1 rfl (lv_room (Nat.le_of_ble_eq_true rfl)) dX8_isRow_6 ⟨Nat.le_of_ble_eq_true rfl, Nat.le_of_ble_eq_true rfl⟩) (fun r_1 h_1 => ?_)
  rcases h_1 with ⟨h_1, f_1_0_0⟩ | ⟨h_1, f_1_1_0⟩
  · subst h_1
    exact W.zret (v := 0) hx hb hr (by decide) (fun t ht hW => ⟨0, rfl, Or.inl ⟨rfl, row64.mp f_1_0_0⟩, ht⟩) (fun _ h => by cases h) dX8_isRow_9
  · subst h_1
    exact W.zret (v := 1) hx hb hr (by decide) (fun t ht hW => ⟨1, rfl, Or.inr ⟨rfl, in_8 (fun q => f_1_1_0 (row64.mpr q))⟩, ht⟩) (fun _ h => by cases h) dX8_isRow_9
theorem lf_X8_find_1 {n : Int32} {v_1 : Int32} (e_1 : v_1 = ((-1000010) - n)) : (n : Int32) = n := by
  first | assumption | rfl
theorem lf_X8_find_2 {n : Int32} {v_1 : Int32} (e_1 : v_1 = ((-1000010) - n)) : v_1 = (-1000010 - n) := by
  first | assumption | rfl
set_option maxHeartbeats 4000000 in
set_option maxRecDepth 100000 in
theorem r_X8_find (l : Launch) (dC : Nat → ClassId) (dI : Nat → Nat → Nat) (cI cZ cL cJ : ClassId) (sz : Nat) (mo : Nat) (m_la : Nat) (m_sz : Nat) (m_it : Nat) (m_st : Nat) (m_mv : Nat) (m_tp : Nat) (m_rd : Nat) (m_ac : Nat) (m_as : Nat) (m_wo : Nat) (m_ik : Nat) (m_ke : Nat) (m_tr : Nat) (ms : Int32) (mt : Int32) (ml : Int32) (mk : Int32) (mv : Int32) (mb : Int32) (mw : Int32) (mz : Nat) (mp : Nat) (ma : Nat) (mx : Nat) (n : Int32)  : Met l yX8_find wsX8_find ({ frames := 0, cells := 0, slots := 0, locals := 0 }) (va_Pc [.ref mo, .int n] (fun U => U.heap.size = sz ∧ va_P (dC, dI) vwCl [(xo_8_rrriirrriiiiiiirrirrrrri mo m_la m_sz m_it ms mt m_st m_mv m_tp (nI mz) ml (nI mp) mk mv mb mw m_rd m_ac (nI ma) m_as m_wo m_ik m_ke m_tr (nI mx))] U.heap ∧ va_K (dC, dI) vwCl [(cI, .int), (cZ, .boolean), (cL, .object RX3), (cJ, .array .int)] U ∧ va_D (fun _ => True) [(xo_8_rrriirrriiiiiiirrirrrrri mo m_la m_sz m_it ms mt m_st m_mv m_tp (nI mz) ml (nI mp) mk mv mb mw m_rd m_ac (nI ma) m_as m_wo m_ik m_ke m_tr (nI mx))])) (va_Qi (fun r (_ : Unit) => r = (-1000010 - n)) (fun (_ : Unit) t => ∃ (msn : Int32), va_P (dC, dI) vwCl [(xo_8_rrriirrriiiiiiirrirrrrri mo m_la m_sz m_it msn mt m_st m_mv m_tp (nI mz) ml (nI mp) mk mv mb mw m_rd m_ac (nI ma) m_as m_wo m_ik m_ke m_tr (nI mx))] t.heap ∧ va_D (va_A [(xo_8_rrriirrriiiiiiirrirrrrri mo m_la m_sz m_it ms mt m_st m_mv m_tp (nI mz) ml (nI mp) mk mv mb mw m_rd m_ac (nI ma) m_as m_wo m_ik m_ke m_tr (nI mx))] sz) [(xo_8_rrriirrriiiiiiirrirrrrri mo m_la m_sz m_it msn mt m_st m_mv m_tp (nI mz) ml (nI mp) mk mv mb mw m_rd m_ac (nI ma) m_as m_wo m_ik m_ke m_tr (nI mx))] ∧ (msn : Int32) = n) (va_A [(xo_8_rrriirrriiiiiiirrirrrrri mo m_la m_sz m_it ms mt m_st m_mv m_tp (nI mz) ml (nI mp) mk mv mb mw m_rd m_ac (nI ma) m_as m_wo m_ik m_ke m_tr (nI mx))] sz)) 0 0 (va_A [(xo_8_rrriirrriiiiiiirrirrrrri mo m_la m_sz m_it ms mt m_st m_mv m_tp (nI mz) ml (nI mp) mk mv mb mw m_rd m_ac (nI ma) m_as m_wo m_ik m_ke m_tr (nI mx))] sz) := by
  refine Met.ofW (cc := cX8_find) (maxL := 2) (ret := (some .int)) (by decide) rfl ?_
  intro p e s m args below meth c s₁ B hml hv
  obtain ⟨rfl, hsz, hP, hK, hD0⟩ := hv
  have hx := B.exec
  have hb := B.bytes
  have hr := B.returns
  have hts := atoms_spec (ws := wsX8_find) B.pre
  have hown : s.vm.findClass RX8 = some m.cls := findClass_of_methodNamed B.named
  have hlocks := B.notSynchronized
  subst hsz
  have hD := hD0.self (sz := s.heap.size)
  generalize hAe : va_A [(xo_8_rrriirrriiiiiiirrirrrrri mo m_la m_sz m_it ms mt m_st m_mv m_tp (nI mz) ml (nI mp) mk mv mb mw m_rd m_ac (nI ma) m_as m_wo m_ik m_ke m_tr (nI mx))] s.heap.size = A at hD ⊢
  have hA : ∀ q : Nat, s.heap.size ≤ q → A q := fun q h => by rw [← hAe]; exact Or.inr h
  have hS : va_S A s.heap s.heap [] := va_S.rf
  have hP : va_P (dC, dI) vwCl [(xo_8_rrriirrriiiiiiirrirrrrri mo m_la m_sz m_it ms mt m_st m_mv m_tp (nI mz) ml (nI mp) mk mv mb mw m_rd m_ac (nI ma) m_as m_wo m_ik m_ke m_tr (nI mx))] s.heap := hP
  have hl := lv_entry ([.ref mo, .int n]) (n := 2) (Nat.le_of_ble_eq_true rfl)
  rw [lg_entry_eq]
  generalize (lg_sl ([.ref mo, .int n]) ++ List.replicate (2 - (lg_sl ([.ref mo, .int n])).length) Slot.unset).toArray = ls at hl ⊢
  have hl : lv_has ls 2 [(0, .ref mo), (1, .int n)] := hl
  refine lv_aload_n hx hb dX8_find_0 rfl (lv_at hl 0 rfl) ?_
  refine lv_iload_n hx hb dX8_find_1 rfl (lv_at hl 1 rfl) ?_
  refine va_put (D := (dC, dI)) (ci := 8) (v := .int n) (ty := .int) (C := RX8) (T := TX8) (N := 24) hx hb hts i_X8_find_X8 tyX8 tyX8_ok nmX8 hown hK hP hD hS 0 rfl rfl 3 (by decide) (hts _ mx_X8_find_1) (fun _ h9 => h9) rfl (by decide +kernel) rfl rfl (Nat.le_of_ble_eq_true rfl) dX8_find_2 (fun H locs hP hD hS => ?_)
  have hP : va_P (dC, dI) vwCl [(xo_8_rrriirrriiiiiiirrirrrrri mo m_la m_sz m_it n mt m_st m_mv m_tp (nI mz) ml (nI mp) mk mv mb mw m_rd m_ac (nI ma) m_as m_wo m_ik m_ke m_tr (nI mx))] H := hP
  have hD := dto hP hD
  refine lv_ldc (own := RX8) (v := (-1000010)) hx hb hown (hts _ mx_X8_find_2) dX8_find_5 ?_
  refine lv_iload_n hx hb dX8_find_7 rfl (lv_at hl 1 rfl) ?_
  refine lv_isub hx hb dX8_find_8 ?_
  refine lv_topi (fun v_1 e_1 => ?_)
  have hX9 := cut2 (wc := [(xo_8_rrriirrriiiiiiirrirrrrri mo m_la m_sz m_it n mt m_st m_mv m_tp (nI mz) ml (nI mp) mk mv mb mw m_rd m_ac (nI ma) m_as m_wo m_ik m_ke m_tr (nI mx))]) hP hD [0] (by decide +kernel) rfl
  exact W.iret (v := v_1) hx hb hr (fun t ht hW => ⟨⟨v_1, (), rfl, (lf_X8_find_2 e_1), ⟨n, va_Ht ht hX9.1, hX9.2, (lf_X8_find_1 e_1)⟩⟩, hS.F ht⟩) hS.2.2 dX8_find_9
theorem lf_X8_well_1   : (0 : Int32) = 0 := by
  first | assumption | rfl
set_option maxHeartbeats 4000000 in
set_option maxRecDepth 100000 in
theorem r_X8_well (l : Launch) (dC : Nat → ClassId) (dI : Nat → Nat → Nat) (cI cZ cL cJ : ClassId) (sz : Nat) (mo : Nat) (m_la : Nat) (m_sz : Nat) (m_it : Nat) (m_st : Nat) (m_mv : Nat) (m_tp : Nat) (m_rd : Nat) (m_ac : Nat) (m_as : Nat) (m_wo : Nat) (m_ik : Nat) (m_ke : Nat) (m_tr : Nat) (ms : Int32) (mt : Int32) (ml : Int32) (mk : Int32) (mv : Int32) (mb : Int32) (mw : Int32) (mz : Nat) (mp : Nat) (ma : Nat) (mx : Nat) (n : Int32)  : Met l yX8_well wsX8_well ({ frames := 0, cells := 0, slots := 0, locals := 0 }) (va_Pc [.ref mo, .int n] (fun U => U.heap.size = sz ∧ va_P (dC, dI) vwCl [(xo_8_rrriirrriiiiiiirrirrrrri mo m_la m_sz m_it ms mt m_st m_mv m_tp (nI mz) ml (nI mp) mk mv mb mw m_rd m_ac (nI ma) m_as m_wo m_ik m_ke m_tr (nI mx))] U.heap ∧ va_K (dC, dI) vwCl [(cI, .int), (cZ, .boolean), (cL, .object RX3), (cJ, .array .int)] U ∧ va_D (fun _ => True) [(xo_8_rrriirrriiiiiiirrirrrrri mo m_la m_sz m_it ms mt m_st m_mv m_tp (nI mz) ml (nI mp) mk mv mb mw m_rd m_ac (nI ma) m_as m_wo m_ik m_ke m_tr (nI mx))])) (va_Qi (fun r (_ : Unit) => r = n) (fun (_ : Unit) t => ∃ (msn : Int32), va_P (dC, dI) vwCl [(xo_8_rrriirrriiiiiiirrirrrrri mo m_la m_sz m_it msn mt m_st m_mv m_tp (nI mz) ml (nI mp) mk mv mb mw m_rd m_ac (nI ma) m_as m_wo m_ik m_ke m_tr (nI mx))] t.heap ∧ va_D (va_A [(xo_8_rrriirrriiiiiiirrirrrrri mo m_la m_sz m_it ms mt m_st m_mv m_tp (nI mz) ml (nI mp) mk mv mb mw m_rd m_ac (nI ma) m_as m_wo m_ik m_ke m_tr (nI mx))] sz) [(xo_8_rrriirrriiiiiiirrirrrrri mo m_la m_sz m_it msn mt m_st m_mv m_tp (nI mz) ml (nI mp) mk mv mb mw m_rd m_ac (nI ma) m_as m_wo m_ik m_ke m_tr (nI mx))] ∧ (msn : Int32) = 0) (va_A [(xo_8_rrriirrriiiiiiirrirrrrri mo m_la m_sz m_it ms mt m_st m_mv m_tp (nI mz) ml (nI mp) mk mv mb mw m_rd m_ac (nI ma) m_as m_wo m_ik m_ke m_tr (nI mx))] sz)) 0 0 (va_A [(xo_8_rrriirrriiiiiiirrirrrrri mo m_la m_sz m_it ms mt m_st m_mv m_tp (nI mz) ml (nI mp) mk mv mb mw m_rd m_ac (nI ma) m_as m_wo m_ik m_ke m_tr (nI mx))] sz) := by
  refine Met.ofW (cc := cX8_well) (maxL := 2) (ret := (some .int)) (by decide) rfl ?_
  intro p e s m args below meth c s₁ B hml hv
  obtain ⟨rfl, hsz, hP, hK, hD0⟩ := hv
  have hx := B.exec
  have hb := B.bytes
  have hr := B.returns
  have hts := atoms_spec (ws := wsX8_well) B.pre
  have hown : s.vm.findClass RX8 = some m.cls := findClass_of_methodNamed B.named
  have hlocks := B.notSynchronized
  subst hsz
  have hD := hD0.self (sz := s.heap.size)
  generalize hAe : va_A [(xo_8_rrriirrriiiiiiirrirrrrri mo m_la m_sz m_it ms mt m_st m_mv m_tp (nI mz) ml (nI mp) mk mv mb mw m_rd m_ac (nI ma) m_as m_wo m_ik m_ke m_tr (nI mx))] s.heap.size = A at hD ⊢
  have hA : ∀ q : Nat, s.heap.size ≤ q → A q := fun q h => by rw [← hAe]; exact Or.inr h
  have hS : va_S A s.heap s.heap [] := va_S.rf
  have hP : va_P (dC, dI) vwCl [(xo_8_rrriirrriiiiiiirrirrrrri mo m_la m_sz m_it ms mt m_st m_mv m_tp (nI mz) ml (nI mp) mk mv mb mw m_rd m_ac (nI ma) m_as m_wo m_ik m_ke m_tr (nI mx))] s.heap := hP
  have hl := lv_entry ([.ref mo, .int n]) (n := 2) (Nat.le_of_ble_eq_true rfl)
  rw [lg_entry_eq]
  generalize (lg_sl ([.ref mo, .int n]) ++ List.replicate (2 - (lg_sl ([.ref mo, .int n])).length) Slot.unset).toArray = ls at hl ⊢
  have hl : lv_has ls 2 [(0, .ref mo), (1, .int n)] := hl
  refine lv_aload_n hx hb dX8_well_0 rfl (lv_at hl 0 rfl) ?_
  refine lv_iconst (v := 0) hx hb dX8_well_1 (by decide) ?_
  refine va_put (D := (dC, dI)) (ci := 8) (v := .int 0) (ty := .int) (C := RX8) (T := TX8) (N := 24) hx hb hts i_X8_well_X8 tyX8 tyX8_ok nmX8 hown hK hP hD hS 0 rfl rfl 3 (by decide) (hts _ mx_X8_well_1) (fun _ h9 => h9) rfl (by decide +kernel) rfl rfl (Nat.le_of_ble_eq_true rfl) dX8_well_2 (fun H locs hP hD hS => ?_)
  have hP : va_P (dC, dI) vwCl [(xo_8_rrriirrriiiiiiirrirrrrri mo m_la m_sz m_it 0 mt m_st m_mv m_tp (nI mz) ml (nI mp) mk mv mb mw m_rd m_ac (nI ma) m_as m_wo m_ik m_ke m_tr (nI mx))] H := hP
  have hD := dto hP hD
  refine lv_iload_n hx hb dX8_well_5 rfl (lv_at hl 1 rfl) ?_
  have hX9 := cut2 (wc := [(xo_8_rrriirrriiiiiiirrirrrrri mo m_la m_sz m_it 0 mt m_st m_mv m_tp (nI mz) ml (nI mp) mk mv mb mw m_rd m_ac (nI ma) m_as m_wo m_ik m_ke m_tr (nI mx))]) hP hD [0] (by decide +kernel) rfl
  exact W.iret (v := n) hx hb hr (fun t ht hW => ⟨⟨n, (), rfl, rfl, ⟨0, va_Ht ht hX9.1, hX9.2, lf_X8_well_1⟩⟩, hS.F ht⟩) hS.2.2 dX8_well_6
set_option maxHeartbeats 4000000 in
set_option maxRecDepth 100000 in
theorem r_X8_isSound (l : Launch) (dC : Nat → ClassId) (dI : Nat → Nat → Nat) (cI cZ cL cJ : ClassId) (mo : Nat) (m_la : Nat) (m_sz : Nat) (m_it : Nat) (m_st : Nat) (m_mv : Nat) (m_tp : Nat) (m_rd : Nat) (m_ac : Nat) (m_as : Nat) (m_wo : Nat) (m_ik : Nat) (m_ke : Nat) (m_tr : Nat) (ms : Int32) (mt : Int32) (ml : Int32) (mk : Int32) (mv : Int32) (mb : Int32) (mw : Int32) (mz : Nat) (mp : Nat) (ma : Nat) (mx : Nat) (fs : Nat → Int32) (w9 : Nat) (k9 : Nat) (h9 : Nat) (n : Int32) (hM : okM fs w9 k9 h9) : Met l yX8_isSound wsX8_isSound ({ frames := 1, cells := 0, slots := 0, locals := 25 }) (va_Pc [.ref mo, .int n] (fun U => va_P (dC, dI) vwCl [(xo_8_rrriirrriiiiiiirrirrrrri mo m_la m_sz m_it ms mt m_st m_mv m_tp (nI mz) ml (nI mp) mk mv mb mw m_rd m_ac (nI ma) m_as m_wo m_ik m_ke m_tr (nI mx)), (xI m_st cI 38 fs)] U.heap ∧ va_K (dC, dI) vwCl [(cI, .int), (cZ, .boolean), (cL, .object RX3), (cJ, .array .int)] U)) (vp_Si (fun r => (r = 0 ∧ ¬ sB (nI k9) n) ∨ (r = 1 ∧ vp_in n k9))) 0 0 (fun _ => False) := by
  refine Met.ofW (cc := cX8_isSound) (maxL := 2) (ret := (some .boolean)) (by decide) rfl ?_
  intro p e s m args below meth c s₁ B hml hv
  obtain ⟨rfl, hP, hK⟩ := hv
  have hx := B.exec
  have hb := B.bytes
  have hr := B.returns
  have hts := atoms_spec (ws := wsX8_isSound) B.pre
  have hown : s.vm.findClass RX8 = some m.cls := findClass_of_methodNamed B.named
  have hlocks := B.notSynchronized
  have hP : va_P (dC, dI) vwCl [(xo_8_rrriirrriiiiiiirrirrrrri mo m_la m_sz m_it ms mt m_st m_mv m_tp (nI mz) ml (nI mp) mk mv mb mw m_rd m_ac (nI ma) m_as m_wo m_ik m_ke m_tr (nI mx)), (xI m_st cI 38 fs)] s.heap := hP
  have hl := lv_entry ([.ref mo, .int n]) (n := 2) (Nat.le_of_ble_eq_true rfl)
  rw [lg_entry_eq]
  generalize (lg_sl ([.ref mo, .int n]) ++ List.replicate (2 - (lg_sl ([.ref mo, .int n])).length) Slot.unset).toArray = ls at hl ⊢
  have hl : lv_has ls 2 [(0, .ref mo), (1, .int n)] := hl
  refine lv_iload_n hx hb dX8_isSound_0 rfl (lv_at hl 1 rfl) ?_
  refine lv_i2l hx hb dX8_isSound_1 rfl ?_
  refine lv_lconst (v := 0) hx hb dX8_isSound_2 (by decide) ?_
  refine lv_aload_n hx hb dX8_isSound_3 rfl (lv_at hl 0 rfl) ?_
  refine va_get (D := (dC, dI)) (ci := 8) (v := .ref m_st) (C := RX8) (T := TX8) (N := 24) hx hb hts i_X8_isSound_X8 hown hK hP 0 rfl rfl 5 (by decide) (hts _ mx_X8_isSound_1) (fun _ h9 => h9) rfl dX8_isSound_4 ?_
  refine lv_iconst (v := 4) hx hb dX8_isSound_7 (by decide) ?_
  refine va_iald hx hb hK hP 1 0 rfl rfl (by unfold vp_in; decide) dX8_isSound_8 ?_
  refine lv_topi (fun v_1 e_1 => ?_)
  obtain rfl : v_1 = (nI k9) := (e_1).trans hM.2.1
  refine lv_iconst (v := 1) hx hb dX8_isSound_9 (by decide) ?_
  refine lv_isub hx hb dX8_isSound_10 ?_
  refine lv_topi (fun v_2 e_2 => ?_)
  refine lv_i2l hx hb dX8_isSound_11 rfl ?_
  have hPc_3 := hP.sub (ws' := []) [] rfl
  refine vp_callSi (W.runS (As := [.long (n).toInt64, .long 0, .long (v_2).toInt64]) (rest := []) ⟨hx, hb, hml, hown, hts⟩ (r_X8_in l dC dI cI cZ cL cJ ((n).toInt64) 0 ((v_2).toInt64) ) (va_cwS 3 hts gX8_isSound_X8_in rfl rfl rfl (by decide +kernel) ⟨Nat.le_of_ble_eq_true rfl, Nat.le_of_ble_eq_true rfl⟩) (psP hK hPc_3) rfl rfl hl.1 rfl (lv_room (Nat.le_of_ble_eq_true rfl)) dX8_isSound_12 ⟨Nat.le_of_ble_eq_true rfl, Nat.le_of_ble_eq_true rfl⟩) (fun r_3 h_3 => ?_)
  rcases h_3 with ⟨h_3, f_3_0_0⟩ | ⟨h_3, f_3_1_0⟩
  · subst h_3
    exact W.zret (v := 0) hx hb hr (by decide) (fun t ht hW => ⟨0, rfl, Or.inl ⟨rfl, fun q_ => absurd (snd_no (Nat.le_trans hM.2.2.2.2.1 (by decide)) e_2 f_3_0_0) (fun z_ => z_ q_)⟩, ht⟩) (fun _ h => by cases h) dX8_isSound_15
  · subst h_3
    exact W.zret (v := 1) hx hb hr (by decide) (fun t ht hW => ⟨1, rfl, Or.inr ⟨rfl, snd_in (Nat.le_trans hM.2.2.2.2.1 (by decide)) e_2 f_3_1_0⟩, ht⟩) (fun _ h => by cases h) dX8_isSound_15
theorem lf_X8_isCell_1 {fs : Nat → Int32} {w9 : Nat} {k9 : Nat} {h9 : Nat} {n : Int32} {v_1 : Int32} {v_2 : Int32} (hM : okM fs w9 k9 h9) (e_1 : v_1 = fs 0) (e_2 : v_2 = (v_1 - 1)) (f_3_0_0 : ((n).toInt64 < 0 ∨ (v_2).toInt64 < (n).toInt64)) (q_3 : (n < 0 ∨ v_2 < n)) : ¬ iC (fs 0) n := by
  simp only [iC]; grind
theorem lf_X8_isCell_2 {fs : Nat → Int32} {w9 : Nat} {k9 : Nat} {h9 : Nat} {n : Int32} {v_1 : Int32} {v_2 : Int32} (hM : okM fs w9 k9 h9) (e_1 : v_1 = fs 0) (e_2 : v_2 = (v_1 - 1)) (f_3_1_0 : (¬ ((n).toInt64 < 0 ∨ (v_2).toInt64 < (n).toInt64))) (q_3 : ¬ (n < 0 ∨ v_2 < n)) : iC (fs 0) n := by
  simp only [iC]; grind
set_option maxHeartbeats 4000000 in
set_option maxRecDepth 100000 in
theorem r_X8_isCell (l : Launch) (dC : Nat → ClassId) (dI : Nat → Nat → Nat) (cI cZ cL cJ : ClassId) (mo : Nat) (m_la : Nat) (m_sz : Nat) (m_it : Nat) (m_st : Nat) (m_mv : Nat) (m_tp : Nat) (m_rd : Nat) (m_ac : Nat) (m_as : Nat) (m_wo : Nat) (m_ik : Nat) (m_ke : Nat) (m_tr : Nat) (ms : Int32) (mt : Int32) (ml : Int32) (mk : Int32) (mv : Int32) (mb : Int32) (mw : Int32) (mz : Nat) (mp : Nat) (ma : Nat) (mx : Nat) (fs : Nat → Int32) (w9 : Nat) (k9 : Nat) (h9 : Nat) (n : Int32) (hM : okM fs w9 k9 h9) : Met l yX8_isCell wsX8_isCell ({ frames := 1, cells := 0, slots := 0, locals := 25 }) (va_Pc [.ref mo, .int n] (fun U => va_P (dC, dI) vwCl [(xo_8_rrriirrriiiiiiirrirrrrri mo m_la m_sz m_it ms mt m_st m_mv m_tp (nI mz) ml (nI mp) mk mv mb mw m_rd m_ac (nI ma) m_as m_wo m_ik m_ke m_tr (nI mx)), (xI m_st cI 38 fs)] U.heap ∧ va_K (dC, dI) vwCl [(cI, .int), (cZ, .boolean), (cL, .object RX3), (cJ, .array .int)] U)) (vp_Si (fun r => (r = 0 ∧ ¬ iC (fs 0) n) ∨ (r = 1 ∧ iC (fs 0) n))) 0 0 (fun _ => False) := by
  refine Met.ofW (cc := cX8_isCell) (maxL := 2) (ret := (some .boolean)) (by decide) rfl ?_
  intro p e s m args below meth c s₁ B hml hv
  obtain ⟨rfl, hP, hK⟩ := hv
  have hx := B.exec
  have hb := B.bytes
  have hr := B.returns
  have hts := atoms_spec (ws := wsX8_isCell) B.pre
  have hown : s.vm.findClass RX8 = some m.cls := findClass_of_methodNamed B.named
  have hlocks := B.notSynchronized
  have hP : va_P (dC, dI) vwCl [(xo_8_rrriirrriiiiiiirrirrrrri mo m_la m_sz m_it ms mt m_st m_mv m_tp (nI mz) ml (nI mp) mk mv mb mw m_rd m_ac (nI ma) m_as m_wo m_ik m_ke m_tr (nI mx)), (xI m_st cI 38 fs)] s.heap := hP
  have hl := lv_entry ([.ref mo, .int n]) (n := 2) (Nat.le_of_ble_eq_true rfl)
  rw [lg_entry_eq]
  generalize (lg_sl ([.ref mo, .int n]) ++ List.replicate (2 - (lg_sl ([.ref mo, .int n])).length) Slot.unset).toArray = ls at hl ⊢
  have hl : lv_has ls 2 [(0, .ref mo), (1, .int n)] := hl
  refine lv_iload_n hx hb dX8_isCell_0 rfl (lv_at hl 1 rfl) ?_
  refine lv_i2l hx hb dX8_isCell_1 rfl ?_
  refine lv_lconst (v := 0) hx hb dX8_isCell_2 (by decide) ?_
  refine lv_aload_n hx hb dX8_isCell_3 rfl (lv_at hl 0 rfl) ?_
  refine va_get (D := (dC, dI)) (ci := 8) (v := .ref m_st) (C := RX8) (T := TX8) (N := 24) hx hb hts i_X8_isCell_X8 hown hK hP 0 rfl rfl 5 (by decide) (hts _ mx_X8_isCell_1) (fun _ h9 => h9) rfl dX8_isCell_4 ?_
  refine lv_iconst (v := 0) hx hb dX8_isCell_7 (by decide) ?_
  refine va_iald hx hb hK hP 1 0 rfl rfl (by unfold vp_in; decide) dX8_isCell_8 ?_
  refine lv_topi (fun v_1 e_1 => ?_)
  have e_1 : v_1 = fs 0 := e_1
  refine lv_iconst (v := 1) hx hb dX8_isCell_9 (by decide) ?_
  refine lv_isub hx hb dX8_isCell_10 ?_
  refine lv_topi (fun v_2 e_2 => ?_)
  refine lv_i2l hx hb dX8_isCell_11 rfl ?_
  have hPc_3 := hP.sub (ws' := []) [] rfl
  refine vp_callSi (W.runS (As := [.long (n).toInt64, .long 0, .long (v_2).toInt64]) (rest := []) ⟨hx, hb, hml, hown, hts⟩ (r_X8_in l dC dI cI cZ cL cJ ((n).toInt64) 0 ((v_2).toInt64) ) (va_cwS 3 hts gX8_isCell_X8_in rfl rfl rfl (by decide +kernel) ⟨Nat.le_of_ble_eq_true rfl, Nat.le_of_ble_eq_true rfl⟩) (psP hK hPc_3) rfl rfl hl.1 rfl (lv_room (Nat.le_of_ble_eq_true rfl)) dX8_isCell_12 ⟨Nat.le_of_ble_eq_true rfl, Nat.le_of_ble_eq_true rfl⟩) (fun r_3 h_3 => ?_)
  rcases h_3 with ⟨h_3, f_3_0_0⟩ | ⟨h_3, f_3_1_0⟩
  · subst h_3
    have q_3 : (n < 0 ∨ v_2 < n) := (in32 (x := n) (l := 0) (u := v_2) (by decide) rfl).mp f_3_0_0
    exact W.zret (v := 0) hx hb hr (by decide) (fun t ht hW => ⟨0, rfl, Or.inl (⟨rfl, (lf_X8_isCell_1 hM e_1 e_2 f_3_0_0 q_3)⟩), ht⟩) (fun _ h => by cases h) dX8_isCell_15
  · subst h_3
    have q_3 : ¬ (n < 0 ∨ v_2 < n) := fun q_ => f_3_1_0 ((in32 (x := n) (l := 0) (u := v_2) (by decide) rfl).mpr q_)
    exact W.zret (v := 1) hx hb hr (by decide) (fun t ht hW => ⟨1, rfl, Or.inr (⟨rfl, (lf_X8_isCell_2 hM e_1 e_2 f_3_1_0 q_3)⟩), ht⟩) (fun _ h => by cases h) dX8_isCell_15
theorem lf_X8_gustOf_1 {fs : Nat → Int32} {w9 : Nat} {k9 : Nat} {h9 : Nat} {j : Nat} {z_2 : Nat} {v_4 : Int32} (hM : okM fs w9 k9 h9) (hj : j < 2000000000) (hw1 : 1 ≤ w9) (hz_2 : z_2 < w9) (hze_2 : z_2 = j % w9) (e_4 : v_4 = fs (8 + z_2)) : v_4 = (fs (8 + j % w9)) := by
  grind
set_option maxHeartbeats 4000000 in
set_option maxRecDepth 100000 in
theorem r_X8_gustOf (l : Launch) (dC : Nat → ClassId) (dI : Nat → Nat → Nat) (cI cZ cL cJ : ClassId) (mo : Nat) (m_la : Nat) (m_sz : Nat) (m_it : Nat) (m_st : Nat) (m_mv : Nat) (m_tp : Nat) (m_rd : Nat) (m_ac : Nat) (m_as : Nat) (m_wo : Nat) (m_ik : Nat) (m_ke : Nat) (m_tr : Nat) (ms : Int32) (mt : Int32) (ml : Int32) (mk : Int32) (mv : Int32) (mb : Int32) (mw : Int32) (mz : Nat) (mp : Nat) (ma : Nat) (mx : Nat) (fs : Nat → Int32) (w9 : Nat) (k9 : Nat) (h9 : Nat) (j : Nat) (hM : okM fs w9 k9 h9) (hj : j < 2000000000) (hw1 : 1 ≤ w9) : Met l yX8_gustOf wsX8_gustOf ({ frames := 0, cells := 0, slots := 0, locals := 0 }) (va_Pc [.ref mo, .int (nI j)] (fun U => va_P (dC, dI) vwCl [(xo_8_rrriirrriiiiiiirrirrrrri mo m_la m_sz m_it ms mt m_st m_mv m_tp (nI mz) ml (nI mp) mk mv mb mw m_rd m_ac (nI ma) m_as m_wo m_ik m_ke m_tr (nI mx)), (xI m_st cI 38 fs)] U.heap ∧ va_K (dC, dI) vwCl [(cI, .int), (cZ, .boolean), (cL, .object RX3), (cJ, .array .int)] U)) (vp_Si (fun r => r = (fs (8 + j % w9)))) 0 0 (fun _ => False) := by
  refine Met.ofW (cc := cX8_gustOf) (maxL := 2) (ret := (some .int)) (by decide) rfl ?_
  intro p e s m args below meth c s₁ B hml hv
  obtain ⟨rfl, hP, hK⟩ := hv
  have hx := B.exec
  have hb := B.bytes
  have hr := B.returns
  have hts := atoms_spec (ws := wsX8_gustOf) B.pre
  have hown : s.vm.findClass RX8 = some m.cls := findClass_of_methodNamed B.named
  have hlocks := B.notSynchronized
  have hP : va_P (dC, dI) vwCl [(xo_8_rrriirrriiiiiiirrirrrrri mo m_la m_sz m_it ms mt m_st m_mv m_tp (nI mz) ml (nI mp) mk mv mb mw m_rd m_ac (nI ma) m_as m_wo m_ik m_ke m_tr (nI mx)), (xI m_st cI 38 fs)] s.heap := hP
  have hl := lv_entry ([.ref mo, .int (nI j)]) (n := 2) (Nat.le_of_ble_eq_true rfl)
  rw [lg_entry_eq]
  generalize (lg_sl ([.ref mo, .int (nI j)]) ++ List.replicate (2 - (lg_sl ([.ref mo, .int (nI j)])).length) Slot.unset).toArray = ls at hl ⊢
  have hl : lv_has ls 2 [(0, .ref mo), (1, .int (nI j))] := hl
  have hw6 := hM.2.2.2.1
  refine lv_aload_n hx hb dX8_gustOf_0 rfl (lv_at hl 0 rfl) ?_
  refine va_get (D := (dC, dI)) (ci := 8) (v := .ref m_st) (C := RX8) (T := TX8) (N := 24) hx hb hts i_X8_gustOf_X8 hown hK hP 0 rfl rfl 5 (by decide) (hts _ mx_X8_gustOf_1) (fun _ h9 => h9) rfl dX8_gustOf_1 ?_
  refine lv_bipush (v := 8) hx hb dX8_gustOf_4 (by decide) ?_
  refine lv_iload_n hx hb dX8_gustOf_6 rfl (lv_at hl 1 rfl) ?_
  refine lv_aload_n hx hb dX8_gustOf_7 rfl (lv_at hl 0 rfl) ?_
  refine va_get (D := (dC, dI)) (ci := 8) (v := .ref m_st) (C := RX8) (T := TX8) (N := 24) hx hb hts i_X8_gustOf_X8 hown hK hP 0 rfl rfl 5 (by decide) (hts _ mx_X8_gustOf_1) (fun _ h9 => h9) rfl dX8_gustOf_8 ?_
  refine lv_iconst (v := 3) hx hb dX8_gustOf_11 (by decide) ?_
  refine va_iald hx hb hK hP 1 0 rfl rfl (by unfold vp_in; decide) dX8_gustOf_12 ?_
  refine lv_topi (fun v_1 e_1 => ?_)
  obtain rfl : v_1 = (nI w9) := (e_1).trans hM.1
  refine lv_irem hx hb dX8_gustOf_13 (nI_ne0 (by omega) (by omega)) ?_
  refine lv_topi (fun v_2 e_2 => ?_)
  obtain ⟨z_2, hz_2, hze_2, rfl⟩ : ∃ z : Nat, z < w9 ∧ z = j % w9 ∧ v_2 = nI z := ⟨j % w9, Nat.mod_lt _ (by omega), rfl, e_2.trans (pk_rem (a := j) (d := w9) (by omega) (by omega) (by omega))⟩
  refine lv_iadd hx hb dX8_gustOf_14 ?_
  refine lv_topi (fun v_3 e_3 => ?_)
  obtain rfl : v_3 = (nI (8 + z_2)) := (e_3).trans (nI_add 8 z_2)
  refine va_iald hx hb hK hP 1 0 rfl rfl (vp_in_nI (by omega) (by omega)) dX8_gustOf_15 ?_
  refine lv_topi (fun v_4 e_4 => ?_)
  have e_4 : v_4 = fs (8 + z_2) := e_4.trans (congrArg fs (nI_clamp (by omega)))
  exact W.iret (v := v_4) hx hb hr (fun t ht hW => ⟨v_4, rfl, (lf_X8_gustOf_1 hM hj hw1 hz_2 hze_2 e_4), ht⟩) (fun _ h => by cases h) dX8_gustOf_16
theorem lf_X8_isAtMill_1 {fs : Nat → Int32} {w9 : Nat} {k9 : Nat} {h9 : Nat} {i : Nat} {v_1 : Int32} {v_3 : Int32} {v_5 : Int32} {v_6 : Int32} {v_7 : Int32} (hM : okM fs w9 k9 h9) (hi : i < 6) (e_1 : v_1 = fs 6) (c_2 : ¬ (v_1 = 1)) (e_3 : v_3 = fs 1) (e_5 : v_5 = fs (20 + i)) (e_6 : v_6 = (v_3 - v_5)) (e_7 : v_7 = fs 2) (f_8_0_0 : ((v_6).toInt64 < 0 ∨ (v_7).toInt64 < (v_6).toInt64)) (q_8 : (v_6 < 0 ∨ v_7 < v_6)) : ¬ amM fs i := by
  simp only [amM, ofM]; grind
theorem lf_X8_isAtMill_2 {fs : Nat → Int32} {w9 : Nat} {k9 : Nat} {h9 : Nat} {i : Nat} {v_1 : Int32} {v_3 : Int32} {v_5 : Int32} {v_6 : Int32} {v_7 : Int32} (hM : okM fs w9 k9 h9) (hi : i < 6) (e_1 : v_1 = fs 6) (c_2 : ¬ (v_1 = 1)) (e_3 : v_3 = fs 1) (e_5 : v_5 = fs (20 + i)) (e_6 : v_6 = (v_3 - v_5)) (e_7 : v_7 = fs 2) (f_8_1_0 : (¬ ((v_6).toInt64 < 0 ∨ (v_7).toInt64 < (v_6).toInt64))) (q_8 : ¬ (v_6 < 0 ∨ v_7 < v_6)) : amM fs i := by
  simp only [amM, ofM]; grind
theorem lf_X8_isAtMill_3 {fs : Nat → Int32} {w9 : Nat} {k9 : Nat} {h9 : Nat} {i : Nat} {v_1 : Int32} {v_10 : Int32} {v_11 : Int32} {v_12 : Int32} {v_13 : Int32} (hM : okM fs w9 k9 h9) (hi : i < 6) (e_1 : v_1 = fs 6) (c_2 : v_1 = 1) (e_10 : v_10 = fs (20 + i)) (e_11 : v_11 = fs 1) (e_12 : v_12 = (v_10 - v_11)) (e_13 : v_13 = fs 2) (f_14_0_0 : ((v_12).toInt64 < 0 ∨ (v_13).toInt64 < (v_12).toInt64)) (q_14 : (v_12 < 0 ∨ v_13 < v_12)) : ¬ amM fs i := by
  simp only [amM, ofM]; grind
theorem lf_X8_isAtMill_4 {fs : Nat → Int32} {w9 : Nat} {k9 : Nat} {h9 : Nat} {i : Nat} {v_1 : Int32} {v_10 : Int32} {v_11 : Int32} {v_12 : Int32} {v_13 : Int32} (hM : okM fs w9 k9 h9) (hi : i < 6) (e_1 : v_1 = fs 6) (c_2 : v_1 = 1) (e_10 : v_10 = fs (20 + i)) (e_11 : v_11 = fs 1) (e_12 : v_12 = (v_10 - v_11)) (e_13 : v_13 = fs 2) (f_14_1_0 : (¬ ((v_12).toInt64 < 0 ∨ (v_13).toInt64 < (v_12).toInt64))) (q_14 : ¬ (v_12 < 0 ∨ v_13 < v_12)) : amM fs i := by
  simp only [amM, ofM]; grind
set_option maxHeartbeats 4000000 in
set_option maxRecDepth 100000 in
theorem r_X8_isAtMill (l : Launch) (dC : Nat → ClassId) (dI : Nat → Nat → Nat) (cI cZ cL cJ : ClassId) (mo : Nat) (m_la : Nat) (m_sz : Nat) (m_it : Nat) (m_st : Nat) (m_mv : Nat) (m_tp : Nat) (m_rd : Nat) (m_ac : Nat) (m_as : Nat) (m_wo : Nat) (m_ik : Nat) (m_ke : Nat) (m_tr : Nat) (ms : Int32) (mt : Int32) (ml : Int32) (mk : Int32) (mv : Int32) (mb : Int32) (mw : Int32) (mz : Nat) (mp : Nat) (ma : Nat) (mx : Nat) (fs : Nat → Int32) (w9 : Nat) (k9 : Nat) (h9 : Nat) (i : Nat) (hM : okM fs w9 k9 h9) (hi : i < 6) : Met l yX8_isAtMill wsX8_isAtMill ({ frames := 1, cells := 0, slots := 0, locals := 25 }) (va_Pc [.ref mo, .int (nI i)] (fun U => va_P (dC, dI) vwCl [(xo_8_rrriirrriiiiiiirrirrrrri mo m_la m_sz m_it ms mt m_st m_mv m_tp (nI mz) ml (nI mp) mk mv mb mw m_rd m_ac (nI ma) m_as m_wo m_ik m_ke m_tr (nI mx)), (xI m_st cI 38 fs)] U.heap ∧ va_K (dC, dI) vwCl [(cI, .int), (cZ, .boolean), (cL, .object RX3), (cJ, .array .int)] U)) (vp_Si (fun r => (r = 0 ∧ ¬ amM fs i) ∨ (r = 1 ∧ amM fs i))) 0 0 (fun _ => False) := by
  refine Met.ofW (cc := cX8_isAtMill) (maxL := 3) (ret := (some .boolean)) (by decide) rfl ?_
  intro p e s m args below meth c s₁ B hml hv
  obtain ⟨rfl, hP, hK⟩ := hv
  have hx := B.exec
  have hb := B.bytes
  have hr := B.returns
  have hts := atoms_spec (ws := wsX8_isAtMill) B.pre
  have hown : s.vm.findClass RX8 = some m.cls := findClass_of_methodNamed B.named
  have hlocks := B.notSynchronized
  have hP : va_P (dC, dI) vwCl [(xo_8_rrriirrriiiiiiirrirrrrri mo m_la m_sz m_it ms mt m_st m_mv m_tp (nI mz) ml (nI mp) mk mv mb mw m_rd m_ac (nI ma) m_as m_wo m_ik m_ke m_tr (nI mx)), (xI m_st cI 38 fs)] s.heap := hP
  have hl := lv_entry ([.ref mo, .int (nI i)]) (n := 3) (Nat.le_of_ble_eq_true rfl)
  rw [lg_entry_eq]
  generalize (lg_sl ([.ref mo, .int (nI i)]) ++ List.replicate (3 - (lg_sl ([.ref mo, .int (nI i)])).length) Slot.unset).toArray = ls at hl ⊢
  have hl : lv_has ls 3 [(0, .ref mo), (1, .int (nI i))] := hl
  refine lv_aload_n hx hb dX8_isAtMill_0 rfl (lv_at hl 0 rfl) ?_
  refine va_get (D := (dC, dI)) (ci := 8) (v := .ref m_st) (C := RX8) (T := TX8) (N := 24) hx hb hts i_X8_isAtMill_X8 hown hK hP 0 rfl rfl 5 (by decide) (hts _ mx_X8_isAtMill_1) (fun _ h9 => h9) rfl dX8_isAtMill_1 ?_
  refine lv_bipush (v := 6) hx hb dX8_isAtMill_4 (by decide) ?_
  refine va_iald hx hb hK hP 1 0 rfl rfl (by unfold vp_in; decide) dX8_isAtMill_6 ?_
  refine lv_topi (fun v_1 e_1 => ?_)
  have e_1 : v_1 = fs 6 := e_1
  refine lv_iconst (v := 1) hx hb dX8_isAtMill_7 (by decide) ?_
  refine lv_icmp_ne (tgt := 30) hx hb dX8_isAtMill_8 (by decide) (fun c_2 => ?_) (fun c_2 => ?_)
  · skip
    refine lv_aload_n hx hb dX8_isAtMill_30 rfl (lv_at hl 0 rfl) ?_
    refine va_get (D := (dC, dI)) (ci := 8) (v := .ref m_st) (C := RX8) (T := TX8) (N := 24) hx hb hts i_X8_isAtMill_X8 hown hK hP 0 rfl rfl 5 (by decide) (hts _ mx_X8_isAtMill_1) (fun _ h9 => h9) rfl dX8_isAtMill_31 ?_
    refine lv_iconst (v := 1) hx hb dX8_isAtMill_34 (by decide) ?_
    refine va_iald hx hb hK hP 1 0 rfl rfl (by unfold vp_in; decide) dX8_isAtMill_35 ?_
    refine lv_topi (fun v_3 e_3 => ?_)
    have e_3 : v_3 = fs 1 := e_3
    refine lv_aload_n hx hb dX8_isAtMill_36 rfl (lv_at hl 0 rfl) ?_
    refine va_get (D := (dC, dI)) (ci := 8) (v := .ref m_st) (C := RX8) (T := TX8) (N := 24) hx hb hts i_X8_isAtMill_X8 hown hK hP 0 rfl rfl 5 (by decide) (hts _ mx_X8_isAtMill_1) (fun _ h9 => h9) rfl dX8_isAtMill_37 ?_
    refine lv_bipush (v := 20) hx hb dX8_isAtMill_40 (by decide) ?_
    refine lv_iload_n hx hb dX8_isAtMill_42 rfl (lv_at hl 1 rfl) ?_
    refine lv_iadd hx hb dX8_isAtMill_43 ?_
    refine lv_topi (fun v_4 e_4 => ?_)
    obtain rfl : v_4 = (nI (20 + i)) := (e_4).trans (nI_add 20 i)
    refine va_iald hx hb hK hP 1 0 rfl rfl (vp_in_nI (by omega) (by omega)) dX8_isAtMill_44 ?_
    refine lv_topi (fun v_5 e_5 => ?_)
    have e_5 : v_5 = fs (20 + i) := e_5.trans (congrArg fs (nI_clamp (by omega)))
    refine lv_isub hx hb dX8_isAtMill_45 ?_
    refine lv_topi (fun v_6 e_6 => ?_)
    refine lv_istore_n (lv' := [(2, .int v_6), (0, .ref mo), (1, .int (nI i))]) hx hb dX8_isAtMill_46 rfl hl (by decide) rfl (fun ls hl => ?_)
    refine lv_iload_n hx hb dX8_isAtMill_47 rfl (lv_at hl 0 rfl) ?_
    refine lv_i2l hx hb dX8_isAtMill_48 rfl ?_
    refine lv_lconst (v := 0) hx hb dX8_isAtMill_49 (by decide) ?_
    refine lv_aload_n hx hb dX8_isAtMill_50 rfl (lv_at hl 1 rfl) ?_
    refine va_get (D := (dC, dI)) (ci := 8) (v := .ref m_st) (C := RX8) (T := TX8) (N := 24) hx hb hts i_X8_isAtMill_X8 hown hK hP 0 rfl rfl 5 (by decide) (hts _ mx_X8_isAtMill_1) (fun _ h9 => h9) rfl dX8_isAtMill_51 ?_
    refine lv_iconst (v := 2) hx hb dX8_isAtMill_54 (by decide) ?_
    refine va_iald hx hb hK hP 1 0 rfl rfl (by unfold vp_in; decide) dX8_isAtMill_55 ?_
    refine lv_topi (fun v_7 e_7 => ?_)
    have e_7 : v_7 = fs 2 := e_7
    refine lv_i2l hx hb dX8_isAtMill_56 rfl ?_
    have hPc_8 := hP.sub (ws' := []) [] rfl
    refine vp_callSi (W.runS (As := [.long (v_6).toInt64, .long 0, .long (v_7).toInt64]) (rest := []) ⟨hx, hb, hml, hown, hts⟩ (r_X8_in l dC dI cI cZ cL cJ ((v_6).toInt64) 0 ((v_7).toInt64) ) (va_cwS 3 hts gX8_isAtMill_X8_in rfl rfl rfl (by decide +kernel) ⟨Nat.le_of_ble_eq_true rfl, Nat.le_of_ble_eq_true rfl⟩) (psP hK hPc_8) rfl rfl hl.1 rfl (lv_room (Nat.le_of_ble_eq_true rfl)) dX8_isAtMill_57 ⟨Nat.le_of_ble_eq_true rfl, Nat.le_of_ble_eq_true rfl⟩) (fun r_8 h_8 => ?_)
    rcases h_8 with ⟨h_8, f_8_0_0⟩ | ⟨h_8, f_8_1_0⟩
    · subst h_8
      have q_8 : (v_6 < 0 ∨ v_7 < v_6) := (in32 (x := v_6) (l := 0) (u := v_7) (by decide) rfl).mp f_8_0_0
      exact W.zret (v := 0) hx hb hr (by decide) (fun t ht hW => ⟨0, rfl, Or.inl (⟨rfl, (lf_X8_isAtMill_1 hM hi e_1 c_2 e_3 e_5 e_6 e_7 f_8_0_0 q_8)⟩), ht⟩) (fun _ h => by cases h) dX8_isAtMill_60
    · subst h_8
      have q_8 : ¬ (v_6 < 0 ∨ v_7 < v_6) := fun q_ => f_8_1_0 ((in32 (x := v_6) (l := 0) (u := v_7) (by decide) rfl).mpr q_)
      exact W.zret (v := 1) hx hb hr (by decide) (fun t ht hW => ⟨1, rfl, Or.inr (⟨rfl, (lf_X8_isAtMill_2 hM hi e_1 c_2 e_3 e_5 e_6 e_7 f_8_1_0 q_8)⟩), ht⟩) (fun _ h => by cases h) dX8_isAtMill_60
  · skip
    refine lv_aload_n hx hb dX8_isAtMill_11 rfl (lv_at hl 0 rfl) ?_
    refine va_get (D := (dC, dI)) (ci := 8) (v := .ref m_st) (C := RX8) (T := TX8) (N := 24) hx hb hts i_X8_isAtMill_X8 hown hK hP 0 rfl rfl 5 (by decide) (hts _ mx_X8_isAtMill_1) (fun _ h9 => h9) rfl dX8_isAtMill_12 ?_
    refine lv_bipush (v := 20) hx hb dX8_isAtMill_15 (by decide) ?_
    refine lv_iload_n hx hb dX8_isAtMill_17 rfl (lv_at hl 1 rfl) ?_
    refine lv_iadd hx hb dX8_isAtMill_18 ?_
    refine lv_topi (fun v_9 e_9 => ?_)
    obtain rfl : v_9 = (nI (20 + i)) := (e_9).trans (nI_add 20 i)
    refine va_iald hx hb hK hP 1 0 rfl rfl (vp_in_nI (by omega) (by omega)) dX8_isAtMill_19 ?_
    refine lv_topi (fun v_10 e_10 => ?_)
    have e_10 : v_10 = fs (20 + i) := e_10.trans (congrArg fs (nI_clamp (by omega)))
    refine lv_aload_n hx hb dX8_isAtMill_20 rfl (lv_at hl 0 rfl) ?_
    refine va_get (D := (dC, dI)) (ci := 8) (v := .ref m_st) (C := RX8) (T := TX8) (N := 24) hx hb hts i_X8_isAtMill_X8 hown hK hP 0 rfl rfl 5 (by decide) (hts _ mx_X8_isAtMill_1) (fun _ h9 => h9) rfl dX8_isAtMill_21 ?_
    refine lv_iconst (v := 1) hx hb dX8_isAtMill_24 (by decide) ?_
    refine va_iald hx hb hK hP 1 0 rfl rfl (by unfold vp_in; decide) dX8_isAtMill_25 ?_
    refine lv_topi (fun v_11 e_11 => ?_)
    have e_11 : v_11 = fs 1 := e_11
    refine lv_isub hx hb dX8_isAtMill_26 ?_
    refine lv_topi (fun v_12 e_12 => ?_)
    refine lv_goto (tgt := 46) hx hb dX8_isAtMill_27 (by decide) ?_
    refine lv_istore_n (lv' := [(2, .int v_12), (0, .ref mo), (1, .int (nI i))]) hx hb dX8_isAtMill_46 rfl hl (by decide) rfl (fun ls hl => ?_)
    refine lv_iload_n hx hb dX8_isAtMill_47 rfl (lv_at hl 0 rfl) ?_
    refine lv_i2l hx hb dX8_isAtMill_48 rfl ?_
    refine lv_lconst (v := 0) hx hb dX8_isAtMill_49 (by decide) ?_
    refine lv_aload_n hx hb dX8_isAtMill_50 rfl (lv_at hl 1 rfl) ?_
    refine va_get (D := (dC, dI)) (ci := 8) (v := .ref m_st) (C := RX8) (T := TX8) (N := 24) hx hb hts i_X8_isAtMill_X8 hown hK hP 0 rfl rfl 5 (by decide) (hts _ mx_X8_isAtMill_1) (fun _ h9 => h9) rfl dX8_isAtMill_51 ?_
    refine lv_iconst (v := 2) hx hb dX8_isAtMill_54 (by decide) ?_
    refine va_iald hx hb hK hP 1 0 rfl rfl (by unfold vp_in; decide) dX8_isAtMill_55 ?_
    refine lv_topi (fun v_13 e_13 => ?_)
    have e_13 : v_13 = fs 2 := e_13
    refine lv_i2l hx hb dX8_isAtMill_56 rfl ?_
    have hPc_14 := hP.sub (ws' := []) [] rfl
    refine vp_callSi (W.runS (As := [.long (v_12).toInt64, .long 0, .long (v_13).toInt64]) (rest := []) ⟨hx, hb, hml, hown, hts⟩ (r_X8_in l dC dI cI cZ cL cJ ((v_12).toInt64) 0 ((v_13).toInt64) ) (va_cwS 3 hts gX8_isAtMill_X8_in rfl rfl rfl (by decide +kernel) ⟨Nat.le_of_ble_eq_true rfl, Nat.le_of_ble_eq_true rfl⟩) (psP hK hPc_14) rfl rfl hl.1 rfl (lv_room (Nat.le_of_ble_eq_true rfl)) dX8_isAtMill_57 ⟨Nat.le_of_ble_eq_true rfl, Nat.le_of_ble_eq_true rfl⟩) (fun r_14 h_14 => ?_)
    rcases h_14 with ⟨h_14, f_14_0_0⟩ | ⟨h_14, f_14_1_0⟩
    · subst h_14
      have q_14 : (v_12 < 0 ∨ v_13 < v_12) := (in32 (x := v_12) (l := 0) (u := v_13) (by decide) rfl).mp f_14_0_0
      exact W.zret (v := 0) hx hb hr (by decide) (fun t ht hW => ⟨0, rfl, Or.inl (⟨rfl, (lf_X8_isAtMill_3 hM hi e_1 c_2 e_10 e_11 e_12 e_13 f_14_0_0 q_14)⟩), ht⟩) (fun _ h => by cases h) dX8_isAtMill_60
    · subst h_14
      have q_14 : ¬ (v_12 < 0 ∨ v_13 < v_12) := fun q_ => f_14_1_0 ((in32 (x := v_12) (l := 0) (u := v_13) (by decide) rfl).mpr q_)
      exact W.zret (v := 1) hx hb hr (by decide) (fun t ht hW => ⟨1, rfl, Or.inr (⟨rfl, (lf_X8_isAtMill_4 hM hi e_1 c_2 e_10 e_11 e_12 e_13 f_14_1_0 q_14)⟩), ht⟩) (fun _ h => by cases h) dX8_isAtMill_60
theorem lf_X8_those_1 {fs : Nat → Int32} {w9 : Nat} {k9 : Nat} {h9 : Nat} {n : Int32} {w_9 : Nat} {ii : Nat} {v_22 : Int32} {z_24 : Nat} (hM : okM fs w9 k9 h9) (hii : ii < k9) (haf_0 : (nI w_9 = thR (fun s => fs (26 + s)) n ii)) (hnb_w_9 : w_9 ≤ 63) (e_22 : v_22 = fs (26 + ii)) (c_23 : ¬ (v_22 = n)) (hz_24 : z_24 ≤ 63) (e2_24 : nI w_9 ||| nI 0 = nI z_24) : nI z_24 = thR (fun s => fs (26 + s)) n (ii + 1) := by
  have n00 : nI 0 = 0 := rfl
  simp only [thR]; grind
theorem lf_X8_those_2 {fs : Nat → Int32} {w9 : Nat} {k9 : Nat} {h9 : Nat} {n : Int32} {w_9 : Nat} {ii : Nat} {v_22 : Int32} {sh : Nat} {z_26 : Nat} (hM : okM fs w9 k9 h9) (hii : ii < k9) (haf_0 : (nI w_9 = thR (fun s => fs (26 + s)) n ii)) (hnb_w_9 : w_9 ≤ 63) (e_22 : v_22 = fs (26 + ii)) (c_23 : v_22 = n) (hsh : (1 : Int32) <<< (nI ii &&& 31) = nI sh) (hz_26 : z_26 ≤ 63) (e2_26 : nI w_9 ||| nI sh = nI z_26) : nI z_26 = thR (fun s => fs (26 + s)) n (ii + 1) := by
  have n00 : nI 0 = 0 := rfl
  simp only [thR]; grind
set_option maxHeartbeats 4000000 in
set_option maxRecDepth 100000 in
theorem r_X8_those (l : Launch) (dC : Nat → ClassId) (dI : Nat → Nat → Nat) (cI cZ cL cJ : ClassId) (mo : Nat) (m_la : Nat) (m_sz : Nat) (m_it : Nat) (m_st : Nat) (m_mv : Nat) (m_tp : Nat) (m_rd : Nat) (m_ac : Nat) (m_as : Nat) (m_wo : Nat) (m_ik : Nat) (m_ke : Nat) (m_tr : Nat) (ms : Int32) (mt : Int32) (ml : Int32) (mk : Int32) (mv : Int32) (mb : Int32) (mw : Int32) (mz : Nat) (mp : Nat) (ma : Nat) (mx : Nat) (fs : Nat → Int32) (w9 : Nat) (k9 : Nat) (h9 : Nat) (n : Int32) (hM : okM fs w9 k9 h9) : Met l yX8_those wsX8_those ({ frames := 0, cells := 0, slots := 0, locals := 0 }) (va_Pc [.ref mo, .int n] (fun U => va_P (dC, dI) vwCl [(xo_8_rrriirrriiiiiiirrirrrrri mo m_la m_sz m_it ms mt m_st m_mv m_tp (nI mz) ml (nI mp) mk mv mb mw m_rd m_ac (nI ma) m_as m_wo m_ik m_ke m_tr (nI mx)), (xI m_st cI 38 fs)] U.heap ∧ va_K (dC, dI) vwCl [(cI, .int), (cZ, .boolean), (cL, .object RX3), (cJ, .array .int)] U)) (vp_Si (fun r => ∃ z : Nat, r = nI z ∧ z ≤ 63 ∧ nI z = thR (fun s => fs (26 + s)) n k9)) 0 0 (fun _ => False) := by
  refine Met.ofW (cc := cX8_those) (maxL := 4) (ret := (some .int)) (by decide) rfl ?_
  intro p e s m args below meth c s₁ B hml hv
  obtain ⟨rfl, hP, hK⟩ := hv
  have hx := B.exec
  have hb := B.bytes
  have hr := B.returns
  have hts := atoms_spec (ws := wsX8_those) B.pre
  have hown : s.vm.findClass RX8 = some m.cls := findClass_of_methodNamed B.named
  have hlocks := B.notSynchronized
  have hP : va_P (dC, dI) vwCl [(xo_8_rrriirrriiiiiiirrirrrrri mo m_la m_sz m_it ms mt m_st m_mv m_tp (nI mz) ml (nI mp) mk mv mb mw m_rd m_ac (nI ma) m_as m_wo m_ik m_ke m_tr (nI mx)), (xI m_st cI 38 fs)] s.heap := hP
  have hl := lv_entry ([.ref mo, .int n]) (n := 4) (Nat.le_of_ble_eq_true rfl)
  rw [lg_entry_eq]
  generalize (lg_sl ([.ref mo, .int n]) ++ List.replicate (4 - (lg_sl ([.ref mo, .int n])).length) Slot.unset).toArray = ls at hl ⊢
  have hl : lv_has ls 4 [(0, .ref mo), (1, .int n)] := hl
  have hk6 := hM.2.2.2.2.1
  refine lv_iconst (v := 0) hx hb dX8_those_0 (by decide) ?_
  refine lv_istore_n (lv' := [(2, .int 0), (0, .ref mo), (1, .int n)]) hx hb dX8_those_1 rfl hl (by decide) rfl (fun ls hl => ?_)
  refine lv_iconst (v := 0) hx hb dX8_those_2 (by decide) ?_
  refine lv_istore_n (lv' := [(3, .int 0), (2, .int 0), (0, .ref mo), (1, .int n)]) hx hb dX8_those_3 rfl hl (by decide) rfl (fun ls hl => ?_)
  refine lp_go (σ := (Nat)) (fun ii (st : (Nat)) H locs ls => match st with | w_9 => lv_has ls 4 [(3, .int (nI ii)), (2, .int (nI w_9)), (0, .ref mo), (1, .int n)] ∧ H = s.heap ∧ locs = [] ∧ (nI w_9 = thR (fun s => fs (26 + s)) n ii) ∧ w_9 ≤ 63) k9 ?_ ?_ 0 (by omega) (0) ⟨lv_sub hl [0, 1, 2, 3] rfl, rfl, rfl, rfl, (by omega)⟩
  · rintro ii w_9 H locs ls hii ⟨hl, rfl, rfl, haf_0, hnb_w_9⟩ ih
    refine lv_iload_n hx hb dX8_those_4 rfl (lv_at hl 0 rfl) ?_
    refine lv_aload_n hx hb dX8_those_5 rfl (lv_at hl 2 rfl) ?_
    refine va_get (D := (dC, dI)) (ci := 8) (v := .ref m_st) (C := RX8) (T := TX8) (N := 24) hx hb hts i_X8_those_X8 hown hK hP 0 rfl rfl 5 (by decide) (hts _ mx_X8_those_1) (fun _ h9 => h9) rfl dX8_those_6 ?_
    refine lv_iconst (v := 4) hx hb dX8_those_9 (by decide) ?_
    refine va_iald hx hb hK hP 1 0 rfl rfl (by unfold vp_in; decide) dX8_those_10 ?_
    refine lv_topi (fun v_19 e_19 => ?_)
    obtain rfl : v_19 = (nI k9) := (e_19).trans hM.2.1
    refine lv_icmp_ge (tgt := 43) hx hb dX8_those_11 (by decide) (fun c_ => absurd c_ (fun q_ => absurd ((nI_leI (a := k9) (b := ii) (by omega) (by omega)).mp q_) (by omega))) (fun _ => ?_)
    refine lv_iload_n hx hb dX8_those_14 rfl (lv_at hl 1 rfl) ?_
    refine lv_aload_n hx hb dX8_those_15 rfl (lv_at hl 2 rfl) ?_
    refine va_get (D := (dC, dI)) (ci := 8) (v := .ref m_st) (C := RX8) (T := TX8) (N := 24) hx hb hts i_X8_those_X8 hown hK hP 0 rfl rfl 5 (by decide) (hts _ mx_X8_those_1) (fun _ h9 => h9) rfl dX8_those_16 ?_
    refine lv_bipush (v := 26) hx hb dX8_those_19 (by decide) ?_
    refine lv_iload_n hx hb dX8_those_21 rfl (lv_at hl 0 rfl) ?_
    refine lv_iadd hx hb dX8_those_22 ?_
    refine lv_topi (fun v_21 e_21 => ?_)
    obtain rfl : v_21 = (nI (26 + ii)) := (e_21).trans (nI_add 26 ii)
    refine va_iald hx hb hK hP 1 0 rfl rfl (vp_in_nI (by omega) (by omega)) dX8_those_23 ?_
    refine lv_topi (fun v_22 e_22 => ?_)
    have e_22 : v_22 = fs (26 + ii) := e_22.trans (congrArg fs (nI_clamp (by omega)))
    refine lv_iload_n hx hb dX8_those_24 rfl (lv_at hl 3 rfl) ?_
    refine lv_icmp_ne (tgt := 34) hx hb dX8_those_25 (by decide) (fun c_23 => ?_) (fun c_23 => ?_)
    · skip
      refine lv_iconst (v := 0) hx hb dX8_those_34 (by decide) ?_
      refine lv_ior hx hb dX8_those_35 ?_
      refine lv_topi (fun v_24 e_24 => ?_)
      obtain ⟨z_24, hz_24, e2_24⟩ := or63 (a := w_9) (b := 0) (by omega) (by omega)
      obtain rfl : v_24 = nI z_24 := e_24.trans e2_24
      refine lv_istore_n (lv' := [(2, .int (nI z_24)), (3, .int (nI ii)), (0, .ref mo), (1, .int n)]) hx hb dX8_those_36 rfl hl (by decide) rfl (fun ls hl => ?_)
      refine lv_iinc (v := (nI (ii + 1))) (lv' := [(3, .int (nI (ii + 1))), (2, .int (nI z_24)), (0, .ref mo), (1, .int n)]) hx hb dX8_those_37 hl (k := 1) rfl (nI_add ii 1) (by decide) rfl (fun ls hl => ?_)
      refine lv_goto (tgt := 4) hx hb dX8_those_40 (by decide) ?_
      exact ih (z_24) _ _ _ ⟨lv_sub hl [0, 1, 2, 3] rfl, rfl, rfl, (lf_X8_those_1 hM hii haf_0 hnb_w_9 e_22 c_23 hz_24 e2_24), (by omega)⟩
    · skip
      obtain ⟨sh, hsh, hsb, -, hsb5, -⟩ := shl8 ii (by omega)
      refine lv_iconst (v := 1) hx hb dX8_those_28 (by decide) ?_
      refine lv_iload_n hx hb dX8_those_29 rfl (lv_at hl 0 rfl) ?_
      refine lv_ishl hx hb dX8_those_30 ?_
      refine lv_topi (fun v_25 e_25 => ?_)
      obtain rfl : v_25 = (nI sh) := (e_25).trans hsh
      refine lv_goto (tgt := 35) hx hb dX8_those_31 (by decide) ?_
      refine lv_ior hx hb dX8_those_35 ?_
      refine lv_topi (fun v_26 e_26 => ?_)
      obtain ⟨z_26, hz_26, e2_26⟩ := or63 (a := w_9) (b := sh) (by omega) (by omega)
      obtain rfl : v_26 = nI z_26 := e_26.trans e2_26
      refine lv_istore_n (lv' := [(2, .int (nI z_26)), (3, .int (nI ii)), (0, .ref mo), (1, .int n)]) hx hb dX8_those_36 rfl hl (by decide) rfl (fun ls hl => ?_)
      refine lv_iinc (v := (nI (ii + 1))) (lv' := [(3, .int (nI (ii + 1))), (2, .int (nI z_26)), (0, .ref mo), (1, .int n)]) hx hb dX8_those_37 hl (k := 1) rfl (nI_add ii 1) (by decide) rfl (fun ls hl => ?_)
      refine lv_goto (tgt := 4) hx hb dX8_those_40 (by decide) ?_
      exact ih (z_26) _ _ _ ⟨lv_sub hl [0, 1, 2, 3] rfl, rfl, rfl, (lf_X8_those_2 hM hii haf_0 hnb_w_9 e_22 c_23 hsh hz_26 e2_26), (by omega)⟩
  · rintro w_9 H locs ls ⟨hl, rfl, rfl, haf_0, hnb_w_9⟩
    refine lv_iload_n hx hb dX8_those_4 rfl (lv_at hl 0 rfl) ?_
    refine lv_aload_n hx hb dX8_those_5 rfl (lv_at hl 2 rfl) ?_
    refine va_get (D := (dC, dI)) (ci := 8) (v := .ref m_st) (C := RX8) (T := TX8) (N := 24) hx hb hts i_X8_those_X8 hown hK hP 0 rfl rfl 5 (by decide) (hts _ mx_X8_those_1) (fun _ h9 => h9) rfl dX8_those_6 ?_
    refine lv_iconst (v := 4) hx hb dX8_those_9 (by decide) ?_
    refine va_iald hx hb hK hP 1 0 rfl rfl (by unfold vp_in; decide) dX8_those_10 ?_
    refine lv_topi (fun v_27 e_27 => ?_)
    obtain rfl : v_27 = (nI k9) := (e_27).trans hM.2.1
    refine lv_icmp_ge (tgt := 43) hx hb dX8_those_11 (by decide) (fun _ => ?_) (fun c_ => absurd ((nI_leI (a := k9) (b := k9) (by omega) (by omega)).mpr (by omega)) c_)
    refine lv_iload_n hx hb dX8_those_43 rfl (lv_at hl 1 rfl) ?_
    exact W.iret (v := (nI w_9)) hx hb hr (fun t ht hW => ⟨(nI w_9), rfl, ⟨w_9, rfl, (by omega), haf_0⟩, ht⟩) (fun _ h => by cases h) dX8_those_44
theorem lf_X8_loudOf_1 {fs : Nat → Int32} {w9 : Nat} {k9 : Nat} {h9 : Nat} {n : Int32} {w_10 : Nat} {ii : Nat} (hM : okM fs w9 k9 h9) (hii : ii < k9) (haf_0 : (∀ s : Nat, s < ii → hasB n (nI s) → 1 ≤ w_10)) (haf_1 : (nI w_10 = ldR (fun s => fs (32 + s)) n ii)) (hnb_w_10 : w_10 ≤ 20 * ii) (f_23_0_0 : ¬ hasB n (nI ii)) : nI (w_10 + 0) = ldR (fun s => fs (32 + s)) n (ii + 1) := by
  simp only [ldR]; unfold hasB at *; grind [nI_add]
theorem lf_X8_loudOf_2 {fs : Nat → Int32} {w9 : Nat} {k9 : Nat} {h9 : Nat} {n : Int32} {w_10 : Nat} {ii : Nat} {L_28 : Nat} (hM : okM fs w9 k9 h9) (hii : ii < k9) (haf_0 : (∀ s : Nat, s < ii → hasB n (nI s) → 1 ≤ w_10)) (haf_1 : (nI w_10 = ldR (fun s => fs (32 + s)) n ii)) (hnb_w_10 : w_10 ≤ 20 * ii) (f_23_1_0 : hasB n (nI ii)) (hL1_28 : 1 ≤ L_28) (hL2_28 : L_28 ≤ 20) (hLe_28 : fs (32 + ii) = nI L_28) : nI (w_10 + L_28) = ldR (fun s => fs (32 + s)) n (ii + 1) := by
  simp only [ldR]; unfold hasB at *; grind [nI_add]
set_option maxHeartbeats 4000000 in
set_option maxRecDepth 100000 in
theorem r_X8_loudOf (l : Launch) (dC : Nat → ClassId) (dI : Nat → Nat → Nat) (cI cZ cL cJ : ClassId) (mo : Nat) (m_la : Nat) (m_sz : Nat) (m_it : Nat) (m_st : Nat) (m_mv : Nat) (m_tp : Nat) (m_rd : Nat) (m_ac : Nat) (m_as : Nat) (m_wo : Nat) (m_ik : Nat) (m_ke : Nat) (m_tr : Nat) (ms : Int32) (mt : Int32) (ml : Int32) (mk : Int32) (mv : Int32) (mb : Int32) (mw : Int32) (mz : Nat) (mp : Nat) (ma : Nat) (mx : Nat) (fs : Nat → Int32) (w9 : Nat) (k9 : Nat) (h9 : Nat) (n : Int32) (hM : okM fs w9 k9 h9) : Met l yX8_loudOf wsX8_loudOf ({ frames := 1, cells := 0, slots := 0, locals := 21 }) (va_Pc [.ref mo, .int n] (fun U => va_P (dC, dI) vwCl [(xo_8_rrriirrriiiiiiirrirrrrri mo m_la m_sz m_it ms mt m_st m_mv m_tp (nI mz) ml (nI mp) mk mv mb mw m_rd m_ac (nI ma) m_as m_wo m_ik m_ke m_tr (nI mx)), (xI m_st cI 38 fs)] U.heap ∧ va_K (dC, dI) vwCl [(cI, .int), (cZ, .boolean), (cL, .object RX3), (cJ, .array .int)] U)) (vp_Si (fun r => ∃ z : Nat, r = nI z ∧ z ≤ 120 ∧ (∀ s : Nat, s < k9 → hasB n (nI s) → 1 ≤ z) ∧ nI z = ldR (fun s => fs (32 + s)) n k9)) 0 0 (fun _ => False) := by
  refine Met.ofW (cc := cX8_loudOf) (maxL := 4) (ret := (some .int)) (by decide) rfl ?_
  intro p e s m args below meth c s₁ B hml hv
  obtain ⟨rfl, hP, hK⟩ := hv
  have hx := B.exec
  have hb := B.bytes
  have hr := B.returns
  have hts := atoms_spec (ws := wsX8_loudOf) B.pre
  have hown : s.vm.findClass RX8 = some m.cls := findClass_of_methodNamed B.named
  have hlocks := B.notSynchronized
  have hP : va_P (dC, dI) vwCl [(xo_8_rrriirrriiiiiiirrirrrrri mo m_la m_sz m_it ms mt m_st m_mv m_tp (nI mz) ml (nI mp) mk mv mb mw m_rd m_ac (nI ma) m_as m_wo m_ik m_ke m_tr (nI mx)), (xI m_st cI 38 fs)] s.heap := hP
  have hl := lv_entry ([.ref mo, .int n]) (n := 4) (Nat.le_of_ble_eq_true rfl)
  rw [lg_entry_eq]
  generalize (lg_sl ([.ref mo, .int n]) ++ List.replicate (4 - (lg_sl ([.ref mo, .int n])).length) Slot.unset).toArray = ls at hl ⊢
  have hl : lv_has ls 4 [(0, .ref mo), (1, .int n)] := hl
  have hk6 := hM.2.2.2.2.1
  refine lv_iconst (v := 0) hx hb dX8_loudOf_0 (by decide) ?_
  refine lv_istore_n (lv' := [(2, .int 0), (0, .ref mo), (1, .int n)]) hx hb dX8_loudOf_1 rfl hl (by decide) rfl (fun ls hl => ?_)
  refine lv_iconst (v := 0) hx hb dX8_loudOf_2 (by decide) ?_
  refine lv_istore_n (lv' := [(3, .int 0), (2, .int 0), (0, .ref mo), (1, .int n)]) hx hb dX8_loudOf_3 rfl hl (by decide) rfl (fun ls hl => ?_)
  refine lp_go (σ := (Nat)) (fun ii (st : (Nat)) H locs ls => match st with | w_10 => lv_has ls 4 [(3, .int (nI ii)), (2, .int (nI w_10)), (0, .ref mo), (1, .int n)] ∧ H = s.heap ∧ locs = [] ∧ (∀ s : Nat, s < ii → hasB n (nI s) → 1 ≤ w_10) ∧ (nI w_10 = ldR (fun s => fs (32 + s)) n ii) ∧ w_10 ≤ 20 * ii) k9 ?_ ?_ 0 (by omega) (0) ⟨lv_sub hl [0, 1, 2, 3] rfl, rfl, rfl, (fun s hs => absurd hs (Nat.not_lt_zero s)), rfl, (by omega)⟩
  · rintro ii w_10 H locs ls hii ⟨hl, rfl, rfl, haf_0, haf_1, hnb_w_10⟩ ih
    refine lv_iload_n hx hb dX8_loudOf_4 rfl (lv_at hl 0 rfl) ?_
    refine lv_aload_n hx hb dX8_loudOf_5 rfl (lv_at hl 2 rfl) ?_
    refine va_get (D := (dC, dI)) (ci := 8) (v := .ref m_st) (C := RX8) (T := TX8) (N := 24) hx hb hts i_X8_loudOf_X8 hown hK hP 0 rfl rfl 5 (by decide) (hts _ mx_X8_loudOf_1) (fun _ h9 => h9) rfl dX8_loudOf_6 ?_
    refine lv_iconst (v := 4) hx hb dX8_loudOf_9 (by decide) ?_
    refine va_iald hx hb hK hP 1 0 rfl rfl (by unfold vp_in; decide) dX8_loudOf_10 ?_
    refine lv_topi (fun v_21 e_21 => ?_)
    obtain rfl : v_21 = (nI k9) := (e_21).trans hM.2.1
    refine lv_icmp_ge (tgt := 44) hx hb dX8_loudOf_11 (by decide) (fun c_ => absurd c_ (fun q_ => absurd ((nI_leI (a := k9) (b := ii) (by omega) (by omega)).mp q_) (by omega))) (fun _ => ?_)
    refine lv_iload_n hx hb dX8_loudOf_14 rfl (lv_at hl 1 rfl) ?_
    refine lv_iload_n hx hb dX8_loudOf_15 rfl (lv_at hl 3 rfl) ?_
    refine lv_iload_n hx hb dX8_loudOf_16 rfl (lv_at hl 0 rfl) ?_
    have hPc_23 := hP.sub (ws' := []) [] rfl
    refine vp_callSi (W.runS (As := [.int n, .int (nI ii)]) (rest := [.int (nI w_10)]) ⟨hx, hb, hml, hown, hts⟩ (r_X8_has l dC dI cI cZ cL cJ n (nI ii) ) (va_cwS 2 hts gX8_loudOf_X8_has rfl rfl rfl (by decide +kernel) ⟨Nat.le_of_ble_eq_true rfl, Nat.le_of_ble_eq_true rfl⟩) (psP hK hPc_23) rfl rfl hl.1 rfl (lv_room (Nat.le_of_ble_eq_true rfl)) dX8_loudOf_17 ⟨Nat.le_of_ble_eq_true rfl, Nat.le_of_ble_eq_true rfl⟩) (fun r_23 h_23 => ?_)
    rcases h_23 with ⟨h_23, f_23_0_0⟩ | ⟨h_23, f_23_1_0⟩
    · subst h_23
      refine lv_if_eq (tgt := 35) hx hb dX8_loudOf_20 (by decide) (fun _ => ?_) (fun c_ => absurd (by decide) c_)
      refine lv_iconst (v := 0) hx hb dX8_loudOf_35 (by decide) ?_
      refine lv_iadd hx hb dX8_loudOf_36 ?_
      refine lv_topi (fun v_25 e_25 => ?_)
      obtain rfl : v_25 = (nI (w_10 + 0)) := (e_25).trans (nI_add w_10 0)
      refine lv_istore_n (lv' := [(2, .int (nI (w_10 + 0))), (3, .int (nI ii)), (0, .ref mo), (1, .int n)]) hx hb dX8_loudOf_37 rfl hl (by decide) rfl (fun ls hl => ?_)
      refine lv_iinc (v := (nI (ii + 1))) (lv' := [(3, .int (nI (ii + 1))), (2, .int (nI (w_10 + 0))), (0, .ref mo), (1, .int n)]) hx hb dX8_loudOf_38 hl (k := 1) rfl (nI_add ii 1) (by decide) rfl (fun ls hl => ?_)
      refine lv_goto (tgt := 4) hx hb dX8_loudOf_41 (by decide) ?_
      exact ih ((w_10 + 0)) _ _ _ ⟨lv_sub hl [0, 1, 2, 3] rfl, rfl, rfl, (lsum_n haf_0 f_23_0_0), (lf_X8_loudOf_1 hM hii haf_0 haf_1 hnb_w_10 f_23_0_0), (by omega)⟩
    · subst h_23
      refine lv_if_eq (tgt := 35) hx hb dX8_loudOf_20 (by decide) (fun c_ => absurd c_ (by decide)) (fun _ => ?_)
      refine lv_aload_n hx hb dX8_loudOf_23 rfl (lv_at hl 2 rfl) ?_
      refine va_get (D := (dC, dI)) (ci := 8) (v := .ref m_st) (C := RX8) (T := TX8) (N := 24) hx hb hts i_X8_loudOf_X8 hown hK hP 0 rfl rfl 5 (by decide) (hts _ mx_X8_loudOf_1) (fun _ h9 => h9) rfl dX8_loudOf_24 ?_
      refine lv_bipush (v := 32) hx hb dX8_loudOf_27 (by decide) ?_
      refine lv_iload_n hx hb dX8_loudOf_29 rfl (lv_at hl 0 rfl) ?_
      refine lv_iadd hx hb dX8_loudOf_30 ?_
      refine lv_topi (fun v_27 e_27 => ?_)
      obtain rfl : v_27 = (nI (32 + ii)) := (e_27).trans (nI_add 32 ii)
      refine va_iald hx hb hK hP 1 0 rfl rfl (vp_in_nI (by omega) (by omega)) dX8_loudOf_31 ?_
      obtain ⟨L_28, hL1_28, hL2_28, hLe_28⟩ := hM.2.2.2.2.2.2.2 ii (by omega)
      refine lv_topi (fun v_28 e_28 => ?_)
      obtain rfl : v_28 = nI L_28 := e_28.trans (by rw [nI_clamp (by omega)]; exact hLe_28)
      refine lv_goto (tgt := 36) hx hb dX8_loudOf_32 (by decide) ?_
      refine lv_iadd hx hb dX8_loudOf_36 ?_
      refine lv_topi (fun v_29 e_29 => ?_)
      obtain rfl : v_29 = (nI (w_10 + L_28)) := (e_29).trans (nI_add w_10 L_28)
      refine lv_istore_n (lv' := [(2, .int (nI (w_10 + L_28))), (3, .int (nI ii)), (0, .ref mo), (1, .int n)]) hx hb dX8_loudOf_37 rfl hl (by decide) rfl (fun ls hl => ?_)
      refine lv_iinc (v := (nI (ii + 1))) (lv' := [(3, .int (nI (ii + 1))), (2, .int (nI (w_10 + L_28))), (0, .ref mo), (1, .int n)]) hx hb dX8_loudOf_38 hl (k := 1) rfl (nI_add ii 1) (by decide) rfl (fun ls hl => ?_)
      refine lv_goto (tgt := 4) hx hb dX8_loudOf_41 (by decide) ?_
      exact ih ((w_10 + L_28)) _ _ _ ⟨lv_sub hl [0, 1, 2, 3] rfl, rfl, rfl, (fun s hs hb_ => by omega), (lf_X8_loudOf_2 hM hii haf_0 haf_1 hnb_w_10 f_23_1_0 hL1_28 hL2_28 hLe_28), (by omega)⟩
  · rintro w_10 H locs ls ⟨hl, rfl, rfl, haf_0, haf_1, hnb_w_10⟩
    refine lv_iload_n hx hb dX8_loudOf_4 rfl (lv_at hl 0 rfl) ?_
    refine lv_aload_n hx hb dX8_loudOf_5 rfl (lv_at hl 2 rfl) ?_
    refine va_get (D := (dC, dI)) (ci := 8) (v := .ref m_st) (C := RX8) (T := TX8) (N := 24) hx hb hts i_X8_loudOf_X8 hown hK hP 0 rfl rfl 5 (by decide) (hts _ mx_X8_loudOf_1) (fun _ h9 => h9) rfl dX8_loudOf_6 ?_
    refine lv_iconst (v := 4) hx hb dX8_loudOf_9 (by decide) ?_
    refine va_iald hx hb hK hP 1 0 rfl rfl (by unfold vp_in; decide) dX8_loudOf_10 ?_
    refine lv_topi (fun v_30 e_30 => ?_)
    obtain rfl : v_30 = (nI k9) := (e_30).trans hM.2.1
    refine lv_icmp_ge (tgt := 44) hx hb dX8_loudOf_11 (by decide) (fun _ => ?_) (fun c_ => absurd ((nI_leI (a := k9) (b := k9) (by omega) (by omega)).mpr (by omega)) c_)
    refine lv_iload_n hx hb dX8_loudOf_44 rfl (lv_at hl 1 rfl) ?_
    exact W.iret (v := (nI w_10)) hx hb hr (fun t ht hW => ⟨(nI w_10), rfl, ⟨w_10, rfl, (by omega), haf_0, haf_1⟩, ht⟩) (fun _ h => by cases h) dX8_loudOf_45
theorem lf_X8_letLoose_1 {fs : Nat → Int32} {w9 : Nat} {k9 : Nat} {h9 : Nat} {i : Nat} {L : Nat} {n : Int32} {g_2 : Nat → Int32} {g_4 : Nat → Int32} {g_6 : Nat → Int32} (hM : okM fs w9 k9 h9) (hi : i < 6) (hL1 : 1 ≤ L) (hL2 : L ≤ 20) (hu_2 : g_2 = upd fs (26 + i) 0) (hu_4 : g_4 = upd g_2 (20 + i) n) (hu_6 : g_6 = upd g_4 (32 + i) (nI L)) : g_6 = upd (upd (upd fs (26 + i) 0) (20 + i) n) (32 + i) (nI L) := by
  grind
set_option maxHeartbeats 4000000 in
set_option maxRecDepth 100000 in
theorem r_X8_letLoose (l : Launch) (dC : Nat → ClassId) (dI : Nat → Nat → Nat) (cI cZ cL cJ : ClassId) (sz : Nat) (mo : Nat) (m_la : Nat) (m_sz : Nat) (m_it : Nat) (m_st : Nat) (m_mv : Nat) (m_tp : Nat) (m_rd : Nat) (m_ac : Nat) (m_as : Nat) (m_wo : Nat) (m_ik : Nat) (m_ke : Nat) (m_tr : Nat) (ms : Int32) (mt : Int32) (ml : Int32) (mk : Int32) (mv : Int32) (mb : Int32) (mw : Int32) (mz : Nat) (mp : Nat) (ma : Nat) (mx : Nat) (fs : Nat → Int32) (w9 : Nat) (k9 : Nat) (h9 : Nat) (i : Nat) (L : Nat) (n : Int32) (hM : okM fs w9 k9 h9) (hi : i < 6) (hL1 : 1 ≤ L) (hL2 : L ≤ 20) : Met l yX8_letLoose wsX8_letLoose ({ frames := 0, cells := 0, slots := 0, locals := 0 }) (va_Pc [.ref mo, .int (nI i), .int n, .int (nI L)] (fun U => U.heap.size = sz ∧ va_P (dC, dI) vwCl [(xo_8_rrriirrriiiiiiirrirrrrri mo m_la m_sz m_it ms mt m_st m_mv m_tp (nI mz) ml (nI mp) mk mv mb mw m_rd m_ac (nI ma) m_as m_wo m_ik m_ke m_tr (nI mx)), (xI m_st cI 38 fs)] U.heap ∧ va_K (dC, dI) vwCl [(cI, .int), (cZ, .boolean), (cL, .object RX3), (cJ, .array .int)] U ∧ va_D (fun _ => True) [(xo_8_rrriirrriiiiiiirrirrrrri mo m_la m_sz m_it ms mt m_st m_mv m_tp (nI mz) ml (nI mp) mk mv mb mw m_rd m_ac (nI ma) m_as m_wo m_ik m_ke m_tr (nI mx)), (xI m_st cI 38 fs)])) (va_Qv (fun (_ : Unit) => True) (fun (_ : Unit) t => ∃ (fsn : Nat → Int32), va_P (dC, dI) vwCl [(xo_8_rrriirrriiiiiiirrirrrrri mo m_la m_sz m_it ms mt m_st m_mv m_tp (nI mz) ml (nI mp) mk mv mb mw m_rd m_ac (nI ma) m_as m_wo m_ik m_ke m_tr (nI mx)), (xI m_st cI 38 fsn)] t.heap ∧ va_D (va_A [(xo_8_rrriirrriiiiiiirrirrrrri mo m_la m_sz m_it ms mt m_st m_mv m_tp (nI mz) ml (nI mp) mk mv mb mw m_rd m_ac (nI ma) m_as m_wo m_ik m_ke m_tr (nI mx)), (xI m_st cI 38 fs)] sz) [(xo_8_rrriirrriiiiiiirrirrrrri mo m_la m_sz m_it ms mt m_st m_mv m_tp (nI mz) ml (nI mp) mk mv mb mw m_rd m_ac (nI ma) m_as m_wo m_ik m_ke m_tr (nI mx)), (xI m_st cI 38 fsn)] ∧ okM fsn w9 k9 h9 ∧ fsn = upd (upd (upd fs (26 + i) 0) (20 + i) n) (32 + i) (nI L)) (va_A [(xo_8_rrriirrriiiiiiirrirrrrri mo m_la m_sz m_it ms mt m_st m_mv m_tp (nI mz) ml (nI mp) mk mv mb mw m_rd m_ac (nI ma) m_as m_wo m_ik m_ke m_tr (nI mx)), (xI m_st cI 38 fs)] sz)) 0 0 (va_A [(xo_8_rrriirrriiiiiiirrirrrrri mo m_la m_sz m_it ms mt m_st m_mv m_tp (nI mz) ml (nI mp) mk mv mb mw m_rd m_ac (nI ma) m_as m_wo m_ik m_ke m_tr (nI mx)), (xI m_st cI 38 fs)] sz) := by
  refine Met.ofW (cc := cX8_letLoose) (maxL := 4) (ret := none) (by decide) rfl ?_
  intro p e s m args below meth c s₁ B hml hv
  obtain ⟨rfl, hsz, hP, hK, hD0⟩ := hv
  have hx := B.exec
  have hb := B.bytes
  have hr := B.returns
  have hts := atoms_spec (ws := wsX8_letLoose) B.pre
  have hown : s.vm.findClass RX8 = some m.cls := findClass_of_methodNamed B.named
  have hlocks := B.notSynchronized
  subst hsz
  have hD := hD0.self (sz := s.heap.size)
  generalize hAe : va_A [(xo_8_rrriirrriiiiiiirrirrrrri mo m_la m_sz m_it ms mt m_st m_mv m_tp (nI mz) ml (nI mp) mk mv mb mw m_rd m_ac (nI ma) m_as m_wo m_ik m_ke m_tr (nI mx)), (xI m_st cI 38 fs)] s.heap.size = A at hD ⊢
  have hA : ∀ q : Nat, s.heap.size ≤ q → A q := fun q h => by rw [← hAe]; exact Or.inr h
  have hS : va_S A s.heap s.heap [] := va_S.rf
  have hP : va_P (dC, dI) vwCl [(xo_8_rrriirrriiiiiiirrirrrrri mo m_la m_sz m_it ms mt m_st m_mv m_tp (nI mz) ml (nI mp) mk mv mb mw m_rd m_ac (nI ma) m_as m_wo m_ik m_ke m_tr (nI mx)), (xI m_st cI 38 fs)] s.heap := hP
  have hl := lv_entry ([.ref mo, .int (nI i), .int n, .int (nI L)]) (n := 4) (Nat.le_of_ble_eq_true rfl)
  rw [lg_entry_eq]
  generalize (lg_sl ([.ref mo, .int (nI i), .int n, .int (nI L)]) ++ List.replicate (4 - (lg_sl ([.ref mo, .int (nI i), .int n, .int (nI L)])).length) Slot.unset).toArray = ls at hl ⊢
  have hl : lv_has ls 4 [(0, .ref mo), (1, .int (nI i)), (2, .int n), (3, .int (nI L))] := hl
  have hk6 := hM.2.2.2.2.1
  have hw6 := hM.2.2.2.1
  refine lv_aload_n hx hb dX8_letLoose_0 rfl (lv_at hl 0 rfl) ?_
  refine va_get (D := (dC, dI)) (ci := 8) (v := .ref m_st) (C := RX8) (T := TX8) (N := 24) hx hb hts i_X8_letLoose_X8 hown hK hP 0 rfl rfl 5 (by decide) (hts _ mx_X8_letLoose_1) (fun _ h9 => h9) rfl dX8_letLoose_1 ?_
  refine lv_bipush (v := 26) hx hb dX8_letLoose_4 (by decide) ?_
  refine lv_iload_n hx hb dX8_letLoose_6 rfl (lv_at hl 1 rfl) ?_
  refine lv_iadd hx hb dX8_letLoose_7 ?_
  refine lv_topi (fun v_1 e_1 => ?_)
  obtain rfl : v_1 = (nI (26 + i)) := (e_1).trans (nI_add 26 i)
  refine lv_iconst (v := 0) hx hb dX8_letLoose_8 (by decide) ?_
  refine va_iast hx hb hK hP hD hS 1 0 rfl rfl (vp_in_nI (by omega) (by omega)) dX8_letLoose_9 (fun H locs hP hD hS => ?_)
  generalize hg_2 : upd fs ((nI (26 + i)) : Int32).toNatClampNeg 0 = g_2 at hP hD
  have hu_2 : g_2 = upd fs (26 + i) 0 := (by rw [← hg_2, nI_clamp (by omega)])
  have hM_2 : okM g_2 w9 k9 h9 := okM_off (i := (26 + i)) hM hg_2 (by omega) (by omega) (by omega) (by omega) (by omega)
  have hP : va_P (dC, dI) vwCl [(xo_8_rrriirrriiiiiiirrirrrrri mo m_la m_sz m_it ms mt m_st m_mv m_tp (nI mz) ml (nI mp) mk mv mb mw m_rd m_ac (nI ma) m_as m_wo m_ik m_ke m_tr (nI mx)), (xI m_st cI 38 g_2)] H := hP
  have hD := dto hP hD
  refine lv_aload_n hx hb dX8_letLoose_10 rfl (lv_at hl 0 rfl) ?_
  refine va_get (D := (dC, dI)) (ci := 8) (v := .ref m_st) (C := RX8) (T := TX8) (N := 24) hx hb hts i_X8_letLoose_X8 hown hK hP 0 rfl rfl 5 (by decide) (hts _ mx_X8_letLoose_1) (fun _ h9 => h9) rfl dX8_letLoose_11 ?_
  refine lv_bipush (v := 20) hx hb dX8_letLoose_14 (by decide) ?_
  refine lv_iload_n hx hb dX8_letLoose_16 rfl (lv_at hl 1 rfl) ?_
  refine lv_iadd hx hb dX8_letLoose_17 ?_
  refine lv_topi (fun v_3 e_3 => ?_)
  obtain rfl : v_3 = (nI (20 + i)) := (e_3).trans (nI_add 20 i)
  refine lv_iload_n hx hb dX8_letLoose_18 rfl (lv_at hl 2 rfl) ?_
  refine va_iast hx hb hK hP hD hS 1 0 rfl rfl (vp_in_nI (by omega) (by omega)) dX8_letLoose_19 (fun H locs hP hD hS => ?_)
  generalize hg_4 : upd g_2 ((nI (20 + i)) : Int32).toNatClampNeg n = g_4 at hP hD
  have hu_4 : g_4 = upd g_2 (20 + i) n := (by rw [← hg_4, nI_clamp (by omega)])
  have hM_4 : okM g_4 w9 k9 h9 := okM_off (i := (20 + i)) hM_2 hg_4 (by omega) (by omega) (by omega) (by omega) (by omega)
  have hP : va_P (dC, dI) vwCl [(xo_8_rrriirrriiiiiiirrirrrrri mo m_la m_sz m_it ms mt m_st m_mv m_tp (nI mz) ml (nI mp) mk mv mb mw m_rd m_ac (nI ma) m_as m_wo m_ik m_ke m_tr (nI mx)), (xI m_st cI 38 g_4)] H := hP
  have hD := dto hP hD
  refine lv_aload_n hx hb dX8_letLoose_20 rfl (lv_at hl 0 rfl) ?_
  refine va_get (D := (dC, dI)) (ci := 8) (v := .ref m_st) (C := RX8) (T := TX8) (N := 24) hx hb hts i_X8_letLoose_X8 hown hK hP 0 rfl rfl 5 (by decide) (hts _ mx_X8_letLoose_1) (fun _ h9 => h9) rfl dX8_letLoose_21 ?_
  refine lv_bipush (v := 32) hx hb dX8_letLoose_24 (by decide) ?_
  refine lv_iload_n hx hb dX8_letLoose_26 rfl (lv_at hl 1 rfl) ?_
  refine lv_iadd hx hb dX8_letLoose_27 ?_
  refine lv_topi (fun v_5 e_5 => ?_)
  obtain rfl : v_5 = (nI (32 + i)) := (e_5).trans (nI_add 32 i)
  refine lv_iload_n hx hb dX8_letLoose_28 rfl (lv_at hl 3 rfl) ?_
  refine va_iast hx hb hK hP hD hS 1 0 rfl rfl (vp_in_nI (by omega) (by omega)) dX8_letLoose_29 (fun H locs hP hD hS => ?_)
  generalize hg_6 : upd g_4 ((nI (32 + i)) : Int32).toNatClampNeg (nI L) = g_6 at hP hD
  have hu_6 : g_6 = upd g_4 (32 + i) (nI L) := (by rw [← hg_6, nI_clamp (by omega)])
  have hM_6 : okM g_6 w9 k9 h9 := okM_loud hM_4 hg_6 (by omega) (by omega) (by omega)
  have hP : va_P (dC, dI) vwCl [(xo_8_rrriirrriiiiiiirrirrrrri mo m_la m_sz m_it ms mt m_st m_mv m_tp (nI mz) ml (nI mp) mk mv mb mw m_rd m_ac (nI ma) m_as m_wo m_ik m_ke m_tr (nI mx)), (xI m_st cI 38 g_6)] H := hP
  have hD := dto hP hD
  have hX9 := cut2 (wc := [(xo_8_rrriirrriiiiiiirrirrrrri mo m_la m_sz m_it ms mt m_st m_mv m_tp (nI mz) ml (nI mp) mk mv mb mw m_rd m_ac (nI ma) m_as m_wo m_ik m_ke m_tr (nI mx)), (xI m_st cI 38 g_6)]) hP hD [0, 1] (by decide +kernel) rfl
  exact W.vret hx hb hr (fun t ht hW => ⟨⟨(), rfl, trivial, ⟨g_6, va_Ht ht hX9.1, hX9.2, hM_6, (lf_X8_letLoose_1 hM hi hL1 hL2 hu_2 hu_4 hu_6)⟩⟩, hS.F ht⟩) hS.2.2 dX8_letLoose_30
theorem lf_X8_drift_1 {fs : Nat → Int32} {w9 : Nat} {k9 : Nat} {h9 : Nat} {i : Nat} {n : Int32} {v_2 : Int32} {v_4 : Int32} {r_5 : Int32} {v_6 : Int32} {L_10 : Nat} {g_15 : Nat → Int32} {v_19 : Int32} {g_20 : Nat → Int32} {L_24 : Nat} {g_25 : Nat → Int32} (hM : okM fs w9 k9 h9) (hi : i < k9) (e_2 : v_2 = fs (14 + i)) (e_4 : v_4 = fs (20 + i)) (h_5 : r_5 = (dfM v_2 n)) (e_6 : v_6 = (v_4 + r_5)) (c_7 : ¬ (v_2 = 4)) (c_8 : ¬ (v_2 = 5)) (hL1_10 : 1 ≤ L_10) (hL2_10 : L_10 ≤ 20) (hLe_10 : fs (32 + i) = nI L_10) (f_11_0_0 : ¬ iC (fs 0) v_6) (hu_15 : g_15 = upd fs (26 + i) 2) (e_19 : v_19 = g_15 (20 + i)) (hu_20 : g_20 = upd g_15 (20 + i) v_19) (hL1_24 : 1 ≤ L_24) (hL2_24 : L_24 ≤ 20) (hLe_24 : g_20 (32 + i) = nI L_24) (hu_25 : g_25 = upd g_20 (32 + i) (nI L_24)) : g_25 = mDr fs i n := by
  have t : toM fs i n = v_6 := by rw [e_6, e_4, h_5, e_2]; rfl
  first
  | (exfalso; omega)
  | exact (dr_lost (by assumption) (by assumption) (by assumption) (by assumption) (by assumption)).trans (mDr_1 t (by assumption)).symm
  | exact (dr_lost (by assumption) (by assumption) (by assumption) (by assumption) (by assumption)).trans (mDr_2 (lo4 e_2 (by assumption) (by assumption) (by omega)) (n0 (by assumption))).symm
  | exact (dr_kept (by assumption) (by assumption) (by assumption)).trans (mDr_3 t (by assumption) (lo4 e_2 (by assumption) (by assumption) (by omega)) (nI_ne0 (by omega) (by omega))).symm
  | exact (dr_kept (by assumption) (by assumption) (by assumption)).trans (mDr_3 t (by assumption) (lo5 e_2 (by assumption) (by assumption) (by assumption) (by omega)) (nI_ne0 (by omega) (by omega))).symm
  | exact (dr_kept (by assumption) (by assumption) (by assumption)).trans (mDr_3 t (by assumption) (lon e_2 (by assumption) (by assumption) (by assumption)) (nI_ne0 (by omega) (by omega))).symm
  | exact (dr_kept (by assumption) (by assumption) (by assumption)).trans (mDr_3 t (by assumption) (lo5b e_2 (by assumption) (by assumption) (by omega) (by omega)) (nI_ne0 (by omega) (by omega))).symm
theorem lf_X8_drift_2 {fs : Nat → Int32} {w9 : Nat} {k9 : Nat} {h9 : Nat} {i : Nat} {n : Int32} {v_2 : Int32} {v_4 : Int32} {r_5 : Int32} {v_6 : Int32} {L_10 : Nat} {g_30 : Nat → Int32} {g_33 : Nat → Int32} {g_36 : Nat → Int32} (hM : okM fs w9 k9 h9) (hi : i < k9) (e_2 : v_2 = fs (14 + i)) (e_4 : v_4 = fs (20 + i)) (h_5 : r_5 = (dfM v_2 n)) (e_6 : v_6 = (v_4 + r_5)) (c_7 : ¬ (v_2 = 4)) (c_8 : ¬ (v_2 = 5)) (hL1_10 : 1 ≤ L_10) (hL2_10 : L_10 ≤ 20) (hLe_10 : fs (32 + i) = nI L_10) (f_11_1_0 : iC (fs 0) v_6) (c_27 : ¬ (L_10 = 0)) (hu_30 : g_30 = upd fs (26 + i) 0) (hu_33 : g_33 = upd g_30 (20 + i) v_6) (hu_36 : g_36 = upd g_33 (32 + i) (nI L_10)) : g_36 = mDr fs i n := by
  have t : toM fs i n = v_6 := by rw [e_6, e_4, h_5, e_2]; rfl
  first
  | (exfalso; omega)
  | exact (dr_lost (by assumption) (by assumption) (by assumption) (by assumption) (by assumption)).trans (mDr_1 t (by assumption)).symm
  | exact (dr_lost (by assumption) (by assumption) (by assumption) (by assumption) (by assumption)).trans (mDr_2 (lo4 e_2 (by assumption) (by assumption) (by omega)) (n0 (by assumption))).symm
  | exact (dr_kept (by assumption) (by assumption) (by assumption)).trans (mDr_3 t (by assumption) (lo4 e_2 (by assumption) (by assumption) (by omega)) (nI_ne0 (by omega) (by omega))).symm
  | exact (dr_kept (by assumption) (by assumption) (by assumption)).trans (mDr_3 t (by assumption) (lo5 e_2 (by assumption) (by assumption) (by assumption) (by omega)) (nI_ne0 (by omega) (by omega))).symm
  | exact (dr_kept (by assumption) (by assumption) (by assumption)).trans (mDr_3 t (by assumption) (lon e_2 (by assumption) (by assumption) (by assumption)) (nI_ne0 (by omega) (by omega))).symm
  | exact (dr_kept (by assumption) (by assumption) (by assumption)).trans (mDr_3 t (by assumption) (lo5b e_2 (by assumption) (by assumption) (by omega) (by omega)) (nI_ne0 (by omega) (by omega))).symm
theorem lf_X8_drift_3 {fs : Nat → Int32} {w9 : Nat} {k9 : Nat} {h9 : Nat} {i : Nat} {n : Int32} {v_2 : Int32} {v_4 : Int32} {r_5 : Int32} {v_6 : Int32} {L_10 : Nat} {g_39 : Nat → Int32} {v_43 : Int32} {g_44 : Nat → Int32} {L_48 : Nat} {g_49 : Nat → Int32} (hM : okM fs w9 k9 h9) (hi : i < k9) (e_2 : v_2 = fs (14 + i)) (e_4 : v_4 = fs (20 + i)) (h_5 : r_5 = (dfM v_2 n)) (e_6 : v_6 = (v_4 + r_5)) (c_7 : ¬ (v_2 = 4)) (c_8 : ¬ (v_2 = 5)) (hL1_10 : 1 ≤ L_10) (hL2_10 : L_10 ≤ 20) (hLe_10 : fs (32 + i) = nI L_10) (f_11_1_0 : iC (fs 0) v_6) (c_27 : L_10 = 0) (hu_39 : g_39 = upd fs (26 + i) 2) (e_43 : v_43 = g_39 (20 + i)) (hu_44 : g_44 = upd g_39 (20 + i) v_43) (hL1_48 : 1 ≤ L_48) (hL2_48 : L_48 ≤ 20) (hLe_48 : g_44 (32 + i) = nI L_48) (hu_49 : g_49 = upd g_44 (32 + i) (nI L_48)) : g_49 = mDr fs i n := by
  have t : toM fs i n = v_6 := by rw [e_6, e_4, h_5, e_2]; rfl
  first
  | (exfalso; omega)
  | exact (dr_lost (by assumption) (by assumption) (by assumption) (by assumption) (by assumption)).trans (mDr_1 t (by assumption)).symm
  | exact (dr_lost (by assumption) (by assumption) (by assumption) (by assumption) (by assumption)).trans (mDr_2 (lo4 e_2 (by assumption) (by assumption) (by omega)) (n0 (by assumption))).symm
  | exact (dr_kept (by assumption) (by assumption) (by assumption)).trans (mDr_3 t (by assumption) (lo4 e_2 (by assumption) (by assumption) (by omega)) (nI_ne0 (by omega) (by omega))).symm
  | exact (dr_kept (by assumption) (by assumption) (by assumption)).trans (mDr_3 t (by assumption) (lo5 e_2 (by assumption) (by assumption) (by assumption) (by omega)) (nI_ne0 (by omega) (by omega))).symm
  | exact (dr_kept (by assumption) (by assumption) (by assumption)).trans (mDr_3 t (by assumption) (lon e_2 (by assumption) (by assumption) (by assumption)) (nI_ne0 (by omega) (by omega))).symm
  | exact (dr_kept (by assumption) (by assumption) (by assumption)).trans (mDr_3 t (by assumption) (lo5b e_2 (by assumption) (by assumption) (by omega) (by omega)) (nI_ne0 (by omega) (by omega))).symm
theorem lf_X8_drift_4 {fs : Nat → Int32} {w9 : Nat} {k9 : Nat} {h9 : Nat} {i : Nat} {n : Int32} {v_2 : Int32} {v_4 : Int32} {r_5 : Int32} {v_6 : Int32} {L_51 : Nat} {g_59 : Nat → Int32} {v_63 : Int32} {g_64 : Nat → Int32} {L_68 : Nat} {g_69 : Nat → Int32} (hM : okM fs w9 k9 h9) (hi : i < k9) (e_2 : v_2 = fs (14 + i)) (e_4 : v_4 = fs (20 + i)) (h_5 : r_5 = (dfM v_2 n)) (e_6 : v_6 = (v_4 + r_5)) (c_7 : ¬ (v_2 = 4)) (c_8 : v_2 = 5) (hL1_51 : 1 ≤ L_51) (hL2_51 : L_51 ≤ 20) (hLe_51 : fs (32 + i) = nI L_51) (c_52 : 20 ≤ L_51) (f_55_0_0 : ¬ iC (fs 0) v_6) (hu_59 : g_59 = upd fs (26 + i) 2) (e_63 : v_63 = g_59 (20 + i)) (hu_64 : g_64 = upd g_59 (20 + i) v_63) (hL1_68 : 1 ≤ L_68) (hL2_68 : L_68 ≤ 20) (hLe_68 : g_64 (32 + i) = nI L_68) (hu_69 : g_69 = upd g_64 (32 + i) (nI L_68)) : g_69 = mDr fs i n := by
  have t : toM fs i n = v_6 := by rw [e_6, e_4, h_5, e_2]; rfl
  first
  | (exfalso; omega)
  | exact (dr_lost (by assumption) (by assumption) (by assumption) (by assumption) (by assumption)).trans (mDr_1 t (by assumption)).symm
  | exact (dr_lost (by assumption) (by assumption) (by assumption) (by assumption) (by assumption)).trans (mDr_2 (lo4 e_2 (by assumption) (by assumption) (by omega)) (n0 (by assumption))).symm
  | exact (dr_kept (by assumption) (by assumption) (by assumption)).trans (mDr_3 t (by assumption) (lo4 e_2 (by assumption) (by assumption) (by omega)) (nI_ne0 (by omega) (by omega))).symm
  | exact (dr_kept (by assumption) (by assumption) (by assumption)).trans (mDr_3 t (by assumption) (lo5 e_2 (by assumption) (by assumption) (by assumption) (by omega)) (nI_ne0 (by omega) (by omega))).symm
  | exact (dr_kept (by assumption) (by assumption) (by assumption)).trans (mDr_3 t (by assumption) (lon e_2 (by assumption) (by assumption) (by assumption)) (nI_ne0 (by omega) (by omega))).symm
  | exact (dr_kept (by assumption) (by assumption) (by assumption)).trans (mDr_3 t (by assumption) (lo5b e_2 (by assumption) (by assumption) (by omega) (by omega)) (nI_ne0 (by omega) (by omega))).symm
theorem lf_X8_drift_5 {fs : Nat → Int32} {w9 : Nat} {k9 : Nat} {h9 : Nat} {i : Nat} {n : Int32} {v_2 : Int32} {v_4 : Int32} {r_5 : Int32} {v_6 : Int32} {L_51 : Nat} {g_74 : Nat → Int32} {g_77 : Nat → Int32} {g_80 : Nat → Int32} (hM : okM fs w9 k9 h9) (hi : i < k9) (e_2 : v_2 = fs (14 + i)) (e_4 : v_4 = fs (20 + i)) (h_5 : r_5 = (dfM v_2 n)) (e_6 : v_6 = (v_4 + r_5)) (c_7 : ¬ (v_2 = 4)) (c_8 : v_2 = 5) (hL1_51 : 1 ≤ L_51) (hL2_51 : L_51 ≤ 20) (hLe_51 : fs (32 + i) = nI L_51) (c_52 : 20 ≤ L_51) (f_55_1_0 : iC (fs 0) v_6) (c_71 : ¬ (L_51 = 0)) (hu_74 : g_74 = upd fs (26 + i) 0) (hu_77 : g_77 = upd g_74 (20 + i) v_6) (hu_80 : g_80 = upd g_77 (32 + i) (nI L_51)) : g_80 = mDr fs i n := by
  have t : toM fs i n = v_6 := by rw [e_6, e_4, h_5, e_2]; rfl
  first
  | (exfalso; omega)
  | exact (dr_lost (by assumption) (by assumption) (by assumption) (by assumption) (by assumption)).trans (mDr_1 t (by assumption)).symm
  | exact (dr_lost (by assumption) (by assumption) (by assumption) (by assumption) (by assumption)).trans (mDr_2 (lo4 e_2 (by assumption) (by assumption) (by omega)) (n0 (by assumption))).symm
  | exact (dr_kept (by assumption) (by assumption) (by assumption)).trans (mDr_3 t (by assumption) (lo4 e_2 (by assumption) (by assumption) (by omega)) (nI_ne0 (by omega) (by omega))).symm
  | exact (dr_kept (by assumption) (by assumption) (by assumption)).trans (mDr_3 t (by assumption) (lo5 e_2 (by assumption) (by assumption) (by assumption) (by omega)) (nI_ne0 (by omega) (by omega))).symm
  | exact (dr_kept (by assumption) (by assumption) (by assumption)).trans (mDr_3 t (by assumption) (lon e_2 (by assumption) (by assumption) (by assumption)) (nI_ne0 (by omega) (by omega))).symm
  | exact (dr_kept (by assumption) (by assumption) (by assumption)).trans (mDr_3 t (by assumption) (lo5b e_2 (by assumption) (by assumption) (by omega) (by omega)) (nI_ne0 (by omega) (by omega))).symm
theorem lf_X8_drift_6 {fs : Nat → Int32} {w9 : Nat} {k9 : Nat} {h9 : Nat} {i : Nat} {n : Int32} {v_2 : Int32} {v_4 : Int32} {r_5 : Int32} {v_6 : Int32} {L_51 : Nat} {g_83 : Nat → Int32} {v_87 : Int32} {g_88 : Nat → Int32} {L_92 : Nat} {g_93 : Nat → Int32} (hM : okM fs w9 k9 h9) (hi : i < k9) (e_2 : v_2 = fs (14 + i)) (e_4 : v_4 = fs (20 + i)) (h_5 : r_5 = (dfM v_2 n)) (e_6 : v_6 = (v_4 + r_5)) (c_7 : ¬ (v_2 = 4)) (c_8 : v_2 = 5) (hL1_51 : 1 ≤ L_51) (hL2_51 : L_51 ≤ 20) (hLe_51 : fs (32 + i) = nI L_51) (c_52 : 20 ≤ L_51) (f_55_1_0 : iC (fs 0) v_6) (c_71 : L_51 = 0) (hu_83 : g_83 = upd fs (26 + i) 2) (e_87 : v_87 = g_83 (20 + i)) (hu_88 : g_88 = upd g_83 (20 + i) v_87) (hL1_92 : 1 ≤ L_92) (hL2_92 : L_92 ≤ 20) (hLe_92 : g_88 (32 + i) = nI L_92) (hu_93 : g_93 = upd g_88 (32 + i) (nI L_92)) : g_93 = mDr fs i n := by
  have t : toM fs i n = v_6 := by rw [e_6, e_4, h_5, e_2]; rfl
  first
  | (exfalso; omega)
  | exact (dr_lost (by assumption) (by assumption) (by assumption) (by assumption) (by assumption)).trans (mDr_1 t (by assumption)).symm
  | exact (dr_lost (by assumption) (by assumption) (by assumption) (by assumption) (by assumption)).trans (mDr_2 (lo4 e_2 (by assumption) (by assumption) (by omega)) (n0 (by assumption))).symm
  | exact (dr_kept (by assumption) (by assumption) (by assumption)).trans (mDr_3 t (by assumption) (lo4 e_2 (by assumption) (by assumption) (by omega)) (nI_ne0 (by omega) (by omega))).symm
  | exact (dr_kept (by assumption) (by assumption) (by assumption)).trans (mDr_3 t (by assumption) (lo5 e_2 (by assumption) (by assumption) (by assumption) (by omega)) (nI_ne0 (by omega) (by omega))).symm
  | exact (dr_kept (by assumption) (by assumption) (by assumption)).trans (mDr_3 t (by assumption) (lon e_2 (by assumption) (by assumption) (by assumption)) (nI_ne0 (by omega) (by omega))).symm
  | exact (dr_kept (by assumption) (by assumption) (by assumption)).trans (mDr_3 t (by assumption) (lo5b e_2 (by assumption) (by assumption) (by omega) (by omega)) (nI_ne0 (by omega) (by omega))).symm
theorem lf_X8_drift_7 {fs : Nat → Int32} {w9 : Nat} {k9 : Nat} {h9 : Nat} {i : Nat} {n : Int32} {v_2 : Int32} {v_4 : Int32} {r_5 : Int32} {v_6 : Int32} {L_51 : Nat} {g_101 : Nat → Int32} {v_105 : Int32} {g_106 : Nat → Int32} {L_110 : Nat} {g_111 : Nat → Int32} (hM : okM fs w9 k9 h9) (hi : i < k9) (e_2 : v_2 = fs (14 + i)) (e_4 : v_4 = fs (20 + i)) (h_5 : r_5 = (dfM v_2 n)) (e_6 : v_6 = (v_4 + r_5)) (c_7 : ¬ (v_2 = 4)) (c_8 : v_2 = 5) (hL1_51 : 1 ≤ L_51) (hL2_51 : L_51 ≤ 20) (hLe_51 : fs (32 + i) = nI L_51) (c_52 : ¬ (20 ≤ L_51)) (f_97_0_0 : ¬ iC (fs 0) v_6) (hu_101 : g_101 = upd fs (26 + i) 2) (e_105 : v_105 = g_101 (20 + i)) (hu_106 : g_106 = upd g_101 (20 + i) v_105) (hL1_110 : 1 ≤ L_110) (hL2_110 : L_110 ≤ 20) (hLe_110 : g_106 (32 + i) = nI L_110) (hu_111 : g_111 = upd g_106 (32 + i) (nI L_110)) : g_111 = mDr fs i n := by
  have t : toM fs i n = v_6 := by rw [e_6, e_4, h_5, e_2]; rfl
  first
  | (exfalso; omega)
  | exact (dr_lost (by assumption) (by assumption) (by assumption) (by assumption) (by assumption)).trans (mDr_1 t (by assumption)).symm
  | exact (dr_lost (by assumption) (by assumption) (by assumption) (by assumption) (by assumption)).trans (mDr_2 (lo4 e_2 (by assumption) (by assumption) (by omega)) (n0 (by assumption))).symm
  | exact (dr_kept (by assumption) (by assumption) (by assumption)).trans (mDr_3 t (by assumption) (lo4 e_2 (by assumption) (by assumption) (by omega)) (nI_ne0 (by omega) (by omega))).symm
  | exact (dr_kept (by assumption) (by assumption) (by assumption)).trans (mDr_3 t (by assumption) (lo5 e_2 (by assumption) (by assumption) (by assumption) (by omega)) (nI_ne0 (by omega) (by omega))).symm
  | exact (dr_kept (by assumption) (by assumption) (by assumption)).trans (mDr_3 t (by assumption) (lon e_2 (by assumption) (by assumption) (by assumption)) (nI_ne0 (by omega) (by omega))).symm
  | exact (dr_kept (by assumption) (by assumption) (by assumption)).trans (mDr_3 t (by assumption) (lo5b e_2 (by assumption) (by assumption) (by omega) (by omega)) (nI_ne0 (by omega) (by omega))).symm
theorem lf_X8_drift_8 {fs : Nat → Int32} {w9 : Nat} {k9 : Nat} {h9 : Nat} {i : Nat} {n : Int32} {v_2 : Int32} {v_4 : Int32} {r_5 : Int32} {v_6 : Int32} {L_51 : Nat} {g_116 : Nat → Int32} {g_119 : Nat → Int32} {g_122 : Nat → Int32} (hM : okM fs w9 k9 h9) (hi : i < k9) (e_2 : v_2 = fs (14 + i)) (e_4 : v_4 = fs (20 + i)) (h_5 : r_5 = (dfM v_2 n)) (e_6 : v_6 = (v_4 + r_5)) (c_7 : ¬ (v_2 = 4)) (c_8 : v_2 = 5) (hL1_51 : 1 ≤ L_51) (hL2_51 : L_51 ≤ 20) (hLe_51 : fs (32 + i) = nI L_51) (c_52 : ¬ (20 ≤ L_51)) (f_97_1_0 : iC (fs 0) v_6) (c_113 : ¬ ((L_51 + 1) = 0)) (hu_116 : g_116 = upd fs (26 + i) 0) (hu_119 : g_119 = upd g_116 (20 + i) v_6) (hu_122 : g_122 = upd g_119 (32 + i) (nI (L_51 + 1))) : g_122 = mDr fs i n := by
  have t : toM fs i n = v_6 := by rw [e_6, e_4, h_5, e_2]; rfl
  first
  | (exfalso; omega)
  | exact (dr_lost (by assumption) (by assumption) (by assumption) (by assumption) (by assumption)).trans (mDr_1 t (by assumption)).symm
  | exact (dr_lost (by assumption) (by assumption) (by assumption) (by assumption) (by assumption)).trans (mDr_2 (lo4 e_2 (by assumption) (by assumption) (by omega)) (n0 (by assumption))).symm
  | exact (dr_kept (by assumption) (by assumption) (by assumption)).trans (mDr_3 t (by assumption) (lo4 e_2 (by assumption) (by assumption) (by omega)) (nI_ne0 (by omega) (by omega))).symm
  | exact (dr_kept (by assumption) (by assumption) (by assumption)).trans (mDr_3 t (by assumption) (lo5 e_2 (by assumption) (by assumption) (by assumption) (by omega)) (nI_ne0 (by omega) (by omega))).symm
  | exact (dr_kept (by assumption) (by assumption) (by assumption)).trans (mDr_3 t (by assumption) (lon e_2 (by assumption) (by assumption) (by assumption)) (nI_ne0 (by omega) (by omega))).symm
  | exact (dr_kept (by assumption) (by assumption) (by assumption)).trans (mDr_3 t (by assumption) (lo5b e_2 (by assumption) (by assumption) (by omega) (by omega)) (nI_ne0 (by omega) (by omega))).symm
theorem lf_X8_drift_9 {fs : Nat → Int32} {w9 : Nat} {k9 : Nat} {h9 : Nat} {i : Nat} {n : Int32} {v_2 : Int32} {v_4 : Int32} {r_5 : Int32} {v_6 : Int32} {L_51 : Nat} {g_125 : Nat → Int32} {v_129 : Int32} {g_130 : Nat → Int32} {L_134 : Nat} {g_135 : Nat → Int32} (hM : okM fs w9 k9 h9) (hi : i < k9) (e_2 : v_2 = fs (14 + i)) (e_4 : v_4 = fs (20 + i)) (h_5 : r_5 = (dfM v_2 n)) (e_6 : v_6 = (v_4 + r_5)) (c_7 : ¬ (v_2 = 4)) (c_8 : v_2 = 5) (hL1_51 : 1 ≤ L_51) (hL2_51 : L_51 ≤ 20) (hLe_51 : fs (32 + i) = nI L_51) (c_52 : ¬ (20 ≤ L_51)) (f_97_1_0 : iC (fs 0) v_6) (c_113 : (L_51 + 1) = 0) (hu_125 : g_125 = upd fs (26 + i) 2) (e_129 : v_129 = g_125 (20 + i)) (hu_130 : g_130 = upd g_125 (20 + i) v_129) (hL1_134 : 1 ≤ L_134) (hL2_134 : L_134 ≤ 20) (hLe_134 : g_130 (32 + i) = nI L_134) (hu_135 : g_135 = upd g_130 (32 + i) (nI L_134)) : g_135 = mDr fs i n := by
  have t : toM fs i n = v_6 := by rw [e_6, e_4, h_5, e_2]; rfl
  first
  | (exfalso; omega)
  | exact (dr_lost (by assumption) (by assumption) (by assumption) (by assumption) (by assumption)).trans (mDr_1 t (by assumption)).symm
  | exact (dr_lost (by assumption) (by assumption) (by assumption) (by assumption) (by assumption)).trans (mDr_2 (lo4 e_2 (by assumption) (by assumption) (by omega)) (n0 (by assumption))).symm
  | exact (dr_kept (by assumption) (by assumption) (by assumption)).trans (mDr_3 t (by assumption) (lo4 e_2 (by assumption) (by assumption) (by omega)) (nI_ne0 (by omega) (by omega))).symm
  | exact (dr_kept (by assumption) (by assumption) (by assumption)).trans (mDr_3 t (by assumption) (lo5 e_2 (by assumption) (by assumption) (by assumption) (by omega)) (nI_ne0 (by omega) (by omega))).symm
  | exact (dr_kept (by assumption) (by assumption) (by assumption)).trans (mDr_3 t (by assumption) (lon e_2 (by assumption) (by assumption) (by assumption)) (nI_ne0 (by omega) (by omega))).symm
  | exact (dr_kept (by assumption) (by assumption) (by assumption)).trans (mDr_3 t (by assumption) (lo5b e_2 (by assumption) (by assumption) (by omega) (by omega)) (nI_ne0 (by omega) (by omega))).symm
theorem lf_X8_drift_10 {fs : Nat → Int32} {w9 : Nat} {k9 : Nat} {h9 : Nat} {i : Nat} {n : Int32} {v_2 : Int32} {v_4 : Int32} {r_5 : Int32} {v_6 : Int32} {L_137 : Nat} {g_143 : Nat → Int32} {v_147 : Int32} {g_148 : Nat → Int32} {L_152 : Nat} {g_153 : Nat → Int32} (hM : okM fs w9 k9 h9) (hi : i < k9) (e_2 : v_2 = fs (14 + i)) (e_4 : v_4 = fs (20 + i)) (h_5 : r_5 = (dfM v_2 n)) (e_6 : v_6 = (v_4 + r_5)) (c_7 : v_2 = 4) (hL1_137 : 1 ≤ L_137) (hL2_137 : L_137 ≤ 20) (hLe_137 : fs (32 + i) = nI L_137) (f_139_0_0 : ¬ iC (fs 0) v_6) (hu_143 : g_143 = upd fs (26 + i) 2) (e_147 : v_147 = g_143 (20 + i)) (hu_148 : g_148 = upd g_143 (20 + i) v_147) (hL1_152 : 1 ≤ L_152) (hL2_152 : L_152 ≤ 20) (hLe_152 : g_148 (32 + i) = nI L_152) (hu_153 : g_153 = upd g_148 (32 + i) (nI L_152)) : g_153 = mDr fs i n := by
  have t : toM fs i n = v_6 := by rw [e_6, e_4, h_5, e_2]; rfl
  first
  | (exfalso; omega)
  | exact (dr_lost (by assumption) (by assumption) (by assumption) (by assumption) (by assumption)).trans (mDr_1 t (by assumption)).symm
  | exact (dr_lost (by assumption) (by assumption) (by assumption) (by assumption) (by assumption)).trans (mDr_2 (lo4 e_2 (by assumption) (by assumption) (by omega)) (n0 (by assumption))).symm
  | exact (dr_kept (by assumption) (by assumption) (by assumption)).trans (mDr_3 t (by assumption) (lo4 e_2 (by assumption) (by assumption) (by omega)) (nI_ne0 (by omega) (by omega))).symm
  | exact (dr_kept (by assumption) (by assumption) (by assumption)).trans (mDr_3 t (by assumption) (lo5 e_2 (by assumption) (by assumption) (by assumption) (by omega)) (nI_ne0 (by omega) (by omega))).symm
  | exact (dr_kept (by assumption) (by assumption) (by assumption)).trans (mDr_3 t (by assumption) (lon e_2 (by assumption) (by assumption) (by assumption)) (nI_ne0 (by omega) (by omega))).symm
  | exact (dr_kept (by assumption) (by assumption) (by assumption)).trans (mDr_3 t (by assumption) (lo5b e_2 (by assumption) (by assumption) (by omega) (by omega)) (nI_ne0 (by omega) (by omega))).symm
theorem lf_X8_drift_11 {fs : Nat → Int32} {w9 : Nat} {k9 : Nat} {h9 : Nat} {i : Nat} {n : Int32} {v_2 : Int32} {v_4 : Int32} {r_5 : Int32} {v_6 : Int32} {L_137 : Nat} {g_158 : Nat → Int32} {g_161 : Nat → Int32} {g_164 : Nat → Int32} (hM : okM fs w9 k9 h9) (hi : i < k9) (e_2 : v_2 = fs (14 + i)) (e_4 : v_4 = fs (20 + i)) (h_5 : r_5 = (dfM v_2 n)) (e_6 : v_6 = (v_4 + r_5)) (c_7 : v_2 = 4) (hL1_137 : 1 ≤ L_137) (hL2_137 : L_137 ≤ 20) (hLe_137 : fs (32 + i) = nI L_137) (f_139_1_0 : iC (fs 0) v_6) (c_155 : ¬ ((L_137 - 1) = 0)) (hu_158 : g_158 = upd fs (26 + i) 0) (hu_161 : g_161 = upd g_158 (20 + i) v_6) (hu_164 : g_164 = upd g_161 (32 + i) (nI (L_137 - 1))) : g_164 = mDr fs i n := by
  have t : toM fs i n = v_6 := by rw [e_6, e_4, h_5, e_2]; rfl
  first
  | (exfalso; omega)
  | exact (dr_lost (by assumption) (by assumption) (by assumption) (by assumption) (by assumption)).trans (mDr_1 t (by assumption)).symm
  | exact (dr_lost (by assumption) (by assumption) (by assumption) (by assumption) (by assumption)).trans (mDr_2 (lo4 e_2 (by assumption) (by assumption) (by omega)) (n0 (by assumption))).symm
  | exact (dr_kept (by assumption) (by assumption) (by assumption)).trans (mDr_3 t (by assumption) (lo4 e_2 (by assumption) (by assumption) (by omega)) (nI_ne0 (by omega) (by omega))).symm
  | exact (dr_kept (by assumption) (by assumption) (by assumption)).trans (mDr_3 t (by assumption) (lo5 e_2 (by assumption) (by assumption) (by assumption) (by omega)) (nI_ne0 (by omega) (by omega))).symm
  | exact (dr_kept (by assumption) (by assumption) (by assumption)).trans (mDr_3 t (by assumption) (lon e_2 (by assumption) (by assumption) (by assumption)) (nI_ne0 (by omega) (by omega))).symm
  | exact (dr_kept (by assumption) (by assumption) (by assumption)).trans (mDr_3 t (by assumption) (lo5b e_2 (by assumption) (by assumption) (by omega) (by omega)) (nI_ne0 (by omega) (by omega))).symm
theorem lf_X8_drift_12 {fs : Nat → Int32} {w9 : Nat} {k9 : Nat} {h9 : Nat} {i : Nat} {n : Int32} {v_2 : Int32} {v_4 : Int32} {r_5 : Int32} {v_6 : Int32} {L_137 : Nat} {g_167 : Nat → Int32} {v_171 : Int32} {g_172 : Nat → Int32} {L_176 : Nat} {g_177 : Nat → Int32} (hM : okM fs w9 k9 h9) (hi : i < k9) (e_2 : v_2 = fs (14 + i)) (e_4 : v_4 = fs (20 + i)) (h_5 : r_5 = (dfM v_2 n)) (e_6 : v_6 = (v_4 + r_5)) (c_7 : v_2 = 4) (hL1_137 : 1 ≤ L_137) (hL2_137 : L_137 ≤ 20) (hLe_137 : fs (32 + i) = nI L_137) (f_139_1_0 : iC (fs 0) v_6) (c_155 : (L_137 - 1) = 0) (hu_167 : g_167 = upd fs (26 + i) 2) (e_171 : v_171 = g_167 (20 + i)) (hu_172 : g_172 = upd g_167 (20 + i) v_171) (hL1_176 : 1 ≤ L_176) (hL2_176 : L_176 ≤ 20) (hLe_176 : g_172 (32 + i) = nI L_176) (hu_177 : g_177 = upd g_172 (32 + i) (nI L_176)) : g_177 = mDr fs i n := by
  have t : toM fs i n = v_6 := by rw [e_6, e_4, h_5, e_2]; rfl
  first
  | (exfalso; omega)
  | exact (dr_lost (by assumption) (by assumption) (by assumption) (by assumption) (by assumption)).trans (mDr_1 t (by assumption)).symm
  | exact (dr_lost (by assumption) (by assumption) (by assumption) (by assumption) (by assumption)).trans (mDr_2 (lo4 e_2 (by assumption) (by assumption) (by omega)) (n0 (by assumption))).symm
  | exact (dr_kept (by assumption) (by assumption) (by assumption)).trans (mDr_3 t (by assumption) (lo4 e_2 (by assumption) (by assumption) (by omega)) (nI_ne0 (by omega) (by omega))).symm
  | exact (dr_kept (by assumption) (by assumption) (by assumption)).trans (mDr_3 t (by assumption) (lo5 e_2 (by assumption) (by assumption) (by assumption) (by omega)) (nI_ne0 (by omega) (by omega))).symm
  | exact (dr_kept (by assumption) (by assumption) (by assumption)).trans (mDr_3 t (by assumption) (lon e_2 (by assumption) (by assumption) (by assumption)) (nI_ne0 (by omega) (by omega))).symm
  | exact (dr_kept (by assumption) (by assumption) (by assumption)).trans (mDr_3 t (by assumption) (lo5b e_2 (by assumption) (by assumption) (by omega) (by omega)) (nI_ne0 (by omega) (by omega))).symm
set_option maxHeartbeats 4000000 in
set_option maxRecDepth 100000 in
theorem r_X8_drift (l : Launch) (dC : Nat → ClassId) (dI : Nat → Nat → Nat) (cI cZ cL cJ : ClassId) (sz : Nat) (mo : Nat) (m_la : Nat) (m_sz : Nat) (m_it : Nat) (m_st : Nat) (m_mv : Nat) (m_tp : Nat) (m_rd : Nat) (m_ac : Nat) (m_as : Nat) (m_wo : Nat) (m_ik : Nat) (m_ke : Nat) (m_tr : Nat) (ms : Int32) (mt : Int32) (ml : Int32) (mk : Int32) (mv : Int32) (mb : Int32) (mw : Int32) (mz : Nat) (mp : Nat) (ma : Nat) (mx : Nat) (fs : Nat → Int32) (w9 : Nat) (k9 : Nat) (h9 : Nat) (i : Nat) (n : Int32) (hM : okM fs w9 k9 h9) (hi : i < k9) : Met l yX8_drift wsX8_drift ({ frames := 2, cells := 0, slots := 0, locals := 46 }) (va_Pc [.ref mo, .int (nI i), .int n] (fun U => U.heap.size = sz ∧ va_P (dC, dI) vwCl [(xo_8_rrriirrriiiiiiirrirrrrri mo m_la m_sz m_it ms mt m_st m_mv m_tp (nI mz) ml (nI mp) mk mv mb mw m_rd m_ac (nI ma) m_as m_wo m_ik m_ke m_tr (nI mx)), (xI m_st cI 38 fs)] U.heap ∧ va_K (dC, dI) vwCl [(cI, .int), (cZ, .boolean), (cL, .object RX3), (cJ, .array .int)] U ∧ va_D (fun _ => True) [(xo_8_rrriirrriiiiiiirrirrrrri mo m_la m_sz m_it ms mt m_st m_mv m_tp (nI mz) ml (nI mp) mk mv mb mw m_rd m_ac (nI ma) m_as m_wo m_ik m_ke m_tr (nI mx)), (xI m_st cI 38 fs)])) (va_Qv (fun (_ : Unit) => True) (fun (_ : Unit) t => ∃ (fsn : Nat → Int32), va_P (dC, dI) vwCl [(xo_8_rrriirrriiiiiiirrirrrrri mo m_la m_sz m_it ms mt m_st m_mv m_tp (nI mz) ml (nI mp) mk mv mb mw m_rd m_ac (nI ma) m_as m_wo m_ik m_ke m_tr (nI mx)), (xI m_st cI 38 fsn)] t.heap ∧ va_D (va_A [(xo_8_rrriirrriiiiiiirrirrrrri mo m_la m_sz m_it ms mt m_st m_mv m_tp (nI mz) ml (nI mp) mk mv mb mw m_rd m_ac (nI ma) m_as m_wo m_ik m_ke m_tr (nI mx)), (xI m_st cI 38 fs)] sz) [(xo_8_rrriirrriiiiiiirrirrrrri mo m_la m_sz m_it ms mt m_st m_mv m_tp (nI mz) ml (nI mp) mk mv mb mw m_rd m_ac (nI ma) m_as m_wo m_ik m_ke m_tr (nI mx)), (xI m_st cI 38 fsn)] ∧ okM fsn w9 k9 h9 ∧ fsn = mDr fs i n) (va_A [(xo_8_rrriirrriiiiiiirrirrrrri mo m_la m_sz m_it ms mt m_st m_mv m_tp (nI mz) ml (nI mp) mk mv mb mw m_rd m_ac (nI ma) m_as m_wo m_ik m_ke m_tr (nI mx)), (xI m_st cI 38 fs)] sz)) 0 0 (va_A [(xo_8_rrriirrriiiiiiirrirrrrri mo m_la m_sz m_it ms mt m_st m_mv m_tp (nI mz) ml (nI mp) mk mv mb mw m_rd m_ac (nI ma) m_as m_wo m_ik m_ke m_tr (nI mx)), (xI m_st cI 38 fs)] sz) := by
  refine Met.ofW (cc := cX8_drift) (maxL := 7) (ret := none) (by decide) rfl ?_
  intro p e s m args below meth c s₁ B hml hv
  obtain ⟨rfl, hsz, hP, hK, hD0⟩ := hv
  have hx := B.exec
  have hb := B.bytes
  have hr := B.returns
  have hts := atoms_spec (ws := wsX8_drift) B.pre
  have hown : s.vm.findClass RX8 = some m.cls := findClass_of_methodNamed B.named
  have hlocks := B.notSynchronized
  subst hsz
  have hD := hD0.self (sz := s.heap.size)
  generalize hAe : va_A [(xo_8_rrriirrriiiiiiirrirrrrri mo m_la m_sz m_it ms mt m_st m_mv m_tp (nI mz) ml (nI mp) mk mv mb mw m_rd m_ac (nI ma) m_as m_wo m_ik m_ke m_tr (nI mx)), (xI m_st cI 38 fs)] s.heap.size = A at hD ⊢
  have hA : ∀ q : Nat, s.heap.size ≤ q → A q := fun q h => by rw [← hAe]; exact Or.inr h
  have hS : va_S A s.heap s.heap [] := va_S.rf
  have hP : va_P (dC, dI) vwCl [(xo_8_rrriirrriiiiiiirrirrrrri mo m_la m_sz m_it ms mt m_st m_mv m_tp (nI mz) ml (nI mp) mk mv mb mw m_rd m_ac (nI ma) m_as m_wo m_ik m_ke m_tr (nI mx)), (xI m_st cI 38 fs)] s.heap := hP
  have hl := lv_entry ([.ref mo, .int (nI i), .int n]) (n := 7) (Nat.le_of_ble_eq_true rfl)
  rw [lg_entry_eq]
  generalize (lg_sl ([.ref mo, .int (nI i), .int n]) ++ List.replicate (7 - (lg_sl ([.ref mo, .int (nI i), .int n])).length) Slot.unset).toArray = ls at hl ⊢
  have hl : lv_has ls 7 [(0, .ref mo), (1, .int (nI i)), (2, .int n)] := hl
  have hk6 := hM.2.2.2.2.1
  have hw6 := hM.2.2.2.1
  refine lv_aload_n hx hb dX8_drift_0 rfl (lv_at hl 0 rfl) ?_
  refine va_get (D := (dC, dI)) (ci := 8) (v := .ref m_st) (C := RX8) (T := TX8) (N := 24) hx hb hts i_X8_drift_X8 hown hK hP 0 rfl rfl 5 (by decide) (hts _ mx_X8_drift_1) (fun _ h9 => h9) rfl dX8_drift_1 ?_
  refine lv_bipush (v := 14) hx hb dX8_drift_4 (by decide) ?_
  refine lv_iload_n hx hb dX8_drift_6 rfl (lv_at hl 1 rfl) ?_
  refine lv_iadd hx hb dX8_drift_7 ?_
  refine lv_topi (fun v_1 e_1 => ?_)
  obtain rfl : v_1 = (nI (14 + i)) := (e_1).trans (nI_add 14 i)
  refine va_iald hx hb hK hP 1 0 rfl rfl (vp_in_nI (by omega) (by omega)) dX8_drift_8 ?_
  refine lv_topi (fun v_2 e_2 => ?_)
  have e_2 : v_2 = fs (14 + i) := e_2.trans (congrArg fs (nI_clamp (by omega)))
  refine lv_istore_n (lv' := [(3, .int v_2), (0, .ref mo), (1, .int (nI i)), (2, .int n)]) hx hb dX8_drift_9 rfl hl (by decide) rfl (fun ls hl => ?_)
  refine lv_aload_n hx hb dX8_drift_10 rfl (lv_at hl 1 rfl) ?_
  refine va_get (D := (dC, dI)) (ci := 8) (v := .ref m_st) (C := RX8) (T := TX8) (N := 24) hx hb hts i_X8_drift_X8 hown hK hP 0 rfl rfl 5 (by decide) (hts _ mx_X8_drift_1) (fun _ h9 => h9) rfl dX8_drift_11 ?_
  refine lv_bipush (v := 20) hx hb dX8_drift_14 (by decide) ?_
  refine lv_iload_n hx hb dX8_drift_16 rfl (lv_at hl 2 rfl) ?_
  refine lv_iadd hx hb dX8_drift_17 ?_
  refine lv_topi (fun v_3 e_3 => ?_)
  obtain rfl : v_3 = (nI (20 + i)) := (e_3).trans (nI_add 20 i)
  refine va_iald hx hb hK hP 1 0 rfl rfl (vp_in_nI (by omega) (by omega)) dX8_drift_18 ?_
  refine lv_topi (fun v_4 e_4 => ?_)
  have e_4 : v_4 = fs (20 + i) := e_4.trans (congrArg fs (nI_clamp (by omega)))
  refine lv_iload_n hx hb dX8_drift_19 rfl (lv_at hl 0 rfl) ?_
  refine lv_iload_n hx hb dX8_drift_20 rfl (lv_at hl 3 rfl) ?_
  have hPc_5 := hP.sub (ws' := []) [] rfl
  refine vp_callSi (W.runS (As := [.int v_2, .int n]) (rest := [.int v_4]) ⟨hx, hb, hml, hown, hts⟩ (r_X8_drifts l dC dI cI cZ cL cJ v_2 n ) (va_cwS 2 hts gX8_drift_X8_drifts rfl rfl rfl (by decide +kernel) ⟨Nat.le_of_ble_eq_true rfl, Nat.le_of_ble_eq_true rfl⟩) (psP hK hPc_5) rfl rfl hl.1 rfl (lv_room (Nat.le_of_ble_eq_true rfl)) dX8_drift_21 ⟨Nat.le_of_ble_eq_true rfl, Nat.le_of_ble_eq_true rfl⟩) (fun r_5 h_5 => ?_)
  refine lv_iadd hx hb dX8_drift_24 ?_
  refine lv_topi (fun v_6 e_6 => ?_)
  refine lv_istore (lv' := [(4, .int v_6), (3, .int v_2), (0, .ref mo), (1, .int (nI i)), (2, .int n)]) hx hb dX8_drift_25 hl (by decide) rfl (fun ls hl => ?_)
  refine lv_iload_n hx hb dX8_drift_27 rfl (lv_at hl 1 rfl) ?_
  refine lv_iconst (v := 4) hx hb dX8_drift_28 (by decide) ?_
  refine lv_icmp_ne (tgt := 46) hx hb dX8_drift_29 (by decide) (fun c_7 => ?_) (fun c_7 => ?_)
  · skip
    refine lv_iload_n hx hb dX8_drift_46 rfl (lv_at hl 1 rfl) ?_
    refine lv_iconst (v := 5) hx hb dX8_drift_47 (by decide) ?_
    refine lv_icmp_ne (tgt := 79) hx hb dX8_drift_48 (by decide) (fun c_8 => ?_) (fun c_8 => ?_)
    · skip
      refine lv_aload_n hx hb dX8_drift_79 rfl (lv_at hl 2 rfl) ?_
      refine va_get (D := (dC, dI)) (ci := 8) (v := .ref m_st) (C := RX8) (T := TX8) (N := 24) hx hb hts i_X8_drift_X8 hown hK hP 0 rfl rfl 5 (by decide) (hts _ mx_X8_drift_1) (fun _ h9 => h9) rfl dX8_drift_80 ?_
      refine lv_bipush (v := 32) hx hb dX8_drift_83 (by decide) ?_
      refine lv_iload_n hx hb dX8_drift_85 rfl (lv_at hl 3 rfl) ?_
      refine lv_iadd hx hb dX8_drift_86 ?_
      refine lv_topi (fun v_9 e_9 => ?_)
      obtain rfl : v_9 = (nI (32 + i)) := (e_9).trans (nI_add 32 i)
      refine va_iald hx hb hK hP 1 0 rfl rfl (vp_in_nI (by omega) (by omega)) dX8_drift_87 ?_
      obtain ⟨L_10, hL1_10, hL2_10, hLe_10⟩ := hM.2.2.2.2.2.2.2 i (by omega)
      refine lv_topi (fun v_10 e_10 => ?_)
      obtain rfl : v_10 = nI L_10 := e_10.trans (by rw [nI_clamp (by omega)]; exact hLe_10)
      refine lv_istore (lv' := [(5, .int (nI L_10)), (4, .int v_6), (3, .int v_2), (0, .ref mo), (1, .int (nI i)), (2, .int n)]) hx hb dX8_drift_88 hl (by decide) rfl (fun ls hl => ?_)
      refine lv_aload_n hx hb dX8_drift_90 rfl (lv_at hl 3 rfl) ?_
      refine lv_iload hx hb dX8_drift_91 (lv_at hl 1 rfl) ?_
      have hPc_11 := hP
      refine vp_callSi (W.runV (As := [.int v_6]) (rest := []) ⟨hx, hb, hml, hown, hts⟩ (r_X8_isCell l dC dI cI cZ cL cJ mo m_la m_sz m_it m_st m_mv m_tp m_rd m_ac m_as m_wo m_ik m_ke m_tr ms mt ml mk mv mb mw mz mp ma mx fs w9 k9 h9 v_6 (hM)) (cwV 1 hts gX8_drift_X8_isCell rfl rfl rfl (by decide +kernel) ⟨Nat.le_of_ble_eq_true rfl, Nat.le_of_ble_eq_true rfl⟩) (pvP 8 0 hK hP rfl rfl hPc_11) rfl rfl hl.1 rfl (lv_room (Nat.le_of_ble_eq_true rfl)) dX8_drift_93 ⟨Nat.le_of_ble_eq_true rfl, Nat.le_of_ble_eq_true rfl⟩) (fun r_11 h_11 => ?_)
      rcases h_11 with ⟨h_11, f_11_0_0⟩ | ⟨h_11, f_11_1_0⟩
      · subst h_11
        refine lv_if_eq (tgt := 104) hx hb dX8_drift_96 (by decide) (fun _ => ?_) (fun c_ => absurd (by decide) c_)
        refine lv_iconst (v := 1) hx hb dX8_drift_104 (by decide) ?_
        refine lv_goto (tgt := 109) hx hb dX8_drift_105 (by decide) ?_
        refine lv_istore (lv' := [(6, .int 1), (5, .int (nI L_10)), (4, .int v_6), (3, .int v_2), (0, .ref mo), (1, .int (nI i)), (2, .int n)]) hx hb dX8_drift_109 hl (by decide) rfl (fun ls hl => ?_)
        refine lv_aload_n hx hb dX8_drift_111 rfl (lv_at hl 4 rfl) ?_
        refine va_get (D := (dC, dI)) (ci := 8) (v := .ref m_st) (C := RX8) (T := TX8) (N := 24) hx hb hts i_X8_drift_X8 hown hK hP 0 rfl rfl 5 (by decide) (hts _ mx_X8_drift_1) (fun _ h9 => h9) rfl dX8_drift_112 ?_
        refine lv_bipush (v := 26) hx hb dX8_drift_115 (by decide) ?_
        refine lv_iload_n hx hb dX8_drift_117 rfl (lv_at hl 5 rfl) ?_
        refine lv_iadd hx hb dX8_drift_118 ?_
        refine lv_topi (fun v_13 e_13 => ?_)
        obtain rfl : v_13 = (nI (26 + i)) := (e_13).trans (nI_add 26 i)
        refine lv_iload hx hb dX8_drift_119 (lv_at hl 0 rfl) ?_
        refine lv_if_eq (tgt := 128) hx hb dX8_drift_121 (by decide) (fun c_ => absurd c_ (by decide)) (fun _ => ?_)
        refine lv_iconst (v := 2) hx hb dX8_drift_124 (by decide) ?_
        refine lv_goto (tgt := 129) hx hb dX8_drift_125 (by decide) ?_
        refine va_iast hx hb hK hP hD hS 1 0 rfl rfl (vp_in_nI (by omega) (by omega)) dX8_drift_129 (fun H locs hP hD hS => ?_)
        generalize hg_15 : upd fs ((nI (26 + i)) : Int32).toNatClampNeg 2 = g_15 at hP hD
        have hu_15 : g_15 = upd fs (26 + i) 2 := (by rw [← hg_15, nI_clamp (by omega)])
        have hM_15 : okM g_15 w9 k9 h9 := okM_off (i := (26 + i)) hM hg_15 (by omega) (by omega) (by omega) (by omega) (by omega)
        have hP : va_P (dC, dI) vwCl [(xo_8_rrriirrriiiiiiirrirrrrri mo m_la m_sz m_it ms mt m_st m_mv m_tp (nI mz) ml (nI mp) mk mv mb mw m_rd m_ac (nI ma) m_as m_wo m_ik m_ke m_tr (nI mx)), (xI m_st cI 38 g_15)] H := hP
        have hD := dto hP hD
        refine lv_aload_n hx hb dX8_drift_130 rfl (lv_at hl 4 rfl) ?_
        refine va_get (D := (dC, dI)) (ci := 8) (v := .ref m_st) (C := RX8) (T := TX8) (N := 24) hx hb hts i_X8_drift_X8 hown hK hP 0 rfl rfl 5 (by decide) (hts _ mx_X8_drift_1) (fun _ h9 => h9) rfl dX8_drift_131 ?_
        refine lv_bipush (v := 20) hx hb dX8_drift_134 (by decide) ?_
        refine lv_iload_n hx hb dX8_drift_136 rfl (lv_at hl 5 rfl) ?_
        refine lv_iadd hx hb dX8_drift_137 ?_
        refine lv_topi (fun v_16 e_16 => ?_)
        obtain rfl : v_16 = (nI (20 + i)) := (e_16).trans (nI_add 20 i)
        refine lv_iload hx hb dX8_drift_138 (lv_at hl 0 rfl) ?_
        refine lv_if_eq (tgt := 155) hx hb dX8_drift_140 (by decide) (fun c_ => absurd c_ (by decide)) (fun _ => ?_)
        refine lv_aload_n hx hb dX8_drift_143 rfl (lv_at hl 4 rfl) ?_
        refine va_get (D := (dC, dI)) (ci := 8) (v := .ref m_st) (C := RX8) (T := TX8) (N := 24) hx hb hts i_X8_drift_X8 hown hK hP 0 rfl rfl 5 (by decide) (hts _ mx_X8_drift_1) (fun _ h9 => h9) rfl dX8_drift_144 ?_
        refine lv_bipush (v := 20) hx hb dX8_drift_147 (by decide) ?_
        refine lv_iload_n hx hb dX8_drift_149 rfl (lv_at hl 5 rfl) ?_
        refine lv_iadd hx hb dX8_drift_150 ?_
        refine lv_topi (fun v_18 e_18 => ?_)
        obtain rfl : v_18 = (nI (20 + i)) := (e_18).trans (nI_add 20 i)
        refine va_iald hx hb hK hP 1 0 rfl rfl (vp_in_nI (by omega) (by omega)) dX8_drift_151 ?_
        refine lv_topi (fun v_19 e_19 => ?_)
        have e_19 : v_19 = g_15 (20 + i) := e_19.trans (congrArg g_15 (nI_clamp (by omega)))
        refine lv_goto (tgt := 157) hx hb dX8_drift_152 (by decide) ?_
        refine va_iast hx hb hK hP hD hS 1 0 rfl rfl (vp_in_nI (by omega) (by omega)) dX8_drift_157 (fun H locs hP hD hS => ?_)
        generalize hg_20 : upd g_15 ((nI (20 + i)) : Int32).toNatClampNeg v_19 = g_20 at hP hD
        have hu_20 : g_20 = upd g_15 (20 + i) v_19 := (by rw [← hg_20, nI_clamp (by omega)])
        have hM_20 : okM g_20 w9 k9 h9 := okM_off (i := (20 + i)) hM_15 hg_20 (by omega) (by omega) (by omega) (by omega) (by omega)
        have hP : va_P (dC, dI) vwCl [(xo_8_rrriirrriiiiiiirrirrrrri mo m_la m_sz m_it ms mt m_st m_mv m_tp (nI mz) ml (nI mp) mk mv mb mw m_rd m_ac (nI ma) m_as m_wo m_ik m_ke m_tr (nI mx)), (xI m_st cI 38 g_20)] H := hP
        have hD := dto hP hD
        refine lv_aload_n hx hb dX8_drift_158 rfl (lv_at hl 4 rfl) ?_
        refine va_get (D := (dC, dI)) (ci := 8) (v := .ref m_st) (C := RX8) (T := TX8) (N := 24) hx hb hts i_X8_drift_X8 hown hK hP 0 rfl rfl 5 (by decide) (hts _ mx_X8_drift_1) (fun _ h9 => h9) rfl dX8_drift_159 ?_
        refine lv_bipush (v := 32) hx hb dX8_drift_162 (by decide) ?_
        refine lv_iload_n hx hb dX8_drift_164 rfl (lv_at hl 5 rfl) ?_
        refine lv_iadd hx hb dX8_drift_165 ?_
        refine lv_topi (fun v_21 e_21 => ?_)
        obtain rfl : v_21 = (nI (32 + i)) := (e_21).trans (nI_add 32 i)
        refine lv_iload hx hb dX8_drift_166 (lv_at hl 0 rfl) ?_
        refine lv_if_eq (tgt := 183) hx hb dX8_drift_168 (by decide) (fun c_ => absurd c_ (by decide)) (fun _ => ?_)
        refine lv_aload_n hx hb dX8_drift_171 rfl (lv_at hl 4 rfl) ?_
        refine va_get (D := (dC, dI)) (ci := 8) (v := .ref m_st) (C := RX8) (T := TX8) (N := 24) hx hb hts i_X8_drift_X8 hown hK hP 0 rfl rfl 5 (by decide) (hts _ mx_X8_drift_1) (fun _ h9 => h9) rfl dX8_drift_172 ?_
        refine lv_bipush (v := 32) hx hb dX8_drift_175 (by decide) ?_
        refine lv_iload_n hx hb dX8_drift_177 rfl (lv_at hl 5 rfl) ?_
        refine lv_iadd hx hb dX8_drift_178 ?_
        refine lv_topi (fun v_23 e_23 => ?_)
        obtain rfl : v_23 = (nI (32 + i)) := (e_23).trans (nI_add 32 i)
        refine va_iald hx hb hK hP 1 0 rfl rfl (vp_in_nI (by omega) (by omega)) dX8_drift_179 ?_
        obtain ⟨L_24, hL1_24, hL2_24, hLe_24⟩ := hM_20.2.2.2.2.2.2.2 i (by omega)
        refine lv_topi (fun v_24 e_24 => ?_)
        obtain rfl : v_24 = nI L_24 := e_24.trans (by rw [nI_clamp (by omega)]; exact hLe_24)
        refine lv_goto (tgt := 185) hx hb dX8_drift_180 (by decide) ?_
        refine va_iast hx hb hK hP hD hS 1 0 rfl rfl (vp_in_nI (by omega) (by omega)) dX8_drift_185 (fun H locs hP hD hS => ?_)
        generalize hg_25 : upd g_20 ((nI (32 + i)) : Int32).toNatClampNeg (nI L_24) = g_25 at hP hD
        have hu_25 : g_25 = upd g_20 (32 + i) (nI L_24) := (by rw [← hg_25, nI_clamp (by omega)])
        have hM_25 : okM g_25 w9 k9 h9 := okM_loud hM_20 hg_25 (by omega) (by omega) (by omega)
        have hP : va_P (dC, dI) vwCl [(xo_8_rrriirrriiiiiiirrirrrrri mo m_la m_sz m_it ms mt m_st m_mv m_tp (nI mz) ml (nI mp) mk mv mb mw m_rd m_ac (nI ma) m_as m_wo m_ik m_ke m_tr (nI mx)), (xI m_st cI 38 g_25)] H := hP
        have hD := dto hP hD
        have hX9 := cut2 (wc := [(xo_8_rrriirrriiiiiiirrirrrrri mo m_la m_sz m_it ms mt m_st m_mv m_tp (nI mz) ml (nI mp) mk mv mb mw m_rd m_ac (nI ma) m_as m_wo m_ik m_ke m_tr (nI mx)), (xI m_st cI 38 g_25)]) hP hD [0, 1] (by decide +kernel) rfl
        exact W.vret hx hb hr (fun t ht hW => ⟨⟨(), rfl, trivial, ⟨g_25, va_Ht ht hX9.1, hX9.2, hM_25, (lf_X8_drift_1 hM hi e_2 e_4 h_5 e_6 c_7 c_8 hL1_10 hL2_10 hLe_10 f_11_0_0 hu_15 e_19 hu_20 hL1_24 hL2_24 hLe_24 hu_25)⟩⟩, hS.F ht⟩) hS.2.2 dX8_drift_186
      · subst h_11
        refine lv_if_eq (tgt := 104) hx hb dX8_drift_96 (by decide) (fun c_ => absurd c_ (by decide)) (fun _ => ?_)
        refine lv_iload hx hb dX8_drift_99 (lv_at hl 0 rfl) ?_
        refine lv_if_ne (tgt := 108) hx hb dX8_drift_101 (by decide) (fun c_27 => ?_) (fun c_27 => ?_)
        · have c_27 : ¬ (L_10 = 0) := fun q_ => c_27 ((nI_eq (a := L_10) (b := 0) (by omega) (by omega)).mpr q_)
          refine lv_iconst (v := 0) hx hb dX8_drift_108 (by decide) ?_
          refine lv_istore (lv' := [(6, .int 0), (5, .int (nI L_10)), (4, .int v_6), (3, .int v_2), (0, .ref mo), (1, .int (nI i)), (2, .int n)]) hx hb dX8_drift_109 hl (by decide) rfl (fun ls hl => ?_)
          refine lv_aload_n hx hb dX8_drift_111 rfl (lv_at hl 4 rfl) ?_
          refine va_get (D := (dC, dI)) (ci := 8) (v := .ref m_st) (C := RX8) (T := TX8) (N := 24) hx hb hts i_X8_drift_X8 hown hK hP 0 rfl rfl 5 (by decide) (hts _ mx_X8_drift_1) (fun _ h9 => h9) rfl dX8_drift_112 ?_
          refine lv_bipush (v := 26) hx hb dX8_drift_115 (by decide) ?_
          refine lv_iload_n hx hb dX8_drift_117 rfl (lv_at hl 5 rfl) ?_
          refine lv_iadd hx hb dX8_drift_118 ?_
          refine lv_topi (fun v_28 e_28 => ?_)
          obtain rfl : v_28 = (nI (26 + i)) := (e_28).trans (nI_add 26 i)
          refine lv_iload hx hb dX8_drift_119 (lv_at hl 0 rfl) ?_
          refine lv_if_eq (tgt := 128) hx hb dX8_drift_121 (by decide) (fun _ => ?_) (fun c_ => absurd (by decide) c_)
          refine lv_iconst (v := 0) hx hb dX8_drift_128 (by decide) ?_
          refine va_iast hx hb hK hP hD hS 1 0 rfl rfl (vp_in_nI (by omega) (by omega)) dX8_drift_129 (fun H locs hP hD hS => ?_)
          generalize hg_30 : upd fs ((nI (26 + i)) : Int32).toNatClampNeg 0 = g_30 at hP hD
          have hu_30 : g_30 = upd fs (26 + i) 0 := (by rw [← hg_30, nI_clamp (by omega)])
          have hM_30 : okM g_30 w9 k9 h9 := okM_off (i := (26 + i)) hM hg_30 (by omega) (by omega) (by omega) (by omega) (by omega)
          have hP : va_P (dC, dI) vwCl [(xo_8_rrriirrriiiiiiirrirrrrri mo m_la m_sz m_it ms mt m_st m_mv m_tp (nI mz) ml (nI mp) mk mv mb mw m_rd m_ac (nI ma) m_as m_wo m_ik m_ke m_tr (nI mx)), (xI m_st cI 38 g_30)] H := hP
          have hD := dto hP hD
          refine lv_aload_n hx hb dX8_drift_130 rfl (lv_at hl 4 rfl) ?_
          refine va_get (D := (dC, dI)) (ci := 8) (v := .ref m_st) (C := RX8) (T := TX8) (N := 24) hx hb hts i_X8_drift_X8 hown hK hP 0 rfl rfl 5 (by decide) (hts _ mx_X8_drift_1) (fun _ h9 => h9) rfl dX8_drift_131 ?_
          refine lv_bipush (v := 20) hx hb dX8_drift_134 (by decide) ?_
          refine lv_iload_n hx hb dX8_drift_136 rfl (lv_at hl 5 rfl) ?_
          refine lv_iadd hx hb dX8_drift_137 ?_
          refine lv_topi (fun v_31 e_31 => ?_)
          obtain rfl : v_31 = (nI (20 + i)) := (e_31).trans (nI_add 20 i)
          refine lv_iload hx hb dX8_drift_138 (lv_at hl 0 rfl) ?_
          refine lv_if_eq (tgt := 155) hx hb dX8_drift_140 (by decide) (fun _ => ?_) (fun c_ => absurd (by decide) c_)
          refine lv_iload hx hb dX8_drift_155 (lv_at hl 2 rfl) ?_
          refine va_iast hx hb hK hP hD hS 1 0 rfl rfl (vp_in_nI (by omega) (by omega)) dX8_drift_157 (fun H locs hP hD hS => ?_)
          generalize hg_33 : upd g_30 ((nI (20 + i)) : Int32).toNatClampNeg v_6 = g_33 at hP hD
          have hu_33 : g_33 = upd g_30 (20 + i) v_6 := (by rw [← hg_33, nI_clamp (by omega)])
          have hM_33 : okM g_33 w9 k9 h9 := okM_off (i := (20 + i)) hM_30 hg_33 (by omega) (by omega) (by omega) (by omega) (by omega)
          have hP : va_P (dC, dI) vwCl [(xo_8_rrriirrriiiiiiirrirrrrri mo m_la m_sz m_it ms mt m_st m_mv m_tp (nI mz) ml (nI mp) mk mv mb mw m_rd m_ac (nI ma) m_as m_wo m_ik m_ke m_tr (nI mx)), (xI m_st cI 38 g_33)] H := hP
          have hD := dto hP hD
          refine lv_aload_n hx hb dX8_drift_158 rfl (lv_at hl 4 rfl) ?_
          refine va_get (D := (dC, dI)) (ci := 8) (v := .ref m_st) (C := RX8) (T := TX8) (N := 24) hx hb hts i_X8_drift_X8 hown hK hP 0 rfl rfl 5 (by decide) (hts _ mx_X8_drift_1) (fun _ h9 => h9) rfl dX8_drift_159 ?_
          refine lv_bipush (v := 32) hx hb dX8_drift_162 (by decide) ?_
          refine lv_iload_n hx hb dX8_drift_164 rfl (lv_at hl 5 rfl) ?_
          refine lv_iadd hx hb dX8_drift_165 ?_
          refine lv_topi (fun v_34 e_34 => ?_)
          obtain rfl : v_34 = (nI (32 + i)) := (e_34).trans (nI_add 32 i)
          refine lv_iload hx hb dX8_drift_166 (lv_at hl 0 rfl) ?_
          refine lv_if_eq (tgt := 183) hx hb dX8_drift_168 (by decide) (fun _ => ?_) (fun c_ => absurd (by decide) c_)
          refine lv_iload hx hb dX8_drift_183 (lv_at hl 1 rfl) ?_
          refine va_iast hx hb hK hP hD hS 1 0 rfl rfl (vp_in_nI (by omega) (by omega)) dX8_drift_185 (fun H locs hP hD hS => ?_)
          generalize hg_36 : upd g_33 ((nI (32 + i)) : Int32).toNatClampNeg (nI L_10) = g_36 at hP hD
          have hu_36 : g_36 = upd g_33 (32 + i) (nI L_10) := (by rw [← hg_36, nI_clamp (by omega)])
          have hM_36 : okM g_36 w9 k9 h9 := okM_loud hM_33 hg_36 (by omega) (by omega) (by omega)
          have hP : va_P (dC, dI) vwCl [(xo_8_rrriirrriiiiiiirrirrrrri mo m_la m_sz m_it ms mt m_st m_mv m_tp (nI mz) ml (nI mp) mk mv mb mw m_rd m_ac (nI ma) m_as m_wo m_ik m_ke m_tr (nI mx)), (xI m_st cI 38 g_36)] H := hP
          have hD := dto hP hD
          have hX9 := cut2 (wc := [(xo_8_rrriirrriiiiiiirrirrrrri mo m_la m_sz m_it ms mt m_st m_mv m_tp (nI mz) ml (nI mp) mk mv mb mw m_rd m_ac (nI ma) m_as m_wo m_ik m_ke m_tr (nI mx)), (xI m_st cI 38 g_36)]) hP hD [0, 1] (by decide +kernel) rfl
          exact W.vret hx hb hr (fun t ht hW => ⟨⟨(), rfl, trivial, ⟨g_36, va_Ht ht hX9.1, hX9.2, hM_36, (lf_X8_drift_2 hM hi e_2 e_4 h_5 e_6 c_7 c_8 hL1_10 hL2_10 hLe_10 f_11_1_0 c_27 hu_30 hu_33 hu_36)⟩⟩, hS.F ht⟩) hS.2.2 dX8_drift_186
        · have c_27 : L_10 = 0 := (nI_eq (a := L_10) (b := 0) (by omega) (by omega)).mp c_27
          refine lv_iconst (v := 1) hx hb dX8_drift_104 (by decide) ?_
          refine lv_goto (tgt := 109) hx hb dX8_drift_105 (by decide) ?_
          refine lv_istore (lv' := [(6, .int 1), (5, .int (nI L_10)), (4, .int v_6), (3, .int v_2), (0, .ref mo), (1, .int (nI i)), (2, .int n)]) hx hb dX8_drift_109 hl (by decide) rfl (fun ls hl => ?_)
          refine lv_aload_n hx hb dX8_drift_111 rfl (lv_at hl 4 rfl) ?_
          refine va_get (D := (dC, dI)) (ci := 8) (v := .ref m_st) (C := RX8) (T := TX8) (N := 24) hx hb hts i_X8_drift_X8 hown hK hP 0 rfl rfl 5 (by decide) (hts _ mx_X8_drift_1) (fun _ h9 => h9) rfl dX8_drift_112 ?_
          refine lv_bipush (v := 26) hx hb dX8_drift_115 (by decide) ?_
          refine lv_iload_n hx hb dX8_drift_117 rfl (lv_at hl 5 rfl) ?_
          refine lv_iadd hx hb dX8_drift_118 ?_
          refine lv_topi (fun v_37 e_37 => ?_)
          obtain rfl : v_37 = (nI (26 + i)) := (e_37).trans (nI_add 26 i)
          refine lv_iload hx hb dX8_drift_119 (lv_at hl 0 rfl) ?_
          refine lv_if_eq (tgt := 128) hx hb dX8_drift_121 (by decide) (fun c_ => absurd c_ (by decide)) (fun _ => ?_)
          refine lv_iconst (v := 2) hx hb dX8_drift_124 (by decide) ?_
          refine lv_goto (tgt := 129) hx hb dX8_drift_125 (by decide) ?_
          refine va_iast hx hb hK hP hD hS 1 0 rfl rfl (vp_in_nI (by omega) (by omega)) dX8_drift_129 (fun H locs hP hD hS => ?_)
          generalize hg_39 : upd fs ((nI (26 + i)) : Int32).toNatClampNeg 2 = g_39 at hP hD
          have hu_39 : g_39 = upd fs (26 + i) 2 := (by rw [← hg_39, nI_clamp (by omega)])
          have hM_39 : okM g_39 w9 k9 h9 := okM_off (i := (26 + i)) hM hg_39 (by omega) (by omega) (by omega) (by omega) (by omega)
          have hP : va_P (dC, dI) vwCl [(xo_8_rrriirrriiiiiiirrirrrrri mo m_la m_sz m_it ms mt m_st m_mv m_tp (nI mz) ml (nI mp) mk mv mb mw m_rd m_ac (nI ma) m_as m_wo m_ik m_ke m_tr (nI mx)), (xI m_st cI 38 g_39)] H := hP
          have hD := dto hP hD
          refine lv_aload_n hx hb dX8_drift_130 rfl (lv_at hl 4 rfl) ?_
          refine va_get (D := (dC, dI)) (ci := 8) (v := .ref m_st) (C := RX8) (T := TX8) (N := 24) hx hb hts i_X8_drift_X8 hown hK hP 0 rfl rfl 5 (by decide) (hts _ mx_X8_drift_1) (fun _ h9 => h9) rfl dX8_drift_131 ?_
          refine lv_bipush (v := 20) hx hb dX8_drift_134 (by decide) ?_
          refine lv_iload_n hx hb dX8_drift_136 rfl (lv_at hl 5 rfl) ?_
          refine lv_iadd hx hb dX8_drift_137 ?_
          refine lv_topi (fun v_40 e_40 => ?_)
          obtain rfl : v_40 = (nI (20 + i)) := (e_40).trans (nI_add 20 i)
          refine lv_iload hx hb dX8_drift_138 (lv_at hl 0 rfl) ?_
          refine lv_if_eq (tgt := 155) hx hb dX8_drift_140 (by decide) (fun c_ => absurd c_ (by decide)) (fun _ => ?_)
          refine lv_aload_n hx hb dX8_drift_143 rfl (lv_at hl 4 rfl) ?_
          refine va_get (D := (dC, dI)) (ci := 8) (v := .ref m_st) (C := RX8) (T := TX8) (N := 24) hx hb hts i_X8_drift_X8 hown hK hP 0 rfl rfl 5 (by decide) (hts _ mx_X8_drift_1) (fun _ h9 => h9) rfl dX8_drift_144 ?_
          refine lv_bipush (v := 20) hx hb dX8_drift_147 (by decide) ?_
          refine lv_iload_n hx hb dX8_drift_149 rfl (lv_at hl 5 rfl) ?_
          refine lv_iadd hx hb dX8_drift_150 ?_
          refine lv_topi (fun v_42 e_42 => ?_)
          obtain rfl : v_42 = (nI (20 + i)) := (e_42).trans (nI_add 20 i)
          refine va_iald hx hb hK hP 1 0 rfl rfl (vp_in_nI (by omega) (by omega)) dX8_drift_151 ?_
          refine lv_topi (fun v_43 e_43 => ?_)
          have e_43 : v_43 = g_39 (20 + i) := e_43.trans (congrArg g_39 (nI_clamp (by omega)))
          refine lv_goto (tgt := 157) hx hb dX8_drift_152 (by decide) ?_
          refine va_iast hx hb hK hP hD hS 1 0 rfl rfl (vp_in_nI (by omega) (by omega)) dX8_drift_157 (fun H locs hP hD hS => ?_)
          generalize hg_44 : upd g_39 ((nI (20 + i)) : Int32).toNatClampNeg v_43 = g_44 at hP hD
          have hu_44 : g_44 = upd g_39 (20 + i) v_43 := (by rw [← hg_44, nI_clamp (by omega)])
          have hM_44 : okM g_44 w9 k9 h9 := okM_off (i := (20 + i)) hM_39 hg_44 (by omega) (by omega) (by omega) (by omega) (by omega)
          have hP : va_P (dC, dI) vwCl [(xo_8_rrriirrriiiiiiirrirrrrri mo m_la m_sz m_it ms mt m_st m_mv m_tp (nI mz) ml (nI mp) mk mv mb mw m_rd m_ac (nI ma) m_as m_wo m_ik m_ke m_tr (nI mx)), (xI m_st cI 38 g_44)] H := hP
          have hD := dto hP hD
          refine lv_aload_n hx hb dX8_drift_158 rfl (lv_at hl 4 rfl) ?_
          refine va_get (D := (dC, dI)) (ci := 8) (v := .ref m_st) (C := RX8) (T := TX8) (N := 24) hx hb hts i_X8_drift_X8 hown hK hP 0 rfl rfl 5 (by decide) (hts _ mx_X8_drift_1) (fun _ h9 => h9) rfl dX8_drift_159 ?_
          refine lv_bipush (v := 32) hx hb dX8_drift_162 (by decide) ?_
          refine lv_iload_n hx hb dX8_drift_164 rfl (lv_at hl 5 rfl) ?_
          refine lv_iadd hx hb dX8_drift_165 ?_
          refine lv_topi (fun v_45 e_45 => ?_)
          obtain rfl : v_45 = (nI (32 + i)) := (e_45).trans (nI_add 32 i)
          refine lv_iload hx hb dX8_drift_166 (lv_at hl 0 rfl) ?_
          refine lv_if_eq (tgt := 183) hx hb dX8_drift_168 (by decide) (fun c_ => absurd c_ (by decide)) (fun _ => ?_)
          refine lv_aload_n hx hb dX8_drift_171 rfl (lv_at hl 4 rfl) ?_
          refine va_get (D := (dC, dI)) (ci := 8) (v := .ref m_st) (C := RX8) (T := TX8) (N := 24) hx hb hts i_X8_drift_X8 hown hK hP 0 rfl rfl 5 (by decide) (hts _ mx_X8_drift_1) (fun _ h9 => h9) rfl dX8_drift_172 ?_
          refine lv_bipush (v := 32) hx hb dX8_drift_175 (by decide) ?_
          refine lv_iload_n hx hb dX8_drift_177 rfl (lv_at hl 5 rfl) ?_
          refine lv_iadd hx hb dX8_drift_178 ?_
          refine lv_topi (fun v_47 e_47 => ?_)
          obtain rfl : v_47 = (nI (32 + i)) := (e_47).trans (nI_add 32 i)
          refine va_iald hx hb hK hP 1 0 rfl rfl (vp_in_nI (by omega) (by omega)) dX8_drift_179 ?_
          obtain ⟨L_48, hL1_48, hL2_48, hLe_48⟩ := hM_44.2.2.2.2.2.2.2 i (by omega)
          refine lv_topi (fun v_48 e_48 => ?_)
          obtain rfl : v_48 = nI L_48 := e_48.trans (by rw [nI_clamp (by omega)]; exact hLe_48)
          refine lv_goto (tgt := 185) hx hb dX8_drift_180 (by decide) ?_
          refine va_iast hx hb hK hP hD hS 1 0 rfl rfl (vp_in_nI (by omega) (by omega)) dX8_drift_185 (fun H locs hP hD hS => ?_)
          generalize hg_49 : upd g_44 ((nI (32 + i)) : Int32).toNatClampNeg (nI L_48) = g_49 at hP hD
          have hu_49 : g_49 = upd g_44 (32 + i) (nI L_48) := (by rw [← hg_49, nI_clamp (by omega)])
          have hM_49 : okM g_49 w9 k9 h9 := okM_loud hM_44 hg_49 (by omega) (by omega) (by omega)
          have hP : va_P (dC, dI) vwCl [(xo_8_rrriirrriiiiiiirrirrrrri mo m_la m_sz m_it ms mt m_st m_mv m_tp (nI mz) ml (nI mp) mk mv mb mw m_rd m_ac (nI ma) m_as m_wo m_ik m_ke m_tr (nI mx)), (xI m_st cI 38 g_49)] H := hP
          have hD := dto hP hD
          have hX9 := cut2 (wc := [(xo_8_rrriirrriiiiiiirrirrrrri mo m_la m_sz m_it ms mt m_st m_mv m_tp (nI mz) ml (nI mp) mk mv mb mw m_rd m_ac (nI ma) m_as m_wo m_ik m_ke m_tr (nI mx)), (xI m_st cI 38 g_49)]) hP hD [0, 1] (by decide +kernel) rfl
          exact W.vret hx hb hr (fun t ht hW => ⟨⟨(), rfl, trivial, ⟨g_49, va_Ht ht hX9.1, hX9.2, hM_49, (lf_X8_drift_3 hM hi e_2 e_4 h_5 e_6 c_7 c_8 hL1_10 hL2_10 hLe_10 f_11_1_0 c_27 hu_39 e_43 hu_44 hL1_48 hL2_48 hLe_48 hu_49)⟩⟩, hS.F ht⟩) hS.2.2 dX8_drift_186
    · skip
      refine lv_aload_n hx hb dX8_drift_51 rfl (lv_at hl 2 rfl) ?_
      refine va_get (D := (dC, dI)) (ci := 8) (v := .ref m_st) (C := RX8) (T := TX8) (N := 24) hx hb hts i_X8_drift_X8 hown hK hP 0 rfl rfl 5 (by decide) (hts _ mx_X8_drift_1) (fun _ h9 => h9) rfl dX8_drift_52 ?_
      refine lv_bipush (v := 32) hx hb dX8_drift_55 (by decide) ?_
      refine lv_iload_n hx hb dX8_drift_57 rfl (lv_at hl 3 rfl) ?_
      refine lv_iadd hx hb dX8_drift_58 ?_
      refine lv_topi (fun v_50 e_50 => ?_)
      obtain rfl : v_50 = (nI (32 + i)) := (e_50).trans (nI_add 32 i)
      refine va_iald hx hb hK hP 1 0 rfl rfl (vp_in_nI (by omega) (by omega)) dX8_drift_59 ?_
      obtain ⟨L_51, hL1_51, hL2_51, hLe_51⟩ := hM.2.2.2.2.2.2.2 i (by omega)
      refine lv_topi (fun v_51 e_51 => ?_)
      obtain rfl : v_51 = nI L_51 := e_51.trans (by rw [nI_clamp (by omega)]; exact hLe_51)
      refine lv_bipush (v := 20) hx hb dX8_drift_60 (by decide) ?_
      refine lv_icmp_ge (tgt := 79) hx hb dX8_drift_62 (by decide) (fun c_52 => ?_) (fun c_52 => ?_)
      · have c_52 : 20 ≤ L_51 := (nI_leI (a := 20) (b := L_51) (by omega) (by omega)).mp c_52
        refine lv_aload_n hx hb dX8_drift_79 rfl (lv_at hl 2 rfl) ?_
        refine va_get (D := (dC, dI)) (ci := 8) (v := .ref m_st) (C := RX8) (T := TX8) (N := 24) hx hb hts i_X8_drift_X8 hown hK hP 0 rfl rfl 5 (by decide) (hts _ mx_X8_drift_1) (fun _ h9 => h9) rfl dX8_drift_80 ?_
        refine lv_bipush (v := 32) hx hb dX8_drift_83 (by decide) ?_
        refine lv_iload_n hx hb dX8_drift_85 rfl (lv_at hl 3 rfl) ?_
        refine lv_iadd hx hb dX8_drift_86 ?_
        refine lv_topi (fun v_53 e_53 => ?_)
        obtain rfl : v_53 = (nI (32 + i)) := (e_53).trans (nI_add 32 i)
        refine va_iald hx hb hK hP 1 0 rfl rfl (vp_in_nI (by omega) (by omega)) dX8_drift_87 ?_
        refine lv_topi (fun v_54 e_54 => ?_)
        obtain rfl : v_54 = nI L_51 := e_54.trans (by rw [nI_clamp (by omega)]; exact hLe_51)
        refine lv_istore (lv' := [(5, .int (nI L_51)), (4, .int v_6), (3, .int v_2), (0, .ref mo), (1, .int (nI i)), (2, .int n)]) hx hb dX8_drift_88 hl (by decide) rfl (fun ls hl => ?_)
        refine lv_aload_n hx hb dX8_drift_90 rfl (lv_at hl 3 rfl) ?_
        refine lv_iload hx hb dX8_drift_91 (lv_at hl 1 rfl) ?_
        have hPc_55 := hP
        refine vp_callSi (W.runV (As := [.int v_6]) (rest := []) ⟨hx, hb, hml, hown, hts⟩ (r_X8_isCell l dC dI cI cZ cL cJ mo m_la m_sz m_it m_st m_mv m_tp m_rd m_ac m_as m_wo m_ik m_ke m_tr ms mt ml mk mv mb mw mz mp ma mx fs w9 k9 h9 v_6 (hM)) (cwV 1 hts gX8_drift_X8_isCell rfl rfl rfl (by decide +kernel) ⟨Nat.le_of_ble_eq_true rfl, Nat.le_of_ble_eq_true rfl⟩) (pvP 8 0 hK hP rfl rfl hPc_55) rfl rfl hl.1 rfl (lv_room (Nat.le_of_ble_eq_true rfl)) dX8_drift_93 ⟨Nat.le_of_ble_eq_true rfl, Nat.le_of_ble_eq_true rfl⟩) (fun r_55 h_55 => ?_)
        rcases h_55 with ⟨h_55, f_55_0_0⟩ | ⟨h_55, f_55_1_0⟩
        · subst h_55
          refine lv_if_eq (tgt := 104) hx hb dX8_drift_96 (by decide) (fun _ => ?_) (fun c_ => absurd (by decide) c_)
          refine lv_iconst (v := 1) hx hb dX8_drift_104 (by decide) ?_
          refine lv_goto (tgt := 109) hx hb dX8_drift_105 (by decide) ?_
          refine lv_istore (lv' := [(6, .int 1), (5, .int (nI L_51)), (4, .int v_6), (3, .int v_2), (0, .ref mo), (1, .int (nI i)), (2, .int n)]) hx hb dX8_drift_109 hl (by decide) rfl (fun ls hl => ?_)
          refine lv_aload_n hx hb dX8_drift_111 rfl (lv_at hl 4 rfl) ?_
          refine va_get (D := (dC, dI)) (ci := 8) (v := .ref m_st) (C := RX8) (T := TX8) (N := 24) hx hb hts i_X8_drift_X8 hown hK hP 0 rfl rfl 5 (by decide) (hts _ mx_X8_drift_1) (fun _ h9 => h9) rfl dX8_drift_112 ?_
          refine lv_bipush (v := 26) hx hb dX8_drift_115 (by decide) ?_
          refine lv_iload_n hx hb dX8_drift_117 rfl (lv_at hl 5 rfl) ?_
          refine lv_iadd hx hb dX8_drift_118 ?_
          refine lv_topi (fun v_57 e_57 => ?_)
          obtain rfl : v_57 = (nI (26 + i)) := (e_57).trans (nI_add 26 i)
          refine lv_iload hx hb dX8_drift_119 (lv_at hl 0 rfl) ?_
          refine lv_if_eq (tgt := 128) hx hb dX8_drift_121 (by decide) (fun c_ => absurd c_ (by decide)) (fun _ => ?_)
          refine lv_iconst (v := 2) hx hb dX8_drift_124 (by decide) ?_
          refine lv_goto (tgt := 129) hx hb dX8_drift_125 (by decide) ?_
          refine va_iast hx hb hK hP hD hS 1 0 rfl rfl (vp_in_nI (by omega) (by omega)) dX8_drift_129 (fun H locs hP hD hS => ?_)
          generalize hg_59 : upd fs ((nI (26 + i)) : Int32).toNatClampNeg 2 = g_59 at hP hD
          have hu_59 : g_59 = upd fs (26 + i) 2 := (by rw [← hg_59, nI_clamp (by omega)])
          have hM_59 : okM g_59 w9 k9 h9 := okM_off (i := (26 + i)) hM hg_59 (by omega) (by omega) (by omega) (by omega) (by omega)
          have hP : va_P (dC, dI) vwCl [(xo_8_rrriirrriiiiiiirrirrrrri mo m_la m_sz m_it ms mt m_st m_mv m_tp (nI mz) ml (nI mp) mk mv mb mw m_rd m_ac (nI ma) m_as m_wo m_ik m_ke m_tr (nI mx)), (xI m_st cI 38 g_59)] H := hP
          have hD := dto hP hD
          refine lv_aload_n hx hb dX8_drift_130 rfl (lv_at hl 4 rfl) ?_
          refine va_get (D := (dC, dI)) (ci := 8) (v := .ref m_st) (C := RX8) (T := TX8) (N := 24) hx hb hts i_X8_drift_X8 hown hK hP 0 rfl rfl 5 (by decide) (hts _ mx_X8_drift_1) (fun _ h9 => h9) rfl dX8_drift_131 ?_
          refine lv_bipush (v := 20) hx hb dX8_drift_134 (by decide) ?_
          refine lv_iload_n hx hb dX8_drift_136 rfl (lv_at hl 5 rfl) ?_
          refine lv_iadd hx hb dX8_drift_137 ?_
          refine lv_topi (fun v_60 e_60 => ?_)
          obtain rfl : v_60 = (nI (20 + i)) := (e_60).trans (nI_add 20 i)
          refine lv_iload hx hb dX8_drift_138 (lv_at hl 0 rfl) ?_
          refine lv_if_eq (tgt := 155) hx hb dX8_drift_140 (by decide) (fun c_ => absurd c_ (by decide)) (fun _ => ?_)
          refine lv_aload_n hx hb dX8_drift_143 rfl (lv_at hl 4 rfl) ?_
          refine va_get (D := (dC, dI)) (ci := 8) (v := .ref m_st) (C := RX8) (T := TX8) (N := 24) hx hb hts i_X8_drift_X8 hown hK hP 0 rfl rfl 5 (by decide) (hts _ mx_X8_drift_1) (fun _ h9 => h9) rfl dX8_drift_144 ?_
          refine lv_bipush (v := 20) hx hb dX8_drift_147 (by decide) ?_
          refine lv_iload_n hx hb dX8_drift_149 rfl (lv_at hl 5 rfl) ?_
          refine lv_iadd hx hb dX8_drift_150 ?_
          refine lv_topi (fun v_62 e_62 => ?_)
          obtain rfl : v_62 = (nI (20 + i)) := (e_62).trans (nI_add 20 i)
          refine va_iald hx hb hK hP 1 0 rfl rfl (vp_in_nI (by omega) (by omega)) dX8_drift_151 ?_
          refine lv_topi (fun v_63 e_63 => ?_)
          have e_63 : v_63 = g_59 (20 + i) := e_63.trans (congrArg g_59 (nI_clamp (by omega)))
          refine lv_goto (tgt := 157) hx hb dX8_drift_152 (by decide) ?_
          refine va_iast hx hb hK hP hD hS 1 0 rfl rfl (vp_in_nI (by omega) (by omega)) dX8_drift_157 (fun H locs hP hD hS => ?_)
          generalize hg_64 : upd g_59 ((nI (20 + i)) : Int32).toNatClampNeg v_63 = g_64 at hP hD
          have hu_64 : g_64 = upd g_59 (20 + i) v_63 := (by rw [← hg_64, nI_clamp (by omega)])
          have hM_64 : okM g_64 w9 k9 h9 := okM_off (i := (20 + i)) hM_59 hg_64 (by omega) (by omega) (by omega) (by omega) (by omega)
          have hP : va_P (dC, dI) vwCl [(xo_8_rrriirrriiiiiiirrirrrrri mo m_la m_sz m_it ms mt m_st m_mv m_tp (nI mz) ml (nI mp) mk mv mb mw m_rd m_ac (nI ma) m_as m_wo m_ik m_ke m_tr (nI mx)), (xI m_st cI 38 g_64)] H := hP
          have hD := dto hP hD
          refine lv_aload_n hx hb dX8_drift_158 rfl (lv_at hl 4 rfl) ?_
          refine va_get (D := (dC, dI)) (ci := 8) (v := .ref m_st) (C := RX8) (T := TX8) (N := 24) hx hb hts i_X8_drift_X8 hown hK hP 0 rfl rfl 5 (by decide) (hts _ mx_X8_drift_1) (fun _ h9 => h9) rfl dX8_drift_159 ?_
          refine lv_bipush (v := 32) hx hb dX8_drift_162 (by decide) ?_
          refine lv_iload_n hx hb dX8_drift_164 rfl (lv_at hl 5 rfl) ?_
          refine lv_iadd hx hb dX8_drift_165 ?_
          refine lv_topi (fun v_65 e_65 => ?_)
          obtain rfl : v_65 = (nI (32 + i)) := (e_65).trans (nI_add 32 i)
          refine lv_iload hx hb dX8_drift_166 (lv_at hl 0 rfl) ?_
          refine lv_if_eq (tgt := 183) hx hb dX8_drift_168 (by decide) (fun c_ => absurd c_ (by decide)) (fun _ => ?_)
          refine lv_aload_n hx hb dX8_drift_171 rfl (lv_at hl 4 rfl) ?_
          refine va_get (D := (dC, dI)) (ci := 8) (v := .ref m_st) (C := RX8) (T := TX8) (N := 24) hx hb hts i_X8_drift_X8 hown hK hP 0 rfl rfl 5 (by decide) (hts _ mx_X8_drift_1) (fun _ h9 => h9) rfl dX8_drift_172 ?_
          refine lv_bipush (v := 32) hx hb dX8_drift_175 (by decide) ?_
          refine lv_iload_n hx hb dX8_drift_177 rfl (lv_at hl 5 rfl) ?_
          refine lv_iadd hx hb dX8_drift_178 ?_
          refine lv_topi (fun v_67 e_67 => ?_)
          obtain rfl : v_67 = (nI (32 + i)) := (e_67).trans (nI_add 32 i)
          refine va_iald hx hb hK hP 1 0 rfl rfl (vp_in_nI (by omega) (by omega)) dX8_drift_179 ?_
          obtain ⟨L_68, hL1_68, hL2_68, hLe_68⟩ := hM_64.2.2.2.2.2.2.2 i (by omega)
          refine lv_topi (fun v_68 e_68 => ?_)
          obtain rfl : v_68 = nI L_68 := e_68.trans (by rw [nI_clamp (by omega)]; exact hLe_68)
          refine lv_goto (tgt := 185) hx hb dX8_drift_180 (by decide) ?_
          refine va_iast hx hb hK hP hD hS 1 0 rfl rfl (vp_in_nI (by omega) (by omega)) dX8_drift_185 (fun H locs hP hD hS => ?_)
          generalize hg_69 : upd g_64 ((nI (32 + i)) : Int32).toNatClampNeg (nI L_68) = g_69 at hP hD
          have hu_69 : g_69 = upd g_64 (32 + i) (nI L_68) := (by rw [← hg_69, nI_clamp (by omega)])
          have hM_69 : okM g_69 w9 k9 h9 := okM_loud hM_64 hg_69 (by omega) (by omega) (by omega)
          have hP : va_P (dC, dI) vwCl [(xo_8_rrriirrriiiiiiirrirrrrri mo m_la m_sz m_it ms mt m_st m_mv m_tp (nI mz) ml (nI mp) mk mv mb mw m_rd m_ac (nI ma) m_as m_wo m_ik m_ke m_tr (nI mx)), (xI m_st cI 38 g_69)] H := hP
          have hD := dto hP hD
          have hX9 := cut2 (wc := [(xo_8_rrriirrriiiiiiirrirrrrri mo m_la m_sz m_it ms mt m_st m_mv m_tp (nI mz) ml (nI mp) mk mv mb mw m_rd m_ac (nI ma) m_as m_wo m_ik m_ke m_tr (nI mx)), (xI m_st cI 38 g_69)]) hP hD [0, 1] (by decide +kernel) rfl
          exact W.vret hx hb hr (fun t ht hW => ⟨⟨(), rfl, trivial, ⟨g_69, va_Ht ht hX9.1, hX9.2, hM_69, (lf_X8_drift_4 hM hi e_2 e_4 h_5 e_6 c_7 c_8 hL1_51 hL2_51 hLe_51 c_52 f_55_0_0 hu_59 e_63 hu_64 hL1_68 hL2_68 hLe_68 hu_69)⟩⟩, hS.F ht⟩) hS.2.2 dX8_drift_186
        · subst h_55
          refine lv_if_eq (tgt := 104) hx hb dX8_drift_96 (by decide) (fun c_ => absurd c_ (by decide)) (fun _ => ?_)
          refine lv_iload hx hb dX8_drift_99 (lv_at hl 0 rfl) ?_
          refine lv_if_ne (tgt := 108) hx hb dX8_drift_101 (by decide) (fun c_71 => ?_) (fun c_71 => ?_)
          · have c_71 : ¬ (L_51 = 0) := fun q_ => c_71 ((nI_eq (a := L_51) (b := 0) (by omega) (by omega)).mpr q_)
            refine lv_iconst (v := 0) hx hb dX8_drift_108 (by decide) ?_
            refine lv_istore (lv' := [(6, .int 0), (5, .int (nI L_51)), (4, .int v_6), (3, .int v_2), (0, .ref mo), (1, .int (nI i)), (2, .int n)]) hx hb dX8_drift_109 hl (by decide) rfl (fun ls hl => ?_)
            refine lv_aload_n hx hb dX8_drift_111 rfl (lv_at hl 4 rfl) ?_
            refine va_get (D := (dC, dI)) (ci := 8) (v := .ref m_st) (C := RX8) (T := TX8) (N := 24) hx hb hts i_X8_drift_X8 hown hK hP 0 rfl rfl 5 (by decide) (hts _ mx_X8_drift_1) (fun _ h9 => h9) rfl dX8_drift_112 ?_
            refine lv_bipush (v := 26) hx hb dX8_drift_115 (by decide) ?_
            refine lv_iload_n hx hb dX8_drift_117 rfl (lv_at hl 5 rfl) ?_
            refine lv_iadd hx hb dX8_drift_118 ?_
            refine lv_topi (fun v_72 e_72 => ?_)
            obtain rfl : v_72 = (nI (26 + i)) := (e_72).trans (nI_add 26 i)
            refine lv_iload hx hb dX8_drift_119 (lv_at hl 0 rfl) ?_
            refine lv_if_eq (tgt := 128) hx hb dX8_drift_121 (by decide) (fun _ => ?_) (fun c_ => absurd (by decide) c_)
            refine lv_iconst (v := 0) hx hb dX8_drift_128 (by decide) ?_
            refine va_iast hx hb hK hP hD hS 1 0 rfl rfl (vp_in_nI (by omega) (by omega)) dX8_drift_129 (fun H locs hP hD hS => ?_)
            generalize hg_74 : upd fs ((nI (26 + i)) : Int32).toNatClampNeg 0 = g_74 at hP hD
            have hu_74 : g_74 = upd fs (26 + i) 0 := (by rw [← hg_74, nI_clamp (by omega)])
            have hM_74 : okM g_74 w9 k9 h9 := okM_off (i := (26 + i)) hM hg_74 (by omega) (by omega) (by omega) (by omega) (by omega)
            have hP : va_P (dC, dI) vwCl [(xo_8_rrriirrriiiiiiirrirrrrri mo m_la m_sz m_it ms mt m_st m_mv m_tp (nI mz) ml (nI mp) mk mv mb mw m_rd m_ac (nI ma) m_as m_wo m_ik m_ke m_tr (nI mx)), (xI m_st cI 38 g_74)] H := hP
            have hD := dto hP hD
            refine lv_aload_n hx hb dX8_drift_130 rfl (lv_at hl 4 rfl) ?_
            refine va_get (D := (dC, dI)) (ci := 8) (v := .ref m_st) (C := RX8) (T := TX8) (N := 24) hx hb hts i_X8_drift_X8 hown hK hP 0 rfl rfl 5 (by decide) (hts _ mx_X8_drift_1) (fun _ h9 => h9) rfl dX8_drift_131 ?_
            refine lv_bipush (v := 20) hx hb dX8_drift_134 (by decide) ?_
            refine lv_iload_n hx hb dX8_drift_136 rfl (lv_at hl 5 rfl) ?_
            refine lv_iadd hx hb dX8_drift_137 ?_
            refine lv_topi (fun v_75 e_75 => ?_)
            obtain rfl : v_75 = (nI (20 + i)) := (e_75).trans (nI_add 20 i)
            refine lv_iload hx hb dX8_drift_138 (lv_at hl 0 rfl) ?_
            refine lv_if_eq (tgt := 155) hx hb dX8_drift_140 (by decide) (fun _ => ?_) (fun c_ => absurd (by decide) c_)
            refine lv_iload hx hb dX8_drift_155 (lv_at hl 2 rfl) ?_
            refine va_iast hx hb hK hP hD hS 1 0 rfl rfl (vp_in_nI (by omega) (by omega)) dX8_drift_157 (fun H locs hP hD hS => ?_)
            generalize hg_77 : upd g_74 ((nI (20 + i)) : Int32).toNatClampNeg v_6 = g_77 at hP hD
            have hu_77 : g_77 = upd g_74 (20 + i) v_6 := (by rw [← hg_77, nI_clamp (by omega)])
            have hM_77 : okM g_77 w9 k9 h9 := okM_off (i := (20 + i)) hM_74 hg_77 (by omega) (by omega) (by omega) (by omega) (by omega)
            have hP : va_P (dC, dI) vwCl [(xo_8_rrriirrriiiiiiirrirrrrri mo m_la m_sz m_it ms mt m_st m_mv m_tp (nI mz) ml (nI mp) mk mv mb mw m_rd m_ac (nI ma) m_as m_wo m_ik m_ke m_tr (nI mx)), (xI m_st cI 38 g_77)] H := hP
            have hD := dto hP hD
            refine lv_aload_n hx hb dX8_drift_158 rfl (lv_at hl 4 rfl) ?_
            refine va_get (D := (dC, dI)) (ci := 8) (v := .ref m_st) (C := RX8) (T := TX8) (N := 24) hx hb hts i_X8_drift_X8 hown hK hP 0 rfl rfl 5 (by decide) (hts _ mx_X8_drift_1) (fun _ h9 => h9) rfl dX8_drift_159 ?_
            refine lv_bipush (v := 32) hx hb dX8_drift_162 (by decide) ?_
            refine lv_iload_n hx hb dX8_drift_164 rfl (lv_at hl 5 rfl) ?_
            refine lv_iadd hx hb dX8_drift_165 ?_
            refine lv_topi (fun v_78 e_78 => ?_)
            obtain rfl : v_78 = (nI (32 + i)) := (e_78).trans (nI_add 32 i)
            refine lv_iload hx hb dX8_drift_166 (lv_at hl 0 rfl) ?_
            refine lv_if_eq (tgt := 183) hx hb dX8_drift_168 (by decide) (fun _ => ?_) (fun c_ => absurd (by decide) c_)
            refine lv_iload hx hb dX8_drift_183 (lv_at hl 1 rfl) ?_
            refine va_iast hx hb hK hP hD hS 1 0 rfl rfl (vp_in_nI (by omega) (by omega)) dX8_drift_185 (fun H locs hP hD hS => ?_)
            generalize hg_80 : upd g_77 ((nI (32 + i)) : Int32).toNatClampNeg (nI L_51) = g_80 at hP hD
            have hu_80 : g_80 = upd g_77 (32 + i) (nI L_51) := (by rw [← hg_80, nI_clamp (by omega)])
            have hM_80 : okM g_80 w9 k9 h9 := okM_loud hM_77 hg_80 (by omega) (by omega) (by omega)
            have hP : va_P (dC, dI) vwCl [(xo_8_rrriirrriiiiiiirrirrrrri mo m_la m_sz m_it ms mt m_st m_mv m_tp (nI mz) ml (nI mp) mk mv mb mw m_rd m_ac (nI ma) m_as m_wo m_ik m_ke m_tr (nI mx)), (xI m_st cI 38 g_80)] H := hP
            have hD := dto hP hD
            have hX9 := cut2 (wc := [(xo_8_rrriirrriiiiiiirrirrrrri mo m_la m_sz m_it ms mt m_st m_mv m_tp (nI mz) ml (nI mp) mk mv mb mw m_rd m_ac (nI ma) m_as m_wo m_ik m_ke m_tr (nI mx)), (xI m_st cI 38 g_80)]) hP hD [0, 1] (by decide +kernel) rfl
            exact W.vret hx hb hr (fun t ht hW => ⟨⟨(), rfl, trivial, ⟨g_80, va_Ht ht hX9.1, hX9.2, hM_80, (lf_X8_drift_5 hM hi e_2 e_4 h_5 e_6 c_7 c_8 hL1_51 hL2_51 hLe_51 c_52 f_55_1_0 c_71 hu_74 hu_77 hu_80)⟩⟩, hS.F ht⟩) hS.2.2 dX8_drift_186
          · have c_71 : L_51 = 0 := (nI_eq (a := L_51) (b := 0) (by omega) (by omega)).mp c_71
            refine lv_iconst (v := 1) hx hb dX8_drift_104 (by decide) ?_
            refine lv_goto (tgt := 109) hx hb dX8_drift_105 (by decide) ?_
            refine lv_istore (lv' := [(6, .int 1), (5, .int (nI L_51)), (4, .int v_6), (3, .int v_2), (0, .ref mo), (1, .int (nI i)), (2, .int n)]) hx hb dX8_drift_109 hl (by decide) rfl (fun ls hl => ?_)
            refine lv_aload_n hx hb dX8_drift_111 rfl (lv_at hl 4 rfl) ?_
            refine va_get (D := (dC, dI)) (ci := 8) (v := .ref m_st) (C := RX8) (T := TX8) (N := 24) hx hb hts i_X8_drift_X8 hown hK hP 0 rfl rfl 5 (by decide) (hts _ mx_X8_drift_1) (fun _ h9 => h9) rfl dX8_drift_112 ?_
            refine lv_bipush (v := 26) hx hb dX8_drift_115 (by decide) ?_
            refine lv_iload_n hx hb dX8_drift_117 rfl (lv_at hl 5 rfl) ?_
            refine lv_iadd hx hb dX8_drift_118 ?_
            refine lv_topi (fun v_81 e_81 => ?_)
            obtain rfl : v_81 = (nI (26 + i)) := (e_81).trans (nI_add 26 i)
            refine lv_iload hx hb dX8_drift_119 (lv_at hl 0 rfl) ?_
            refine lv_if_eq (tgt := 128) hx hb dX8_drift_121 (by decide) (fun c_ => absurd c_ (by decide)) (fun _ => ?_)
            refine lv_iconst (v := 2) hx hb dX8_drift_124 (by decide) ?_
            refine lv_goto (tgt := 129) hx hb dX8_drift_125 (by decide) ?_
            refine va_iast hx hb hK hP hD hS 1 0 rfl rfl (vp_in_nI (by omega) (by omega)) dX8_drift_129 (fun H locs hP hD hS => ?_)
            generalize hg_83 : upd fs ((nI (26 + i)) : Int32).toNatClampNeg 2 = g_83 at hP hD
            have hu_83 : g_83 = upd fs (26 + i) 2 := (by rw [← hg_83, nI_clamp (by omega)])
            have hM_83 : okM g_83 w9 k9 h9 := okM_off (i := (26 + i)) hM hg_83 (by omega) (by omega) (by omega) (by omega) (by omega)
            have hP : va_P (dC, dI) vwCl [(xo_8_rrriirrriiiiiiirrirrrrri mo m_la m_sz m_it ms mt m_st m_mv m_tp (nI mz) ml (nI mp) mk mv mb mw m_rd m_ac (nI ma) m_as m_wo m_ik m_ke m_tr (nI mx)), (xI m_st cI 38 g_83)] H := hP
            have hD := dto hP hD
            refine lv_aload_n hx hb dX8_drift_130 rfl (lv_at hl 4 rfl) ?_
            refine va_get (D := (dC, dI)) (ci := 8) (v := .ref m_st) (C := RX8) (T := TX8) (N := 24) hx hb hts i_X8_drift_X8 hown hK hP 0 rfl rfl 5 (by decide) (hts _ mx_X8_drift_1) (fun _ h9 => h9) rfl dX8_drift_131 ?_
            refine lv_bipush (v := 20) hx hb dX8_drift_134 (by decide) ?_
            refine lv_iload_n hx hb dX8_drift_136 rfl (lv_at hl 5 rfl) ?_
            refine lv_iadd hx hb dX8_drift_137 ?_
            refine lv_topi (fun v_84 e_84 => ?_)
            obtain rfl : v_84 = (nI (20 + i)) := (e_84).trans (nI_add 20 i)
            refine lv_iload hx hb dX8_drift_138 (lv_at hl 0 rfl) ?_
            refine lv_if_eq (tgt := 155) hx hb dX8_drift_140 (by decide) (fun c_ => absurd c_ (by decide)) (fun _ => ?_)
            refine lv_aload_n hx hb dX8_drift_143 rfl (lv_at hl 4 rfl) ?_
            refine va_get (D := (dC, dI)) (ci := 8) (v := .ref m_st) (C := RX8) (T := TX8) (N := 24) hx hb hts i_X8_drift_X8 hown hK hP 0 rfl rfl 5 (by decide) (hts _ mx_X8_drift_1) (fun _ h9 => h9) rfl dX8_drift_144 ?_
            refine lv_bipush (v := 20) hx hb dX8_drift_147 (by decide) ?_
            refine lv_iload_n hx hb dX8_drift_149 rfl (lv_at hl 5 rfl) ?_
            refine lv_iadd hx hb dX8_drift_150 ?_
            refine lv_topi (fun v_86 e_86 => ?_)
            obtain rfl : v_86 = (nI (20 + i)) := (e_86).trans (nI_add 20 i)
            refine va_iald hx hb hK hP 1 0 rfl rfl (vp_in_nI (by omega) (by omega)) dX8_drift_151 ?_
            refine lv_topi (fun v_87 e_87 => ?_)
            have e_87 : v_87 = g_83 (20 + i) := e_87.trans (congrArg g_83 (nI_clamp (by omega)))
            refine lv_goto (tgt := 157) hx hb dX8_drift_152 (by decide) ?_
            refine va_iast hx hb hK hP hD hS 1 0 rfl rfl (vp_in_nI (by omega) (by omega)) dX8_drift_157 (fun H locs hP hD hS => ?_)
            generalize hg_88 : upd g_83 ((nI (20 + i)) : Int32).toNatClampNeg v_87 = g_88 at hP hD
            have hu_88 : g_88 = upd g_83 (20 + i) v_87 := (by rw [← hg_88, nI_clamp (by omega)])
            have hM_88 : okM g_88 w9 k9 h9 := okM_off (i := (20 + i)) hM_83 hg_88 (by omega) (by omega) (by omega) (by omega) (by omega)
            have hP : va_P (dC, dI) vwCl [(xo_8_rrriirrriiiiiiirrirrrrri mo m_la m_sz m_it ms mt m_st m_mv m_tp (nI mz) ml (nI mp) mk mv mb mw m_rd m_ac (nI ma) m_as m_wo m_ik m_ke m_tr (nI mx)), (xI m_st cI 38 g_88)] H := hP
            have hD := dto hP hD
            refine lv_aload_n hx hb dX8_drift_158 rfl (lv_at hl 4 rfl) ?_
            refine va_get (D := (dC, dI)) (ci := 8) (v := .ref m_st) (C := RX8) (T := TX8) (N := 24) hx hb hts i_X8_drift_X8 hown hK hP 0 rfl rfl 5 (by decide) (hts _ mx_X8_drift_1) (fun _ h9 => h9) rfl dX8_drift_159 ?_
            refine lv_bipush (v := 32) hx hb dX8_drift_162 (by decide) ?_
            refine lv_iload_n hx hb dX8_drift_164 rfl (lv_at hl 5 rfl) ?_
            refine lv_iadd hx hb dX8_drift_165 ?_
            refine lv_topi (fun v_89 e_89 => ?_)
            obtain rfl : v_89 = (nI (32 + i)) := (e_89).trans (nI_add 32 i)
            refine lv_iload hx hb dX8_drift_166 (lv_at hl 0 rfl) ?_
            refine lv_if_eq (tgt := 183) hx hb dX8_drift_168 (by decide) (fun c_ => absurd c_ (by decide)) (fun _ => ?_)
            refine lv_aload_n hx hb dX8_drift_171 rfl (lv_at hl 4 rfl) ?_
            refine va_get (D := (dC, dI)) (ci := 8) (v := .ref m_st) (C := RX8) (T := TX8) (N := 24) hx hb hts i_X8_drift_X8 hown hK hP 0 rfl rfl 5 (by decide) (hts _ mx_X8_drift_1) (fun _ h9 => h9) rfl dX8_drift_172 ?_
            refine lv_bipush (v := 32) hx hb dX8_drift_175 (by decide) ?_
            refine lv_iload_n hx hb dX8_drift_177 rfl (lv_at hl 5 rfl) ?_
            refine lv_iadd hx hb dX8_drift_178 ?_
            refine lv_topi (fun v_91 e_91 => ?_)
            obtain rfl : v_91 = (nI (32 + i)) := (e_91).trans (nI_add 32 i)
            refine va_iald hx hb hK hP 1 0 rfl rfl (vp_in_nI (by omega) (by omega)) dX8_drift_179 ?_
            obtain ⟨L_92, hL1_92, hL2_92, hLe_92⟩ := hM_88.2.2.2.2.2.2.2 i (by omega)
            refine lv_topi (fun v_92 e_92 => ?_)
            obtain rfl : v_92 = nI L_92 := e_92.trans (by rw [nI_clamp (by omega)]; exact hLe_92)
            refine lv_goto (tgt := 185) hx hb dX8_drift_180 (by decide) ?_
            refine va_iast hx hb hK hP hD hS 1 0 rfl rfl (vp_in_nI (by omega) (by omega)) dX8_drift_185 (fun H locs hP hD hS => ?_)
            generalize hg_93 : upd g_88 ((nI (32 + i)) : Int32).toNatClampNeg (nI L_92) = g_93 at hP hD
            have hu_93 : g_93 = upd g_88 (32 + i) (nI L_92) := (by rw [← hg_93, nI_clamp (by omega)])
            have hM_93 : okM g_93 w9 k9 h9 := okM_loud hM_88 hg_93 (by omega) (by omega) (by omega)
            have hP : va_P (dC, dI) vwCl [(xo_8_rrriirrriiiiiiirrirrrrri mo m_la m_sz m_it ms mt m_st m_mv m_tp (nI mz) ml (nI mp) mk mv mb mw m_rd m_ac (nI ma) m_as m_wo m_ik m_ke m_tr (nI mx)), (xI m_st cI 38 g_93)] H := hP
            have hD := dto hP hD
            have hX9 := cut2 (wc := [(xo_8_rrriirrriiiiiiirrirrrrri mo m_la m_sz m_it ms mt m_st m_mv m_tp (nI mz) ml (nI mp) mk mv mb mw m_rd m_ac (nI ma) m_as m_wo m_ik m_ke m_tr (nI mx)), (xI m_st cI 38 g_93)]) hP hD [0, 1] (by decide +kernel) rfl
            exact W.vret hx hb hr (fun t ht hW => ⟨⟨(), rfl, trivial, ⟨g_93, va_Ht ht hX9.1, hX9.2, hM_93, (lf_X8_drift_6 hM hi e_2 e_4 h_5 e_6 c_7 c_8 hL1_51 hL2_51 hLe_51 c_52 f_55_1_0 c_71 hu_83 e_87 hu_88 hL1_92 hL2_92 hLe_92 hu_93)⟩⟩, hS.F ht⟩) hS.2.2 dX8_drift_186
      · have c_52 : ¬ (20 ≤ L_51) := fun q_ => c_52 ((nI_leI (a := 20) (b := L_51) (by omega) (by omega)).mpr q_)
        refine lv_aload_n hx hb dX8_drift_65 rfl (lv_at hl 2 rfl) ?_
        refine va_get (D := (dC, dI)) (ci := 8) (v := .ref m_st) (C := RX8) (T := TX8) (N := 24) hx hb hts i_X8_drift_X8 hown hK hP 0 rfl rfl 5 (by decide) (hts _ mx_X8_drift_1) (fun _ h9 => h9) rfl dX8_drift_66 ?_
        refine lv_bipush (v := 32) hx hb dX8_drift_69 (by decide) ?_
        refine lv_iload_n hx hb dX8_drift_71 rfl (lv_at hl 3 rfl) ?_
        refine lv_iadd hx hb dX8_drift_72 ?_
        refine lv_topi (fun v_94 e_94 => ?_)
        obtain rfl : v_94 = (nI (32 + i)) := (e_94).trans (nI_add 32 i)
        refine va_iald hx hb hK hP 1 0 rfl rfl (vp_in_nI (by omega) (by omega)) dX8_drift_73 ?_
        refine lv_topi (fun v_95 e_95 => ?_)
        obtain rfl : v_95 = nI L_51 := e_95.trans (by rw [nI_clamp (by omega)]; exact hLe_51)
        refine lv_iconst (v := 1) hx hb dX8_drift_74 (by decide) ?_
        refine lv_iadd hx hb dX8_drift_75 ?_
        refine lv_topi (fun v_96 e_96 => ?_)
        obtain rfl : v_96 = (nI (L_51 + 1)) := (e_96).trans (nI_add L_51 1)
        refine lv_goto (tgt := 88) hx hb dX8_drift_76 (by decide) ?_
        refine lv_istore (lv' := [(5, .int (nI (L_51 + 1))), (4, .int v_6), (3, .int v_2), (0, .ref mo), (1, .int (nI i)), (2, .int n)]) hx hb dX8_drift_88 hl (by decide) rfl (fun ls hl => ?_)
        refine lv_aload_n hx hb dX8_drift_90 rfl (lv_at hl 3 rfl) ?_
        refine lv_iload hx hb dX8_drift_91 (lv_at hl 1 rfl) ?_
        have hPc_97 := hP
        refine vp_callSi (W.runV (As := [.int v_6]) (rest := []) ⟨hx, hb, hml, hown, hts⟩ (r_X8_isCell l dC dI cI cZ cL cJ mo m_la m_sz m_it m_st m_mv m_tp m_rd m_ac m_as m_wo m_ik m_ke m_tr ms mt ml mk mv mb mw mz mp ma mx fs w9 k9 h9 v_6 (hM)) (cwV 1 hts gX8_drift_X8_isCell rfl rfl rfl (by decide +kernel) ⟨Nat.le_of_ble_eq_true rfl, Nat.le_of_ble_eq_true rfl⟩) (pvP 8 0 hK hP rfl rfl hPc_97) rfl rfl hl.1 rfl (lv_room (Nat.le_of_ble_eq_true rfl)) dX8_drift_93 ⟨Nat.le_of_ble_eq_true rfl, Nat.le_of_ble_eq_true rfl⟩) (fun r_97 h_97 => ?_)
        rcases h_97 with ⟨h_97, f_97_0_0⟩ | ⟨h_97, f_97_1_0⟩
        · subst h_97
          refine lv_if_eq (tgt := 104) hx hb dX8_drift_96 (by decide) (fun _ => ?_) (fun c_ => absurd (by decide) c_)
          refine lv_iconst (v := 1) hx hb dX8_drift_104 (by decide) ?_
          refine lv_goto (tgt := 109) hx hb dX8_drift_105 (by decide) ?_
          refine lv_istore (lv' := [(6, .int 1), (5, .int (nI (L_51 + 1))), (4, .int v_6), (3, .int v_2), (0, .ref mo), (1, .int (nI i)), (2, .int n)]) hx hb dX8_drift_109 hl (by decide) rfl (fun ls hl => ?_)
          refine lv_aload_n hx hb dX8_drift_111 rfl (lv_at hl 4 rfl) ?_
          refine va_get (D := (dC, dI)) (ci := 8) (v := .ref m_st) (C := RX8) (T := TX8) (N := 24) hx hb hts i_X8_drift_X8 hown hK hP 0 rfl rfl 5 (by decide) (hts _ mx_X8_drift_1) (fun _ h9 => h9) rfl dX8_drift_112 ?_
          refine lv_bipush (v := 26) hx hb dX8_drift_115 (by decide) ?_
          refine lv_iload_n hx hb dX8_drift_117 rfl (lv_at hl 5 rfl) ?_
          refine lv_iadd hx hb dX8_drift_118 ?_
          refine lv_topi (fun v_99 e_99 => ?_)
          obtain rfl : v_99 = (nI (26 + i)) := (e_99).trans (nI_add 26 i)
          refine lv_iload hx hb dX8_drift_119 (lv_at hl 0 rfl) ?_
          refine lv_if_eq (tgt := 128) hx hb dX8_drift_121 (by decide) (fun c_ => absurd c_ (by decide)) (fun _ => ?_)
          refine lv_iconst (v := 2) hx hb dX8_drift_124 (by decide) ?_
          refine lv_goto (tgt := 129) hx hb dX8_drift_125 (by decide) ?_
          refine va_iast hx hb hK hP hD hS 1 0 rfl rfl (vp_in_nI (by omega) (by omega)) dX8_drift_129 (fun H locs hP hD hS => ?_)
          generalize hg_101 : upd fs ((nI (26 + i)) : Int32).toNatClampNeg 2 = g_101 at hP hD
          have hu_101 : g_101 = upd fs (26 + i) 2 := (by rw [← hg_101, nI_clamp (by omega)])
          have hM_101 : okM g_101 w9 k9 h9 := okM_off (i := (26 + i)) hM hg_101 (by omega) (by omega) (by omega) (by omega) (by omega)
          have hP : va_P (dC, dI) vwCl [(xo_8_rrriirrriiiiiiirrirrrrri mo m_la m_sz m_it ms mt m_st m_mv m_tp (nI mz) ml (nI mp) mk mv mb mw m_rd m_ac (nI ma) m_as m_wo m_ik m_ke m_tr (nI mx)), (xI m_st cI 38 g_101)] H := hP
          have hD := dto hP hD
          refine lv_aload_n hx hb dX8_drift_130 rfl (lv_at hl 4 rfl) ?_
          refine va_get (D := (dC, dI)) (ci := 8) (v := .ref m_st) (C := RX8) (T := TX8) (N := 24) hx hb hts i_X8_drift_X8 hown hK hP 0 rfl rfl 5 (by decide) (hts _ mx_X8_drift_1) (fun _ h9 => h9) rfl dX8_drift_131 ?_
          refine lv_bipush (v := 20) hx hb dX8_drift_134 (by decide) ?_
          refine lv_iload_n hx hb dX8_drift_136 rfl (lv_at hl 5 rfl) ?_
          refine lv_iadd hx hb dX8_drift_137 ?_
          refine lv_topi (fun v_102 e_102 => ?_)
          obtain rfl : v_102 = (nI (20 + i)) := (e_102).trans (nI_add 20 i)
          refine lv_iload hx hb dX8_drift_138 (lv_at hl 0 rfl) ?_
          refine lv_if_eq (tgt := 155) hx hb dX8_drift_140 (by decide) (fun c_ => absurd c_ (by decide)) (fun _ => ?_)
          refine lv_aload_n hx hb dX8_drift_143 rfl (lv_at hl 4 rfl) ?_
          refine va_get (D := (dC, dI)) (ci := 8) (v := .ref m_st) (C := RX8) (T := TX8) (N := 24) hx hb hts i_X8_drift_X8 hown hK hP 0 rfl rfl 5 (by decide) (hts _ mx_X8_drift_1) (fun _ h9 => h9) rfl dX8_drift_144 ?_
          refine lv_bipush (v := 20) hx hb dX8_drift_147 (by decide) ?_
          refine lv_iload_n hx hb dX8_drift_149 rfl (lv_at hl 5 rfl) ?_
          refine lv_iadd hx hb dX8_drift_150 ?_
          refine lv_topi (fun v_104 e_104 => ?_)
          obtain rfl : v_104 = (nI (20 + i)) := (e_104).trans (nI_add 20 i)
          refine va_iald hx hb hK hP 1 0 rfl rfl (vp_in_nI (by omega) (by omega)) dX8_drift_151 ?_
          refine lv_topi (fun v_105 e_105 => ?_)
          have e_105 : v_105 = g_101 (20 + i) := e_105.trans (congrArg g_101 (nI_clamp (by omega)))
          refine lv_goto (tgt := 157) hx hb dX8_drift_152 (by decide) ?_
          refine va_iast hx hb hK hP hD hS 1 0 rfl rfl (vp_in_nI (by omega) (by omega)) dX8_drift_157 (fun H locs hP hD hS => ?_)
          generalize hg_106 : upd g_101 ((nI (20 + i)) : Int32).toNatClampNeg v_105 = g_106 at hP hD
          have hu_106 : g_106 = upd g_101 (20 + i) v_105 := (by rw [← hg_106, nI_clamp (by omega)])
          have hM_106 : okM g_106 w9 k9 h9 := okM_off (i := (20 + i)) hM_101 hg_106 (by omega) (by omega) (by omega) (by omega) (by omega)
          have hP : va_P (dC, dI) vwCl [(xo_8_rrriirrriiiiiiirrirrrrri mo m_la m_sz m_it ms mt m_st m_mv m_tp (nI mz) ml (nI mp) mk mv mb mw m_rd m_ac (nI ma) m_as m_wo m_ik m_ke m_tr (nI mx)), (xI m_st cI 38 g_106)] H := hP
          have hD := dto hP hD
          refine lv_aload_n hx hb dX8_drift_158 rfl (lv_at hl 4 rfl) ?_
          refine va_get (D := (dC, dI)) (ci := 8) (v := .ref m_st) (C := RX8) (T := TX8) (N := 24) hx hb hts i_X8_drift_X8 hown hK hP 0 rfl rfl 5 (by decide) (hts _ mx_X8_drift_1) (fun _ h9 => h9) rfl dX8_drift_159 ?_
          refine lv_bipush (v := 32) hx hb dX8_drift_162 (by decide) ?_
          refine lv_iload_n hx hb dX8_drift_164 rfl (lv_at hl 5 rfl) ?_
          refine lv_iadd hx hb dX8_drift_165 ?_
          refine lv_topi (fun v_107 e_107 => ?_)
          obtain rfl : v_107 = (nI (32 + i)) := (e_107).trans (nI_add 32 i)
          refine lv_iload hx hb dX8_drift_166 (lv_at hl 0 rfl) ?_
          refine lv_if_eq (tgt := 183) hx hb dX8_drift_168 (by decide) (fun c_ => absurd c_ (by decide)) (fun _ => ?_)
          refine lv_aload_n hx hb dX8_drift_171 rfl (lv_at hl 4 rfl) ?_
          refine va_get (D := (dC, dI)) (ci := 8) (v := .ref m_st) (C := RX8) (T := TX8) (N := 24) hx hb hts i_X8_drift_X8 hown hK hP 0 rfl rfl 5 (by decide) (hts _ mx_X8_drift_1) (fun _ h9 => h9) rfl dX8_drift_172 ?_
          refine lv_bipush (v := 32) hx hb dX8_drift_175 (by decide) ?_
          refine lv_iload_n hx hb dX8_drift_177 rfl (lv_at hl 5 rfl) ?_
          refine lv_iadd hx hb dX8_drift_178 ?_
          refine lv_topi (fun v_109 e_109 => ?_)
          obtain rfl : v_109 = (nI (32 + i)) := (e_109).trans (nI_add 32 i)
          refine va_iald hx hb hK hP 1 0 rfl rfl (vp_in_nI (by omega) (by omega)) dX8_drift_179 ?_
          obtain ⟨L_110, hL1_110, hL2_110, hLe_110⟩ := hM_106.2.2.2.2.2.2.2 i (by omega)
          refine lv_topi (fun v_110 e_110 => ?_)
          obtain rfl : v_110 = nI L_110 := e_110.trans (by rw [nI_clamp (by omega)]; exact hLe_110)
          refine lv_goto (tgt := 185) hx hb dX8_drift_180 (by decide) ?_
          refine va_iast hx hb hK hP hD hS 1 0 rfl rfl (vp_in_nI (by omega) (by omega)) dX8_drift_185 (fun H locs hP hD hS => ?_)
          generalize hg_111 : upd g_106 ((nI (32 + i)) : Int32).toNatClampNeg (nI L_110) = g_111 at hP hD
          have hu_111 : g_111 = upd g_106 (32 + i) (nI L_110) := (by rw [← hg_111, nI_clamp (by omega)])
          have hM_111 : okM g_111 w9 k9 h9 := okM_loud hM_106 hg_111 (by omega) (by omega) (by omega)
          have hP : va_P (dC, dI) vwCl [(xo_8_rrriirrriiiiiiirrirrrrri mo m_la m_sz m_it ms mt m_st m_mv m_tp (nI mz) ml (nI mp) mk mv mb mw m_rd m_ac (nI ma) m_as m_wo m_ik m_ke m_tr (nI mx)), (xI m_st cI 38 g_111)] H := hP
          have hD := dto hP hD
          have hX9 := cut2 (wc := [(xo_8_rrriirrriiiiiiirrirrrrri mo m_la m_sz m_it ms mt m_st m_mv m_tp (nI mz) ml (nI mp) mk mv mb mw m_rd m_ac (nI ma) m_as m_wo m_ik m_ke m_tr (nI mx)), (xI m_st cI 38 g_111)]) hP hD [0, 1] (by decide +kernel) rfl
          exact W.vret hx hb hr (fun t ht hW => ⟨⟨(), rfl, trivial, ⟨g_111, va_Ht ht hX9.1, hX9.2, hM_111, (lf_X8_drift_7 hM hi e_2 e_4 h_5 e_6 c_7 c_8 hL1_51 hL2_51 hLe_51 c_52 f_97_0_0 hu_101 e_105 hu_106 hL1_110 hL2_110 hLe_110 hu_111)⟩⟩, hS.F ht⟩) hS.2.2 dX8_drift_186
        · subst h_97
          refine lv_if_eq (tgt := 104) hx hb dX8_drift_96 (by decide) (fun c_ => absurd c_ (by decide)) (fun _ => ?_)
          refine lv_iload hx hb dX8_drift_99 (lv_at hl 0 rfl) ?_
          refine lv_if_ne (tgt := 108) hx hb dX8_drift_101 (by decide) (fun c_113 => ?_) (fun c_113 => ?_)
          · have c_113 : ¬ ((L_51 + 1) = 0) := fun q_ => c_113 ((nI_eq (a := (L_51 + 1)) (b := 0) (by omega) (by omega)).mpr q_)
            refine lv_iconst (v := 0) hx hb dX8_drift_108 (by decide) ?_
            refine lv_istore (lv' := [(6, .int 0), (5, .int (nI (L_51 + 1))), (4, .int v_6), (3, .int v_2), (0, .ref mo), (1, .int (nI i)), (2, .int n)]) hx hb dX8_drift_109 hl (by decide) rfl (fun ls hl => ?_)
            refine lv_aload_n hx hb dX8_drift_111 rfl (lv_at hl 4 rfl) ?_
            refine va_get (D := (dC, dI)) (ci := 8) (v := .ref m_st) (C := RX8) (T := TX8) (N := 24) hx hb hts i_X8_drift_X8 hown hK hP 0 rfl rfl 5 (by decide) (hts _ mx_X8_drift_1) (fun _ h9 => h9) rfl dX8_drift_112 ?_
            refine lv_bipush (v := 26) hx hb dX8_drift_115 (by decide) ?_
            refine lv_iload_n hx hb dX8_drift_117 rfl (lv_at hl 5 rfl) ?_
            refine lv_iadd hx hb dX8_drift_118 ?_
            refine lv_topi (fun v_114 e_114 => ?_)
            obtain rfl : v_114 = (nI (26 + i)) := (e_114).trans (nI_add 26 i)
            refine lv_iload hx hb dX8_drift_119 (lv_at hl 0 rfl) ?_
            refine lv_if_eq (tgt := 128) hx hb dX8_drift_121 (by decide) (fun _ => ?_) (fun c_ => absurd (by decide) c_)
            refine lv_iconst (v := 0) hx hb dX8_drift_128 (by decide) ?_
            refine va_iast hx hb hK hP hD hS 1 0 rfl rfl (vp_in_nI (by omega) (by omega)) dX8_drift_129 (fun H locs hP hD hS => ?_)
            generalize hg_116 : upd fs ((nI (26 + i)) : Int32).toNatClampNeg 0 = g_116 at hP hD
            have hu_116 : g_116 = upd fs (26 + i) 0 := (by rw [← hg_116, nI_clamp (by omega)])
            have hM_116 : okM g_116 w9 k9 h9 := okM_off (i := (26 + i)) hM hg_116 (by omega) (by omega) (by omega) (by omega) (by omega)
            have hP : va_P (dC, dI) vwCl [(xo_8_rrriirrriiiiiiirrirrrrri mo m_la m_sz m_it ms mt m_st m_mv m_tp (nI mz) ml (nI mp) mk mv mb mw m_rd m_ac (nI ma) m_as m_wo m_ik m_ke m_tr (nI mx)), (xI m_st cI 38 g_116)] H := hP
            have hD := dto hP hD
            refine lv_aload_n hx hb dX8_drift_130 rfl (lv_at hl 4 rfl) ?_
            refine va_get (D := (dC, dI)) (ci := 8) (v := .ref m_st) (C := RX8) (T := TX8) (N := 24) hx hb hts i_X8_drift_X8 hown hK hP 0 rfl rfl 5 (by decide) (hts _ mx_X8_drift_1) (fun _ h9 => h9) rfl dX8_drift_131 ?_
            refine lv_bipush (v := 20) hx hb dX8_drift_134 (by decide) ?_
            refine lv_iload_n hx hb dX8_drift_136 rfl (lv_at hl 5 rfl) ?_
            refine lv_iadd hx hb dX8_drift_137 ?_
            refine lv_topi (fun v_117 e_117 => ?_)
            obtain rfl : v_117 = (nI (20 + i)) := (e_117).trans (nI_add 20 i)
            refine lv_iload hx hb dX8_drift_138 (lv_at hl 0 rfl) ?_
            refine lv_if_eq (tgt := 155) hx hb dX8_drift_140 (by decide) (fun _ => ?_) (fun c_ => absurd (by decide) c_)
            refine lv_iload hx hb dX8_drift_155 (lv_at hl 2 rfl) ?_
            refine va_iast hx hb hK hP hD hS 1 0 rfl rfl (vp_in_nI (by omega) (by omega)) dX8_drift_157 (fun H locs hP hD hS => ?_)
            generalize hg_119 : upd g_116 ((nI (20 + i)) : Int32).toNatClampNeg v_6 = g_119 at hP hD
            have hu_119 : g_119 = upd g_116 (20 + i) v_6 := (by rw [← hg_119, nI_clamp (by omega)])
            have hM_119 : okM g_119 w9 k9 h9 := okM_off (i := (20 + i)) hM_116 hg_119 (by omega) (by omega) (by omega) (by omega) (by omega)
            have hP : va_P (dC, dI) vwCl [(xo_8_rrriirrriiiiiiirrirrrrri mo m_la m_sz m_it ms mt m_st m_mv m_tp (nI mz) ml (nI mp) mk mv mb mw m_rd m_ac (nI ma) m_as m_wo m_ik m_ke m_tr (nI mx)), (xI m_st cI 38 g_119)] H := hP
            have hD := dto hP hD
            refine lv_aload_n hx hb dX8_drift_158 rfl (lv_at hl 4 rfl) ?_
            refine va_get (D := (dC, dI)) (ci := 8) (v := .ref m_st) (C := RX8) (T := TX8) (N := 24) hx hb hts i_X8_drift_X8 hown hK hP 0 rfl rfl 5 (by decide) (hts _ mx_X8_drift_1) (fun _ h9 => h9) rfl dX8_drift_159 ?_
            refine lv_bipush (v := 32) hx hb dX8_drift_162 (by decide) ?_
            refine lv_iload_n hx hb dX8_drift_164 rfl (lv_at hl 5 rfl) ?_
            refine lv_iadd hx hb dX8_drift_165 ?_
            refine lv_topi (fun v_120 e_120 => ?_)
            obtain rfl : v_120 = (nI (32 + i)) := (e_120).trans (nI_add 32 i)
            refine lv_iload hx hb dX8_drift_166 (lv_at hl 0 rfl) ?_
            refine lv_if_eq (tgt := 183) hx hb dX8_drift_168 (by decide) (fun _ => ?_) (fun c_ => absurd (by decide) c_)
            refine lv_iload hx hb dX8_drift_183 (lv_at hl 1 rfl) ?_
            refine va_iast hx hb hK hP hD hS 1 0 rfl rfl (vp_in_nI (by omega) (by omega)) dX8_drift_185 (fun H locs hP hD hS => ?_)
            generalize hg_122 : upd g_119 ((nI (32 + i)) : Int32).toNatClampNeg (nI (L_51 + 1)) = g_122 at hP hD
            have hu_122 : g_122 = upd g_119 (32 + i) (nI (L_51 + 1)) := (by rw [← hg_122, nI_clamp (by omega)])
            have hM_122 : okM g_122 w9 k9 h9 := okM_loud hM_119 hg_122 (by omega) (by omega) (by omega)
            have hP : va_P (dC, dI) vwCl [(xo_8_rrriirrriiiiiiirrirrrrri mo m_la m_sz m_it ms mt m_st m_mv m_tp (nI mz) ml (nI mp) mk mv mb mw m_rd m_ac (nI ma) m_as m_wo m_ik m_ke m_tr (nI mx)), (xI m_st cI 38 g_122)] H := hP
            have hD := dto hP hD
            have hX9 := cut2 (wc := [(xo_8_rrriirrriiiiiiirrirrrrri mo m_la m_sz m_it ms mt m_st m_mv m_tp (nI mz) ml (nI mp) mk mv mb mw m_rd m_ac (nI ma) m_as m_wo m_ik m_ke m_tr (nI mx)), (xI m_st cI 38 g_122)]) hP hD [0, 1] (by decide +kernel) rfl
            exact W.vret hx hb hr (fun t ht hW => ⟨⟨(), rfl, trivial, ⟨g_122, va_Ht ht hX9.1, hX9.2, hM_122, (lf_X8_drift_8 hM hi e_2 e_4 h_5 e_6 c_7 c_8 hL1_51 hL2_51 hLe_51 c_52 f_97_1_0 c_113 hu_116 hu_119 hu_122)⟩⟩, hS.F ht⟩) hS.2.2 dX8_drift_186
          · have c_113 : (L_51 + 1) = 0 := (nI_eq (a := (L_51 + 1)) (b := 0) (by omega) (by omega)).mp c_113
            refine lv_iconst (v := 1) hx hb dX8_drift_104 (by decide) ?_
            refine lv_goto (tgt := 109) hx hb dX8_drift_105 (by decide) ?_
            refine lv_istore (lv' := [(6, .int 1), (5, .int (nI (L_51 + 1))), (4, .int v_6), (3, .int v_2), (0, .ref mo), (1, .int (nI i)), (2, .int n)]) hx hb dX8_drift_109 hl (by decide) rfl (fun ls hl => ?_)
            refine lv_aload_n hx hb dX8_drift_111 rfl (lv_at hl 4 rfl) ?_
            refine va_get (D := (dC, dI)) (ci := 8) (v := .ref m_st) (C := RX8) (T := TX8) (N := 24) hx hb hts i_X8_drift_X8 hown hK hP 0 rfl rfl 5 (by decide) (hts _ mx_X8_drift_1) (fun _ h9 => h9) rfl dX8_drift_112 ?_
            refine lv_bipush (v := 26) hx hb dX8_drift_115 (by decide) ?_
            refine lv_iload_n hx hb dX8_drift_117 rfl (lv_at hl 5 rfl) ?_
            refine lv_iadd hx hb dX8_drift_118 ?_
            refine lv_topi (fun v_123 e_123 => ?_)
            obtain rfl : v_123 = (nI (26 + i)) := (e_123).trans (nI_add 26 i)
            refine lv_iload hx hb dX8_drift_119 (lv_at hl 0 rfl) ?_
            refine lv_if_eq (tgt := 128) hx hb dX8_drift_121 (by decide) (fun c_ => absurd c_ (by decide)) (fun _ => ?_)
            refine lv_iconst (v := 2) hx hb dX8_drift_124 (by decide) ?_
            refine lv_goto (tgt := 129) hx hb dX8_drift_125 (by decide) ?_
            refine va_iast hx hb hK hP hD hS 1 0 rfl rfl (vp_in_nI (by omega) (by omega)) dX8_drift_129 (fun H locs hP hD hS => ?_)
            generalize hg_125 : upd fs ((nI (26 + i)) : Int32).toNatClampNeg 2 = g_125 at hP hD
            have hu_125 : g_125 = upd fs (26 + i) 2 := (by rw [← hg_125, nI_clamp (by omega)])
            have hM_125 : okM g_125 w9 k9 h9 := okM_off (i := (26 + i)) hM hg_125 (by omega) (by omega) (by omega) (by omega) (by omega)
            have hP : va_P (dC, dI) vwCl [(xo_8_rrriirrriiiiiiirrirrrrri mo m_la m_sz m_it ms mt m_st m_mv m_tp (nI mz) ml (nI mp) mk mv mb mw m_rd m_ac (nI ma) m_as m_wo m_ik m_ke m_tr (nI mx)), (xI m_st cI 38 g_125)] H := hP
            have hD := dto hP hD
            refine lv_aload_n hx hb dX8_drift_130 rfl (lv_at hl 4 rfl) ?_
            refine va_get (D := (dC, dI)) (ci := 8) (v := .ref m_st) (C := RX8) (T := TX8) (N := 24) hx hb hts i_X8_drift_X8 hown hK hP 0 rfl rfl 5 (by decide) (hts _ mx_X8_drift_1) (fun _ h9 => h9) rfl dX8_drift_131 ?_
            refine lv_bipush (v := 20) hx hb dX8_drift_134 (by decide) ?_
            refine lv_iload_n hx hb dX8_drift_136 rfl (lv_at hl 5 rfl) ?_
            refine lv_iadd hx hb dX8_drift_137 ?_
            refine lv_topi (fun v_126 e_126 => ?_)
            obtain rfl : v_126 = (nI (20 + i)) := (e_126).trans (nI_add 20 i)
            refine lv_iload hx hb dX8_drift_138 (lv_at hl 0 rfl) ?_
            refine lv_if_eq (tgt := 155) hx hb dX8_drift_140 (by decide) (fun c_ => absurd c_ (by decide)) (fun _ => ?_)
            refine lv_aload_n hx hb dX8_drift_143 rfl (lv_at hl 4 rfl) ?_
            refine va_get (D := (dC, dI)) (ci := 8) (v := .ref m_st) (C := RX8) (T := TX8) (N := 24) hx hb hts i_X8_drift_X8 hown hK hP 0 rfl rfl 5 (by decide) (hts _ mx_X8_drift_1) (fun _ h9 => h9) rfl dX8_drift_144 ?_
            refine lv_bipush (v := 20) hx hb dX8_drift_147 (by decide) ?_
            refine lv_iload_n hx hb dX8_drift_149 rfl (lv_at hl 5 rfl) ?_
            refine lv_iadd hx hb dX8_drift_150 ?_
            refine lv_topi (fun v_128 e_128 => ?_)
            obtain rfl : v_128 = (nI (20 + i)) := (e_128).trans (nI_add 20 i)
            refine va_iald hx hb hK hP 1 0 rfl rfl (vp_in_nI (by omega) (by omega)) dX8_drift_151 ?_
            refine lv_topi (fun v_129 e_129 => ?_)
            have e_129 : v_129 = g_125 (20 + i) := e_129.trans (congrArg g_125 (nI_clamp (by omega)))
            refine lv_goto (tgt := 157) hx hb dX8_drift_152 (by decide) ?_
            refine va_iast hx hb hK hP hD hS 1 0 rfl rfl (vp_in_nI (by omega) (by omega)) dX8_drift_157 (fun H locs hP hD hS => ?_)
            generalize hg_130 : upd g_125 ((nI (20 + i)) : Int32).toNatClampNeg v_129 = g_130 at hP hD
            have hu_130 : g_130 = upd g_125 (20 + i) v_129 := (by rw [← hg_130, nI_clamp (by omega)])
            have hM_130 : okM g_130 w9 k9 h9 := okM_off (i := (20 + i)) hM_125 hg_130 (by omega) (by omega) (by omega) (by omega) (by omega)
            have hP : va_P (dC, dI) vwCl [(xo_8_rrriirrriiiiiiirrirrrrri mo m_la m_sz m_it ms mt m_st m_mv m_tp (nI mz) ml (nI mp) mk mv mb mw m_rd m_ac (nI ma) m_as m_wo m_ik m_ke m_tr (nI mx)), (xI m_st cI 38 g_130)] H := hP
            have hD := dto hP hD
            refine lv_aload_n hx hb dX8_drift_158 rfl (lv_at hl 4 rfl) ?_
            refine va_get (D := (dC, dI)) (ci := 8) (v := .ref m_st) (C := RX8) (T := TX8) (N := 24) hx hb hts i_X8_drift_X8 hown hK hP 0 rfl rfl 5 (by decide) (hts _ mx_X8_drift_1) (fun _ h9 => h9) rfl dX8_drift_159 ?_
            refine lv_bipush (v := 32) hx hb dX8_drift_162 (by decide) ?_
            refine lv_iload_n hx hb dX8_drift_164 rfl (lv_at hl 5 rfl) ?_
            refine lv_iadd hx hb dX8_drift_165 ?_
            refine lv_topi (fun v_131 e_131 => ?_)
            obtain rfl : v_131 = (nI (32 + i)) := (e_131).trans (nI_add 32 i)
            refine lv_iload hx hb dX8_drift_166 (lv_at hl 0 rfl) ?_
            refine lv_if_eq (tgt := 183) hx hb dX8_drift_168 (by decide) (fun c_ => absurd c_ (by decide)) (fun _ => ?_)
            refine lv_aload_n hx hb dX8_drift_171 rfl (lv_at hl 4 rfl) ?_
            refine va_get (D := (dC, dI)) (ci := 8) (v := .ref m_st) (C := RX8) (T := TX8) (N := 24) hx hb hts i_X8_drift_X8 hown hK hP 0 rfl rfl 5 (by decide) (hts _ mx_X8_drift_1) (fun _ h9 => h9) rfl dX8_drift_172 ?_
            refine lv_bipush (v := 32) hx hb dX8_drift_175 (by decide) ?_
            refine lv_iload_n hx hb dX8_drift_177 rfl (lv_at hl 5 rfl) ?_
            refine lv_iadd hx hb dX8_drift_178 ?_
            refine lv_topi (fun v_133 e_133 => ?_)
            obtain rfl : v_133 = (nI (32 + i)) := (e_133).trans (nI_add 32 i)
            refine va_iald hx hb hK hP 1 0 rfl rfl (vp_in_nI (by omega) (by omega)) dX8_drift_179 ?_
            obtain ⟨L_134, hL1_134, hL2_134, hLe_134⟩ := hM_130.2.2.2.2.2.2.2 i (by omega)
            refine lv_topi (fun v_134 e_134 => ?_)
            obtain rfl : v_134 = nI L_134 := e_134.trans (by rw [nI_clamp (by omega)]; exact hLe_134)
            refine lv_goto (tgt := 185) hx hb dX8_drift_180 (by decide) ?_
            refine va_iast hx hb hK hP hD hS 1 0 rfl rfl (vp_in_nI (by omega) (by omega)) dX8_drift_185 (fun H locs hP hD hS => ?_)
            generalize hg_135 : upd g_130 ((nI (32 + i)) : Int32).toNatClampNeg (nI L_134) = g_135 at hP hD
            have hu_135 : g_135 = upd g_130 (32 + i) (nI L_134) := (by rw [← hg_135, nI_clamp (by omega)])
            have hM_135 : okM g_135 w9 k9 h9 := okM_loud hM_130 hg_135 (by omega) (by omega) (by omega)
            have hP : va_P (dC, dI) vwCl [(xo_8_rrriirrriiiiiiirrirrrrri mo m_la m_sz m_it ms mt m_st m_mv m_tp (nI mz) ml (nI mp) mk mv mb mw m_rd m_ac (nI ma) m_as m_wo m_ik m_ke m_tr (nI mx)), (xI m_st cI 38 g_135)] H := hP
            have hD := dto hP hD
            have hX9 := cut2 (wc := [(xo_8_rrriirrriiiiiiirrirrrrri mo m_la m_sz m_it ms mt m_st m_mv m_tp (nI mz) ml (nI mp) mk mv mb mw m_rd m_ac (nI ma) m_as m_wo m_ik m_ke m_tr (nI mx)), (xI m_st cI 38 g_135)]) hP hD [0, 1] (by decide +kernel) rfl
            exact W.vret hx hb hr (fun t ht hW => ⟨⟨(), rfl, trivial, ⟨g_135, va_Ht ht hX9.1, hX9.2, hM_135, (lf_X8_drift_9 hM hi e_2 e_4 h_5 e_6 c_7 c_8 hL1_51 hL2_51 hLe_51 c_52 f_97_1_0 c_113 hu_125 e_129 hu_130 hL1_134 hL2_134 hLe_134 hu_135)⟩⟩, hS.F ht⟩) hS.2.2 dX8_drift_186
  · skip
    refine lv_aload_n hx hb dX8_drift_32 rfl (lv_at hl 2 rfl) ?_
    refine va_get (D := (dC, dI)) (ci := 8) (v := .ref m_st) (C := RX8) (T := TX8) (N := 24) hx hb hts i_X8_drift_X8 hown hK hP 0 rfl rfl 5 (by decide) (hts _ mx_X8_drift_1) (fun _ h9 => h9) rfl dX8_drift_33 ?_
    refine lv_bipush (v := 32) hx hb dX8_drift_36 (by decide) ?_
    refine lv_iload_n hx hb dX8_drift_38 rfl (lv_at hl 3 rfl) ?_
    refine lv_iadd hx hb dX8_drift_39 ?_
    refine lv_topi (fun v_136 e_136 => ?_)
    obtain rfl : v_136 = (nI (32 + i)) := (e_136).trans (nI_add 32 i)
    refine va_iald hx hb hK hP 1 0 rfl rfl (vp_in_nI (by omega) (by omega)) dX8_drift_40 ?_
    obtain ⟨L_137, hL1_137, hL2_137, hLe_137⟩ := hM.2.2.2.2.2.2.2 i (by omega)
    refine lv_topi (fun v_137 e_137 => ?_)
    obtain rfl : v_137 = nI L_137 := e_137.trans (by rw [nI_clamp (by omega)]; exact hLe_137)
    refine lv_iconst (v := 1) hx hb dX8_drift_41 (by decide) ?_
    refine lv_isub hx hb dX8_drift_42 ?_
    refine lv_topi (fun v_138 e_138 => ?_)
    obtain rfl : v_138 = (nI (L_137 - 1)) := (e_138).trans (pk_sub (a := L_137) (b := 1) (by omega))
    refine lv_goto (tgt := 88) hx hb dX8_drift_43 (by decide) ?_
    refine lv_istore (lv' := [(5, .int (nI (L_137 - 1))), (4, .int v_6), (3, .int v_2), (0, .ref mo), (1, .int (nI i)), (2, .int n)]) hx hb dX8_drift_88 hl (by decide) rfl (fun ls hl => ?_)
    refine lv_aload_n hx hb dX8_drift_90 rfl (lv_at hl 3 rfl) ?_
    refine lv_iload hx hb dX8_drift_91 (lv_at hl 1 rfl) ?_
    have hPc_139 := hP
    refine vp_callSi (W.runV (As := [.int v_6]) (rest := []) ⟨hx, hb, hml, hown, hts⟩ (r_X8_isCell l dC dI cI cZ cL cJ mo m_la m_sz m_it m_st m_mv m_tp m_rd m_ac m_as m_wo m_ik m_ke m_tr ms mt ml mk mv mb mw mz mp ma mx fs w9 k9 h9 v_6 (hM)) (cwV 1 hts gX8_drift_X8_isCell rfl rfl rfl (by decide +kernel) ⟨Nat.le_of_ble_eq_true rfl, Nat.le_of_ble_eq_true rfl⟩) (pvP 8 0 hK hP rfl rfl hPc_139) rfl rfl hl.1 rfl (lv_room (Nat.le_of_ble_eq_true rfl)) dX8_drift_93 ⟨Nat.le_of_ble_eq_true rfl, Nat.le_of_ble_eq_true rfl⟩) (fun r_139 h_139 => ?_)
    rcases h_139 with ⟨h_139, f_139_0_0⟩ | ⟨h_139, f_139_1_0⟩
    · subst h_139
      refine lv_if_eq (tgt := 104) hx hb dX8_drift_96 (by decide) (fun _ => ?_) (fun c_ => absurd (by decide) c_)
      refine lv_iconst (v := 1) hx hb dX8_drift_104 (by decide) ?_
      refine lv_goto (tgt := 109) hx hb dX8_drift_105 (by decide) ?_
      refine lv_istore (lv' := [(6, .int 1), (5, .int (nI (L_137 - 1))), (4, .int v_6), (3, .int v_2), (0, .ref mo), (1, .int (nI i)), (2, .int n)]) hx hb dX8_drift_109 hl (by decide) rfl (fun ls hl => ?_)
      refine lv_aload_n hx hb dX8_drift_111 rfl (lv_at hl 4 rfl) ?_
      refine va_get (D := (dC, dI)) (ci := 8) (v := .ref m_st) (C := RX8) (T := TX8) (N := 24) hx hb hts i_X8_drift_X8 hown hK hP 0 rfl rfl 5 (by decide) (hts _ mx_X8_drift_1) (fun _ h9 => h9) rfl dX8_drift_112 ?_
      refine lv_bipush (v := 26) hx hb dX8_drift_115 (by decide) ?_
      refine lv_iload_n hx hb dX8_drift_117 rfl (lv_at hl 5 rfl) ?_
      refine lv_iadd hx hb dX8_drift_118 ?_
      refine lv_topi (fun v_141 e_141 => ?_)
      obtain rfl : v_141 = (nI (26 + i)) := (e_141).trans (nI_add 26 i)
      refine lv_iload hx hb dX8_drift_119 (lv_at hl 0 rfl) ?_
      refine lv_if_eq (tgt := 128) hx hb dX8_drift_121 (by decide) (fun c_ => absurd c_ (by decide)) (fun _ => ?_)
      refine lv_iconst (v := 2) hx hb dX8_drift_124 (by decide) ?_
      refine lv_goto (tgt := 129) hx hb dX8_drift_125 (by decide) ?_
      refine va_iast hx hb hK hP hD hS 1 0 rfl rfl (vp_in_nI (by omega) (by omega)) dX8_drift_129 (fun H locs hP hD hS => ?_)
      generalize hg_143 : upd fs ((nI (26 + i)) : Int32).toNatClampNeg 2 = g_143 at hP hD
      have hu_143 : g_143 = upd fs (26 + i) 2 := (by rw [← hg_143, nI_clamp (by omega)])
      have hM_143 : okM g_143 w9 k9 h9 := okM_off (i := (26 + i)) hM hg_143 (by omega) (by omega) (by omega) (by omega) (by omega)
      have hP : va_P (dC, dI) vwCl [(xo_8_rrriirrriiiiiiirrirrrrri mo m_la m_sz m_it ms mt m_st m_mv m_tp (nI mz) ml (nI mp) mk mv mb mw m_rd m_ac (nI ma) m_as m_wo m_ik m_ke m_tr (nI mx)), (xI m_st cI 38 g_143)] H := hP
      have hD := dto hP hD
      refine lv_aload_n hx hb dX8_drift_130 rfl (lv_at hl 4 rfl) ?_
      refine va_get (D := (dC, dI)) (ci := 8) (v := .ref m_st) (C := RX8) (T := TX8) (N := 24) hx hb hts i_X8_drift_X8 hown hK hP 0 rfl rfl 5 (by decide) (hts _ mx_X8_drift_1) (fun _ h9 => h9) rfl dX8_drift_131 ?_
      refine lv_bipush (v := 20) hx hb dX8_drift_134 (by decide) ?_
      refine lv_iload_n hx hb dX8_drift_136 rfl (lv_at hl 5 rfl) ?_
      refine lv_iadd hx hb dX8_drift_137 ?_
      refine lv_topi (fun v_144 e_144 => ?_)
      obtain rfl : v_144 = (nI (20 + i)) := (e_144).trans (nI_add 20 i)
      refine lv_iload hx hb dX8_drift_138 (lv_at hl 0 rfl) ?_
      refine lv_if_eq (tgt := 155) hx hb dX8_drift_140 (by decide) (fun c_ => absurd c_ (by decide)) (fun _ => ?_)
      refine lv_aload_n hx hb dX8_drift_143 rfl (lv_at hl 4 rfl) ?_
      refine va_get (D := (dC, dI)) (ci := 8) (v := .ref m_st) (C := RX8) (T := TX8) (N := 24) hx hb hts i_X8_drift_X8 hown hK hP 0 rfl rfl 5 (by decide) (hts _ mx_X8_drift_1) (fun _ h9 => h9) rfl dX8_drift_144 ?_
      refine lv_bipush (v := 20) hx hb dX8_drift_147 (by decide) ?_
      refine lv_iload_n hx hb dX8_drift_149 rfl (lv_at hl 5 rfl) ?_
      refine lv_iadd hx hb dX8_drift_150 ?_
      refine lv_topi (fun v_146 e_146 => ?_)
      obtain rfl : v_146 = (nI (20 + i)) := (e_146).trans (nI_add 20 i)
      refine va_iald hx hb hK hP 1 0 rfl rfl (vp_in_nI (by omega) (by omega)) dX8_drift_151 ?_
      refine lv_topi (fun v_147 e_147 => ?_)
      have e_147 : v_147 = g_143 (20 + i) := e_147.trans (congrArg g_143 (nI_clamp (by omega)))
      refine lv_goto (tgt := 157) hx hb dX8_drift_152 (by decide) ?_
      refine va_iast hx hb hK hP hD hS 1 0 rfl rfl (vp_in_nI (by omega) (by omega)) dX8_drift_157 (fun H locs hP hD hS => ?_)
      generalize hg_148 : upd g_143 ((nI (20 + i)) : Int32).toNatClampNeg v_147 = g_148 at hP hD
      have hu_148 : g_148 = upd g_143 (20 + i) v_147 := (by rw [← hg_148, nI_clamp (by omega)])
      have hM_148 : okM g_148 w9 k9 h9 := okM_off (i := (20 + i)) hM_143 hg_148 (by omega) (by omega) (by omega) (by omega) (by omega)
      have hP : va_P (dC, dI) vwCl [(xo_8_rrriirrriiiiiiirrirrrrri mo m_la m_sz m_it ms mt m_st m_mv m_tp (nI mz) ml (nI mp) mk mv mb mw m_rd m_ac (nI ma) m_as m_wo m_ik m_ke m_tr (nI mx)), (xI m_st cI 38 g_148)] H := hP
      have hD := dto hP hD
      refine lv_aload_n hx hb dX8_drift_158 rfl (lv_at hl 4 rfl) ?_
      refine va_get (D := (dC, dI)) (ci := 8) (v := .ref m_st) (C := RX8) (T := TX8) (N := 24) hx hb hts i_X8_drift_X8 hown hK hP 0 rfl rfl 5 (by decide) (hts _ mx_X8_drift_1) (fun _ h9 => h9) rfl dX8_drift_159 ?_
      refine lv_bipush (v := 32) hx hb dX8_drift_162 (by decide) ?_
      refine lv_iload_n hx hb dX8_drift_164 rfl (lv_at hl 5 rfl) ?_
      refine lv_iadd hx hb dX8_drift_165 ?_
      refine lv_topi (fun v_149 e_149 => ?_)
      obtain rfl : v_149 = (nI (32 + i)) := (e_149).trans (nI_add 32 i)
      refine lv_iload hx hb dX8_drift_166 (lv_at hl 0 rfl) ?_
      refine lv_if_eq (tgt := 183) hx hb dX8_drift_168 (by decide) (fun c_ => absurd c_ (by decide)) (fun _ => ?_)
      refine lv_aload_n hx hb dX8_drift_171 rfl (lv_at hl 4 rfl) ?_
      refine va_get (D := (dC, dI)) (ci := 8) (v := .ref m_st) (C := RX8) (T := TX8) (N := 24) hx hb hts i_X8_drift_X8 hown hK hP 0 rfl rfl 5 (by decide) (hts _ mx_X8_drift_1) (fun _ h9 => h9) rfl dX8_drift_172 ?_
      refine lv_bipush (v := 32) hx hb dX8_drift_175 (by decide) ?_
      refine lv_iload_n hx hb dX8_drift_177 rfl (lv_at hl 5 rfl) ?_
      refine lv_iadd hx hb dX8_drift_178 ?_
      refine lv_topi (fun v_151 e_151 => ?_)
      obtain rfl : v_151 = (nI (32 + i)) := (e_151).trans (nI_add 32 i)
      refine va_iald hx hb hK hP 1 0 rfl rfl (vp_in_nI (by omega) (by omega)) dX8_drift_179 ?_
      obtain ⟨L_152, hL1_152, hL2_152, hLe_152⟩ := hM_148.2.2.2.2.2.2.2 i (by omega)
      refine lv_topi (fun v_152 e_152 => ?_)
      obtain rfl : v_152 = nI L_152 := e_152.trans (by rw [nI_clamp (by omega)]; exact hLe_152)
      refine lv_goto (tgt := 185) hx hb dX8_drift_180 (by decide) ?_
      refine va_iast hx hb hK hP hD hS 1 0 rfl rfl (vp_in_nI (by omega) (by omega)) dX8_drift_185 (fun H locs hP hD hS => ?_)
      generalize hg_153 : upd g_148 ((nI (32 + i)) : Int32).toNatClampNeg (nI L_152) = g_153 at hP hD
      have hu_153 : g_153 = upd g_148 (32 + i) (nI L_152) := (by rw [← hg_153, nI_clamp (by omega)])
      have hM_153 : okM g_153 w9 k9 h9 := okM_loud hM_148 hg_153 (by omega) (by omega) (by omega)
      have hP : va_P (dC, dI) vwCl [(xo_8_rrriirrriiiiiiirrirrrrri mo m_la m_sz m_it ms mt m_st m_mv m_tp (nI mz) ml (nI mp) mk mv mb mw m_rd m_ac (nI ma) m_as m_wo m_ik m_ke m_tr (nI mx)), (xI m_st cI 38 g_153)] H := hP
      have hD := dto hP hD
      have hX9 := cut2 (wc := [(xo_8_rrriirrriiiiiiirrirrrrri mo m_la m_sz m_it ms mt m_st m_mv m_tp (nI mz) ml (nI mp) mk mv mb mw m_rd m_ac (nI ma) m_as m_wo m_ik m_ke m_tr (nI mx)), (xI m_st cI 38 g_153)]) hP hD [0, 1] (by decide +kernel) rfl
      exact W.vret hx hb hr (fun t ht hW => ⟨⟨(), rfl, trivial, ⟨g_153, va_Ht ht hX9.1, hX9.2, hM_153, (lf_X8_drift_10 hM hi e_2 e_4 h_5 e_6 c_7 hL1_137 hL2_137 hLe_137 f_139_0_0 hu_143 e_147 hu_148 hL1_152 hL2_152 hLe_152 hu_153)⟩⟩, hS.F ht⟩) hS.2.2 dX8_drift_186
    · subst h_139
      refine lv_if_eq (tgt := 104) hx hb dX8_drift_96 (by decide) (fun c_ => absurd c_ (by decide)) (fun _ => ?_)
      refine lv_iload hx hb dX8_drift_99 (lv_at hl 0 rfl) ?_
      refine lv_if_ne (tgt := 108) hx hb dX8_drift_101 (by decide) (fun c_155 => ?_) (fun c_155 => ?_)
      · have c_155 : ¬ ((L_137 - 1) = 0) := fun q_ => c_155 ((nI_eq (a := (L_137 - 1)) (b := 0) (by omega) (by omega)).mpr q_)
        refine lv_iconst (v := 0) hx hb dX8_drift_108 (by decide) ?_
        refine lv_istore (lv' := [(6, .int 0), (5, .int (nI (L_137 - 1))), (4, .int v_6), (3, .int v_2), (0, .ref mo), (1, .int (nI i)), (2, .int n)]) hx hb dX8_drift_109 hl (by decide) rfl (fun ls hl => ?_)
        refine lv_aload_n hx hb dX8_drift_111 rfl (lv_at hl 4 rfl) ?_
        refine va_get (D := (dC, dI)) (ci := 8) (v := .ref m_st) (C := RX8) (T := TX8) (N := 24) hx hb hts i_X8_drift_X8 hown hK hP 0 rfl rfl 5 (by decide) (hts _ mx_X8_drift_1) (fun _ h9 => h9) rfl dX8_drift_112 ?_
        refine lv_bipush (v := 26) hx hb dX8_drift_115 (by decide) ?_
        refine lv_iload_n hx hb dX8_drift_117 rfl (lv_at hl 5 rfl) ?_
        refine lv_iadd hx hb dX8_drift_118 ?_
        refine lv_topi (fun v_156 e_156 => ?_)
        obtain rfl : v_156 = (nI (26 + i)) := (e_156).trans (nI_add 26 i)
        refine lv_iload hx hb dX8_drift_119 (lv_at hl 0 rfl) ?_
        refine lv_if_eq (tgt := 128) hx hb dX8_drift_121 (by decide) (fun _ => ?_) (fun c_ => absurd (by decide) c_)
        refine lv_iconst (v := 0) hx hb dX8_drift_128 (by decide) ?_
        refine va_iast hx hb hK hP hD hS 1 0 rfl rfl (vp_in_nI (by omega) (by omega)) dX8_drift_129 (fun H locs hP hD hS => ?_)
        generalize hg_158 : upd fs ((nI (26 + i)) : Int32).toNatClampNeg 0 = g_158 at hP hD
        have hu_158 : g_158 = upd fs (26 + i) 0 := (by rw [← hg_158, nI_clamp (by omega)])
        have hM_158 : okM g_158 w9 k9 h9 := okM_off (i := (26 + i)) hM hg_158 (by omega) (by omega) (by omega) (by omega) (by omega)
        have hP : va_P (dC, dI) vwCl [(xo_8_rrriirrriiiiiiirrirrrrri mo m_la m_sz m_it ms mt m_st m_mv m_tp (nI mz) ml (nI mp) mk mv mb mw m_rd m_ac (nI ma) m_as m_wo m_ik m_ke m_tr (nI mx)), (xI m_st cI 38 g_158)] H := hP
        have hD := dto hP hD
        refine lv_aload_n hx hb dX8_drift_130 rfl (lv_at hl 4 rfl) ?_
        refine va_get (D := (dC, dI)) (ci := 8) (v := .ref m_st) (C := RX8) (T := TX8) (N := 24) hx hb hts i_X8_drift_X8 hown hK hP 0 rfl rfl 5 (by decide) (hts _ mx_X8_drift_1) (fun _ h9 => h9) rfl dX8_drift_131 ?_
        refine lv_bipush (v := 20) hx hb dX8_drift_134 (by decide) ?_
        refine lv_iload_n hx hb dX8_drift_136 rfl (lv_at hl 5 rfl) ?_
        refine lv_iadd hx hb dX8_drift_137 ?_
        refine lv_topi (fun v_159 e_159 => ?_)
        obtain rfl : v_159 = (nI (20 + i)) := (e_159).trans (nI_add 20 i)
        refine lv_iload hx hb dX8_drift_138 (lv_at hl 0 rfl) ?_
        refine lv_if_eq (tgt := 155) hx hb dX8_drift_140 (by decide) (fun _ => ?_) (fun c_ => absurd (by decide) c_)
        refine lv_iload hx hb dX8_drift_155 (lv_at hl 2 rfl) ?_
        refine va_iast hx hb hK hP hD hS 1 0 rfl rfl (vp_in_nI (by omega) (by omega)) dX8_drift_157 (fun H locs hP hD hS => ?_)
        generalize hg_161 : upd g_158 ((nI (20 + i)) : Int32).toNatClampNeg v_6 = g_161 at hP hD
        have hu_161 : g_161 = upd g_158 (20 + i) v_6 := (by rw [← hg_161, nI_clamp (by omega)])
        have hM_161 : okM g_161 w9 k9 h9 := okM_off (i := (20 + i)) hM_158 hg_161 (by omega) (by omega) (by omega) (by omega) (by omega)
        have hP : va_P (dC, dI) vwCl [(xo_8_rrriirrriiiiiiirrirrrrri mo m_la m_sz m_it ms mt m_st m_mv m_tp (nI mz) ml (nI mp) mk mv mb mw m_rd m_ac (nI ma) m_as m_wo m_ik m_ke m_tr (nI mx)), (xI m_st cI 38 g_161)] H := hP
        have hD := dto hP hD
        refine lv_aload_n hx hb dX8_drift_158 rfl (lv_at hl 4 rfl) ?_
        refine va_get (D := (dC, dI)) (ci := 8) (v := .ref m_st) (C := RX8) (T := TX8) (N := 24) hx hb hts i_X8_drift_X8 hown hK hP 0 rfl rfl 5 (by decide) (hts _ mx_X8_drift_1) (fun _ h9 => h9) rfl dX8_drift_159 ?_
        refine lv_bipush (v := 32) hx hb dX8_drift_162 (by decide) ?_
        refine lv_iload_n hx hb dX8_drift_164 rfl (lv_at hl 5 rfl) ?_
        refine lv_iadd hx hb dX8_drift_165 ?_
        refine lv_topi (fun v_162 e_162 => ?_)
        obtain rfl : v_162 = (nI (32 + i)) := (e_162).trans (nI_add 32 i)
        refine lv_iload hx hb dX8_drift_166 (lv_at hl 0 rfl) ?_
        refine lv_if_eq (tgt := 183) hx hb dX8_drift_168 (by decide) (fun _ => ?_) (fun c_ => absurd (by decide) c_)
        refine lv_iload hx hb dX8_drift_183 (lv_at hl 1 rfl) ?_
        refine va_iast hx hb hK hP hD hS 1 0 rfl rfl (vp_in_nI (by omega) (by omega)) dX8_drift_185 (fun H locs hP hD hS => ?_)
        generalize hg_164 : upd g_161 ((nI (32 + i)) : Int32).toNatClampNeg (nI (L_137 - 1)) = g_164 at hP hD
        have hu_164 : g_164 = upd g_161 (32 + i) (nI (L_137 - 1)) := (by rw [← hg_164, nI_clamp (by omega)])
        have hM_164 : okM g_164 w9 k9 h9 := okM_loud hM_161 hg_164 (by omega) (by omega) (by omega)
        have hP : va_P (dC, dI) vwCl [(xo_8_rrriirrriiiiiiirrirrrrri mo m_la m_sz m_it ms mt m_st m_mv m_tp (nI mz) ml (nI mp) mk mv mb mw m_rd m_ac (nI ma) m_as m_wo m_ik m_ke m_tr (nI mx)), (xI m_st cI 38 g_164)] H := hP
        have hD := dto hP hD
        have hX9 := cut2 (wc := [(xo_8_rrriirrriiiiiiirrirrrrri mo m_la m_sz m_it ms mt m_st m_mv m_tp (nI mz) ml (nI mp) mk mv mb mw m_rd m_ac (nI ma) m_as m_wo m_ik m_ke m_tr (nI mx)), (xI m_st cI 38 g_164)]) hP hD [0, 1] (by decide +kernel) rfl
        exact W.vret hx hb hr (fun t ht hW => ⟨⟨(), rfl, trivial, ⟨g_164, va_Ht ht hX9.1, hX9.2, hM_164, (lf_X8_drift_11 hM hi e_2 e_4 h_5 e_6 c_7 hL1_137 hL2_137 hLe_137 f_139_1_0 c_155 hu_158 hu_161 hu_164)⟩⟩, hS.F ht⟩) hS.2.2 dX8_drift_186
      · have c_155 : (L_137 - 1) = 0 := (nI_eq (a := (L_137 - 1)) (b := 0) (by omega) (by omega)).mp c_155
        refine lv_iconst (v := 1) hx hb dX8_drift_104 (by decide) ?_
        refine lv_goto (tgt := 109) hx hb dX8_drift_105 (by decide) ?_
        refine lv_istore (lv' := [(6, .int 1), (5, .int (nI (L_137 - 1))), (4, .int v_6), (3, .int v_2), (0, .ref mo), (1, .int (nI i)), (2, .int n)]) hx hb dX8_drift_109 hl (by decide) rfl (fun ls hl => ?_)
        refine lv_aload_n hx hb dX8_drift_111 rfl (lv_at hl 4 rfl) ?_
        refine va_get (D := (dC, dI)) (ci := 8) (v := .ref m_st) (C := RX8) (T := TX8) (N := 24) hx hb hts i_X8_drift_X8 hown hK hP 0 rfl rfl 5 (by decide) (hts _ mx_X8_drift_1) (fun _ h9 => h9) rfl dX8_drift_112 ?_
        refine lv_bipush (v := 26) hx hb dX8_drift_115 (by decide) ?_
        refine lv_iload_n hx hb dX8_drift_117 rfl (lv_at hl 5 rfl) ?_
        refine lv_iadd hx hb dX8_drift_118 ?_
        refine lv_topi (fun v_165 e_165 => ?_)
        obtain rfl : v_165 = (nI (26 + i)) := (e_165).trans (nI_add 26 i)
        refine lv_iload hx hb dX8_drift_119 (lv_at hl 0 rfl) ?_
        refine lv_if_eq (tgt := 128) hx hb dX8_drift_121 (by decide) (fun c_ => absurd c_ (by decide)) (fun _ => ?_)
        refine lv_iconst (v := 2) hx hb dX8_drift_124 (by decide) ?_
        refine lv_goto (tgt := 129) hx hb dX8_drift_125 (by decide) ?_
        refine va_iast hx hb hK hP hD hS 1 0 rfl rfl (vp_in_nI (by omega) (by omega)) dX8_drift_129 (fun H locs hP hD hS => ?_)
        generalize hg_167 : upd fs ((nI (26 + i)) : Int32).toNatClampNeg 2 = g_167 at hP hD
        have hu_167 : g_167 = upd fs (26 + i) 2 := (by rw [← hg_167, nI_clamp (by omega)])
        have hM_167 : okM g_167 w9 k9 h9 := okM_off (i := (26 + i)) hM hg_167 (by omega) (by omega) (by omega) (by omega) (by omega)
        have hP : va_P (dC, dI) vwCl [(xo_8_rrriirrriiiiiiirrirrrrri mo m_la m_sz m_it ms mt m_st m_mv m_tp (nI mz) ml (nI mp) mk mv mb mw m_rd m_ac (nI ma) m_as m_wo m_ik m_ke m_tr (nI mx)), (xI m_st cI 38 g_167)] H := hP
        have hD := dto hP hD
        refine lv_aload_n hx hb dX8_drift_130 rfl (lv_at hl 4 rfl) ?_
        refine va_get (D := (dC, dI)) (ci := 8) (v := .ref m_st) (C := RX8) (T := TX8) (N := 24) hx hb hts i_X8_drift_X8 hown hK hP 0 rfl rfl 5 (by decide) (hts _ mx_X8_drift_1) (fun _ h9 => h9) rfl dX8_drift_131 ?_
        refine lv_bipush (v := 20) hx hb dX8_drift_134 (by decide) ?_
        refine lv_iload_n hx hb dX8_drift_136 rfl (lv_at hl 5 rfl) ?_
        refine lv_iadd hx hb dX8_drift_137 ?_
        refine lv_topi (fun v_168 e_168 => ?_)
        obtain rfl : v_168 = (nI (20 + i)) := (e_168).trans (nI_add 20 i)
        refine lv_iload hx hb dX8_drift_138 (lv_at hl 0 rfl) ?_
        refine lv_if_eq (tgt := 155) hx hb dX8_drift_140 (by decide) (fun c_ => absurd c_ (by decide)) (fun _ => ?_)
        refine lv_aload_n hx hb dX8_drift_143 rfl (lv_at hl 4 rfl) ?_
        refine va_get (D := (dC, dI)) (ci := 8) (v := .ref m_st) (C := RX8) (T := TX8) (N := 24) hx hb hts i_X8_drift_X8 hown hK hP 0 rfl rfl 5 (by decide) (hts _ mx_X8_drift_1) (fun _ h9 => h9) rfl dX8_drift_144 ?_
        refine lv_bipush (v := 20) hx hb dX8_drift_147 (by decide) ?_
        refine lv_iload_n hx hb dX8_drift_149 rfl (lv_at hl 5 rfl) ?_
        refine lv_iadd hx hb dX8_drift_150 ?_
        refine lv_topi (fun v_170 e_170 => ?_)
        obtain rfl : v_170 = (nI (20 + i)) := (e_170).trans (nI_add 20 i)
        refine va_iald hx hb hK hP 1 0 rfl rfl (vp_in_nI (by omega) (by omega)) dX8_drift_151 ?_
        refine lv_topi (fun v_171 e_171 => ?_)
        have e_171 : v_171 = g_167 (20 + i) := e_171.trans (congrArg g_167 (nI_clamp (by omega)))
        refine lv_goto (tgt := 157) hx hb dX8_drift_152 (by decide) ?_
        refine va_iast hx hb hK hP hD hS 1 0 rfl rfl (vp_in_nI (by omega) (by omega)) dX8_drift_157 (fun H locs hP hD hS => ?_)
        generalize hg_172 : upd g_167 ((nI (20 + i)) : Int32).toNatClampNeg v_171 = g_172 at hP hD
        have hu_172 : g_172 = upd g_167 (20 + i) v_171 := (by rw [← hg_172, nI_clamp (by omega)])
        have hM_172 : okM g_172 w9 k9 h9 := okM_off (i := (20 + i)) hM_167 hg_172 (by omega) (by omega) (by omega) (by omega) (by omega)
        have hP : va_P (dC, dI) vwCl [(xo_8_rrriirrriiiiiiirrirrrrri mo m_la m_sz m_it ms mt m_st m_mv m_tp (nI mz) ml (nI mp) mk mv mb mw m_rd m_ac (nI ma) m_as m_wo m_ik m_ke m_tr (nI mx)), (xI m_st cI 38 g_172)] H := hP
        have hD := dto hP hD
        refine lv_aload_n hx hb dX8_drift_158 rfl (lv_at hl 4 rfl) ?_
        refine va_get (D := (dC, dI)) (ci := 8) (v := .ref m_st) (C := RX8) (T := TX8) (N := 24) hx hb hts i_X8_drift_X8 hown hK hP 0 rfl rfl 5 (by decide) (hts _ mx_X8_drift_1) (fun _ h9 => h9) rfl dX8_drift_159 ?_
        refine lv_bipush (v := 32) hx hb dX8_drift_162 (by decide) ?_
        refine lv_iload_n hx hb dX8_drift_164 rfl (lv_at hl 5 rfl) ?_
        refine lv_iadd hx hb dX8_drift_165 ?_
        refine lv_topi (fun v_173 e_173 => ?_)
        obtain rfl : v_173 = (nI (32 + i)) := (e_173).trans (nI_add 32 i)
        refine lv_iload hx hb dX8_drift_166 (lv_at hl 0 rfl) ?_
        refine lv_if_eq (tgt := 183) hx hb dX8_drift_168 (by decide) (fun c_ => absurd c_ (by decide)) (fun _ => ?_)
        refine lv_aload_n hx hb dX8_drift_171 rfl (lv_at hl 4 rfl) ?_
        refine va_get (D := (dC, dI)) (ci := 8) (v := .ref m_st) (C := RX8) (T := TX8) (N := 24) hx hb hts i_X8_drift_X8 hown hK hP 0 rfl rfl 5 (by decide) (hts _ mx_X8_drift_1) (fun _ h9 => h9) rfl dX8_drift_172 ?_
        refine lv_bipush (v := 32) hx hb dX8_drift_175 (by decide) ?_
        refine lv_iload_n hx hb dX8_drift_177 rfl (lv_at hl 5 rfl) ?_
        refine lv_iadd hx hb dX8_drift_178 ?_
        refine lv_topi (fun v_175 e_175 => ?_)
        obtain rfl : v_175 = (nI (32 + i)) := (e_175).trans (nI_add 32 i)
        refine va_iald hx hb hK hP 1 0 rfl rfl (vp_in_nI (by omega) (by omega)) dX8_drift_179 ?_
        obtain ⟨L_176, hL1_176, hL2_176, hLe_176⟩ := hM_172.2.2.2.2.2.2.2 i (by omega)
        refine lv_topi (fun v_176 e_176 => ?_)
        obtain rfl : v_176 = nI L_176 := e_176.trans (by rw [nI_clamp (by omega)]; exact hLe_176)
        refine lv_goto (tgt := 185) hx hb dX8_drift_180 (by decide) ?_
        refine va_iast hx hb hK hP hD hS 1 0 rfl rfl (vp_in_nI (by omega) (by omega)) dX8_drift_185 (fun H locs hP hD hS => ?_)
        generalize hg_177 : upd g_172 ((nI (32 + i)) : Int32).toNatClampNeg (nI L_176) = g_177 at hP hD
        have hu_177 : g_177 = upd g_172 (32 + i) (nI L_176) := (by rw [← hg_177, nI_clamp (by omega)])
        have hM_177 : okM g_177 w9 k9 h9 := okM_loud hM_172 hg_177 (by omega) (by omega) (by omega)
        have hP : va_P (dC, dI) vwCl [(xo_8_rrriirrriiiiiiirrirrrrri mo m_la m_sz m_it ms mt m_st m_mv m_tp (nI mz) ml (nI mp) mk mv mb mw m_rd m_ac (nI ma) m_as m_wo m_ik m_ke m_tr (nI mx)), (xI m_st cI 38 g_177)] H := hP
        have hD := dto hP hD
        have hX9 := cut2 (wc := [(xo_8_rrriirrriiiiiiirrirrrrri mo m_la m_sz m_it ms mt m_st m_mv m_tp (nI mz) ml (nI mp) mk mv mb mw m_rd m_ac (nI ma) m_as m_wo m_ik m_ke m_tr (nI mx)), (xI m_st cI 38 g_177)]) hP hD [0, 1] (by decide +kernel) rfl
        exact W.vret hx hb hr (fun t ht hW => ⟨⟨(), rfl, trivial, ⟨g_177, va_Ht ht hX9.1, hX9.2, hM_177, (lf_X8_drift_12 hM hi e_2 e_4 h_5 e_6 c_7 hL1_137 hL2_137 hLe_137 f_139_1_0 c_155 hu_167 e_171 hu_172 hL1_176 hL2_176 hLe_176 hu_177)⟩⟩, hS.F ht⟩) hS.2.2 dX8_drift_186
theorem lf_X8_oneHour_1 {fs : Nat → Int32} {w9 : Nat} {k9 : Nat} {h9 : Nat} {r_2 : Int32} {v_3 : Int32} {w_34 : Int32} {w_35 : Nat → Int32} {ii : Nat} {v_71 : Int32} {v_74 : Int32} (hM : okM fs w9 k9 h9) (hw1 : 1 ≤ w9) (hh9 : h9 < 2000000000) (hmW : mW fs = fs (8 + h9 % w9) ∧ (fs 4).toNatClampNeg = k9 ∧ fs 5 = nI h9) (h_2 : r_2 = (fs (8 + h9 % w9))) (e_3 : v_3 = (r_2 - 2)) (hii : ii < k9) (haf_0 : (mHs (mW fs - 2) ii (fs, 0) = (w_35, w_34))) (hMl : okM w_35 w9 k9 h9) (e_71 : v_71 = w_35 (26 + ii)) (c_72 : ¬ (v_71 = 0)) (e_74 : v_74 = w_35 (26 + ii)) (c_75 : ¬ (v_74 = 0)) : mHs (mW fs - 2) (ii + 1) (fs, 0) = (w_35, w_34) := by
  have hn : mW fs - 2 = v_3 := by rw [hmW.1, e_3, h_2]
  rw [hn] at haf_0 ⊢
  first
  | exact oh_1 haf_0 (mSt_n (by rw [← e_71]; assumption))
  | (exfalso; exact c_72 (e_71.trans (e_74.symm.trans c_75)))
  | exact oh_1 haf_0 (mSt_l (by rw [← e_71]; assumption) (by assumption) (Or.inl (by rw [← e_87]; assumption)))
  | exact oh_1 haf_0 (mSt_l (by rw [← e_71]; assumption) (by assumption) (Or.inr (Or.inl (by assumption))))
  | exact oh_1 haf_0 (mSt_l (by rw [← e_71]; assumption) (by assumption) (Or.inr (Or.inr (by assumption))))
  | exact oh_1 haf_0 (mSt_g (by rw [← e_71]; assumption) (by assumption) (by rw [← e_87]; assumption) (by assumption) (by assumption) (by assumption) (by assumption) (by assumption))
theorem lf_X8_oneHour_2 {fs : Nat → Int32} {w9 : Nat} {k9 : Nat} {h9 : Nat} {r_2 : Int32} {v_3 : Int32} {w_34 : Int32} {w_35 : Nat → Int32} {ii : Nat} {v_71 : Int32} {v_74 : Int32} (hM : okM fs w9 k9 h9) (hw1 : 1 ≤ w9) (hh9 : h9 < 2000000000) (hmW : mW fs = fs (8 + h9 % w9) ∧ (fs 4).toNatClampNeg = k9 ∧ fs 5 = nI h9) (h_2 : r_2 = (fs (8 + h9 % w9))) (e_3 : v_3 = (r_2 - 2)) (hii : ii < k9) (haf_0 : (mHs (mW fs - 2) ii (fs, 0) = (w_35, w_34))) (hMl : okM w_35 w9 k9 h9) (e_71 : v_71 = w_35 (26 + ii)) (c_72 : ¬ (v_71 = 0)) (e_74 : v_74 = w_35 (26 + ii)) (c_75 : v_74 = 0) (c_76 : v_3 = 0) : mHs (mW fs - 2) (ii + 1) (fs, 0) = (w_35, w_34) := by
  have hn : mW fs - 2 = v_3 := by rw [hmW.1, e_3, h_2]
  rw [hn] at haf_0 ⊢
  first
  | exact oh_1 haf_0 (mSt_n (by rw [← e_71]; assumption))
  | (exfalso; exact c_72 (e_71.trans (e_74.symm.trans c_75)))
  | exact oh_1 haf_0 (mSt_l (by rw [← e_71]; assumption) (by assumption) (Or.inl (by rw [← e_87]; assumption)))
  | exact oh_1 haf_0 (mSt_l (by rw [← e_71]; assumption) (by assumption) (Or.inr (Or.inl (by assumption))))
  | exact oh_1 haf_0 (mSt_l (by rw [← e_71]; assumption) (by assumption) (Or.inr (Or.inr (by assumption))))
  | exact oh_1 haf_0 (mSt_g (by rw [← e_71]; assumption) (by assumption) (by rw [← e_87]; assumption) (by assumption) (by assumption) (by assumption) (by assumption) (by assumption))
theorem lf_X8_oneHour_3 {fs : Nat → Int32} {w9 : Nat} {k9 : Nat} {h9 : Nat} {r_2 : Int32} {v_3 : Int32} {w_34 : Int32} {w_35 : Nat → Int32} {ii : Nat} {v_71 : Int32} {v_74 : Int32} (hM : okM fs w9 k9 h9) (hw1 : 1 ≤ w9) (hh9 : h9 < 2000000000) (hmW : mW fs = fs (8 + h9 % w9) ∧ (fs 4).toNatClampNeg = k9 ∧ fs 5 = nI h9) (h_2 : r_2 = (fs (8 + h9 % w9))) (e_3 : v_3 = (r_2 - 2)) (hii : ii < k9) (haf_0 : (mHs (mW fs - 2) ii (fs, 0) = (w_35, w_34))) (hMl : okM w_35 w9 k9 h9) (e_71 : v_71 = w_35 (26 + ii)) (c_72 : ¬ (v_71 = 0)) (e_74 : v_74 = w_35 (26 + ii)) (c_75 : v_74 = 0) (c_76 : ¬ (v_3 = 0)) (f_77_0_0 : ¬ amM w_35 ii) : mHs (mW fs - 2) (ii + 1) (fs, 0) = (w_35, w_34) := by
  have hn : mW fs - 2 = v_3 := by rw [hmW.1, e_3, h_2]
  rw [hn] at haf_0 ⊢
  first
  | exact oh_1 haf_0 (mSt_n (by rw [← e_71]; assumption))
  | (exfalso; exact c_72 (e_71.trans (e_74.symm.trans c_75)))
  | exact oh_1 haf_0 (mSt_l (by rw [← e_71]; assumption) (by assumption) (Or.inl (by rw [← e_87]; assumption)))
  | exact oh_1 haf_0 (mSt_l (by rw [← e_71]; assumption) (by assumption) (Or.inr (Or.inl (by assumption))))
  | exact oh_1 haf_0 (mSt_l (by rw [← e_71]; assumption) (by assumption) (Or.inr (Or.inr (by assumption))))
  | exact oh_1 haf_0 (mSt_g (by rw [← e_71]; assumption) (by assumption) (by rw [← e_87]; assumption) (by assumption) (by assumption) (by assumption) (by assumption) (by assumption))
theorem lf_X8_oneHour_4 {fs : Nat → Int32} {w9 : Nat} {k9 : Nat} {h9 : Nat} {r_2 : Int32} {v_3 : Int32} {w_34 : Int32} {w_35 : Nat → Int32} {ii : Nat} {v_71 : Int32} {v_74 : Int32} {g_81 : Nat → Int32} {v_83 : Int32} {v_84 : Int32} (hM : okM fs w9 k9 h9) (hw1 : 1 ≤ w9) (hh9 : h9 < 2000000000) (hmW : mW fs = fs (8 + h9 % w9) ∧ (fs 4).toNatClampNeg = k9 ∧ fs 5 = nI h9) (h_2 : r_2 = (fs (8 + h9 % w9))) (e_3 : v_3 = (r_2 - 2)) (hii : ii < k9) (haf_0 : (mHs (mW fs - 2) ii (fs, 0) = (w_35, w_34))) (hMl : okM w_35 w9 k9 h9) (e_71 : v_71 = w_35 (26 + ii)) (c_72 : ¬ (v_71 = 0)) (e_74 : v_74 = w_35 (26 + ii)) (c_75 : v_74 = 0) (c_76 : ¬ (v_3 = 0)) (f_77_1_0 : amM w_35 ii) (hu_81 : g_81 = upd w_35 (26 + ii) 1) (e_83 : v_83 = g_81 (32 + ii)) (e_84 : v_84 = (w_34 + v_83)) : mHs (mW fs - 2) (ii + 1) (fs, 0) = (g_81, v_84) := by
  have hn : mW fs - 2 = v_3 := by rw [hmW.1, e_3, h_2]
  rw [hn] at haf_0 ⊢
  first
  | exact oh_1 haf_0 (mSt_n (by rw [← e_71]; assumption))
  | (exfalso; exact c_72 (e_71.trans (e_74.symm.trans c_75)))
  | exact oh_1 haf_0 (mSt_l (by rw [← e_71]; assumption) (by assumption) (Or.inl (by rw [← e_87]; assumption)))
  | exact oh_1 haf_0 (mSt_l (by rw [← e_71]; assumption) (by assumption) (Or.inr (Or.inl (by assumption))))
  | exact oh_1 haf_0 (mSt_l (by rw [← e_71]; assumption) (by assumption) (Or.inr (Or.inr (by assumption))))
  | exact oh_1 haf_0 (mSt_g (by rw [← e_71]; assumption) (by assumption) (by rw [← e_87]; assumption) (by assumption) (by assumption) (by assumption) (by assumption) (by assumption))
theorem lf_X8_oneHour_5 {fs : Nat → Int32} {w9 : Nat} {k9 : Nat} {h9 : Nat} {r_2 : Int32} {v_3 : Int32} {w_34 : Int32} {w_35 : Nat → Int32} {ii : Nat} {v_71 : Int32} {fsn_85 : Nat → Int32} {v_87 : Int32} (hM : okM fs w9 k9 h9) (hw1 : 1 ≤ w9) (hh9 : h9 < 2000000000) (hmW : mW fs = fs (8 + h9 % w9) ∧ (fs 4).toNatClampNeg = k9 ∧ fs 5 = nI h9) (h_2 : r_2 = (fs (8 + h9 % w9))) (e_3 : v_3 = (r_2 - 2)) (hii : ii < k9) (haf_0 : (mHs (mW fs - 2) ii (fs, 0) = (w_35, w_34))) (hMl : okM w_35 w9 k9 h9) (e_71 : v_71 = w_35 (26 + ii)) (c_72 : v_71 = 0) (hF_85_0 : okM fsn_85 w9 k9 h9) (hF_85_1 : fsn_85 = mDr w_35 ii v_3) (e_87 : v_87 = fsn_85 (26 + ii)) (c_88 : ¬ (v_87 = 0)) : mHs (mW fs - 2) (ii + 1) (fs, 0) = (fsn_85, w_34) := by
  have hn : mW fs - 2 = v_3 := by rw [hmW.1, e_3, h_2]
  rw [hn] at haf_0 ⊢
  first
  | exact oh_1 haf_0 (mSt_n (by rw [← e_71]; assumption))
  | (exfalso; exact c_72 (e_71.trans (e_74.symm.trans c_75)))
  | exact oh_1 haf_0 (mSt_l (by rw [← e_71]; assumption) (by assumption) (Or.inl (by rw [← e_87]; assumption)))
  | exact oh_1 haf_0 (mSt_l (by rw [← e_71]; assumption) (by assumption) (Or.inr (Or.inl (by assumption))))
  | exact oh_1 haf_0 (mSt_l (by rw [← e_71]; assumption) (by assumption) (Or.inr (Or.inr (by assumption))))
  | exact oh_1 haf_0 (mSt_g (by rw [← e_71]; assumption) (by assumption) (by rw [← e_87]; assumption) (by assumption) (by assumption) (by assumption) (by assumption) (by assumption))
theorem lf_X8_oneHour_6 {fs : Nat → Int32} {w9 : Nat} {k9 : Nat} {h9 : Nat} {r_2 : Int32} {v_3 : Int32} {w_34 : Int32} {w_35 : Nat → Int32} {ii : Nat} {v_71 : Int32} {fsn_85 : Nat → Int32} {v_87 : Int32} (hM : okM fs w9 k9 h9) (hw1 : 1 ≤ w9) (hh9 : h9 < 2000000000) (hmW : mW fs = fs (8 + h9 % w9) ∧ (fs 4).toNatClampNeg = k9 ∧ fs 5 = nI h9) (h_2 : r_2 = (fs (8 + h9 % w9))) (e_3 : v_3 = (r_2 - 2)) (hii : ii < k9) (haf_0 : (mHs (mW fs - 2) ii (fs, 0) = (w_35, w_34))) (hMl : okM w_35 w9 k9 h9) (e_71 : v_71 = w_35 (26 + ii)) (c_72 : v_71 = 0) (hF_85_0 : okM fsn_85 w9 k9 h9) (hF_85_1 : fsn_85 = mDr w_35 ii v_3) (e_87 : v_87 = fsn_85 (26 + ii)) (c_88 : v_87 = 0) (c_89 : v_3 = 0) : mHs (mW fs - 2) (ii + 1) (fs, 0) = (fsn_85, w_34) := by
  have hn : mW fs - 2 = v_3 := by rw [hmW.1, e_3, h_2]
  rw [hn] at haf_0 ⊢
  first
  | exact oh_1 haf_0 (mSt_n (by rw [← e_71]; assumption))
  | (exfalso; exact c_72 (e_71.trans (e_74.symm.trans c_75)))
  | exact oh_1 haf_0 (mSt_l (by rw [← e_71]; assumption) (by assumption) (Or.inl (by rw [← e_87]; assumption)))
  | exact oh_1 haf_0 (mSt_l (by rw [← e_71]; assumption) (by assumption) (Or.inr (Or.inl (by assumption))))
  | exact oh_1 haf_0 (mSt_l (by rw [← e_71]; assumption) (by assumption) (Or.inr (Or.inr (by assumption))))
  | exact oh_1 haf_0 (mSt_g (by rw [← e_71]; assumption) (by assumption) (by rw [← e_87]; assumption) (by assumption) (by assumption) (by assumption) (by assumption) (by assumption))
theorem lf_X8_oneHour_7 {fs : Nat → Int32} {w9 : Nat} {k9 : Nat} {h9 : Nat} {r_2 : Int32} {v_3 : Int32} {w_34 : Int32} {w_35 : Nat → Int32} {ii : Nat} {v_71 : Int32} {fsn_85 : Nat → Int32} {v_87 : Int32} (hM : okM fs w9 k9 h9) (hw1 : 1 ≤ w9) (hh9 : h9 < 2000000000) (hmW : mW fs = fs (8 + h9 % w9) ∧ (fs 4).toNatClampNeg = k9 ∧ fs 5 = nI h9) (h_2 : r_2 = (fs (8 + h9 % w9))) (e_3 : v_3 = (r_2 - 2)) (hii : ii < k9) (haf_0 : (mHs (mW fs - 2) ii (fs, 0) = (w_35, w_34))) (hMl : okM w_35 w9 k9 h9) (e_71 : v_71 = w_35 (26 + ii)) (c_72 : v_71 = 0) (hF_85_0 : okM fsn_85 w9 k9 h9) (hF_85_1 : fsn_85 = mDr w_35 ii v_3) (e_87 : v_87 = fsn_85 (26 + ii)) (c_88 : v_87 = 0) (c_89 : ¬ (v_3 = 0)) (f_90_0_0 : ¬ amM fsn_85 ii) : mHs (mW fs - 2) (ii + 1) (fs, 0) = (fsn_85, w_34) := by
  have hn : mW fs - 2 = v_3 := by rw [hmW.1, e_3, h_2]
  rw [hn] at haf_0 ⊢
  first
  | exact oh_1 haf_0 (mSt_n (by rw [← e_71]; assumption))
  | (exfalso; exact c_72 (e_71.trans (e_74.symm.trans c_75)))
  | exact oh_1 haf_0 (mSt_l (by rw [← e_71]; assumption) (by assumption) (Or.inl (by rw [← e_87]; assumption)))
  | exact oh_1 haf_0 (mSt_l (by rw [← e_71]; assumption) (by assumption) (Or.inr (Or.inl (by assumption))))
  | exact oh_1 haf_0 (mSt_l (by rw [← e_71]; assumption) (by assumption) (Or.inr (Or.inr (by assumption))))
  | exact oh_1 haf_0 (mSt_g (by rw [← e_71]; assumption) (by assumption) (by rw [← e_87]; assumption) (by assumption) (by assumption) (by assumption) (by assumption) (by assumption))
theorem lf_X8_oneHour_8 {fs : Nat → Int32} {w9 : Nat} {k9 : Nat} {h9 : Nat} {r_2 : Int32} {v_3 : Int32} {w_34 : Int32} {w_35 : Nat → Int32} {ii : Nat} {v_71 : Int32} {fsn_85 : Nat → Int32} {v_87 : Int32} {g_94 : Nat → Int32} {v_96 : Int32} {v_97 : Int32} (hM : okM fs w9 k9 h9) (hw1 : 1 ≤ w9) (hh9 : h9 < 2000000000) (hmW : mW fs = fs (8 + h9 % w9) ∧ (fs 4).toNatClampNeg = k9 ∧ fs 5 = nI h9) (h_2 : r_2 = (fs (8 + h9 % w9))) (e_3 : v_3 = (r_2 - 2)) (hii : ii < k9) (haf_0 : (mHs (mW fs - 2) ii (fs, 0) = (w_35, w_34))) (hMl : okM w_35 w9 k9 h9) (e_71 : v_71 = w_35 (26 + ii)) (c_72 : v_71 = 0) (hF_85_0 : okM fsn_85 w9 k9 h9) (hF_85_1 : fsn_85 = mDr w_35 ii v_3) (e_87 : v_87 = fsn_85 (26 + ii)) (c_88 : v_87 = 0) (c_89 : ¬ (v_3 = 0)) (f_90_1_0 : amM fsn_85 ii) (hu_94 : g_94 = upd fsn_85 (26 + ii) 1) (e_96 : v_96 = g_94 (32 + ii)) (e_97 : v_97 = (w_34 + v_96)) : mHs (mW fs - 2) (ii + 1) (fs, 0) = (g_94, v_97) := by
  have hn : mW fs - 2 = v_3 := by rw [hmW.1, e_3, h_2]
  rw [hn] at haf_0 ⊢
  first
  | exact oh_1 haf_0 (mSt_n (by rw [← e_71]; assumption))
  | (exfalso; exact c_72 (e_71.trans (e_74.symm.trans c_75)))
  | exact oh_1 haf_0 (mSt_l (by rw [← e_71]; assumption) (by assumption) (Or.inl (by rw [← e_87]; assumption)))
  | exact oh_1 haf_0 (mSt_l (by rw [← e_71]; assumption) (by assumption) (Or.inr (Or.inl (by assumption))))
  | exact oh_1 haf_0 (mSt_l (by rw [← e_71]; assumption) (by assumption) (Or.inr (Or.inr (by assumption))))
  | exact oh_1 haf_0 (mSt_g (by rw [← e_71]; assumption) (by assumption) (by rw [← e_87]; assumption) (by assumption) (by assumption) (by assumption) (by assumption) (by assumption))
theorem lf_X8_oneHour_9 {fs : Nat → Int32} {w9 : Nat} {k9 : Nat} {h9 : Nat} {r_2 : Int32} {v_3 : Int32} {w_34 : Int32} {w_35 : Nat → Int32} {v_100 : Int32} {v_101 : Int32} {v_103 : Int32} {v_104 : Int32} {g_105 : Nat → Int32} {g_108 : Nat → Int32} (hM : okM fs w9 k9 h9) (hw1 : 1 ≤ w9) (hh9 : h9 < 2000000000) (hmW : mW fs = fs (8 + h9 % w9) ∧ (fs 4).toNatClampNeg = k9 ∧ fs 5 = nI h9) (h_2 : r_2 = (fs (8 + h9 % w9))) (e_3 : v_3 = (r_2 - 2)) (haf_0 : (mHs (mW fs - 2) k9 (fs, 0) = (w_35, w_34))) (hMl : okM w_35 w9 k9 h9) (e_100 : v_100 = w_35 7) (e_101 : v_101 = (v_100 + w_34)) (c_102 : v_101 ≤ 999) (e_103 : v_103 = w_35 7) (e_104 : v_104 = (v_103 + w_34)) (hu_105 : g_105 = upd w_35 7 v_104) (hu_108 : g_108 = upd g_105 5 (nI (h9 + 1))) : g_108 = mH fs := by
  subst_vars
  first
  | exact oh_e1 hmW.2.1 haf_0 hMl.2.2.1 (by assumption)
  | exact oh_e2 hmW.2.1 haf_0 hMl.2.2.1 (by assumption)
theorem lf_X8_oneHour_10 {fs : Nat → Int32} {w9 : Nat} {k9 : Nat} {h9 : Nat} {r_2 : Int32} {v_3 : Int32} {w_34 : Int32} {w_35 : Nat → Int32} {v_100 : Int32} {v_101 : Int32} {g_109 : Nat → Int32} {g_112 : Nat → Int32} (hM : okM fs w9 k9 h9) (hw1 : 1 ≤ w9) (hh9 : h9 < 2000000000) (hmW : mW fs = fs (8 + h9 % w9) ∧ (fs 4).toNatClampNeg = k9 ∧ fs 5 = nI h9) (h_2 : r_2 = (fs (8 + h9 % w9))) (e_3 : v_3 = (r_2 - 2)) (haf_0 : (mHs (mW fs - 2) k9 (fs, 0) = (w_35, w_34))) (hMl : okM w_35 w9 k9 h9) (e_100 : v_100 = w_35 7) (e_101 : v_101 = (v_100 + w_34)) (c_102 : ¬ (v_101 ≤ 999)) (hu_109 : g_109 = upd w_35 7 999) (hu_112 : g_112 = upd g_109 5 (nI (h9 + 1))) : g_112 = mH fs := by
  subst_vars
  first
  | exact oh_e1 hmW.2.1 haf_0 hMl.2.2.1 (by assumption)
  | exact oh_e2 hmW.2.1 haf_0 hMl.2.2.1 (by assumption)
set_option maxHeartbeats 4000000 in
set_option maxRecDepth 100000 in
theorem r_X8_oneHour (l : Launch) (dC : Nat → ClassId) (dI : Nat → Nat → Nat) (cI cZ cL cJ : ClassId) (sz : Nat) (mo : Nat) (m_la : Nat) (m_sz : Nat) (m_it : Nat) (m_st : Nat) (m_mv : Nat) (m_tp : Nat) (m_rd : Nat) (m_ac : Nat) (m_as : Nat) (m_wo : Nat) (m_ik : Nat) (m_ke : Nat) (m_tr : Nat) (ms : Int32) (mt : Int32) (ml : Int32) (mk : Int32) (mv : Int32) (mb : Int32) (mw : Int32) (mz : Nat) (mp : Nat) (ma : Nat) (mx : Nat) (fs : Nat → Int32) (w9 : Nat) (k9 : Nat) (h9 : Nat) (hM : okM fs w9 k9 h9) (hw1 : 1 ≤ w9) (hh9 : h9 < 2000000000) : Met l yX8_oneHour wsX8_oneHour ({ frames := 3, cells := 0, slots := 0, locals := 72 }) (va_Pc [.ref mo] (fun U => U.heap.size = sz ∧ va_P (dC, dI) vwCl [(xo_8_rrriirrriiiiiiirrirrrrri mo m_la m_sz m_it ms mt m_st m_mv m_tp (nI mz) ml (nI mp) mk mv mb mw m_rd m_ac (nI ma) m_as m_wo m_ik m_ke m_tr (nI mx)), (xI m_st cI 38 fs)] U.heap ∧ va_K (dC, dI) vwCl [(cI, .int), (cZ, .boolean), (cL, .object RX3), (cJ, .array .int)] U ∧ va_D (fun _ => True) [(xo_8_rrriirrriiiiiiirrirrrrri mo m_la m_sz m_it ms mt m_st m_mv m_tp (nI mz) ml (nI mp) mk mv mb mw m_rd m_ac (nI ma) m_as m_wo m_ik m_ke m_tr (nI mx)), (xI m_st cI 38 fs)])) (va_Qi (fun r (_ : Unit) => True) (fun (_ : Unit) t => ∃ (fsn : Nat → Int32), va_P (dC, dI) vwCl [(xo_8_rrriirrriiiiiiirrirrrrri mo m_la m_sz m_it ms mt m_st m_mv m_tp (nI mz) ml (nI mp) mk mv mb mw m_rd m_ac (nI ma) m_as m_wo m_ik m_ke m_tr (nI mx)), (xI m_st cI 38 fsn)] t.heap ∧ va_D (va_A [(xo_8_rrriirrriiiiiiirrirrrrri mo m_la m_sz m_it ms mt m_st m_mv m_tp (nI mz) ml (nI mp) mk mv mb mw m_rd m_ac (nI ma) m_as m_wo m_ik m_ke m_tr (nI mx)), (xI m_st cI 38 fs)] sz) [(xo_8_rrriirrriiiiiiirrirrrrri mo m_la m_sz m_it ms mt m_st m_mv m_tp (nI mz) ml (nI mp) mk mv mb mw m_rd m_ac (nI ma) m_as m_wo m_ik m_ke m_tr (nI mx)), (xI m_st cI 38 fsn)] ∧ okM fsn w9 k9 (h9 + 1) ∧ fsn = mH fs) (va_A [(xo_8_rrriirrriiiiiiirrirrrrri mo m_la m_sz m_it ms mt m_st m_mv m_tp (nI mz) ml (nI mp) mk mv mb mw m_rd m_ac (nI ma) m_as m_wo m_ik m_ke m_tr (nI mx)), (xI m_st cI 38 fs)] sz)) 0 0 (va_A [(xo_8_rrriirrriiiiiiirrirrrrri mo m_la m_sz m_it ms mt m_st m_mv m_tp (nI mz) ml (nI mp) mk mv mb mw m_rd m_ac (nI ma) m_as m_wo m_ik m_ke m_tr (nI mx)), (xI m_st cI 38 fs)] sz) := by
  refine Met.ofW (cc := cX8_oneHour) (maxL := 4) (ret := (some .int)) (by decide) rfl ?_
  intro p e s m args below meth c s₁ B hml hv
  obtain ⟨rfl, hsz, hP, hK, hD0⟩ := hv
  have hx := B.exec
  have hb := B.bytes
  have hr := B.returns
  have hts := atoms_spec (ws := wsX8_oneHour) B.pre
  have hown : s.vm.findClass RX8 = some m.cls := findClass_of_methodNamed B.named
  have hlocks := B.notSynchronized
  subst hsz
  have hD := hD0.self (sz := s.heap.size)
  generalize hAe : va_A [(xo_8_rrriirrriiiiiiirrirrrrri mo m_la m_sz m_it ms mt m_st m_mv m_tp (nI mz) ml (nI mp) mk mv mb mw m_rd m_ac (nI ma) m_as m_wo m_ik m_ke m_tr (nI mx)), (xI m_st cI 38 fs)] s.heap.size = A at hD ⊢
  have hA : ∀ q : Nat, s.heap.size ≤ q → A q := fun q h => by rw [← hAe]; exact Or.inr h
  have hS : va_S A s.heap s.heap [] := va_S.rf
  have hP : va_P (dC, dI) vwCl [(xo_8_rrriirrriiiiiiirrirrrrri mo m_la m_sz m_it ms mt m_st m_mv m_tp (nI mz) ml (nI mp) mk mv mb mw m_rd m_ac (nI ma) m_as m_wo m_ik m_ke m_tr (nI mx)), (xI m_st cI 38 fs)] s.heap := hP
  have hl := lv_entry ([.ref mo]) (n := 4) (Nat.le_of_ble_eq_true rfl)
  rw [lg_entry_eq]
  generalize (lg_sl ([.ref mo]) ++ List.replicate (4 - (lg_sl ([.ref mo])).length) Slot.unset).toArray = ls at hl ⊢
  have hl : lv_has ls 4 [(0, .ref mo)] := hl
  have hk6 := hM.2.2.2.2.1
  have hw6 := hM.2.2.2.1
  have hmW := mW_M hM (by omega)
  refine lv_aload_n hx hb dX8_oneHour_0 rfl (lv_at hl 0 rfl) ?_
  refine lv_aload_n hx hb dX8_oneHour_1 rfl (lv_at hl 0 rfl) ?_
  refine va_get (D := (dC, dI)) (ci := 8) (v := .ref m_st) (C := RX8) (T := TX8) (N := 24) hx hb hts i_X8_oneHour_X8 hown hK hP 0 rfl rfl 5 (by decide) (hts _ mx_X8_oneHour_1) (fun _ h9 => h9) rfl dX8_oneHour_2 ?_
  refine lv_iconst (v := 5) hx hb dX8_oneHour_5 (by decide) ?_
  refine va_iald hx hb hK hP 1 0 rfl rfl (by unfold vp_in; decide) dX8_oneHour_6 ?_
  refine lv_topi (fun v_1 e_1 => ?_)
  obtain rfl : v_1 = (nI h9) := (e_1).trans hM.2.2.1
  have hPc_2 := hP
  refine vp_callSi (W.runV (As := [.int (nI h9)]) (rest := []) ⟨hx, hb, hml, hown, hts⟩ (r_X8_gustOf l dC dI cI cZ cL cJ mo m_la m_sz m_it m_st m_mv m_tp m_rd m_ac m_as m_wo m_ik m_ke m_tr ms mt ml mk mv mb mw mz mp ma mx fs w9 k9 h9 h9 (hM) (by omega) (by omega)) (cwV 1 hts gX8_oneHour_X8_gustOf rfl rfl rfl (by decide +kernel) ⟨Nat.le_of_ble_eq_true rfl, Nat.le_of_ble_eq_true rfl⟩) (pvP 8 0 hK hP rfl rfl hPc_2) rfl rfl hl.1 rfl (lv_room (Nat.le_of_ble_eq_true rfl)) dX8_oneHour_7 ⟨Nat.le_of_ble_eq_true rfl, Nat.le_of_ble_eq_true rfl⟩) (fun r_2 h_2 => ?_)
  refine lv_iconst (v := 2) hx hb dX8_oneHour_10 (by decide) ?_
  refine lv_isub hx hb dX8_oneHour_11 ?_
  refine lv_topi (fun v_3 e_3 => ?_)
  refine lv_istore_n (lv' := [(1, .int v_3), (0, .ref mo)]) hx hb dX8_oneHour_12 rfl hl (by decide) rfl (fun ls hl => ?_)
  refine lv_iconst (v := 0) hx hb dX8_oneHour_13 (by decide) ?_
  refine lv_istore_n (lv' := [(2, .int 0), (1, .int v_3), (0, .ref mo)]) hx hb dX8_oneHour_14 rfl hl (by decide) rfl (fun ls hl => ?_)
  refine lv_iconst (v := 0) hx hb dX8_oneHour_15 (by decide) ?_
  refine lv_istore_n (lv' := [(3, .int 0), (2, .int 0), (1, .int v_3), (0, .ref mo)]) hx hb dX8_oneHour_16 rfl hl (by decide) rfl (fun ls hl => ?_)
  refine lp_go (σ := (Int32) × (Nat → Int32)) (fun ii (st : (Int32) × (Nat → Int32)) H locs ls => match st with | (w_34, w_35) => lv_has ls 4 [(3, .int (nI ii)), (2, .int w_34), (1, .int v_3), (0, .ref mo)] ∧ va_P (dC, dI) vwCl [(xo_8_rrriirrriiiiiiirrirrrrri mo m_la m_sz m_it ms mt m_st m_mv m_tp (nI mz) ml (nI mp) mk mv mb mw m_rd m_ac (nI ma) m_as m_wo m_ik m_ke m_tr (nI mx)), (xI m_st cI 38 w_35)] H ∧ va_D A [(xo_8_rrriirrriiiiiiirrirrrrri mo m_la m_sz m_it ms mt m_st m_mv m_tp (nI mz) ml (nI mp) mk mv mb mw m_rd m_ac (nI ma) m_as m_wo m_ik m_ke m_tr (nI mx)), (xI m_st cI 38 w_35)] ∧ va_S A s.heap H locs ∧ okM w_35 w9 k9 h9 ∧ (mHs (mW fs - 2) ii (fs, 0) = (w_35, w_34))) k9 ?_ ?_ 0 (by omega) (0, fs) ⟨lv_sub hl [0, 1, 2, 3] rfl, hP.sub (ws' := [(xo_8_rrriirrriiiiiiirrirrrrri mo m_la m_sz m_it ms mt m_st m_mv m_tp (nI mz) ml (nI mp) mk mv mb mw m_rd m_ac (nI ma) m_as m_wo m_ik m_ke m_tr (nI mx)), (xI m_st cI 38 fs)]) [0, 1] rfl, hD.sub (ws' := [(xo_8_rrriirrriiiiiiirrirrrrri mo m_la m_sz m_it ms mt m_st m_mv m_tp (nI mz) ml (nI mp) mk mv mb mw m_rd m_ac (nI ma) m_as m_wo m_ik m_ke m_tr (nI mx)), (xI m_st cI 38 fs)]) [0, 1] (by decide +kernel) rfl, hS, hM, rfl⟩
  · rintro ii ⟨w_34, w_35⟩ H locs ls hii ⟨hl, hP, hD, hS, hMl, haf_0⟩ ih
    refine lv_iload_n hx hb dX8_oneHour_17 rfl (lv_at hl 0 rfl) ?_
    refine lv_aload_n hx hb dX8_oneHour_18 rfl (lv_at hl 3 rfl) ?_
    refine va_get (D := (dC, dI)) (ci := 8) (v := .ref m_st) (C := RX8) (T := TX8) (N := 24) hx hb hts i_X8_oneHour_X8 hown hK hP 0 rfl rfl 5 (by decide) (hts _ mx_X8_oneHour_1) (fun _ h9 => h9) rfl dX8_oneHour_19 ?_
    refine lv_iconst (v := 4) hx hb dX8_oneHour_22 (by decide) ?_
    refine va_iald hx hb hK hP 1 0 rfl rfl (by unfold vp_in; decide) dX8_oneHour_23 ?_
    refine lv_topi (fun v_68 e_68 => ?_)
    obtain rfl : v_68 = (nI k9) := (e_68).trans hMl.2.1
    refine lv_icmp_ge (tgt := 97) hx hb dX8_oneHour_24 (by decide) (fun c_ => absurd c_ (fun q_ => absurd ((nI_leI (a := k9) (b := ii) (by omega) (by omega)).mp q_) (by omega))) (fun _ => ?_)
    refine lv_aload_n hx hb dX8_oneHour_27 rfl (lv_at hl 3 rfl) ?_
    refine va_get (D := (dC, dI)) (ci := 8) (v := .ref m_st) (C := RX8) (T := TX8) (N := 24) hx hb hts i_X8_oneHour_X8 hown hK hP 0 rfl rfl 5 (by decide) (hts _ mx_X8_oneHour_1) (fun _ h9 => h9) rfl dX8_oneHour_28 ?_
    refine lv_bipush (v := 26) hx hb dX8_oneHour_31 (by decide) ?_
    refine lv_iload_n hx hb dX8_oneHour_33 rfl (lv_at hl 0 rfl) ?_
    refine lv_iadd hx hb dX8_oneHour_34 ?_
    refine lv_topi (fun v_70 e_70 => ?_)
    obtain rfl : v_70 = (nI (26 + ii)) := (e_70).trans (nI_add 26 ii)
    refine va_iald hx hb hK hP 1 0 rfl rfl (vp_in_nI (by omega) (by omega)) dX8_oneHour_35 ?_
    refine lv_topi (fun v_71 e_71 => ?_)
    have e_71 : v_71 = w_35 (26 + ii) := e_71.trans (congrArg w_35 (nI_clamp (by omega)))
    refine lv_if_ne (tgt := 45) hx hb dX8_oneHour_36 (by decide) (fun c_72 => ?_) (fun c_72 => ?_)
    · skip
      refine lv_aload_n hx hb dX8_oneHour_45 rfl (lv_at hl 3 rfl) ?_
      refine va_get (D := (dC, dI)) (ci := 8) (v := .ref m_st) (C := RX8) (T := TX8) (N := 24) hx hb hts i_X8_oneHour_X8 hown hK hP 0 rfl rfl 5 (by decide) (hts _ mx_X8_oneHour_1) (fun _ h9 => h9) rfl dX8_oneHour_46 ?_
      refine lv_bipush (v := 26) hx hb dX8_oneHour_49 (by decide) ?_
      refine lv_iload_n hx hb dX8_oneHour_51 rfl (lv_at hl 0 rfl) ?_
      refine lv_iadd hx hb dX8_oneHour_52 ?_
      refine lv_topi (fun v_73 e_73 => ?_)
      obtain rfl : v_73 = (nI (26 + ii)) := (e_73).trans (nI_add 26 ii)
      refine va_iald hx hb hK hP 1 0 rfl rfl (vp_in_nI (by omega) (by omega)) dX8_oneHour_53 ?_
      refine lv_topi (fun v_74 e_74 => ?_)
      have e_74 : v_74 = w_35 (26 + ii) := e_74.trans (congrArg w_35 (nI_clamp (by omega)))
      refine lv_if_ne (tgt := 91) hx hb dX8_oneHour_54 (by decide) (fun c_75 => ?_) (fun c_75 => ?_)
      · skip
        refine lv_iinc (v := (nI (ii + 1))) (lv' := [(3, .int (nI (ii + 1))), (2, .int w_34), (1, .int v_3), (0, .ref mo)]) hx hb dX8_oneHour_91 hl (k := 0) rfl (nI_add ii 1) (by decide) rfl (fun ls hl => ?_)
        refine lv_goto (tgt := 17) hx hb dX8_oneHour_94 (by decide) ?_
        exact ih (w_34, w_35) _ _ _ ⟨lv_sub hl [0, 1, 2, 3] rfl, hP.sub (ws' := [(xo_8_rrriirrriiiiiiirrirrrrri mo m_la m_sz m_it ms mt m_st m_mv m_tp (nI mz) ml (nI mp) mk mv mb mw m_rd m_ac (nI ma) m_as m_wo m_ik m_ke m_tr (nI mx)), (xI m_st cI 38 w_35)]) [0, 1] rfl, hD.sub (ws' := [(xo_8_rrriirrriiiiiiirrirrrrri mo m_la m_sz m_it ms mt m_st m_mv m_tp (nI mz) ml (nI mp) mk mv mb mw m_rd m_ac (nI ma) m_as m_wo m_ik m_ke m_tr (nI mx)), (xI m_st cI 38 w_35)]) [0, 1] (by decide +kernel) rfl, hS, hMl, (lf_X8_oneHour_1 hM hw1 hh9 hmW h_2 e_3 hii haf_0 hMl e_71 c_72 e_74 c_75)⟩
      · skip
        refine lv_iload_n hx hb dX8_oneHour_57 rfl (lv_at hl 2 rfl) ?_
        refine lv_if_eq (tgt := 91) hx hb dX8_oneHour_58 (by decide) (fun c_76 => ?_) (fun c_76 => ?_)
        · skip
          refine lv_iinc (v := (nI (ii + 1))) (lv' := [(3, .int (nI (ii + 1))), (2, .int w_34), (1, .int v_3), (0, .ref mo)]) hx hb dX8_oneHour_91 hl (k := 0) rfl (nI_add ii 1) (by decide) rfl (fun ls hl => ?_)
          refine lv_goto (tgt := 17) hx hb dX8_oneHour_94 (by decide) ?_
          exact ih (w_34, w_35) _ _ _ ⟨lv_sub hl [0, 1, 2, 3] rfl, hP.sub (ws' := [(xo_8_rrriirrriiiiiiirrirrrrri mo m_la m_sz m_it ms mt m_st m_mv m_tp (nI mz) ml (nI mp) mk mv mb mw m_rd m_ac (nI ma) m_as m_wo m_ik m_ke m_tr (nI mx)), (xI m_st cI 38 w_35)]) [0, 1] rfl, hD.sub (ws' := [(xo_8_rrriirrriiiiiiirrirrrrri mo m_la m_sz m_it ms mt m_st m_mv m_tp (nI mz) ml (nI mp) mk mv mb mw m_rd m_ac (nI ma) m_as m_wo m_ik m_ke m_tr (nI mx)), (xI m_st cI 38 w_35)]) [0, 1] (by decide +kernel) rfl, hS, hMl, (lf_X8_oneHour_2 hM hw1 hh9 hmW h_2 e_3 hii haf_0 hMl e_71 c_72 e_74 c_75 c_76)⟩
        · skip
          refine lv_aload_n hx hb dX8_oneHour_61 rfl (lv_at hl 3 rfl) ?_
          refine lv_iload_n hx hb dX8_oneHour_62 rfl (lv_at hl 0 rfl) ?_
          have hPc_77 := hP
          refine vp_callSi (W.runV (As := [.int (nI ii)]) (rest := []) ⟨hx, hb, hml, hown, hts⟩ (r_X8_isAtMill l dC dI cI cZ cL cJ mo m_la m_sz m_it m_st m_mv m_tp m_rd m_ac m_as m_wo m_ik m_ke m_tr ms mt ml mk mv mb mw mz mp ma mx w_35 w9 k9 h9 ii (hMl) (by omega)) (cwV 1 hts gX8_oneHour_X8_isAtMill rfl rfl rfl (by decide +kernel) ⟨Nat.le_of_ble_eq_true rfl, Nat.le_of_ble_eq_true rfl⟩) (pvP 8 0 hK hP rfl rfl hPc_77) rfl rfl hl.1 rfl (lv_room (Nat.le_of_ble_eq_true rfl)) dX8_oneHour_63 ⟨Nat.le_of_ble_eq_true rfl, Nat.le_of_ble_eq_true rfl⟩) (fun r_77 h_77 => ?_)
          rcases h_77 with ⟨h_77, f_77_0_0⟩ | ⟨h_77, f_77_1_0⟩
          · subst h_77
            refine lv_if_eq (tgt := 91) hx hb dX8_oneHour_66 (by decide) (fun _ => ?_) (fun c_ => absurd (by decide) c_)
            refine lv_iinc (v := (nI (ii + 1))) (lv' := [(3, .int (nI (ii + 1))), (2, .int w_34), (1, .int v_3), (0, .ref mo)]) hx hb dX8_oneHour_91 hl (k := 0) rfl (nI_add ii 1) (by decide) rfl (fun ls hl => ?_)
            refine lv_goto (tgt := 17) hx hb dX8_oneHour_94 (by decide) ?_
            exact ih (w_34, w_35) _ _ _ ⟨lv_sub hl [0, 1, 2, 3] rfl, hP.sub (ws' := [(xo_8_rrriirrriiiiiiirrirrrrri mo m_la m_sz m_it ms mt m_st m_mv m_tp (nI mz) ml (nI mp) mk mv mb mw m_rd m_ac (nI ma) m_as m_wo m_ik m_ke m_tr (nI mx)), (xI m_st cI 38 w_35)]) [0, 1] rfl, hD.sub (ws' := [(xo_8_rrriirrriiiiiiirrirrrrri mo m_la m_sz m_it ms mt m_st m_mv m_tp (nI mz) ml (nI mp) mk mv mb mw m_rd m_ac (nI ma) m_as m_wo m_ik m_ke m_tr (nI mx)), (xI m_st cI 38 w_35)]) [0, 1] (by decide +kernel) rfl, hS, hMl, (lf_X8_oneHour_3 hM hw1 hh9 hmW h_2 e_3 hii haf_0 hMl e_71 c_72 e_74 c_75 c_76 f_77_0_0)⟩
          · subst h_77
            refine lv_if_eq (tgt := 91) hx hb dX8_oneHour_66 (by decide) (fun c_ => absurd c_ (by decide)) (fun _ => ?_)
            refine lv_aload_n hx hb dX8_oneHour_69 rfl (lv_at hl 3 rfl) ?_
            refine va_get (D := (dC, dI)) (ci := 8) (v := .ref m_st) (C := RX8) (T := TX8) (N := 24) hx hb hts i_X8_oneHour_X8 hown hK hP 0 rfl rfl 5 (by decide) (hts _ mx_X8_oneHour_1) (fun _ h9 => h9) rfl dX8_oneHour_70 ?_
            refine lv_bipush (v := 26) hx hb dX8_oneHour_73 (by decide) ?_
            refine lv_iload_n hx hb dX8_oneHour_75 rfl (lv_at hl 0 rfl) ?_
            refine lv_iadd hx hb dX8_oneHour_76 ?_
            refine lv_topi (fun v_80 e_80 => ?_)
            obtain rfl : v_80 = (nI (26 + ii)) := (e_80).trans (nI_add 26 ii)
            refine lv_iconst (v := 1) hx hb dX8_oneHour_77 (by decide) ?_
            refine va_iast hx hb hK hP hD hS 1 0 rfl rfl (vp_in_nI (by omega) (by omega)) dX8_oneHour_78 (fun H locs hP hD hS => ?_)
            generalize hg_81 : upd w_35 ((nI (26 + ii)) : Int32).toNatClampNeg 1 = g_81 at hP hD
            have hu_81 : g_81 = upd w_35 (26 + ii) 1 := (by rw [← hg_81, nI_clamp (by omega)])
            have hM_81 : okM g_81 w9 k9 h9 := okM_off (i := (26 + ii)) hMl hg_81 (by omega) (by omega) (by omega) (by omega) (by omega)
            have hP : va_P (dC, dI) vwCl [(xo_8_rrriirrriiiiiiirrirrrrri mo m_la m_sz m_it ms mt m_st m_mv m_tp (nI mz) ml (nI mp) mk mv mb mw m_rd m_ac (nI ma) m_as m_wo m_ik m_ke m_tr (nI mx)), (xI m_st cI 38 g_81)] H := hP
            have hD := dto hP hD
            refine lv_iload_n hx hb dX8_oneHour_79 rfl (lv_at hl 1 rfl) ?_
            refine lv_aload_n hx hb dX8_oneHour_80 rfl (lv_at hl 3 rfl) ?_
            refine va_get (D := (dC, dI)) (ci := 8) (v := .ref m_st) (C := RX8) (T := TX8) (N := 24) hx hb hts i_X8_oneHour_X8 hown hK hP 0 rfl rfl 5 (by decide) (hts _ mx_X8_oneHour_1) (fun _ h9 => h9) rfl dX8_oneHour_81 ?_
            refine lv_bipush (v := 32) hx hb dX8_oneHour_84 (by decide) ?_
            refine lv_iload_n hx hb dX8_oneHour_86 rfl (lv_at hl 0 rfl) ?_
            refine lv_iadd hx hb dX8_oneHour_87 ?_
            refine lv_topi (fun v_82 e_82 => ?_)
            obtain rfl : v_82 = (nI (32 + ii)) := (e_82).trans (nI_add 32 ii)
            refine va_iald hx hb hK hP 1 0 rfl rfl (vp_in_nI (by omega) (by omega)) dX8_oneHour_88 ?_
            refine lv_topi (fun v_83 e_83 => ?_)
            have e_83 : v_83 = g_81 (32 + ii) := e_83.trans (congrArg g_81 (nI_clamp (by omega)))
            refine lv_iadd hx hb dX8_oneHour_89 ?_
            refine lv_topi (fun v_84 e_84 => ?_)
            refine lv_istore_n (lv' := [(2, .int v_84), (3, .int (nI ii)), (1, .int v_3), (0, .ref mo)]) hx hb dX8_oneHour_90 rfl hl (by decide) rfl (fun ls hl => ?_)
            refine lv_iinc (v := (nI (ii + 1))) (lv' := [(3, .int (nI (ii + 1))), (2, .int v_84), (1, .int v_3), (0, .ref mo)]) hx hb dX8_oneHour_91 hl (k := 1) rfl (nI_add ii 1) (by decide) rfl (fun ls hl => ?_)
            refine lv_goto (tgt := 17) hx hb dX8_oneHour_94 (by decide) ?_
            exact ih (v_84, g_81) _ _ _ ⟨lv_sub hl [0, 1, 2, 3] rfl, hP.sub (ws' := [(xo_8_rrriirrriiiiiiirrirrrrri mo m_la m_sz m_it ms mt m_st m_mv m_tp (nI mz) ml (nI mp) mk mv mb mw m_rd m_ac (nI ma) m_as m_wo m_ik m_ke m_tr (nI mx)), (xI m_st cI 38 g_81)]) [0, 1] rfl, hD.sub (ws' := [(xo_8_rrriirrriiiiiiirrirrrrri mo m_la m_sz m_it ms mt m_st m_mv m_tp (nI mz) ml (nI mp) mk mv mb mw m_rd m_ac (nI ma) m_as m_wo m_ik m_ke m_tr (nI mx)), (xI m_st cI 38 g_81)]) [0, 1] (by decide +kernel) rfl, hS, hM_81, (lf_X8_oneHour_4 hM hw1 hh9 hmW h_2 e_3 hii haf_0 hMl e_71 c_72 e_74 c_75 c_76 f_77_1_0 hu_81 e_83 e_84)⟩
    · skip
      refine lv_aload_n hx hb dX8_oneHour_39 rfl (lv_at hl 3 rfl) ?_
      refine lv_iload_n hx hb dX8_oneHour_40 rfl (lv_at hl 0 rfl) ?_
      refine lv_iload_n hx hb dX8_oneHour_41 rfl (lv_at hl 2 rfl) ?_
      have hc_85 := cutW (wc := [(xo_8_rrriirrriiiiiiirrirrrrri mo m_la m_sz m_it ms mt m_st m_mv m_tp (nI mz) ml (nI mp) mk mv mb mw m_rd m_ac (nI ma) m_as m_wo m_ik m_ke m_tr (nI mx)), (xI m_st cI 38 w_35)]) hP hD hS hA [0, 1] (by decide +kernel) rfl
      refine va_callv (va_runV (As := [.int (nI ii), .int v_3]) (rest := []) ⟨hx, hb, hml, hown, hts⟩ (r_X8_drift l dC dI cI cZ cL cJ H.size mo m_la m_sz m_it m_st m_mv m_tp m_rd m_ac m_as m_wo m_ik m_ke m_tr ms mt ml mk mv mb mw mz mp ma mx w_35 w9 k9 h9 ii v_3 (hMl) (by omega)) (cwV 2 hts gX8_oneHour_X8_drift rfl rfl rfl (by decide +kernel) ⟨Nat.le_of_ble_eq_true rfl, Nat.le_of_ble_eq_true rfl⟩) (pvW 8 0 hK hP rfl rfl hc_85) rfl rfl hl.1 rfl (lv_room (Nat.le_of_ble_eq_true rfl)) dX8_oneHour_42 ⟨Nat.le_of_ble_eq_true rfl, Nat.le_of_ble_eq_true rfl⟩) hS (fun q _ h => hc_85.2.2 q h) hc_85.2.2 (fun u_85 t_85 H1 locs ht hvm h_85 hB hz1 hk1 hS => ?_)
      refine xl_1_4 hB (fun fsn_85 hP1 hD1 hF_85_0 hF_85_1 => ?_)
      clear hB
      rw [ht] at hP1
      obtain ⟨hP, hD⟩ := va_join (wr := []) (w1 := [(xo_8_rrriirrriiiiiiirrirrrrri mo m_la m_sz m_it ms mt m_st m_mv m_tp (nI mz) ml (nI mp) mk mv mb mw m_rd m_ac (nI ma) m_as m_wo m_ik m_ke m_tr (nI mx)), (xI m_st cI 38 fsn_85)]) hP hD [0, 1] [] rfl rfl (by decide +kernel) (by decide +kernel) hk1 hc_85.2.2 hP1 hD1
      generalize H1 = H at hP hS ⊢
      have hP : va_P (dC, dI) vwCl [(xo_8_rrriirrriiiiiiirrirrrrri mo m_la m_sz m_it ms mt m_st m_mv m_tp (nI mz) ml (nI mp) mk mv mb mw m_rd m_ac (nI ma) m_as m_wo m_ik m_ke m_tr (nI mx)), (xI m_st cI 38 fsn_85)] H := hP
      have hD := dto hP hD
      refine lv_aload_n hx hb dX8_oneHour_45 rfl (lv_at hl 3 rfl) ?_
      refine va_get (D := (dC, dI)) (ci := 8) (v := .ref m_st) (C := RX8) (T := TX8) (N := 24) hx hb hts i_X8_oneHour_X8 hown hK hP 0 rfl rfl 5 (by decide) (hts _ mx_X8_oneHour_1) (fun _ h9 => h9) rfl dX8_oneHour_46 ?_
      refine lv_bipush (v := 26) hx hb dX8_oneHour_49 (by decide) ?_
      refine lv_iload_n hx hb dX8_oneHour_51 rfl (lv_at hl 0 rfl) ?_
      refine lv_iadd hx hb dX8_oneHour_52 ?_
      refine lv_topi (fun v_86 e_86 => ?_)
      obtain rfl : v_86 = (nI (26 + ii)) := (e_86).trans (nI_add 26 ii)
      refine va_iald hx hb hK hP 1 0 rfl rfl (vp_in_nI (by omega) (by omega)) dX8_oneHour_53 ?_
      refine lv_topi (fun v_87 e_87 => ?_)
      have e_87 : v_87 = fsn_85 (26 + ii) := e_87.trans (congrArg fsn_85 (nI_clamp (by omega)))
      refine lv_if_ne (tgt := 91) hx hb dX8_oneHour_54 (by decide) (fun c_88 => ?_) (fun c_88 => ?_)
      · skip
        refine lv_iinc (v := (nI (ii + 1))) (lv' := [(3, .int (nI (ii + 1))), (2, .int w_34), (1, .int v_3), (0, .ref mo)]) hx hb dX8_oneHour_91 hl (k := 0) rfl (nI_add ii 1) (by decide) rfl (fun ls hl => ?_)
        refine lv_goto (tgt := 17) hx hb dX8_oneHour_94 (by decide) ?_
        exact ih (w_34, fsn_85) _ _ _ ⟨lv_sub hl [0, 1, 2, 3] rfl, hP.sub (ws' := [(xo_8_rrriirrriiiiiiirrirrrrri mo m_la m_sz m_it ms mt m_st m_mv m_tp (nI mz) ml (nI mp) mk mv mb mw m_rd m_ac (nI ma) m_as m_wo m_ik m_ke m_tr (nI mx)), (xI m_st cI 38 fsn_85)]) [0, 1] rfl, hD.sub (ws' := [(xo_8_rrriirrriiiiiiirrirrrrri mo m_la m_sz m_it ms mt m_st m_mv m_tp (nI mz) ml (nI mp) mk mv mb mw m_rd m_ac (nI ma) m_as m_wo m_ik m_ke m_tr (nI mx)), (xI m_st cI 38 fsn_85)]) [0, 1] (by decide +kernel) rfl, hS, hF_85_0, (lf_X8_oneHour_5 hM hw1 hh9 hmW h_2 e_3 hii haf_0 hMl e_71 c_72 hF_85_0 hF_85_1 e_87 c_88)⟩
      · skip
        refine lv_iload_n hx hb dX8_oneHour_57 rfl (lv_at hl 2 rfl) ?_
        refine lv_if_eq (tgt := 91) hx hb dX8_oneHour_58 (by decide) (fun c_89 => ?_) (fun c_89 => ?_)
        · skip
          refine lv_iinc (v := (nI (ii + 1))) (lv' := [(3, .int (nI (ii + 1))), (2, .int w_34), (1, .int v_3), (0, .ref mo)]) hx hb dX8_oneHour_91 hl (k := 0) rfl (nI_add ii 1) (by decide) rfl (fun ls hl => ?_)
          refine lv_goto (tgt := 17) hx hb dX8_oneHour_94 (by decide) ?_
          exact ih (w_34, fsn_85) _ _ _ ⟨lv_sub hl [0, 1, 2, 3] rfl, hP.sub (ws' := [(xo_8_rrriirrriiiiiiirrirrrrri mo m_la m_sz m_it ms mt m_st m_mv m_tp (nI mz) ml (nI mp) mk mv mb mw m_rd m_ac (nI ma) m_as m_wo m_ik m_ke m_tr (nI mx)), (xI m_st cI 38 fsn_85)]) [0, 1] rfl, hD.sub (ws' := [(xo_8_rrriirrriiiiiiirrirrrrri mo m_la m_sz m_it ms mt m_st m_mv m_tp (nI mz) ml (nI mp) mk mv mb mw m_rd m_ac (nI ma) m_as m_wo m_ik m_ke m_tr (nI mx)), (xI m_st cI 38 fsn_85)]) [0, 1] (by decide +kernel) rfl, hS, hF_85_0, (lf_X8_oneHour_6 hM hw1 hh9 hmW h_2 e_3 hii haf_0 hMl e_71 c_72 hF_85_0 hF_85_1 e_87 c_88 c_89)⟩
        · skip
          refine lv_aload_n hx hb dX8_oneHour_61 rfl (lv_at hl 3 rfl) ?_
          refine lv_iload_n hx hb dX8_oneHour_62 rfl (lv_at hl 0 rfl) ?_
          have hPc_90 := hP
          refine vp_callSi (W.runV (As := [.int (nI ii)]) (rest := []) ⟨hx, hb, hml, hown, hts⟩ (r_X8_isAtMill l dC dI cI cZ cL cJ mo m_la m_sz m_it m_st m_mv m_tp m_rd m_ac m_as m_wo m_ik m_ke m_tr ms mt ml mk mv mb mw mz mp ma mx fsn_85 w9 k9 h9 ii (hF_85_0) (by omega)) (cwV 1 hts gX8_oneHour_X8_isAtMill rfl rfl rfl (by decide +kernel) ⟨Nat.le_of_ble_eq_true rfl, Nat.le_of_ble_eq_true rfl⟩) (pvP 8 0 hK hP rfl rfl hPc_90) rfl rfl hl.1 rfl (lv_room (Nat.le_of_ble_eq_true rfl)) dX8_oneHour_63 ⟨Nat.le_of_ble_eq_true rfl, Nat.le_of_ble_eq_true rfl⟩) (fun r_90 h_90 => ?_)
          rcases h_90 with ⟨h_90, f_90_0_0⟩ | ⟨h_90, f_90_1_0⟩
          · subst h_90
            refine lv_if_eq (tgt := 91) hx hb dX8_oneHour_66 (by decide) (fun _ => ?_) (fun c_ => absurd (by decide) c_)
            refine lv_iinc (v := (nI (ii + 1))) (lv' := [(3, .int (nI (ii + 1))), (2, .int w_34), (1, .int v_3), (0, .ref mo)]) hx hb dX8_oneHour_91 hl (k := 0) rfl (nI_add ii 1) (by decide) rfl (fun ls hl => ?_)
            refine lv_goto (tgt := 17) hx hb dX8_oneHour_94 (by decide) ?_
            exact ih (w_34, fsn_85) _ _ _ ⟨lv_sub hl [0, 1, 2, 3] rfl, hP.sub (ws' := [(xo_8_rrriirrriiiiiiirrirrrrri mo m_la m_sz m_it ms mt m_st m_mv m_tp (nI mz) ml (nI mp) mk mv mb mw m_rd m_ac (nI ma) m_as m_wo m_ik m_ke m_tr (nI mx)), (xI m_st cI 38 fsn_85)]) [0, 1] rfl, hD.sub (ws' := [(xo_8_rrriirrriiiiiiirrirrrrri mo m_la m_sz m_it ms mt m_st m_mv m_tp (nI mz) ml (nI mp) mk mv mb mw m_rd m_ac (nI ma) m_as m_wo m_ik m_ke m_tr (nI mx)), (xI m_st cI 38 fsn_85)]) [0, 1] (by decide +kernel) rfl, hS, hF_85_0, (lf_X8_oneHour_7 hM hw1 hh9 hmW h_2 e_3 hii haf_0 hMl e_71 c_72 hF_85_0 hF_85_1 e_87 c_88 c_89 f_90_0_0)⟩
          · subst h_90
            refine lv_if_eq (tgt := 91) hx hb dX8_oneHour_66 (by decide) (fun c_ => absurd c_ (by decide)) (fun _ => ?_)
            refine lv_aload_n hx hb dX8_oneHour_69 rfl (lv_at hl 3 rfl) ?_
            refine va_get (D := (dC, dI)) (ci := 8) (v := .ref m_st) (C := RX8) (T := TX8) (N := 24) hx hb hts i_X8_oneHour_X8 hown hK hP 0 rfl rfl 5 (by decide) (hts _ mx_X8_oneHour_1) (fun _ h9 => h9) rfl dX8_oneHour_70 ?_
            refine lv_bipush (v := 26) hx hb dX8_oneHour_73 (by decide) ?_
            refine lv_iload_n hx hb dX8_oneHour_75 rfl (lv_at hl 0 rfl) ?_
            refine lv_iadd hx hb dX8_oneHour_76 ?_
            refine lv_topi (fun v_93 e_93 => ?_)
            obtain rfl : v_93 = (nI (26 + ii)) := (e_93).trans (nI_add 26 ii)
            refine lv_iconst (v := 1) hx hb dX8_oneHour_77 (by decide) ?_
            refine va_iast hx hb hK hP hD hS 1 0 rfl rfl (vp_in_nI (by omega) (by omega)) dX8_oneHour_78 (fun H locs hP hD hS => ?_)
            generalize hg_94 : upd fsn_85 ((nI (26 + ii)) : Int32).toNatClampNeg 1 = g_94 at hP hD
            have hu_94 : g_94 = upd fsn_85 (26 + ii) 1 := (by rw [← hg_94, nI_clamp (by omega)])
            have hM_94 : okM g_94 w9 k9 h9 := okM_off (i := (26 + ii)) hF_85_0 hg_94 (by omega) (by omega) (by omega) (by omega) (by omega)
            have hP : va_P (dC, dI) vwCl [(xo_8_rrriirrriiiiiiirrirrrrri mo m_la m_sz m_it ms mt m_st m_mv m_tp (nI mz) ml (nI mp) mk mv mb mw m_rd m_ac (nI ma) m_as m_wo m_ik m_ke m_tr (nI mx)), (xI m_st cI 38 g_94)] H := hP
            have hD := dto hP hD
            refine lv_iload_n hx hb dX8_oneHour_79 rfl (lv_at hl 1 rfl) ?_
            refine lv_aload_n hx hb dX8_oneHour_80 rfl (lv_at hl 3 rfl) ?_
            refine va_get (D := (dC, dI)) (ci := 8) (v := .ref m_st) (C := RX8) (T := TX8) (N := 24) hx hb hts i_X8_oneHour_X8 hown hK hP 0 rfl rfl 5 (by decide) (hts _ mx_X8_oneHour_1) (fun _ h9 => h9) rfl dX8_oneHour_81 ?_
            refine lv_bipush (v := 32) hx hb dX8_oneHour_84 (by decide) ?_
            refine lv_iload_n hx hb dX8_oneHour_86 rfl (lv_at hl 0 rfl) ?_
            refine lv_iadd hx hb dX8_oneHour_87 ?_
            refine lv_topi (fun v_95 e_95 => ?_)
            obtain rfl : v_95 = (nI (32 + ii)) := (e_95).trans (nI_add 32 ii)
            refine va_iald hx hb hK hP 1 0 rfl rfl (vp_in_nI (by omega) (by omega)) dX8_oneHour_88 ?_
            refine lv_topi (fun v_96 e_96 => ?_)
            have e_96 : v_96 = g_94 (32 + ii) := e_96.trans (congrArg g_94 (nI_clamp (by omega)))
            refine lv_iadd hx hb dX8_oneHour_89 ?_
            refine lv_topi (fun v_97 e_97 => ?_)
            refine lv_istore_n (lv' := [(2, .int v_97), (3, .int (nI ii)), (1, .int v_3), (0, .ref mo)]) hx hb dX8_oneHour_90 rfl hl (by decide) rfl (fun ls hl => ?_)
            refine lv_iinc (v := (nI (ii + 1))) (lv' := [(3, .int (nI (ii + 1))), (2, .int v_97), (1, .int v_3), (0, .ref mo)]) hx hb dX8_oneHour_91 hl (k := 1) rfl (nI_add ii 1) (by decide) rfl (fun ls hl => ?_)
            refine lv_goto (tgt := 17) hx hb dX8_oneHour_94 (by decide) ?_
            exact ih (v_97, g_94) _ _ _ ⟨lv_sub hl [0, 1, 2, 3] rfl, hP.sub (ws' := [(xo_8_rrriirrriiiiiiirrirrrrri mo m_la m_sz m_it ms mt m_st m_mv m_tp (nI mz) ml (nI mp) mk mv mb mw m_rd m_ac (nI ma) m_as m_wo m_ik m_ke m_tr (nI mx)), (xI m_st cI 38 g_94)]) [0, 1] rfl, hD.sub (ws' := [(xo_8_rrriirrriiiiiiirrirrrrri mo m_la m_sz m_it ms mt m_st m_mv m_tp (nI mz) ml (nI mp) mk mv mb mw m_rd m_ac (nI ma) m_as m_wo m_ik m_ke m_tr (nI mx)), (xI m_st cI 38 g_94)]) [0, 1] (by decide +kernel) rfl, hS, hM_94, (lf_X8_oneHour_8 hM hw1 hh9 hmW h_2 e_3 hii haf_0 hMl e_71 c_72 hF_85_0 hF_85_1 e_87 c_88 c_89 f_90_1_0 hu_94 e_96 e_97)⟩
  · rintro ⟨w_34, w_35⟩ H locs ls ⟨hl, hP, hD, hS, hMl, haf_0⟩
    refine lv_iload_n hx hb dX8_oneHour_17 rfl (lv_at hl 0 rfl) ?_
    refine lv_aload_n hx hb dX8_oneHour_18 rfl (lv_at hl 3 rfl) ?_
    refine va_get (D := (dC, dI)) (ci := 8) (v := .ref m_st) (C := RX8) (T := TX8) (N := 24) hx hb hts i_X8_oneHour_X8 hown hK hP 0 rfl rfl 5 (by decide) (hts _ mx_X8_oneHour_1) (fun _ h9 => h9) rfl dX8_oneHour_19 ?_
    refine lv_iconst (v := 4) hx hb dX8_oneHour_22 (by decide) ?_
    refine va_iald hx hb hK hP 1 0 rfl rfl (by unfold vp_in; decide) dX8_oneHour_23 ?_
    refine lv_topi (fun v_98 e_98 => ?_)
    obtain rfl : v_98 = (nI k9) := (e_98).trans hMl.2.1
    refine lv_icmp_ge (tgt := 97) hx hb dX8_oneHour_24 (by decide) (fun _ => ?_) (fun c_ => absurd ((nI_leI (a := k9) (b := k9) (by omega) (by omega)).mpr (by omega)) c_)
    refine lv_aload_n hx hb dX8_oneHour_97 rfl (lv_at hl 3 rfl) ?_
    refine va_get (D := (dC, dI)) (ci := 8) (v := .ref m_st) (C := RX8) (T := TX8) (N := 24) hx hb hts i_X8_oneHour_X8 hown hK hP 0 rfl rfl 5 (by decide) (hts _ mx_X8_oneHour_1) (fun _ h9 => h9) rfl dX8_oneHour_98 ?_
    refine lv_bipush (v := 7) hx hb dX8_oneHour_101 (by decide) ?_
    refine lv_aload_n hx hb dX8_oneHour_103 rfl (lv_at hl 3 rfl) ?_
    refine va_get (D := (dC, dI)) (ci := 8) (v := .ref m_st) (C := RX8) (T := TX8) (N := 24) hx hb hts i_X8_oneHour_X8 hown hK hP 0 rfl rfl 5 (by decide) (hts _ mx_X8_oneHour_1) (fun _ h9 => h9) rfl dX8_oneHour_104 ?_
    refine lv_bipush (v := 7) hx hb dX8_oneHour_107 (by decide) ?_
    refine va_iald hx hb hK hP 1 0 rfl rfl (by unfold vp_in; decide) dX8_oneHour_109 ?_
    refine lv_topi (fun v_100 e_100 => ?_)
    have e_100 : v_100 = w_35 7 := e_100
    refine lv_iload_n hx hb dX8_oneHour_110 rfl (lv_at hl 1 rfl) ?_
    refine lv_iadd hx hb dX8_oneHour_111 ?_
    refine lv_topi (fun v_101 e_101 => ?_)
    refine lv_sipush (v := 999) hx hb dX8_oneHour_112 (by decide) ?_
    refine lv_icmp_le (tgt := 124) hx hb dX8_oneHour_115 (by decide) (fun c_102 => ?_) (fun c_102 => ?_)
    · skip
      refine lv_aload_n hx hb dX8_oneHour_124 rfl (lv_at hl 3 rfl) ?_
      refine va_get (D := (dC, dI)) (ci := 8) (v := .ref m_st) (C := RX8) (T := TX8) (N := 24) hx hb hts i_X8_oneHour_X8 hown hK hP 0 rfl rfl 5 (by decide) (hts _ mx_X8_oneHour_1) (fun _ h9 => h9) rfl dX8_oneHour_125 ?_
      refine lv_bipush (v := 7) hx hb dX8_oneHour_128 (by decide) ?_
      refine va_iald hx hb hK hP 1 0 rfl rfl (by unfold vp_in; decide) dX8_oneHour_130 ?_
      refine lv_topi (fun v_103 e_103 => ?_)
      have e_103 : v_103 = w_35 7 := e_103
      refine lv_iload_n hx hb dX8_oneHour_131 rfl (lv_at hl 1 rfl) ?_
      refine lv_iadd hx hb dX8_oneHour_132 ?_
      refine lv_topi (fun v_104 e_104 => ?_)
      refine va_iast hx hb hK hP hD hS 1 0 rfl rfl (by unfold vp_in; decide) dX8_oneHour_133 (fun H locs hP hD hS => ?_)
      generalize hg_105 : upd w_35 (7 : Int32).toNatClampNeg v_104 = g_105 at hP hD
      have hu_105 : g_105 = upd w_35 7 v_104 := hg_105.symm
      have hM_105 : okM g_105 w9 k9 h9 := okM_off (i := 7) hMl hg_105 (by omega) (by omega) (by omega) (by omega) (by omega)
      have hP : va_P (dC, dI) vwCl [(xo_8_rrriirrriiiiiiirrirrrrri mo m_la m_sz m_it ms mt m_st m_mv m_tp (nI mz) ml (nI mp) mk mv mb mw m_rd m_ac (nI ma) m_as m_wo m_ik m_ke m_tr (nI mx)), (xI m_st cI 38 g_105)] H := hP
      have hD := dto hP hD
      refine lv_aload_n hx hb dX8_oneHour_134 rfl (lv_at hl 3 rfl) ?_
      refine va_get (D := (dC, dI)) (ci := 8) (v := .ref m_st) (C := RX8) (T := TX8) (N := 24) hx hb hts i_X8_oneHour_X8 hown hK hP 0 rfl rfl 5 (by decide) (hts _ mx_X8_oneHour_1) (fun _ h9 => h9) rfl dX8_oneHour_135 ?_
      refine lv_iconst (v := 5) hx hb dX8_oneHour_138 (by decide) ?_
      refine lv_dup2_11 hx hb dX8_oneHour_139 rfl rfl ?_
      refine va_iald hx hb hK hP 1 0 rfl rfl (by unfold vp_in; decide) dX8_oneHour_140 ?_
      refine lv_topi (fun v_106 e_106 => ?_)
      obtain rfl : v_106 = (nI h9) := (e_106).trans hM_105.2.2.1
      refine lv_iconst (v := 1) hx hb dX8_oneHour_141 (by decide) ?_
      refine lv_iadd hx hb dX8_oneHour_142 ?_
      refine lv_topi (fun v_107 e_107 => ?_)
      obtain rfl : v_107 = (nI (h9 + 1)) := (e_107).trans (nI_add h9 1)
      refine va_iast hx hb hK hP hD hS 1 0 rfl rfl (by unfold vp_in; decide) dX8_oneHour_143 (fun H locs hP hD hS => ?_)
      generalize hg_108 : upd g_105 (5 : Int32).toNatClampNeg (nI (h9 + 1)) = g_108 at hP hD
      have hu_108 : g_108 = upd g_105 5 (nI (h9 + 1)) := hg_108.symm
      have hM_108 : okM g_108 w9 k9 (h9 + 1) := okM_hour hM_105 hg_108
      have hP : va_P (dC, dI) vwCl [(xo_8_rrriirrriiiiiiirrirrrrri mo m_la m_sz m_it ms mt m_st m_mv m_tp (nI mz) ml (nI mp) mk mv mb mw m_rd m_ac (nI ma) m_as m_wo m_ik m_ke m_tr (nI mx)), (xI m_st cI 38 g_108)] H := hP
      have hD := dto hP hD
      refine lv_iload_n hx hb dX8_oneHour_144 rfl (lv_at hl 1 rfl) ?_
      have hX9 := cut2 (wc := [(xo_8_rrriirrriiiiiiirrirrrrri mo m_la m_sz m_it ms mt m_st m_mv m_tp (nI mz) ml (nI mp) mk mv mb mw m_rd m_ac (nI ma) m_as m_wo m_ik m_ke m_tr (nI mx)), (xI m_st cI 38 g_108)]) hP hD [0, 1] (by decide +kernel) rfl
      exact W.iret (v := w_34) hx hb hr (fun t ht hW => ⟨⟨w_34, (), rfl, trivial, ⟨g_108, va_Ht ht hX9.1, hX9.2, hM_108, (lf_X8_oneHour_9 hM hw1 hh9 hmW h_2 e_3 haf_0 hMl e_100 e_101 c_102 e_103 e_104 hu_105 hu_108)⟩⟩, hS.F ht⟩) hS.2.2 dX8_oneHour_145
    · skip
      refine lv_sipush (v := 999) hx hb dX8_oneHour_118 (by decide) ?_
      refine lv_goto (tgt := 133) hx hb dX8_oneHour_121 (by decide) ?_
      refine va_iast hx hb hK hP hD hS 1 0 rfl rfl (by unfold vp_in; decide) dX8_oneHour_133 (fun H locs hP hD hS => ?_)
      generalize hg_109 : upd w_35 (7 : Int32).toNatClampNeg 999 = g_109 at hP hD
      have hu_109 : g_109 = upd w_35 7 999 := hg_109.symm
      have hM_109 : okM g_109 w9 k9 h9 := okM_off (i := 7) hMl hg_109 (by omega) (by omega) (by omega) (by omega) (by omega)
      have hP : va_P (dC, dI) vwCl [(xo_8_rrriirrriiiiiiirrirrrrri mo m_la m_sz m_it ms mt m_st m_mv m_tp (nI mz) ml (nI mp) mk mv mb mw m_rd m_ac (nI ma) m_as m_wo m_ik m_ke m_tr (nI mx)), (xI m_st cI 38 g_109)] H := hP
      have hD := dto hP hD
      refine lv_aload_n hx hb dX8_oneHour_134 rfl (lv_at hl 3 rfl) ?_
      refine va_get (D := (dC, dI)) (ci := 8) (v := .ref m_st) (C := RX8) (T := TX8) (N := 24) hx hb hts i_X8_oneHour_X8 hown hK hP 0 rfl rfl 5 (by decide) (hts _ mx_X8_oneHour_1) (fun _ h9 => h9) rfl dX8_oneHour_135 ?_
      refine lv_iconst (v := 5) hx hb dX8_oneHour_138 (by decide) ?_
      refine lv_dup2_11 hx hb dX8_oneHour_139 rfl rfl ?_
      refine va_iald hx hb hK hP 1 0 rfl rfl (by unfold vp_in; decide) dX8_oneHour_140 ?_
      refine lv_topi (fun v_110 e_110 => ?_)
      obtain rfl : v_110 = (nI h9) := (e_110).trans hM_109.2.2.1
      refine lv_iconst (v := 1) hx hb dX8_oneHour_141 (by decide) ?_
      refine lv_iadd hx hb dX8_oneHour_142 ?_
      refine lv_topi (fun v_111 e_111 => ?_)
      obtain rfl : v_111 = (nI (h9 + 1)) := (e_111).trans (nI_add h9 1)
      refine va_iast hx hb hK hP hD hS 1 0 rfl rfl (by unfold vp_in; decide) dX8_oneHour_143 (fun H locs hP hD hS => ?_)
      generalize hg_112 : upd g_109 (5 : Int32).toNatClampNeg (nI (h9 + 1)) = g_112 at hP hD
      have hu_112 : g_112 = upd g_109 5 (nI (h9 + 1)) := hg_112.symm
      have hM_112 : okM g_112 w9 k9 (h9 + 1) := okM_hour hM_109 hg_112
      have hP : va_P (dC, dI) vwCl [(xo_8_rrriirrriiiiiiirrirrrrri mo m_la m_sz m_it ms mt m_st m_mv m_tp (nI mz) ml (nI mp) mk mv mb mw m_rd m_ac (nI ma) m_as m_wo m_ik m_ke m_tr (nI mx)), (xI m_st cI 38 g_112)] H := hP
      have hD := dto hP hD
      refine lv_iload_n hx hb dX8_oneHour_144 rfl (lv_at hl 1 rfl) ?_
      have hX9 := cut2 (wc := [(xo_8_rrriirrriiiiiiirrirrrrri mo m_la m_sz m_it ms mt m_st m_mv m_tp (nI mz) ml (nI mp) mk mv mb mw m_rd m_ac (nI ma) m_as m_wo m_ik m_ke m_tr (nI mx)), (xI m_st cI 38 g_112)]) hP hD [0, 1] (by decide +kernel) rfl
      exact W.iret (v := w_34) hx hb hr (fun t ht hW => ⟨⟨w_34, (), rfl, trivial, ⟨g_112, va_Ht ht hX9.1, hX9.2, hM_112, (lf_X8_oneHour_10 hM hw1 hh9 hmW h_2 e_3 haf_0 hMl e_100 e_101 c_102 hu_109 hu_112)⟩⟩, hS.F ht⟩) hS.2.2 dX8_oneHour_145
-- 46.mod2_d
theorem nI_inj2 {a b : Nat} (h : nI a = nI b) (ha : a < 2 ^ 31) (hb : b < 2 ^ 31) : a = b := (nI_eq ha hb).mp h
theorem cp_0 {F g src : Nat → Int32} {i : Nat} {v : Int32} (h : ∀ j : Nat, j < i → F j = src j) (hi : i < 2 ^ 31) (e : v = src (nI i).toNatClampNeg) (hg : upd F (nI i).toNatClampNeg v = g) : ∀ j : Nat, j < i + 1 → g j = src j := by
  intro j hj
  rw [nI_clamp hi] at e hg
  rw [← hg]
  unfold upd
  split
  · rename_i q
    rw [q, e]
  · exact h j (by omega)
theorem cp_d {F g src : Nat → Int32} {i a : Nat} {v : Int32} (h : ∀ j : Nat, j < i → F (a + j) = src j) (hi : a + i < 2 ^ 31) (e : v = src (nI i).toNatClampNeg) (hg : upd F (nI (a + i)).toNatClampNeg v = g) : ∀ j : Nat, j < i + 1 → g (a + j) = src j := by
  intro j hj
  rw [nI_clamp (by omega)] at e
  rw [nI_clamp hi] at hg
  rw [← hg]
  unfold upd
  split
  · rename_i q
    have q2 : j = i := by omega
    rw [q2, e]
  · exact h j (by omega)
theorem cp_do {F g old : Nat → Int32} {i a n : Nat} {v : Int32} (h : ∀ j : Nat, j < a ∨ a + n ≤ j → F j = old j) (hin : i < n) (hi : a + i < 2 ^ 31) (hg : upd F (nI (a + i)).toNatClampNeg v = g) : ∀ j : Nat, j < a ∨ a + n ≤ j → g j = old j := by
  intro j hj
  rw [nI_clamp hi] at hg
  rw [← hg]
  unfold upd
  rw [if_neg (by omega)]
  exact h j hj
theorem cp_s {F g src : Nat → Int32} {i a : Nat} {v : Int32} (h : ∀ j : Nat, j < i → F j = src (a + j)) (hi : a + i < 2 ^ 31) (e : v = src (nI (a + i)).toNatClampNeg) (hg : upd F (nI i).toNatClampNeg v = g) : ∀ j : Nat, j < i + 1 → g j = src (a + j) := by
  intro j hj
  rw [nI_clamp hi] at e
  rw [nI_clamp (by omega)] at hg
  rw [← hg]
  unfold upd
  split
  · rename_i q
    rw [q, e]
  · exact h j (by omega)
/-- the shift: below i the item 38 on, from i on as it was -/
theorem cp_sh {F g old : Nat → Int32} {i : Nat} {v : Int32} (h : (∀ j : Nat, j < i → F j = old (j + 38)) ∧ ∀ j : Nat, i ≤ j → F j = old j) (hi : i + 38 < 2 ^ 31) (e : v = F (nI (i + 38)).toNatClampNeg) (hg : upd F (nI i).toNatClampNeg v = g) : (∀ j : Nat, j < i + 1 → g j = old (j + 38)) ∧ ∀ j : Nat, i + 1 ≤ j → g j = old j := by
  rw [nI_clamp hi] at e
  rw [nI_clamp (by omega)] at hg
  constructor
  · intro j hj
    rw [← hg]
    unfold upd
    split
    · rename_i q
      rw [q, e, h.2 _ (by omega)]
    · exact h.1 j (by omega)
  · intro j hj
    rw [← hg]
    unfold upd
    rw [if_neg (by omega)]
    exact h.2 j (by omega)
/-- a level that was kept: told, its hour at most 999 -/
noncomputable def okK (f : Nat → Int32) : Prop := ∃ w k h : Nat, okM f w k h ∧ 1 ≤ k ∧ h ≤ 999
theorem okK_eq {f g : Nat → Int32} (hK : okK f) (e : ∀ j : Nat, j < 38 → g j = f j) : okK g := by
  obtain ⟨w, k, h, h1, h2, h3⟩ := hK
  exact ⟨w, k, h, okM_eq h1 e, h2, h3⟩
/-- the acts: n levels of 38 numbers one behind another -/
noncomputable def okA (f : Nat → Int32) (n : Nat) : Prop := ∀ r : Nat, r < n → okK (fun j => f (38 * r + j))
theorem okA_sh {f g : Nat → Int32} {n : Nat} (h : okA f 24) (e : (∀ j : Nat, j < 874 → g j = f (j + 38)) ∧ ∀ j : Nat, 874 ≤ j → g j = f j) (hn : n = 24) : okA g (n - 1) := by
  intro r hr
  refine okK_eq (h (r + 1) (by omega)) (fun j hj => ?_)
  show g (38 * r + j) = f (38 * (r + 1) + j)
  rw [e.1 _ (by omega)]
  congr 1
  omega
theorem okA_push {f g src : Nat → Int32} {n : Nat} (h : okA f n) (hs : okK src) (e1 : ∀ j : Nat, j < 38 → g (38 * n + j) = src j) (e2 : ∀ j : Nat, j < 38 * n ∨ 38 * n + 38 ≤ j → g j = f j) : okA g (n + 1) := by
  intro r hr
  by_cases q : r = n
  · subst q
    exact okK_eq hs e1
  · refine okK_eq (h r (by omega)) (fun j hj => ?_)
    exact e2 _ (by omega)
theorem okA_0 (f : Nat → Int32) : okA f 0 := fun r hr => absurd hr (Nat.not_lt_zero r)
theorem okA_le {f : Nat → Int32} {n m : Nat} (h : okA f n) (hm : m ≤ n) : okA f m := fun r hr => h r (by omega)
/-! foretold, on the other side -/
section FM
variable {fs F : RF} {w9 k9 h9 j t i : Nat}
theorem mGoM (hM : okM fs w9 k9 h9) (hw1 : 1 ≤ w9) (t : Nat) : mGo t (m38 fs) = m38 (mGo t fs) := (mGo_c hM.1 hM.2.2.2.1 hw1 hM.2.1 hM.2.2.2.2.1 t).symm
theorem tlR_c {q : RF} {w : Int32} (hj : j < 6) : tlR (m38 q) j w = tlR q j w := by
  unfold tlR
  rw [m38_at (by omega), m38_at (by omega), m38_at (by omega)]
theorem ahdM_n1 {a0 a1 a2 : Int32} (h4 : fs 4 = nI k9) (f : ¬ sB (nI k9) a0) : (-1000001 : Int32) = a_ahd (m38 fs) a0 a1 a2 := ahd_n (Or.inl (fun q => f (by rw [← h4]; exact q)))
theorem ahdM {w : Int32} (hM : okM fs w9 k9 h9) (hw1 : 1 ≤ w9) (hj : j < k9) (ht : t ≤ 60) (q : ¬ (w < 0 ∨ 2 < w)) (hF : F = mGo t fs) : a_ahd (m38 fs) (nI j) (nI t) w = tlR F j w := by
  have h6 := hM.2.2.2.2.1
  rw [ahd_g (r := m38 fs) (k := k9) hM.2.1 h6 hj (by omega) q, mGoM hM hw1, tlR_c (by omega), hF]
theorem ahdM_0a {v : Int32} (hM : okM fs w9 k9 h9) (hw1 : 1 ≤ w9) (hj : j < k9) (ht : t ≤ 60) (q : ¬ (nI i < 0 ∨ 2 < nI i)) (hF : F = mGo t fs) (h0 : i = 0) (e : v = F (26 + j)) (c : ¬ v = 0) : (-1000000 : Int32) = a_ahd (m38 fs) (nI j) (nI t) (nI i) := by
  rw [ahdM hM hw1 hj ht q hF, h0]
  have z : ¬ F (26 + j) = 0 := by rw [← e]; exact c
  exact ((if_pos (by decide)).trans (if_neg z)).symm
theorem ahdM_0b {v u : Int32} (hM : okM fs w9 k9 h9) (hw1 : 1 ≤ w9) (hj : j < k9) (ht : t ≤ 60) (q : ¬ (nI i < 0 ∨ 2 < nI i)) (hF : F = mGo t fs) (h0 : i = 0) (e : v = F (26 + j)) (c : v = 0) (e2 : u = F (20 + j)) : u = a_ahd (m38 fs) (nI j) (nI t) (nI i) := by
  rw [ahdM hM hw1 hj ht q hF, h0, e2]
  have z : F (26 + j) = 0 := by rw [← e]; exact c
  exact ((if_pos (by decide)).trans (if_pos z)).symm
theorem ahdM_1 {v : Int32} (hM : okM fs w9 k9 h9) (hw1 : 1 ≤ w9) (hj : j < k9) (ht : t ≤ 60) (q : ¬ (nI i < 0 ∨ 2 < nI i)) (hF : F = mGo t fs) (h0 : i = 1) (e : v = F (26 + j)) : v = a_ahd (m38 fs) (nI j) (nI t) (nI i) := by
  rw [ahdM hM hw1 hj ht q hF, h0, e]
  exact ((if_neg (by decide)).trans (if_pos (by decide))).symm
theorem ahdM_2 {v : Int32} (hM : okM fs w9 k9 h9) (hw1 : 1 ≤ w9) (hj : j < k9) (ht : t ≤ 60) (q : ¬ (nI i < 0 ∨ 2 < nI i)) (hF : F = mGo t fs) (h0 : i = 2) (e : v = F (32 + j)) : v = a_ahd (m38 fs) (nI j) (nI t) (nI i) := by
  rw [ahdM hM hw1 hj ht q hF, h0, e]
  exact ((if_neg (by decide)).trans (if_neg (by decide))).symm
theorem mealM_0 {n : Int32} (h0 : fs 0 = 0) : (-1000002 : Int32) = a_meal (m38 fs) n := by
  have z : m38 fs 0 = 0 := h0
  unfold a_meal
  rw [if_pos z]
theorem mealM {r : Int32} (hM : okM fs w9 k9 h9) (hw1 : 1 ≤ w9) (h0 : ¬ fs 0 = 0) (ht : t ≤ 60) (h : r = mGo t fs 7) : r = a_meal (m38 fs) (nI t) := by
  have z : ¬ m38 fs 0 = 0 := h0
  have g : ¬ (nI t < 0 ∨ 60 < nI t) := fun q => q.elim (nI_pos (by omega)) (n60 (by omega))
  have e2 : (nI t).toNatClampNeg = t := nI_clamp (by omega)
  unfold a_meal
  rw [if_neg z, if_neg g, e2, mGoM hM hw1, mm7]
  exact h
theorem whenM_n1 {a0 a1 : Int32} (h4 : fs 4 = nI k9) (f : ¬ sB (nI k9) a0) : (-1000001 : Int32) = a_when (m38 fs) a0 a1 := when_n (Or.inl (fun q => f (by rw [← h4]; exact q)))
theorem mGo26 (hM : okM fs w9 k9 h9) (hw1 : 1 ≤ w9) (hj : j < k9) (t : Nat) : mGo t (m38 fs) (26 + j) = mGo t fs (26 + j) := by
  have h6 := hM.2.2.2.2.1
  rw [mGoM hM hw1, m38_at (by omega)]
theorem whenM_hit {v w : Int32} (hM : okM fs w9 k9 h9) (hw1 : 1 ≤ w9) (hj : j < k9) (q : ¬ (w < 1 ∨ 2 < w)) (hi : i ≤ 60) (hF : F = mGo i fs) (hn : ∀ t : Nat, t < i → ¬ mGo t fs (26 + j) = w) (e : v = F (26 + j)) (c : v = w) : nI i = a_when (m38 fs) (nI j) w :=
  when_hit (r := m38 fs) (k := k9) hM.2.1 hM.2.2.2.2.1 hj q hi (fun t ht => by rw [mGo26 hM hw1 hj]; exact hn t ht) (by rw [mGo26 hM hw1 hj, ← hF, ← e]; exact c)
theorem whenM_no {v w : Int32} (hM : okM fs w9 k9 h9) (hw1 : 1 ≤ w9) (hj : j < k9) (q : ¬ (w < 1 ∨ 2 < w)) (hF : F = mGo 60 fs) (hn : ∀ t : Nat, t < 60 → ¬ mGo t fs (26 + j) = w) (e : v = F (26 + j)) (c : ¬ v = w) : (-1000000 : Int32) = a_when (m38 fs) (nI j) w :=
  when_no (r := m38 fs) (k := k9) hM.2.1 hM.2.2.2.2.1 hj q (fun t ht => by
    rw [mGo26 hM hw1 hj]
    by_cases z : t = 60
    · rw [z, ← hF, ← e]
      exact c
    · exact hn t (by omega))
theorem siM_m {W g : RF} {T c : Nat} {r : Int32} (hMl : okM W w9 k9 h9) (hw1 : 1 ≤ w9) (e : m38 W = m38 fs) (hu : g = upd W 1 (nI c)) (h : r = mGo T g 7) : r = mGo T (upd (m38 fs) 1 (nI c)) 7 := by
  have h3 : g 3 = nI w9 := by
    rw [hu, pk_un (by decide)]
    exact hMl.1
  have h4 : g 4 = nI k9 := by
    rw [hu, pk_un (by decide)]
    exact hMl.2.1
  have e1 : upd (m38 fs) 1 (nI c) = m38 g := by rw [hu, m38_up (by decide), e]
  rw [e1, ← mGo_c h3 hMl.2.2.2.1 hw1 h4 hMl.2.2.2.2.1 T, mm7]
  exact h
theorem siM_e {fa : RF} {T cq : Nat} {b m w : Int32} (h01 : ¬ fs 0 = 0) (hf : ∀ j : Nat, j < 38 → fa j = fs j) (h15 : cq ≤ 15) (hq : fa 0 = nI cq) (q2 : ¬ (nI T < 1 ∨ 30 < nI T)) (hT : T ≤ 30) (hw : ¬ (w < 0 ∨ 1 < w)) (h : (b, m) = stF (m38 fs) T cq) : (¬ w = 0 → m = a_site (m38 fs) (nI T) w) ∧ (w = 0 → b = a_site (m38 fs) (nI T) w) := by
  have e0 : fs 0 = nI cq := (hf 0 (by decide)).symm.trans hq
  have h1 : 1 ≤ cq := by
    rcases Nat.eq_zero_or_pos cq with z | z
    · exact absurd (by rw [e0, z]; rfl) h01
    · exact z
  rw [site_g (r := m38 fs) (c := cq) e0 h1 h15 (fun q => q2 (Or.inl q)) hT hw, ← h]
  exact ⟨fun q => (if_neg q).symm, fun q => (if_pos q).symm⟩
end FM
/-! shares, sacks, on the other side -/
theorem th_bit {h : RF} {m : Int32} : ∀ n : Nat, n ≤ 15 → ∃ z : Nat, z < 2 ^ n ∧ thR h m n = nI z ∧ ∀ i : Nat, i < n → (z.testBit i = true ↔ h i = m)
  | 0, _ => ⟨0, by decide, rfl, fun i hi => absurd hi (Nat.not_lt_zero i)⟩
  | n + 1, hn => by
    obtain ⟨z, hz, e, hb⟩ := th_bit (h := h) (m := m) n (by omega)
    have h2 : 2 ^ (n + 1) = 2 ^ n * 2 := Nat.pow_succ 2 n
    have h3 : 0 < 2 ^ n := Nat.two_pow_pos n
    have h4 : z.testBit n = false := Nat.testBit_lt_two_pow hz
    show ∃ z : Nat, z < 2 ^ (n + 1) ∧ thR h m n ||| (if h n = m then (1 : Int32) <<< (nI n &&& 31) else 0) = nI z ∧ ∀ i : Nat, i < n + 1 → (z.testBit i = true ↔ h i = m)
    rw [e]
    by_cases q : h n = m
    · rw [if_pos q, shlN n (by omega)]
      obtain ⟨o1, o2⟩ := or_nat (a := z) (b := 2 ^ n) (n := n + 1) (by omega) (by omega) (by omega)
      refine ⟨_, o1, o2, fun i hi => ?_⟩
      rw [Nat.testBit_or, Nat.testBit_two_pow]
      by_cases t : i = n
      · subst t
        rw [h4, decide_eq_true (Eq.refl i)]
        exact ⟨fun _ => q, fun _ => rfl⟩
      · rw [decide_eq_false (fun y => t y.symm), Bool.or_false]
        exact hb i (by omega)
    · rw [if_neg q]
      refine ⟨z, by omega, Int32.or_zero, fun i hi => ?_⟩
      by_cases t : i = n
      · subst t
        rw [h4]
        exact ⟨fun y => absurd y (by decide), fun y => absurd y q⟩
      · exact hb i (by omega)
set_option maxRecDepth 100000 in
theorem has64 : ∀ z : Nat, z < 64 → ∀ i : Nat, i < 6 → (hasB (nI z) (nI i) ↔ z.testBit i = true) := by
  unfold hasB
  decide +kernel
theorem has_th {h : RF} {m : Int32} {k z i : Nat} (hk : k ≤ 6) (hz : z ≤ 63) (e : nI z = thR h m k) (hi : i < k) : hasB (nI z) (nI i) ↔ h i = m := by
  obtain ⟨y, hy, e1, hb⟩ := th_bit (h := h) (m := m) k (by omega)
  have h1 : 2 ^ k ≤ 2 ^ 6 := Nat.pow_le_pow_right (by decide) hk
  have ez : z = y := (nI_eq (by omega) (by omega)).mp (e.trans e1)
  rw [ez, has64 y (by omega) i (by omega)]
  exact hb i hi
theorem nI_k {j k : Nat} {x : Int32} (hx : nI k = x) (h : j = k) : nI j = x := by rw [h, hx]
theorem nI_nk {j k : Nat} {x : Int32} (hx : nI k = x) (h : ¬ j = k) (hj : j < 2 ^ 31) (hk : k < 2 ^ 31) : ¬ nI j = x := fun q => h (nI_inj (q.trans hx.symm) hj hk)
section SKM
variable {fs : RF} {w9 k9 h9 j n i z A : Nat} {a b : Int32}
theorem ld_M (hM : okM fs w9 k9 h9) {x : Int32} : ldS (m38 fs) x = ldR (fun s => fs (32 + s)) x k9 := by
  have h6 := hM.2.2.2.2.1
  have e : (m38 fs 4).toNatClampNeg = k9 := by
    have e1 : m38 fs 4 = nI k9 := hM.2.1
    rw [e1, nI_clamp (by omega)]
  unfold ldS
  rw [e]
  exact ldR_c k9 (fun i hi => m38_at (by omega))
theorem skM_e {v w : Nat} {t : Int32} (hM : okM fs w9 k9 h9) (h0 : ¬ fs 0 = 0) (q1 : ¬ (nI v < 0 ∨ 120 < nI v)) (q2 : ¬ (nI w < 0 ∨ 2 < nI w)) (hz : z ≤ 63) (e : nI z = thR (fun s => fs (26 + s)) 0 k9) (h : skF (m38 fs) (nI v) (nI z) (z + 1) = (a, b, t)) : a_sack (m38 fs) (nI v) (nI w) = skV (nI w) (a, b, t) := by
  have z0 : ¬ m38 fs 0 = 0 := h0
  rw [sack_g (z := z) z0 (fun q => q.elim q1 q2) ((th_M hM).trans e.symm) (by omega), h]
theorem shM_n1 {a0 a1 : Int32} (h4 : fs 4 = nI k9) (f : ¬ sB (nI k9) a0) : (-1000001 : Int32) = a_shr (m38 fs) a0 a1 := shr_n (Or.inl (fun q => f (by rw [← h4]; exact q)))
theorem shM_h (hM : okM fs w9 k9 h9) (hz : z ≤ 63) (e : nI z = thR (fun s => fs (26 + s)) 0 k9) (hi : i < k9) : hasB (nI z) (nI i) ↔ m38 fs (26 + i) = 0 := by
  have h6 := hM.2.2.2.2.1
  rw [m38_at (by omega)]
  exact has_th h6 hz e hi
theorem shM_A (hM : okM fs w9 k9 h9) (e : nI z = thR (fun s => fs (26 + s)) 0 k9) (e2 : nI A = ldR (fun s => fs (32 + s)) (nI z) k9) : shA (m38 fs) = nI A := by
  unfold shA
  rw [th_M hM, ← e, ld_M hM, ← e2]
theorem shM_z (hM : okM fs w9 k9 h9) (hj : j < k9) (q : ¬ (nI n < 0 ∨ 999 < nI n)) (hz : z ≤ 63) (e : nI z = thR (fun s => fs (26 + s)) 0 k9) (f : ¬ hasB (nI z) (nI j)) : (0 : Int32) = a_shr (m38 fs) (nI j) (nI n) :=
  shr_z (r := m38 fs) (k := k9) hM.2.1 hM.2.2.2.2.1 hj (fun y => q (Or.inl y)) (i_nlt.mp (fun y => q (Or.inr y))) (Or.inl (fun y => f ((shM_h hM hz e hj).mpr y)))
theorem shM_n {s A u t : Int32} {x : Int32} (hM : okM fs w9 k9 h9) (hi : i < k9) (hz : z ≤ 63) (e : nI z = thR (fun s => fs (26 + s)) 0 k9) (f : ¬ hasB (nI z) (nI i)) (h : shF (m38 fs) x s A i = (a, b)) (e1 : u = a - 0) (e2 : t = b + 0) : shF (m38 fs) x s A (i + 1) = (u, t) := by
  rw [shF_n (fun y => f ((shM_h hM hz e hi).mpr y)), h, e1, e2, Int32.sub_zero, Int32.add_zero]
theorem shM_y {s A u t x y y2 y3 o : Int32} (hM : okM fs w9 k9 h9) (hi : i < k9) (hz : z ≤ 63) (e : nI z = thR (fun s => fs (26 + s)) 0 k9) (f : hasB (nI z) (nI i)) (h : shF (m38 fs) x s A i = (a, b)) (e1 : y = fs (32 + i)) (e2 : y2 = x * y) (e3 : y3 = y2 / A) (e4 : u = a - y3) (c : (if nI i < s then 1 else 0) = o) (e5 : t = b + o) : shF (m38 fs) x s A (i + 1) = (u, t) := by
  have h6 := hM.2.2.2.2.1
  rw [shF_y ((shM_h hM hz e hi).mp f) h, m38_at (by omega), c, e4, e3, e2, e1, e5]
theorem shM_e {y y2 y3 o q : Int32} (hM : okM fs w9 k9 h9) (hj : j < k9) (q1 : ¬ (nI n < 0 ∨ 999 < nI n)) (hz : z ≤ 63) (e : nI z = thR (fun s => fs (26 + s)) 0 k9) (f : hasB (nI z) (nI j)) (hA : ∀ s : Nat, s < k9 → hasB (nI z) (nI s) → 1 ≤ A) (hA2 : A ≤ 120) (eA : nI A = ldR (fun s => fs (32 + s)) (nI z) k9) (h : shF (m38 fs) (nI n) (nI j) (nI A) k9 = (a, b)) (e1 : y = fs (32 + j)) (e2 : y2 = nI n * y) (e3 : y3 = y2 / nI A) (c : (if b < a then 1 else 0) = o) (e4 : q = y3 + o) : q = a_shr (m38 fs) (nI j) (nI n) := by
  have h6 := hM.2.2.2.2.1
  have p : (0 : Int32) < nI A := nI_lt (a := 0) (hA j hj f) (by omega)
  have eS := shM_A hM e eA
  rw [shr_g (r := m38 fs) (k := k9) hM.2.1 h6 hj (fun y => q1 (Or.inl y)) (i_nlt.mp (fun y => q1 (Or.inr y))) ((shM_h hM hz e hj).mp f) (by rw [eS]; exact p), eS, h, m38_at (by omega), e4, e3, e2, e1, ← c]
  rfl
end SKM
/-! caps tried row by row -/
noncomputable def gtS (c : Int32) (s : RF × Int32) : RF × Int32 := (mH (upd s.1 6 c), s.2 + tnX (s.1 6) c)
noncomputable def gtI (x : Int32) (n : Nat) : Nat → RF × Int32 → RF × Int32
  | 0, s => s
  | i + 1, s => gtS (x >>> (cdn n i &&& 31) &&& 1) (gtI x n i s)
noncomputable def cpF (wa : Int32) (r : RF) (n : Nat) : Nat → B3
  | 0 => (-1, 0, 0)
  | m + 1 => jdX (woB wa (gtI (nI m) n n (r, 0)).1) (nI m) (gtI (nI m) n n (r, 0)).2 (cpF wa r n m)
noncomputable abbrev hdG (s t f : Int32) (q : RF) : Prop := s &&& (thS q 1 ^^^ (-1)) = 0 ∧ (f < 0 ∨ t < f)
noncomputable def hdF (s : Int32) (r : RF) (n : Nat) : Nat → Int32
  | 0 => -1000000
  | m + 1 => if hdG s (gtI (nI m) n n (r, 0)).2 (hdF s r n m) (gtI (nI m) n n (r, 0)).1 then (gtI (nI m) n n (r, 0)).2 else hdF s r n m
theorem gt_st {x v29 v30 v31 v33 t o : Int32} {n i : Nat} {s : RF × Int32} {w g f : RF} (e : gtI x n i s = (w, t)) (e1 : v29 = x >>> (cdn n i &&& 31)) (e2 : v30 = v29 &&& 1) (e3 : v31 = w 6) (c : tnX v31 v30 = o) (e4 : v33 = t + o) (e5 : g = upd w 6 v30) (e6 : f = mH g) : gtI x n (i + 1) s = (f, v33) := by
  show gtS (x >>> (cdn n i &&& 31) &&& 1) (gtI x n i s) = _
  rw [e, ← e1, ← e2]
  show (mH (upd w 6 v30), t + tnX (w 6) v30) = _
  rw [← e3, c, ← e4, ← e5, ← e6]
theorem tn_y {a b : Int32} (h : a = b) : tnX b a = 0 := if_pos h.symm
theorem tn_n {a b : Int32} (h : ¬ a = b) : tnX b a = 1 := if_neg (fun q => h q.symm)
/-- the same on the row's 38 -/
theorem gt_c {x y : Int32} {n w k : Nat} {r : RF} (h3 : r 3 = nI w) (hw : w ≤ 6) (h1 : 1 ≤ w) (h4 : r 4 = nI k) (hk : k ≤ 6) : ∀ i : Nat, ((gtI x n i (r, y)).1 3 = nI w ∧ (gtI x n i (r, y)).1 4 = nI k) ∧ m38 (gtI x n i (r, y)).1 = (gtI x n i (m38 r, y)).1 ∧ (gtI x n i (r, y)).2 = (gtI x n i (m38 r, y)).2
  | 0 => ⟨⟨h3, h4⟩, rfl, rfl⟩
  | i + 1 => by
    obtain ⟨⟨a3, a4⟩, b, c⟩ := gt_c (x := x) (y := y) (n := n) h3 hw h1 h4 hk i
    show ((gtS (x >>> (cdn n i &&& 31) &&& 1) (gtI x n i (r, y))).1 3 = nI w ∧ (gtS (x >>> (cdn n i &&& 31) &&& 1) (gtI x n i (r, y))).1 4 = nI k) ∧ m38 (gtS (x >>> (cdn n i &&& 31) &&& 1) (gtI x n i (r, y))).1 = (gtS (x >>> (cdn n i &&& 31) &&& 1) (gtI x n i (m38 r, y))).1 ∧ (gtS (x >>> (cdn n i &&& 31) &&& 1) (gtI x n i (r, y))).2 = (gtS (x >>> (cdn n i &&& 31) &&& 1) (gtI x n i (m38 r, y))).2
    generalize gtI x n i (r, y) = p at a3 a4 b c ⊢
    generalize gtI x n i (m38 r, y) = q at b c ⊢
    generalize x >>> (cdn n i &&& 31) &&& 1 = C
    have u3 : upd p.1 6 C 3 = nI w := (pk_un (by decide)).trans a3
    have u4 : upd p.1 6 C 4 = nI k := (pk_un (by decide)).trans a4
    have q6 : q.1 6 = p.1 6 := by
      rw [← b]
      exact m38_at (by decide)
    refine ⟨⟨(mH_lo u4 hk (by omega)).trans u3, (mH_lo u4 hk (by omega)).trans u4⟩, ?_, ?_⟩
    · show m38 (mH (upd p.1 6 C)) = mH (upd q.1 6 C)
      rw [mH_c u3 hw h1 u4 hk, m38_up (by decide), b]
    · show p.2 + tnX (p.1 6) C = q.2 + tnX (q.1 6) C
      rw [q6, c]
theorem gt_t {x : Int32} {n : Nat} {r : RF} : ∀ i : Nat, ∃ c : Nat, c ≤ i ∧ (gtI x n i (r, 0)).2 = nI c
  | 0 => ⟨0, Nat.le_refl _, rfl⟩
  | i + 1 => by
    obtain ⟨c, hc, e⟩ := gt_t (x := x) (n := n) (r := r) i
    show ∃ c : Nat, c ≤ i + 1 ∧ (gtI x n i (r, 0)).2 + tnX ((gtI x n i (r, 0)).1 6) (x >>> (cdn n i &&& 31) &&& 1) = nI c
    rw [e]
    unfold tnX
    split
    · exact ⟨c, by omega, Int32.add_zero _⟩
    · exact ⟨c + 1, by omega, nI_add c 1⟩
section CPM
variable {fs w f : RF} {w9 k9 h9 n i j sh : Nat} {x t v a b c : Int32}
theorem cp_v (hM : okM w w9 k9 h9) (hw1 : 1 ≤ w9) (e : m38 w = m38 fs) (e1 : f = (gtI x n n (w, 0)).1) (e2 : t = (gtI x n n (w, 0)).2) : m38 f = (gtI x n n (m38 fs, 0)).1 ∧ t = (gtI x n n (m38 fs, 0)).2 := by
  obtain ⟨-, p, q⟩ := gt_c (x := x) (y := 0) (n := n) hM.1 hM.2.2.2.1 hw1 hM.2.1 hM.2.2.2.2.1 n
  rw [← e, e1, e2]
  exact ⟨p, q⟩
theorem cp_go {r : RF} (h : cpF (-1) r n i = (a, b, c)) (hq : m38 f = (gtI (nI i) n n (r, 0)).1) (ht : t = (gtI (nI i) n n (r, 0)).2) (hv : v = f 7) : cpF (-1) r n (i + 1) = jdX v (nI i) t (a, b, c) := by
  show jdX (woB (-1) (gtI (nI i) n n (r, 0)).1) (nI i) (gtI (nI i) n n (r, 0)).2 (cpF (-1) r n i) = _
  have e : woB (-1) (gtI (nI i) n n (r, 0)).1 = v := by
    rw [← hq, hv]
    unfold woB woX
    rw [if_pos rfl, mm7]
  rw [e, ← ht, h]
theorem cp_y {r : RF} (h : cpF (-1) r n (i + 1) = jdX v x t (a, b, c)) (q : a < v ∨ (v = a ∧ t < b)) : cpF (-1) r n (i + 1) = (v, t, x) := h.trans (if_pos q)
theorem cpq_n {r : RF} (h : cpF (-1) r n (i + 1) = jdX v x t (a, b, c)) (q : ¬ (a < v ∨ (v = a ∧ t < b))) : cpF (-1) r n (i + 1) = (a, b, c) := h.trans (if_neg q)
theorem hd_go {r : RF} (h : hdF x r n i = a) (hF : okM f w9 k9 h9) (hq : m38 f = (gtI (nI i) n n (r, 0)).1) (ht : t = (gtI (nI i) n n (r, 0)).2) (e : nI j = thR (fun s => f (26 + s)) 1 k9) (e1 : v = nI j ^^^ (-1)) (e2 : b = x &&& v) : hdF x r n (i + 1) = if b = 0 ∧ (a < 0 ∨ t < a) then t else a := by
  show (if hdG x (gtI (nI i) n n (r, 0)).2 (hdF x r n i) (gtI (nI i) n n (r, 0)).1 then (gtI (nI i) n n (r, 0)).2 else hdF x r n i) = _
  unfold hdG
  rw [← hq, ← ht, h, th_M hF, ← e, e2, e1]
end CPM
/-! the rows in their order are the search's -/
noncomputable def btN (m n : Nat) : Int32 := if m.testBit n = true then 1 else 0
noncomputable def gtB (m : Nat) : Nat → RF × Int32 → RF × Int32
  | 0, s => s
  | n + 1, s => gtB m n (gtS (btN m n) s)
noncomputable def jF (wa : Int32) (r : RF) (n : Nat) (y : Int32) (X : Nat) (b : B3) : Nat → B3
  | 0 => b
  | m + 1 => jdX (woB wa (gtB m n (r, y)).1) (nI (X * 2 ^ n + m)) (gtB m n (r, y)).2 (jF wa r n y X b m)
set_option maxRecDepth 100000 in
theorem bt_tab : ∀ m : Nat, m < 256 → ∀ k : Nat, k < 8 → nI m >>> (nI k &&& 31) &&& 1 = btN m k := by
  unfold btN
  decide +kernel
set_option maxRecDepth 100000 in
theorem sh_tab : ∀ X : Nat, X < 128 → ((nI X <<< ((1 : Int32) &&& 31)) ||| 1 = nI (2 * X + 1) ∧ (nI X <<< ((1 : Int32) &&& 31)) ||| 0 = nI (2 * X)) := by decide +kernel
theorem cdn_nat {n i : Nat} (hn : n ≤ 1000) (hi : i < n) : cdn n i = nI (n - 1 - i) := by
  apply Int32.toInt_inj.mp
  rw [cdn_toInt (by omega) (by omega), nI_toInt (by omega)]
  omega
theorem gt_one {x : Int32} {n : Nat} (hn : n < 1000) {s : RF × Int32} : ∀ i : Nat, i ≤ n → gtI x (n + 1) (i + 1) s = gtI x n i (gtS (x >>> (nI n &&& 31) &&& 1) s)
  | 0, _ => by
    have e : cdn (n + 1) 0 = nI n := by
      rw [cdn_nat (by omega) (by omega)]
      rfl
    show gtS (x >>> (cdn (n + 1) 0 &&& 31) &&& 1) s = _
    rw [e]
    rfl
  | i + 1, hi => by
    have h := gt_one (x := x) hn (s := s) i (by omega)
    have e : cdn (n + 1) (i + 1) = cdn n i := by
      rw [cdn_nat (by omega) (by omega), cdn_nat (by omega) (by omega)]
      congr 1
      omega
    show gtS (x >>> (cdn (n + 1) (i + 1) &&& 31) &&& 1) (gtI x (n + 1) (i + 1) s) = gtS (x >>> (cdn n i &&& 31) &&& 1) (gtI x n i (gtS (x >>> (nI n &&& 31) &&& 1) s))
    rw [h, e]
theorem gt_IB {m : Nat} (hm : m < 256) : ∀ n : Nat, n ≤ 8 → ∀ s : RF × Int32, gtI (nI m) n n s = gtB m n s
  | 0, _, _ => rfl
  | n + 1, hn, s => by
    rw [gt_one (by omega) n (Nat.le_refl _), bt_tab m hm n (by omega)]
    exact gt_IB hm n (by omega) _
theorem gtB_lo {m N : Nat} : ∀ k : Nat, k ≤ N → ∀ s : RF × Int32, gtB (2 ^ N + m) k s = gtB m k s
  | 0, _, _ => rfl
  | k + 1, hk, s => by
    have e : btN (2 ^ N + m) k = btN m k := by
      unfold btN
      rw [Nat.testBit_two_pow_add_gt (by omega)]
    show gtB (2 ^ N + m) k (gtS (btN (2 ^ N + m) k) s) = gtB m k (gtS (btN m k) s)
    rw [e, gtB_lo k (by omega)]
theorem jF_0 {wa y : Int32} {r : RF} {n X : Nat} {b : B3} : ∀ m : Nat, m ≤ 2 ^ n → jF wa r (n + 1) y X b m = jF wa (mH (upd r 6 0)) n (y + tnX (r 6) 0) (2 * X) b m
  | 0, _ => rfl
  | m + 1, hm => by
    have e : btN m n = 0 := if_neg (by rw [Nat.testBit_lt_two_pow (by omega)]; decide)
    have e2 : X * 2 ^ (n + 1) + m = 2 * X * 2 ^ n + m := by rw [Nat.pow_succ, Nat.mul_comm (2 ^ n) 2, ← Nat.mul_assoc, Nat.mul_comm X 2]
    show jdX (woB wa (gtB m n (gtS (btN m n) (r, y))).1) (nI (X * 2 ^ (n + 1) + m)) (gtB m n (gtS (btN m n) (r, y))).2 (jF wa r (n + 1) y X b m) = jdX (woB wa (gtB m n (mH (upd r 6 0), y + tnX (r 6) 0)).1) (nI (2 * X * 2 ^ n + m)) (gtB m n (mH (upd r 6 0), y + tnX (r 6) 0)).2 (jF wa (mH (upd r 6 0)) n (y + tnX (r 6) 0) (2 * X) b m)
    rw [jF_0 m (by omega), e, e2]
    rfl
theorem jF_1 {wa y : Int32} {r : RF} {n X : Nat} {b : B3} : ∀ m : Nat, m ≤ 2 ^ n → jF wa r (n + 1) y X b (2 ^ n + m) = jF wa (mH (upd r 6 1)) n (y + tnX (r 6) 1) (2 * X + 1) (jF wa r (n + 1) y X b (2 ^ n)) m
  | 0, _ => rfl
  | m + 1, hm => by
    have e : btN (2 ^ n + m) n = 1 := if_pos (by rw [Nat.testBit_two_pow_add_eq, Nat.testBit_lt_two_pow (by omega)]; rfl)
    have e2 : X * 2 ^ (n + 1) + (2 ^ n + m) = (2 * X + 1) * 2 ^ n + m := by
      rw [Nat.pow_succ, Nat.mul_comm (2 ^ n) 2, ← Nat.mul_assoc, Nat.mul_comm X 2, Nat.add_mul, Nat.one_mul, Nat.add_assoc]
    show jdX (woB wa (gtB (2 ^ n + m) n (gtS (btN (2 ^ n + m) n) (r, y))).1) (nI (X * 2 ^ (n + 1) + (2 ^ n + m))) (gtB (2 ^ n + m) n (gtS (btN (2 ^ n + m) n) (r, y))).2 (jF wa r (n + 1) y X b (2 ^ n + m)) = jdX (woB wa (gtB m n (mH (upd r 6 1), y + tnX (r 6) 1)).1) (nI ((2 * X + 1) * 2 ^ n + m)) (gtB m n (mH (upd r 6 1), y + tnX (r 6) 1)).2 (jF wa (mH (upd r 6 1)) n (y + tnX (r 6) 1) (2 * X + 1) (jF wa r (n + 1) y X b (2 ^ n)) m)
    rw [jF_1 m (by omega), e, e2, gtB_lo n (Nat.le_refl _)]
    rfl
theorem tr_jF {wa : Int32} : ∀ (n : Nat) (r : RF) (y : Int32) (X : Nat) (b : B3), X * 2 ^ n + 2 ^ n ≤ 256 → trB wa n r (nI X) y b = jF wa r n y X b (2 ^ n)
  | 0, r, y, X, b, _ => by
    show jdX (woB wa r) (nI X) y b = jdX (woB wa r) (nI (X * 1 + 0)) y b
    rw [Nat.mul_one, Nat.add_zero]
  | n + 1, r, y, X, b, h => by
    have p : 2 ^ (n + 1) = 2 ^ n * 2 := Nat.pow_succ 2 n
    have p0 : 0 < 2 ^ n := Nat.two_pow_pos n
    have e0 : X * 2 ^ (n + 1) = 2 * X * 2 ^ n := by rw [Nat.pow_succ, Nat.mul_comm (2 ^ n) 2, ← Nat.mul_assoc, Nat.mul_comm X 2]
    have e1 : (2 * X + 1) * 2 ^ n = 2 * X * 2 ^ n + 2 ^ n := by rw [Nat.add_mul, Nat.one_mul]
    have hX : X < 128 := by
      have h2 : 2 * X * 1 ≤ 2 * X * 2 ^ n := Nat.mul_le_mul_left _ p0
      omega
    obtain ⟨s1, s0⟩ := sh_tab X hX
    show trB wa n (mH (upd r 6 1)) ((nI X <<< ((1 : Int32) &&& 31)) ||| 1) (y + tnX (r 6) 1) (trB wa n (mH (upd r 6 0)) ((nI X <<< ((1 : Int32) &&& 31)) ||| 0) (y + tnX (r 6) 0) b) = _
    rw [s1, s0, tr_jF n _ _ (2 * X) b (by omega), tr_jF n _ _ (2 * X + 1) _ (by omega), p, Nat.mul_two, jF_1 (2 ^ n) (Nat.le_refl _), jF_0 (2 ^ n) (Nat.le_refl _)]
theorem cp_jF {wa : Int32} {r : RF} {n : Nat} (hn : n ≤ 8) : ∀ m : Nat, m ≤ 256 → cpF wa r n m = jF wa r n 0 0 (-1, 0, 0) m
  | 0, _ => rfl
  | m + 1, hm => by
    show jdX (woB wa (gtI (nI m) n n (r, 0)).1) (nI m) (gtI (nI m) n n (r, 0)).2 (cpF wa r n m) = jdX (woB wa (gtB m n (r, 0)).1) (nI (0 * 2 ^ n + m)) (gtB m n (r, 0)).2 (jF wa r n 0 0 (-1, 0, 0) m)
    rw [cp_jF hn m (by omega), gt_IB (by omega) n hn, Nat.zero_mul, Nat.zero_add]
theorem tr_cp {wa : Int32} {r : RF} {n sh : Nat} (hn : n ≤ 8) (hs : (1 : Int32) <<< (nI n &&& 31) = nI sh) (hb : sh ≤ 256) : trB wa n r 0 0 (-1, 0, 0) = cpF wa r n sh ∧ 1 ≤ sh := by
  have h1 : 2 ^ n ≤ 2 ^ 8 := Nat.pow_le_pow_right (by decide) hn
  have p0 : 0 < 2 ^ n := Nat.two_pow_pos n
  have e2 : sh = 2 ^ n := (nI_eq (by omega) (by omega)).mp (hs.symm.trans (shlN n (by omega)))
  rw [e2, cp_jF hn _ (by omega)]
  exact ⟨tr_jF n r 0 0 (-1, 0, 0) (by omega), p0⟩
/-- what is had: the one and the other -/
theorem hd_rel {s : Int32} {r : RF} {n : Nat} (hs : ¬ s = -1) (hn : n ≤ 8) : ∀ m : Nat, ((cpF s r n m).1 = 1 ∧ hdF s r n m = (cpF s r n m).2.1 ∧ ¬ hdF s r n m < 0) ∨ (((cpF s r n m).1 = 0 ∨ (m = 0 ∧ (cpF s r n m).1 = -1)) ∧ hdF s r n m = -1000000)
  | 0 => Or.inr ⟨Or.inr ⟨rfl, rfl⟩, rfl⟩
  | m + 1 => by
    obtain ⟨c, hc, et⟩ := gt_t (x := nI m) (n := n) (r := r) n
    have ih := hd_rel (r := r) hs hn m
    have t0 : ¬ nI c < 0 := nI_pos (by omega)
    have e1 : cpF s r n (m + 1) = jdX (woB s (gtI (nI m) n n (r, 0)).1) (nI m) (gtI (nI m) n n (r, 0)).2 (cpF s r n m) := rfl
    have e2 : hdF s r n (m + 1) = if hdG s (gtI (nI m) n n (r, 0)).2 (hdF s r n m) (gtI (nI m) n n (r, 0)).1 then (gtI (nI m) n n (r, 0)).2 else hdF s r n m := rfl
    rw [et] at e1 e2
    generalize cpF s r n m = B at e1 ih
    generalize hdF s r n m = F at e2 ih
    generalize (gtI (nI m) n n (r, 0)).1 = q at e1 e2
    obtain ⟨b1, b2, b3⟩ := B
    have z1 : (-1000000 : Int32) < 0 := by decide
    by_cases P : s &&& (thS q 1 ^^^ (-1)) = 0
    · have ew : woB s q = 1 := by
        unfold woB woX
        rw [if_neg hs, if_pos P]
      rw [ew] at e1
      rcases ih with ⟨i1, i2, i3⟩ | ⟨i1, i2⟩
      · have i1 : b1 = 1 := i1
        have i2 : F = b2 := i2
        by_cases T : nI c < b2
        · have g1 : b1 < 1 ∨ (1 = b1 ∧ nI c < b2) := Or.inr ⟨i1.symm, T⟩
          have g2 : hdG s (nI c) F q := ⟨P, Or.inr (by rw [i2]; exact T)⟩
          rw [e1, e2, if_pos g2]
          have e3 : jdX 1 (nI m) (nI c) (b1, b2, b3) = (1, nI c, nI m) := if_pos g1
          rw [e3]
          exact Or.inl ⟨rfl, rfl, t0⟩
        · have g1 : ¬ (b1 < 1 ∨ (1 = b1 ∧ nI c < b2)) := by
            rw [i1]
            exact fun z => z.elim (by decide) (fun y => T y.2)
          have g2 : ¬ hdG s (nI c) F q := fun z => z.2.elim i3 (fun y => T (by rw [← i2]; exact y))
          rw [e1, e2, if_neg g2]
          have e3 : jdX 1 (nI m) (nI c) (b1, b2, b3) = (b1, b2, b3) := if_neg g1
          rw [e3]
          exact Or.inl ⟨i1, i2, i3⟩
      · have g1 : b1 < 1 := by
          rcases i1 with z | z
          · have z : b1 = 0 := z
            rw [z]
            decide
          · have z : b1 = -1 := z.2
            rw [z]
            decide
        have g2 : hdG s (nI c) F q := ⟨P, Or.inl (by rw [i2]; exact z1)⟩
        have e3 : jdX 1 (nI m) (nI c) (b1, b2, b3) = (1, nI c, nI m) := if_pos (Or.inl g1)
        rw [e1, e2, if_pos g2, e3]
        exact Or.inl ⟨rfl, rfl, t0⟩
    · have ew : woB s q = 0 := by
        unfold woB woX
        rw [if_neg hs, if_neg P]
      have g2 : ¬ hdG s (nI c) F q := fun z => P z.1
      rw [ew] at e1
      rw [e1, e2, if_neg g2]
      rcases ih with ⟨i1, i2, i3⟩ | ⟨i1, i2⟩
      · have i1 : b1 = 1 := i1
        have g1 : ¬ (b1 < 0 ∨ (0 = b1 ∧ nI c < b2)) := by
          rw [i1]
          exact fun z => z.elim (by decide) (fun y => absurd y.1 (by decide))
        have e3 : jdX 0 (nI m) (nI c) (b1, b2, b3) = (b1, b2, b3) := if_neg g1
        rw [e3]
        exact Or.inl ⟨i1, i2, i3⟩
      · refine Or.inr ⟨Or.inl ?_, i2⟩
        unfold jdX
        split
        · rfl
        · rename_i g
          rcases i1 with z | z
          · exact z
          · have z : b1 = -1 := z.2
            exact absurd (Or.inl (by show b1 < 0; rw [z]; decide)) g
section HDM
variable {fs : RF} {w9 k9 h9 j sh : Nat} {s a b c v3 v4 n : Int32}
theorem pre_lt {z : Nat} (h1 : 1 ≤ z) (h2 : z ≤ 1000) : nI z - 1 < s ↔ nI z ≤ s := by
  have e : (nI z - 1).toInt = (z : Int) - 1 := pk_sub_toInt (a := z) (b := 1) (by omega) (by decide)
  rw [Int32.lt_iff_toInt_lt, Int32.le_iff_toInt_le, e, nI_toInt (by omega)]
  omega
theorem hadM_q (hM : okM fs w9 k9 h9) (e3 : v3 = (1 : Int32) <<< (nI k9 &&& 31)) (e4 : v4 = v3 - 1) : v4 < s ↔ (1 : Int32) <<< (m38 fs 4 &&& 31) ≤ s := by
  have h6 := hM.2.2.2.2.1
  have h4 : m38 fs 4 = nI k9 := hM.2.1
  have h1 : 2 ^ k9 ≤ 2 ^ 6 := Nat.pow_le_pow_right (by decide) h6
  have p0 : 0 < 2 ^ k9 := Nat.two_pow_pos k9
  rw [e4, e3, h4, shlN k9 (by omega)]
  exact pre_lt p0 (by omega)
theorem hadM_n (hM : okM fs w9 k9 h9) (h0 : ¬ fs 0 = 0) (e3 : v3 = (1 : Int32) <<< (nI k9 &&& 31)) (e4 : v4 = v3 - 1) (q : s < 0 ∨ v4 < s) : (-1000001 : Int32) = a_had (m38 fs) s n :=
  had_n (r := m38 fs) h0 (Or.inl (q.elim Or.inl (fun z => Or.inr ((hadM_q hM e3 e4).mp z))))
theorem hadM_e (hM : okM fs w9 k9 h9) (h0 : ¬ fs 0 = 0) (e3 : v3 = (1 : Int32) <<< (nI k9 &&& 31)) (e4 : v4 = v3 - 1) (q : ¬ (s < 0 ∨ v4 < s)) (q8 : ¬ (nI j < 1 ∨ 8 < nI j)) (hj : j ≤ 8) (hs : (1 : Int32) <<< (nI j &&& 31) = nI sh) (hb : sh ≤ 256) (h : hdF s (m38 fs) j sh = a) : a = a_had (m38 fs) s (nI j) := by
  have hs1 : ¬ s = -1 := fun z => q (Or.inl (by rw [z]; decide))
  obtain ⟨e1, p1⟩ := tr_cp (wa := s) (r := m38 fs) hj hs hb
  have hr := hd_rel (r := m38 fs) hs1 hj sh
  rw [had_g (r := m38 fs) h0 (fun z => q (Or.inl z)) (fun z => q (Or.inr ((hadM_q hM e3 e4).mpr z))) q8 (by omega), e1, ← h]
  rcases hr with ⟨i1, i2, -⟩ | ⟨i1, i2⟩
  · rw [if_neg (by rw [i1]; decide), i2]
  · rcases i1 with z | z
    · rw [if_pos z, i2]
    · omega
theorem capsM_e {k : Int32} (h0 : ¬ fs 0 = 0) (q2 : ¬ (nI j < 1 ∨ 8 < nI j)) (hj : j ≤ 8) (c5 : -2 ≤ k) (hs : (1 : Int32) <<< (nI j &&& 31) = nI sh) (hb : sh ≤ 256) (h : cpF (-1) (m38 fs) j sh = (a, b, c)) : a_caps (m38 fs) (nI j) k = if ¬ k < nI j then -1000000 else if k = -1 then (a, b, c).1 else if k = -2 then (a, b, c).2.1 else bcX (a, b, c).2.2 (nI j) k :=
  caps_g (r := m38 fs) h0 q2 (by omega) (i_nlt.mpr c5) ((tr_cp hj hs hb).1.trans h)
theorem m_lt (hj : j ≤ 8) : (-2 : Int32) < nI j ∧ (-1 : Int32) < nI j := by
  have e1 : (-2 : Int32).toInt = -2 := rfl
  have e2 : (-1 : Int32).toInt = -1 := rfl
  rw [Int32.lt_iff_toInt_lt, Int32.lt_iff_toInt_lt, e1, e2, nI_toInt (by omega)]
  omega
end HDM
section HDS
variable {X b a t : Int32}
theorem hd_1 (h : X = if b = 0 ∧ (a < 0 ∨ t < a) then t else a) (c : ¬ b = 0) : X = a := h.trans (if_neg (fun q => c q.1))
theorem hd_2 (h : X = if b = 0 ∧ (a < 0 ∨ t < a) then t else a) (c : b = 0) (c2 : a < 0) : X = t := h.trans (if_pos ⟨c, Or.inl c2⟩)
theorem hd_3 (h : X = if b = 0 ∧ (a < 0 ∨ t < a) then t else a) (c2 : ¬ a < 0) (c3 : a ≤ t) : X = a := h.trans (if_neg (fun q => q.2.elim c2 (i_nlt.mpr c3)))
theorem hd_4 (h : X = if b = 0 ∧ (a < 0 ∨ t < a) then t else a) (c : b = 0) (c3 : ¬ a ≤ t) : X = t := h.trans (if_pos ⟨c, Or.inr (i_nle.mp c3)⟩)
end HDS
theorem dX8_ahead_0 : decode cX8_ahead 0 = .ok (.aload_n 0, 1) := dq_42 (by decide +kernel)
theorem dX8_ahead_1 : decode cX8_ahead 1 = .ok (.iload_n 1, 1) := dq_27 (by decide +kernel)
theorem dX8_ahead_10 : decode cX8_ahead 10 = .ok (.lconst 0, 1) := dq_9 (by decide +kernel)
theorem dX8_ahead_101 : decode cX8_ahead 101 = .ok (.istore 5, 2) := dq_54 (b1 := 5) (by decide +kernel) (by decide)
theorem dX8_ahead_103 : decode cX8_ahead 103 = .ok (.aload_n 0, 1) := dq_42 (by decide +kernel)
theorem dX8_ahead_104 : decode cX8_ahead 104 = .ok (.invokevirtual 194, 3) := dq_182 (b1 := 0) (b2 := 194) (by decide +kernel) (by decide)
theorem dX8_ahead_107 : decode cX8_ahead 107 = .ok (.iload 5, 2) := dq_21 (b1 := 5) (by decide +kernel) (by decide)
theorem dX8_ahead_109 : decode cX8_ahead 109 = .ok (.ireturn, 1) := dq_172 (by decide +kernel)
theorem dX8_ahead_11 : decode cX8_ahead 11 = .ok (.ldc2_w 188, 3) := dq_20 (b1 := 0) (b2 := 188) (by decide +kernel) (by decide)
theorem dX8_ahead_14 : decode cX8_ahead 14 = .ok (.invokestatic 57, 3) := dq_184 (b1 := 0) (b2 := 57) (by decide +kernel) (by decide)
theorem dX8_ahead_17 : decode cX8_ahead 17 = .ok (.ifCond .eq 15, 3) := dq_153 (b1 := 0) (b2 := 15) (by decide +kernel) (by decide)
theorem dX8_ahead_2 : decode cX8_ahead 2 = .ok (.invokevirtual 173, 3) := dq_182 (b1 := 0) (b2 := 173) (by decide +kernel) (by decide)
theorem dX8_ahead_20 : decode cX8_ahead 20 = .ok (.iload_n 3, 1) := dq_29 (by decide +kernel)
theorem dX8_ahead_21 : decode cX8_ahead 21 = .ok (.i2l, 1) := dq_133 (by decide +kernel)
theorem dX8_ahead_22 : decode cX8_ahead 22 = .ok (.lconst 0, 1) := dq_9 (by decide +kernel)
theorem dX8_ahead_23 : decode cX8_ahead 23 = .ok (.ldc2_w 65, 3) := dq_20 (b1 := 0) (b2 := 65) (by decide +kernel) (by decide)
theorem dX8_ahead_26 : decode cX8_ahead 26 = .ok (.invokestatic 57, 3) := dq_184 (b1 := 0) (b2 := 57) (by decide +kernel) (by decide)
theorem dX8_ahead_29 : decode cX8_ahead 29 = .ok (.ifCond .ne 6, 3) := dq_154 (b1 := 0) (b2 := 6) (by decide +kernel) (by decide)
theorem dX8_ahead_32 : decode cX8_ahead 32 = .ok (.ldc 67, 2) := dq_18 (b1 := 67) (by decide +kernel) (by decide)
theorem dX8_ahead_34 : decode cX8_ahead 34 = .ok (.ireturn, 1) := dq_172 (by decide +kernel)
theorem dX8_ahead_35 : decode cX8_ahead 35 = .ok (.aload_n 0, 1) := dq_42 (by decide +kernel)
theorem dX8_ahead_36 : decode cX8_ahead 36 = .ok (.invokevirtual 197, 3) := dq_182 (b1 := 0) (b2 := 197) (by decide +kernel) (by decide)
theorem dX8_ahead_39 : decode cX8_ahead 39 = .ok (.aload_n 0, 1) := dq_42 (by decide +kernel)
theorem dX8_ahead_40 : decode cX8_ahead 40 = .ok (.iload_n 2, 1) := dq_28 (by decide +kernel)
theorem dX8_ahead_41 : decode cX8_ahead 41 = .ok (.invokevirtual 190, 3) := dq_182 (b1 := 0) (b2 := 190) (by decide +kernel) (by decide)
theorem dX8_ahead_44 : decode cX8_ahead 44 = .ok (.aload_n 0, 1) := dq_42 (by decide +kernel)
theorem dX8_ahead_45 : decode cX8_ahead 45 = .ok (.getfield 19, 3) := dq_180 (b1 := 0) (b2 := 19) (by decide +kernel) (by decide)
theorem dX8_ahead_48 : decode cX8_ahead 48 = .ok (.bipush 26, 2) := dq_16 (b1 := 26) (by decide +kernel) (by decide)
theorem dX8_ahead_5 : decode cX8_ahead 5 = .ok (.ifCond .eq 27, 3) := dq_153 (b1 := 0) (b2 := 27) (by decide +kernel) (by decide)
theorem dX8_ahead_50 : decode cX8_ahead 50 = .ok (.iload_n 1, 1) := dq_27 (by decide +kernel)
theorem dX8_ahead_51 : decode cX8_ahead 51 = .ok (.iadd, 1) := dq_96 (by decide +kernel)
theorem dX8_ahead_52 : decode cX8_ahead 52 = .ok (.iaload, 1) := dq_46 (by decide +kernel)
theorem dX8_ahead_53 : decode cX8_ahead 53 = .ok (.istore 4, 2) := dq_54 (b1 := 4) (by decide +kernel) (by decide)
theorem dX8_ahead_55 : decode cX8_ahead 55 = .ok (.iload_n 3, 1) := dq_29 (by decide +kernel)
theorem dX8_ahead_56 : decode cX8_ahead 56 = .ok (.iconst 1, 1) := dq_4 (by decide +kernel)
theorem dX8_ahead_57 : decode cX8_ahead 57 = .ok (.if_icmp .ne 8, 3) := dq_160 (b1 := 0) (b2 := 8) (by decide +kernel) (by decide)
theorem dX8_ahead_60 : decode cX8_ahead 60 = .ok (.iload 4, 2) := dq_21 (b1 := 4) (by decide +kernel) (by decide)
theorem dX8_ahead_62 : decode cX8_ahead 62 = .ok (.goto 39, 3) := dq_167 (b1 := 0) (b2 := 39) (by decide +kernel) (by decide)
theorem dX8_ahead_65 : decode cX8_ahead 65 = .ok (.iload_n 3, 1) := dq_29 (by decide +kernel)
theorem dX8_ahead_66 : decode cX8_ahead 66 = .ok (.iconst 2, 1) := dq_5 (by decide +kernel)
theorem dX8_ahead_67 : decode cX8_ahead 67 = .ok (.if_icmp .ne 15, 3) := dq_160 (b1 := 0) (b2 := 15) (by decide +kernel) (by decide)
theorem dX8_ahead_70 : decode cX8_ahead 70 = .ok (.aload_n 0, 1) := dq_42 (by decide +kernel)
theorem dX8_ahead_71 : decode cX8_ahead 71 = .ok (.getfield 19, 3) := dq_180 (b1 := 0) (b2 := 19) (by decide +kernel) (by decide)
theorem dX8_ahead_74 : decode cX8_ahead 74 = .ok (.bipush 32, 2) := dq_16 (b1 := 32) (by decide +kernel) (by decide)
theorem dX8_ahead_76 : decode cX8_ahead 76 = .ok (.iload_n 1, 1) := dq_27 (by decide +kernel)
theorem dX8_ahead_77 : decode cX8_ahead 77 = .ok (.iadd, 1) := dq_96 (by decide +kernel)
theorem dX8_ahead_78 : decode cX8_ahead 78 = .ok (.iaload, 1) := dq_46 (by decide +kernel)
theorem dX8_ahead_79 : decode cX8_ahead 79 = .ok (.goto 22, 3) := dq_167 (b1 := 0) (b2 := 22) (by decide +kernel) (by decide)
theorem dX8_ahead_8 : decode cX8_ahead 8 = .ok (.iload_n 2, 1) := dq_28 (by decide +kernel)
theorem dX8_ahead_82 : decode cX8_ahead 82 = .ok (.iload 4, 2) := dq_21 (b1 := 4) (by decide +kernel) (by decide)
theorem dX8_ahead_84 : decode cX8_ahead 84 = .ok (.ifCond .ne 15, 3) := dq_154 (b1 := 0) (b2 := 15) (by decide +kernel) (by decide)
theorem dX8_ahead_87 : decode cX8_ahead 87 = .ok (.aload_n 0, 1) := dq_42 (by decide +kernel)
theorem dX8_ahead_88 : decode cX8_ahead 88 = .ok (.getfield 19, 3) := dq_180 (b1 := 0) (b2 := 19) (by decide +kernel) (by decide)
theorem dX8_ahead_9 : decode cX8_ahead 9 = .ok (.i2l, 1) := dq_133 (by decide +kernel)
theorem dX8_ahead_91 : decode cX8_ahead 91 = .ok (.bipush 20, 2) := dq_16 (b1 := 20) (by decide +kernel) (by decide)
theorem dX8_ahead_93 : decode cX8_ahead 93 = .ok (.iload_n 1, 1) := dq_27 (by decide +kernel)
theorem dX8_ahead_94 : decode cX8_ahead 94 = .ok (.iadd, 1) := dq_96 (by decide +kernel)
theorem dX8_ahead_95 : decode cX8_ahead 95 = .ok (.iaload, 1) := dq_46 (by decide +kernel)
theorem dX8_ahead_96 : decode cX8_ahead 96 = .ok (.goto 5, 3) := dq_167 (b1 := 0) (b2 := 5) (by decide +kernel) (by decide)
theorem dX8_ahead_99 : decode cX8_ahead 99 = .ok (.ldc 187, 2) := dq_18 (b1 := 187) (by decide +kernel) (by decide)
theorem dX8_caps_0 : decode cX8_caps 0 = .ok (.aload_n 0, 1) := dq_42 (by decide +kernel)
theorem dX8_caps_1 : decode cX8_caps 1 = .ok (.getfield 138, 3) := dq_180 (b1 := 0) (b2 := 138) (by decide +kernel) (by decide)
theorem dX8_caps_10 : decode cX8_caps 10 = .ok (.iload_n 1, 1) := dq_27 (by decide +kernel)
theorem dX8_caps_100 : decode cX8_caps 100 = .ok (.iload 8, 2) := dq_21 (b1 := 8) (by decide +kernel) (by decide)
theorem dX8_caps_102 : decode cX8_caps 102 = .ok (.istore 4, 2) := dq_54 (b1 := 4) (by decide +kernel) (by decide)
theorem dX8_caps_104 : decode cX8_caps 104 = .ok (.iload 7, 2) := dq_21 (b1 := 7) (by decide +kernel) (by decide)
theorem dX8_caps_106 : decode cX8_caps 106 = .ok (.istore 5, 2) := dq_54 (b1 := 5) (by decide +kernel) (by decide)
theorem dX8_caps_108 : decode cX8_caps 108 = .ok (.iinc 6 1, 3) := dq_132 (b1 := 6) (b2 := 1) (by decide +kernel) (by decide) (by decide)
theorem dX8_caps_11 : decode cX8_caps 11 = .ok (.i2l, 1) := dq_133 (by decide +kernel)
theorem dX8_caps_111 : decode cX8_caps 111 = .ok (.goto (-65), 3) := dq_167 (b1 := 255) (b2 := 191) (by decide +kernel) (by decide)
theorem dX8_caps_114 : decode cX8_caps 114 = .ok (.iload_n 2, 1) := dq_28 (by decide +kernel)
theorem dX8_caps_115 : decode cX8_caps 115 = .ok (.iconst (-1), 1) := dq_2 (by decide +kernel)
theorem dX8_caps_116 : decode cX8_caps 116 = .ok (.if_icmp .ne 8, 3) := dq_160 (b1 := 0) (b2 := 8) (by decide +kernel) (by decide)
theorem dX8_caps_119 : decode cX8_caps 119 = .ok (.iload 4, 2) := dq_21 (b1 := 4) (by decide +kernel) (by decide)
theorem dX8_caps_12 : decode cX8_caps 12 = .ok (.lconst 1, 1) := dq_10 (by decide +kernel)
theorem dX8_caps_121 : decode cX8_caps 121 = .ok (.goto 33, 3) := dq_167 (b1 := 0) (b2 := 33) (by decide +kernel) (by decide)
theorem dX8_caps_124 : decode cX8_caps 124 = .ok (.iload_n 2, 1) := dq_28 (by decide +kernel)
theorem dX8_caps_125 : decode cX8_caps 125 = .ok (.bipush (-2), 2) := dq_16 (b1 := 254) (by decide +kernel) (by decide)
theorem dX8_caps_127 : decode cX8_caps 127 = .ok (.if_icmp .ne 8, 3) := dq_160 (b1 := 0) (b2 := 8) (by decide +kernel) (by decide)
theorem dX8_caps_13 : decode cX8_caps 13 = .ok (.ldc2_w 203, 3) := dq_20 (b1 := 0) (b2 := 203) (by decide +kernel) (by decide)
theorem dX8_caps_130 : decode cX8_caps 130 = .ok (.iload 5, 2) := dq_21 (b1 := 5) (by decide +kernel) (by decide)
theorem dX8_caps_132 : decode cX8_caps 132 = .ok (.goto 22, 3) := dq_167 (b1 := 0) (b2 := 22) (by decide +kernel) (by decide)
theorem dX8_caps_135 : decode cX8_caps 135 = .ok (.iload_n 2, 1) := dq_28 (by decide +kernel)
theorem dX8_caps_136 : decode cX8_caps 136 = .ok (.iload_n 1, 1) := dq_27 (by decide +kernel)
theorem dX8_caps_137 : decode cX8_caps 137 = .ok (.if_icmp .ge 15, 3) := dq_162 (b1 := 0) (b2 := 15) (by decide +kernel) (by decide)
theorem dX8_caps_140 : decode cX8_caps 140 = .ok (.iload_n 3, 1) := dq_29 (by decide +kernel)
theorem dX8_caps_141 : decode cX8_caps 141 = .ok (.iload_n 1, 1) := dq_27 (by decide +kernel)
theorem dX8_caps_142 : decode cX8_caps 142 = .ok (.iconst 1, 1) := dq_4 (by decide +kernel)
theorem dX8_caps_143 : decode cX8_caps 143 = .ok (.isub, 1) := dq_100 (by decide +kernel)
theorem dX8_caps_144 : decode cX8_caps 144 = .ok (.iload_n 2, 1) := dq_28 (by decide +kernel)
theorem dX8_caps_145 : decode cX8_caps 145 = .ok (.isub, 1) := dq_100 (by decide +kernel)
theorem dX8_caps_146 : decode cX8_caps 146 = .ok (.ishr, 1) := dq_122 (by decide +kernel)
theorem dX8_caps_147 : decode cX8_caps 147 = .ok (.iconst 1, 1) := dq_4 (by decide +kernel)
theorem dX8_caps_148 : decode cX8_caps 148 = .ok (.iand, 1) := dq_126 (by decide +kernel)
theorem dX8_caps_149 : decode cX8_caps 149 = .ok (.goto 5, 3) := dq_167 (b1 := 0) (b2 := 5) (by decide +kernel) (by decide)
theorem dX8_caps_152 : decode cX8_caps 152 = .ok (.ldc 187, 2) := dq_18 (b1 := 187) (by decide +kernel) (by decide)
theorem dX8_caps_154 : decode cX8_caps 154 = .ok (.ireturn, 1) := dq_172 (by decide +kernel)
theorem dX8_caps_16 : decode cX8_caps 16 = .ok (.invokestatic 57, 3) := dq_184 (b1 := 0) (b2 := 57) (by decide +kernel) (by decide)
theorem dX8_caps_19 : decode cX8_caps 19 = .ok (.ifCond .eq 9, 3) := dq_153 (b1 := 0) (b2 := 9) (by decide +kernel) (by decide)
theorem dX8_caps_22 : decode cX8_caps 22 = .ok (.iload_n 2, 1) := dq_28 (by decide +kernel)
theorem dX8_caps_23 : decode cX8_caps 23 = .ok (.bipush (-2), 2) := dq_16 (b1 := 254) (by decide +kernel) (by decide)
theorem dX8_caps_25 : decode cX8_caps 25 = .ok (.if_icmp .ge 6, 3) := dq_162 (b1 := 0) (b2 := 6) (by decide +kernel) (by decide)
theorem dX8_caps_28 : decode cX8_caps 28 = .ok (.ldc 67, 2) := dq_18 (b1 := 67) (by decide +kernel) (by decide)
theorem dX8_caps_30 : decode cX8_caps 30 = .ok (.ireturn, 1) := dq_172 (by decide +kernel)
theorem dX8_caps_31 : decode cX8_caps 31 = .ok (.aload_n 0, 1) := dq_42 (by decide +kernel)
theorem dX8_caps_32 : decode cX8_caps 32 = .ok (.invokevirtual 197, 3) := dq_182 (b1 := 0) (b2 := 197) (by decide +kernel) (by decide)
theorem dX8_caps_35 : decode cX8_caps 35 = .ok (.iconst 0, 1) := dq_3 (by decide +kernel)
theorem dX8_caps_36 : decode cX8_caps 36 = .ok (.istore_n 3, 1) := dq_62 (by decide +kernel)
theorem dX8_caps_37 : decode cX8_caps 37 = .ok (.iconst (-1), 1) := dq_2 (by decide +kernel)
theorem dX8_caps_38 : decode cX8_caps 38 = .ok (.istore 4, 2) := dq_54 (b1 := 4) (by decide +kernel) (by decide)
theorem dX8_caps_4 : decode cX8_caps 4 = .ok (.ifCond .ne 6, 3) := dq_154 (b1 := 0) (b2 := 6) (by decide +kernel) (by decide)
theorem dX8_caps_40 : decode cX8_caps 40 = .ok (.iconst 0, 1) := dq_3 (by decide +kernel)
theorem dX8_caps_41 : decode cX8_caps 41 = .ok (.istore 5, 2) := dq_54 (b1 := 5) (by decide +kernel) (by decide)
theorem dX8_caps_43 : decode cX8_caps 43 = .ok (.iconst 0, 1) := dq_3 (by decide +kernel)
theorem dX8_caps_44 : decode cX8_caps 44 = .ok (.istore 6, 2) := dq_54 (b1 := 6) (by decide +kernel) (by decide)
theorem dX8_caps_46 : decode cX8_caps 46 = .ok (.iload 6, 2) := dq_21 (b1 := 6) (by decide +kernel) (by decide)
theorem dX8_caps_48 : decode cX8_caps 48 = .ok (.iconst 1, 1) := dq_4 (by decide +kernel)
theorem dX8_caps_49 : decode cX8_caps 49 = .ok (.iload_n 1, 1) := dq_27 (by decide +kernel)
theorem dX8_caps_50 : decode cX8_caps 50 = .ok (.ishl, 1) := dq_120 (by decide +kernel)
theorem dX8_caps_51 : decode cX8_caps 51 = .ok (.if_icmp .ge 63, 3) := dq_162 (b1 := 0) (b2 := 63) (by decide +kernel) (by decide)
theorem dX8_caps_54 : decode cX8_caps 54 = .ok (.aload_n 0, 1) := dq_42 (by decide +kernel)
theorem dX8_caps_55 : decode cX8_caps 55 = .ok (.iload 6, 2) := dq_21 (b1 := 6) (by decide +kernel) (by decide)
theorem dX8_caps_57 : decode cX8_caps 57 = .ok (.iload_n 1, 1) := dq_27 (by decide +kernel)
theorem dX8_caps_58 : decode cX8_caps 58 = .ok (.invokevirtual 205, 3) := dq_182 (b1 := 0) (b2 := 205) (by decide +kernel) (by decide)
theorem dX8_caps_61 : decode cX8_caps 61 = .ok (.istore 7, 2) := dq_54 (b1 := 7) (by decide +kernel) (by decide)
theorem dX8_caps_63 : decode cX8_caps 63 = .ok (.aload_n 0, 1) := dq_42 (by decide +kernel)
theorem dX8_caps_64 : decode cX8_caps 64 = .ok (.getfield 19, 3) := dq_180 (b1 := 0) (b2 := 19) (by decide +kernel) (by decide)
theorem dX8_caps_67 : decode cX8_caps 67 = .ok (.bipush 7, 2) := dq_16 (b1 := 7) (by decide +kernel) (by decide)
theorem dX8_caps_69 : decode cX8_caps 69 = .ok (.iaload, 1) := dq_46 (by decide +kernel)
theorem dX8_caps_7 : decode cX8_caps 7 = .ok (.ldc 161, 2) := dq_18 (b1 := 161) (by decide +kernel) (by decide)
theorem dX8_caps_70 : decode cX8_caps 70 = .ok (.istore 8, 2) := dq_54 (b1 := 8) (by decide +kernel) (by decide)
theorem dX8_caps_72 : decode cX8_caps 72 = .ok (.aload_n 0, 1) := dq_42 (by decide +kernel)
theorem dX8_caps_73 : decode cX8_caps 73 = .ok (.invokevirtual 194, 3) := dq_182 (b1 := 0) (b2 := 194) (by decide +kernel) (by decide)
theorem dX8_caps_76 : decode cX8_caps 76 = .ok (.iload 8, 2) := dq_21 (b1 := 8) (by decide +kernel) (by decide)
theorem dX8_caps_78 : decode cX8_caps 78 = .ok (.iload 4, 2) := dq_21 (b1 := 4) (by decide +kernel) (by decide)
theorem dX8_caps_80 : decode cX8_caps 80 = .ok (.if_icmp .gt 17, 3) := dq_163 (b1 := 0) (b2 := 17) (by decide +kernel) (by decide)
theorem dX8_caps_83 : decode cX8_caps 83 = .ok (.iload 8, 2) := dq_21 (b1 := 8) (by decide +kernel) (by decide)
theorem dX8_caps_85 : decode cX8_caps 85 = .ok (.iload 4, 2) := dq_21 (b1 := 4) (by decide +kernel) (by decide)
theorem dX8_caps_87 : decode cX8_caps 87 = .ok (.if_icmp .ne 21, 3) := dq_160 (b1 := 0) (b2 := 21) (by decide +kernel) (by decide)
theorem dX8_caps_9 : decode cX8_caps 9 = .ok (.ireturn, 1) := dq_172 (by decide +kernel)
theorem dX8_caps_90 : decode cX8_caps 90 = .ok (.iload 7, 2) := dq_21 (b1 := 7) (by decide +kernel) (by decide)
theorem dX8_caps_92 : decode cX8_caps 92 = .ok (.iload 5, 2) := dq_21 (b1 := 5) (by decide +kernel) (by decide)
theorem dX8_caps_94 : decode cX8_caps 94 = .ok (.if_icmp .ge 14, 3) := dq_162 (b1 := 0) (b2 := 14) (by decide +kernel) (by decide)
theorem dX8_caps_97 : decode cX8_caps 97 = .ok (.iload 6, 2) := dq_21 (b1 := 6) (by decide +kernel) (by decide)
theorem dX8_caps_99 : decode cX8_caps 99 = .ok (.istore_n 3, 1) := dq_62 (by decide +kernel)
theorem dX8_goOn_0 : decode cX8_goOn 0 = .ok (.iconst 0, 1) := dq_3 (by decide +kernel)
theorem dX8_goOn_1 : decode cX8_goOn 1 = .ok (.istore_n 2, 1) := dq_61 (by decide +kernel)
theorem dX8_goOn_11 : decode cX8_goOn 11 = .ok (.pop, 1) := dq_87 (by decide +kernel)
theorem dX8_goOn_12 : decode cX8_goOn 12 = .ok (.iinc 2 1, 3) := dq_132 (b1 := 2) (b2 := 1) (by decide +kernel) (by decide) (by decide)
theorem dX8_goOn_15 : decode cX8_goOn 15 = .ok (.goto (-13), 3) := dq_167 (b1 := 255) (b2 := 243) (by decide +kernel) (by decide)
theorem dX8_goOn_18 : decode cX8_goOn 18 = .ok (.return_, 1) := dq_177 (by decide +kernel)
theorem dX8_goOn_2 : decode cX8_goOn 2 = .ok (.iload_n 2, 1) := dq_28 (by decide +kernel)
theorem dX8_goOn_3 : decode cX8_goOn 3 = .ok (.iload_n 1, 1) := dq_27 (by decide +kernel)
theorem dX8_goOn_4 : decode cX8_goOn 4 = .ok (.if_icmp .ge 14, 3) := dq_162 (b1 := 0) (b2 := 14) (by decide +kernel) (by decide)
theorem dX8_goOn_7 : decode cX8_goOn 7 = .ok (.aload_n 0, 1) := dq_42 (by decide +kernel)
theorem dX8_goOn_8 : decode cX8_goOn 8 = .ok (.invokevirtual 167, 3) := dq_182 (b1 := 0) (b2 := 167) (by decide +kernel) (by decide)
theorem dX8_goTurning_0 : decode cX8_goTurning 0 = .ok (.iconst 0, 1) := dq_3 (by decide +kernel)
theorem dX8_goTurning_1 : decode cX8_goTurning 1 = .ok (.istore_n 3, 1) := dq_62 (by decide +kernel)
theorem dX8_goTurning_12 : decode cX8_goTurning 12 = .ok (.iload_n 1, 1) := dq_27 (by decide +kernel)
theorem dX8_goTurning_13 : decode cX8_goTurning 13 = .ok (.iload 4, 2) := dq_21 (b1 := 4) (by decide +kernel) (by decide)
theorem dX8_goTurning_15 : decode cX8_goTurning 15 = .ok (.ishr, 1) := dq_122 (by decide +kernel)
theorem dX8_goTurning_16 : decode cX8_goTurning 16 = .ok (.iconst 1, 1) := dq_4 (by decide +kernel)
theorem dX8_goTurning_17 : decode cX8_goTurning 17 = .ok (.iand, 1) := dq_126 (by decide +kernel)
theorem dX8_goTurning_18 : decode cX8_goTurning 18 = .ok (.istore 5, 2) := dq_54 (b1 := 5) (by decide +kernel) (by decide)
theorem dX8_goTurning_2 : decode cX8_goTurning 2 = .ok (.iload_n 2, 1) := dq_28 (by decide +kernel)
theorem dX8_goTurning_20 : decode cX8_goTurning 20 = .ok (.iload_n 3, 1) := dq_29 (by decide +kernel)
theorem dX8_goTurning_21 : decode cX8_goTurning 21 = .ok (.iload 5, 2) := dq_21 (b1 := 5) (by decide +kernel) (by decide)
theorem dX8_goTurning_23 : decode cX8_goTurning 23 = .ok (.aload_n 0, 1) := dq_42 (by decide +kernel)
theorem dX8_goTurning_24 : decode cX8_goTurning 24 = .ok (.getfield 19, 3) := dq_180 (b1 := 0) (b2 := 19) (by decide +kernel) (by decide)
theorem dX8_goTurning_27 : decode cX8_goTurning 27 = .ok (.bipush 6, 2) := dq_16 (b1 := 6) (by decide +kernel) (by decide)
theorem dX8_goTurning_29 : decode cX8_goTurning 29 = .ok (.iaload, 1) := dq_46 (by decide +kernel)
theorem dX8_goTurning_3 : decode cX8_goTurning 3 = .ok (.iconst 1, 1) := dq_4 (by decide +kernel)
theorem dX8_goTurning_30 : decode cX8_goTurning 30 = .ok (.if_icmp .ne 7, 3) := dq_160 (b1 := 0) (b2 := 7) (by decide +kernel) (by decide)
theorem dX8_goTurning_33 : decode cX8_goTurning 33 = .ok (.iconst 0, 1) := dq_3 (by decide +kernel)
theorem dX8_goTurning_34 : decode cX8_goTurning 34 = .ok (.goto 4, 3) := dq_167 (b1 := 0) (b2 := 4) (by decide +kernel) (by decide)
theorem dX8_goTurning_37 : decode cX8_goTurning 37 = .ok (.iconst 1, 1) := dq_4 (by decide +kernel)
theorem dX8_goTurning_38 : decode cX8_goTurning 38 = .ok (.iadd, 1) := dq_96 (by decide +kernel)
theorem dX8_goTurning_39 : decode cX8_goTurning 39 = .ok (.istore_n 3, 1) := dq_62 (by decide +kernel)
theorem dX8_goTurning_4 : decode cX8_goTurning 4 = .ok (.isub, 1) := dq_100 (by decide +kernel)
theorem dX8_goTurning_40 : decode cX8_goTurning 40 = .ok (.aload_n 0, 1) := dq_42 (by decide +kernel)
theorem dX8_goTurning_41 : decode cX8_goTurning 41 = .ok (.getfield 19, 3) := dq_180 (b1 := 0) (b2 := 19) (by decide +kernel) (by decide)
theorem dX8_goTurning_44 : decode cX8_goTurning 44 = .ok (.bipush 6, 2) := dq_16 (b1 := 6) (by decide +kernel) (by decide)
theorem dX8_goTurning_46 : decode cX8_goTurning 46 = .ok (.iload 5, 2) := dq_21 (b1 := 5) (by decide +kernel) (by decide)
theorem dX8_goTurning_48 : decode cX8_goTurning 48 = .ok (.iastore, 1) := dq_79 (by decide +kernel)
theorem dX8_goTurning_49 : decode cX8_goTurning 49 = .ok (.aload_n 0, 1) := dq_42 (by decide +kernel)
theorem dX8_goTurning_5 : decode cX8_goTurning 5 = .ok (.istore 4, 2) := dq_54 (b1 := 4) (by decide +kernel) (by decide)
theorem dX8_goTurning_50 : decode cX8_goTurning 50 = .ok (.invokevirtual 167, 3) := dq_182 (b1 := 0) (b2 := 167) (by decide +kernel) (by decide)
theorem dX8_goTurning_53 : decode cX8_goTurning 53 = .ok (.pop, 1) := dq_87 (by decide +kernel)
theorem dX8_goTurning_54 : decode cX8_goTurning 54 = .ok (.iinc 4 (-1), 3) := dq_132 (b1 := 4) (b2 := 255) (by decide +kernel) (by decide) (by decide)
theorem dX8_goTurning_57 : decode cX8_goTurning 57 = .ok (.goto (-50), 3) := dq_167 (b1 := 255) (b2 := 206) (by decide +kernel) (by decide)
theorem dX8_goTurning_60 : decode cX8_goTurning 60 = .ok (.iload_n 3, 1) := dq_29 (by decide +kernel)
theorem dX8_goTurning_61 : decode cX8_goTurning 61 = .ok (.ireturn, 1) := dq_172 (by decide +kernel)
theorem dX8_goTurning_7 : decode cX8_goTurning 7 = .ok (.iload 4, 2) := dq_21 (b1 := 4) (by decide +kernel) (by decide)
theorem dX8_goTurning_9 : decode cX8_goTurning 9 = .ok (.ifCond .lt 51, 3) := dq_155 (b1 := 0) (b2 := 51) (by decide +kernel) (by decide)
theorem dX8_gust_0 : decode cX8_gust 0 = .ok (.aload_n 0, 1) := dq_42 (by decide +kernel)
theorem dX8_gust_1 : decode cX8_gust 1 = .ok (.getfield 138, 3) := dq_180 (b1 := 0) (b2 := 138) (by decide +kernel) (by decide)
theorem dX8_gust_12 : decode cX8_gust 12 = .ok (.iload_n 1, 1) := dq_27 (by decide +kernel)
theorem dX8_gust_13 : decode cX8_gust 13 = .ok (.i2l, 1) := dq_133 (by decide +kernel)
theorem dX8_gust_14 : decode cX8_gust 14 = .ok (.lconst 0, 1) := dq_9 (by decide +kernel)
theorem dX8_gust_15 : decode cX8_gust 15 = .ok (.ldc2_w 188, 3) := dq_20 (b1 := 0) (b2 := 188) (by decide +kernel) (by decide)
theorem dX8_gust_18 : decode cX8_gust 18 = .ok (.invokestatic 57, 3) := dq_184 (b1 := 0) (b2 := 57) (by decide +kernel) (by decide)
theorem dX8_gust_21 : decode cX8_gust 21 = .ok (.ifCond .eq 18, 3) := dq_153 (b1 := 0) (b2 := 18) (by decide +kernel) (by decide)
theorem dX8_gust_24 : decode cX8_gust 24 = .ok (.aload_n 0, 1) := dq_42 (by decide +kernel)
theorem dX8_gust_25 : decode cX8_gust 25 = .ok (.aload_n 0, 1) := dq_42 (by decide +kernel)
theorem dX8_gust_26 : decode cX8_gust 26 = .ok (.getfield 19, 3) := dq_180 (b1 := 0) (b2 := 19) (by decide +kernel) (by decide)
theorem dX8_gust_29 : decode cX8_gust 29 = .ok (.iconst 5, 1) := dq_8 (by decide +kernel)
theorem dX8_gust_30 : decode cX8_gust 30 = .ok (.iaload, 1) := dq_46 (by decide +kernel)
theorem dX8_gust_31 : decode cX8_gust 31 = .ok (.iload_n 1, 1) := dq_27 (by decide +kernel)
theorem dX8_gust_32 : decode cX8_gust 32 = .ok (.iadd, 1) := dq_96 (by decide +kernel)
theorem dX8_gust_33 : decode cX8_gust 33 = .ok (.invokevirtual 151, 3) := dq_182 (b1 := 0) (b2 := 151) (by decide +kernel) (by decide)
theorem dX8_gust_36 : decode cX8_gust 36 = .ok (.goto 5, 3) := dq_167 (b1 := 0) (b2 := 5) (by decide +kernel) (by decide)
theorem dX8_gust_39 : decode cX8_gust 39 = .ok (.ldc 67, 2) := dq_18 (b1 := 67) (by decide +kernel) (by decide)
theorem dX8_gust_4 : decode cX8_gust 4 = .ok (.ifCond .ne 8, 3) := dq_154 (b1 := 0) (b2 := 8) (by decide +kernel) (by decide)
theorem dX8_gust_41 : decode cX8_gust 41 = .ok (.ireturn, 1) := dq_172 (by decide +kernel)
theorem dX8_gust_7 : decode cX8_gust 7 = .ok (.ldc 161, 2) := dq_18 (b1 := 161) (by decide +kernel) (by decide)
theorem dX8_gust_9 : decode cX8_gust 9 = .ok (.goto 32, 3) := dq_167 (b1 := 0) (b2 := 32) (by decide +kernel) (by decide)
theorem dX8_had_0 : decode cX8_had 0 = .ok (.aload_n 0, 1) := dq_42 (by decide +kernel)
theorem dX8_had_1 : decode cX8_had 1 = .ok (.getfield 138, 3) := dq_180 (b1 := 0) (b2 := 138) (by decide +kernel) (by decide)
theorem dX8_had_10 : decode cX8_had 10 = .ok (.iload_n 1, 1) := dq_27 (by decide +kernel)
theorem dX8_had_100 : decode cX8_had 100 = .ok (.iload_n 3, 1) := dq_29 (by decide +kernel)
theorem dX8_had_101 : decode cX8_had 101 = .ok (.ifCond .lt 9, 3) := dq_155 (b1 := 0) (b2 := 9) (by decide +kernel) (by decide)
theorem dX8_had_104 : decode cX8_had 104 = .ok (.iload 5, 2) := dq_21 (b1 := 5) (by decide +kernel) (by decide)
theorem dX8_had_106 : decode cX8_had 106 = .ok (.iload_n 3, 1) := dq_29 (by decide +kernel)
theorem dX8_had_107 : decode cX8_had 107 = .ok (.if_icmp .ge 8, 3) := dq_162 (b1 := 0) (b2 := 8) (by decide +kernel) (by decide)
theorem dX8_had_11 : decode cX8_had 11 = .ok (.i2l, 1) := dq_133 (by decide +kernel)
theorem dX8_had_110 : decode cX8_had 110 = .ok (.iload 5, 2) := dq_21 (b1 := 5) (by decide +kernel) (by decide)
theorem dX8_had_112 : decode cX8_had 112 = .ok (.goto 4, 3) := dq_167 (b1 := 0) (b2 := 4) (by decide +kernel) (by decide)
theorem dX8_had_115 : decode cX8_had 115 = .ok (.iload_n 3, 1) := dq_29 (by decide +kernel)
theorem dX8_had_116 : decode cX8_had 116 = .ok (.istore_n 3, 1) := dq_62 (by decide +kernel)
theorem dX8_had_117 : decode cX8_had 117 = .ok (.iinc 4 1, 3) := dq_132 (b1 := 4) (b2 := 1) (by decide +kernel) (by decide) (by decide)
theorem dX8_had_12 : decode cX8_had 12 = .ok (.lconst 0, 1) := dq_9 (by decide +kernel)
theorem dX8_had_120 : decode cX8_had 120 = .ok (.goto (-65), 3) := dq_167 (b1 := 255) (b2 := 191) (by decide +kernel) (by decide)
theorem dX8_had_123 : decode cX8_had 123 = .ok (.iload_n 3, 1) := dq_29 (by decide +kernel)
theorem dX8_had_124 : decode cX8_had 124 = .ok (.ireturn, 1) := dq_172 (by decide +kernel)
theorem dX8_had_13 : decode cX8_had 13 = .ok (.iconst 1, 1) := dq_4 (by decide +kernel)
theorem dX8_had_14 : decode cX8_had 14 = .ok (.aload_n 0, 1) := dq_42 (by decide +kernel)
theorem dX8_had_15 : decode cX8_had 15 = .ok (.getfield 19, 3) := dq_180 (b1 := 0) (b2 := 19) (by decide +kernel) (by decide)
theorem dX8_had_18 : decode cX8_had 18 = .ok (.iconst 4, 1) := dq_7 (by decide +kernel)
theorem dX8_had_19 : decode cX8_had 19 = .ok (.iaload, 1) := dq_46 (by decide +kernel)
theorem dX8_had_20 : decode cX8_had 20 = .ok (.ishl, 1) := dq_120 (by decide +kernel)
theorem dX8_had_21 : decode cX8_had 21 = .ok (.iconst 1, 1) := dq_4 (by decide +kernel)
theorem dX8_had_22 : decode cX8_had 22 = .ok (.isub, 1) := dq_100 (by decide +kernel)
theorem dX8_had_23 : decode cX8_had 23 = .ok (.i2l, 1) := dq_133 (by decide +kernel)
theorem dX8_had_24 : decode cX8_had 24 = .ok (.invokestatic 57, 3) := dq_184 (b1 := 0) (b2 := 57) (by decide +kernel) (by decide)
theorem dX8_had_27 : decode cX8_had 27 = .ok (.ifCond .eq 15, 3) := dq_153 (b1 := 0) (b2 := 15) (by decide +kernel) (by decide)
theorem dX8_had_30 : decode cX8_had 30 = .ok (.iload_n 2, 1) := dq_28 (by decide +kernel)
theorem dX8_had_31 : decode cX8_had 31 = .ok (.i2l, 1) := dq_133 (by decide +kernel)
theorem dX8_had_32 : decode cX8_had 32 = .ok (.lconst 1, 1) := dq_10 (by decide +kernel)
theorem dX8_had_33 : decode cX8_had 33 = .ok (.ldc2_w 203, 3) := dq_20 (b1 := 0) (b2 := 203) (by decide +kernel) (by decide)
theorem dX8_had_36 : decode cX8_had 36 = .ok (.invokestatic 57, 3) := dq_184 (b1 := 0) (b2 := 57) (by decide +kernel) (by decide)
theorem dX8_had_39 : decode cX8_had 39 = .ok (.ifCond .ne 6, 3) := dq_154 (b1 := 0) (b2 := 6) (by decide +kernel) (by decide)
theorem dX8_had_4 : decode cX8_had 4 = .ok (.ifCond .ne 6, 3) := dq_154 (b1 := 0) (b2 := 6) (by decide +kernel) (by decide)
theorem dX8_had_42 : decode cX8_had 42 = .ok (.ldc 67, 2) := dq_18 (b1 := 67) (by decide +kernel) (by decide)
theorem dX8_had_44 : decode cX8_had 44 = .ok (.ireturn, 1) := dq_172 (by decide +kernel)
theorem dX8_had_45 : decode cX8_had 45 = .ok (.aload_n 0, 1) := dq_42 (by decide +kernel)
theorem dX8_had_46 : decode cX8_had 46 = .ok (.invokevirtual 197, 3) := dq_182 (b1 := 0) (b2 := 197) (by decide +kernel) (by decide)
theorem dX8_had_49 : decode cX8_had 49 = .ok (.ldc 187, 2) := dq_18 (b1 := 187) (by decide +kernel) (by decide)
theorem dX8_had_51 : decode cX8_had 51 = .ok (.istore_n 3, 1) := dq_62 (by decide +kernel)
theorem dX8_had_52 : decode cX8_had 52 = .ok (.iconst 0, 1) := dq_3 (by decide +kernel)
theorem dX8_had_53 : decode cX8_had 53 = .ok (.istore 4, 2) := dq_54 (b1 := 4) (by decide +kernel) (by decide)
theorem dX8_had_55 : decode cX8_had 55 = .ok (.iload 4, 2) := dq_21 (b1 := 4) (by decide +kernel) (by decide)
theorem dX8_had_57 : decode cX8_had 57 = .ok (.iconst 1, 1) := dq_4 (by decide +kernel)
theorem dX8_had_58 : decode cX8_had 58 = .ok (.iload_n 2, 1) := dq_28 (by decide +kernel)
theorem dX8_had_59 : decode cX8_had 59 = .ok (.ishl, 1) := dq_120 (by decide +kernel)
theorem dX8_had_60 : decode cX8_had 60 = .ok (.if_icmp .ge 63, 3) := dq_162 (b1 := 0) (b2 := 63) (by decide +kernel) (by decide)
theorem dX8_had_63 : decode cX8_had 63 = .ok (.aload_n 0, 1) := dq_42 (by decide +kernel)
theorem dX8_had_64 : decode cX8_had 64 = .ok (.iload 4, 2) := dq_21 (b1 := 4) (by decide +kernel) (by decide)
theorem dX8_had_66 : decode cX8_had 66 = .ok (.iload_n 2, 1) := dq_28 (by decide +kernel)
theorem dX8_had_67 : decode cX8_had 67 = .ok (.invokevirtual 205, 3) := dq_182 (b1 := 0) (b2 := 205) (by decide +kernel) (by decide)
theorem dX8_had_7 : decode cX8_had 7 = .ok (.ldc 161, 2) := dq_18 (b1 := 161) (by decide +kernel) (by decide)
theorem dX8_had_70 : decode cX8_had 70 = .ok (.istore 5, 2) := dq_54 (b1 := 5) (by decide +kernel) (by decide)
theorem dX8_had_72 : decode cX8_had 72 = .ok (.iload_n 1, 1) := dq_27 (by decide +kernel)
theorem dX8_had_73 : decode cX8_had 73 = .ok (.aload_n 0, 1) := dq_42 (by decide +kernel)
theorem dX8_had_74 : decode cX8_had 74 = .ok (.iconst 1, 1) := dq_4 (by decide +kernel)
theorem dX8_had_75 : decode cX8_had 75 = .ok (.invokevirtual 182, 3) := dq_182 (b1 := 0) (b2 := 182) (by decide +kernel) (by decide)
theorem dX8_had_78 : decode cX8_had 78 = .ok (.iconst (-1), 1) := dq_2 (by decide +kernel)
theorem dX8_had_79 : decode cX8_had 79 = .ok (.ixor, 1) := dq_130 (by decide +kernel)
theorem dX8_had_80 : decode cX8_had 80 = .ok (.iand, 1) := dq_126 (by decide +kernel)
theorem dX8_had_81 : decode cX8_had 81 = .ok (.ifCond .ne 7, 3) := dq_154 (b1 := 0) (b2 := 7) (by decide +kernel) (by decide)
theorem dX8_had_84 : decode cX8_had 84 = .ok (.iconst 1, 1) := dq_4 (by decide +kernel)
theorem dX8_had_85 : decode cX8_had 85 = .ok (.goto 4, 3) := dq_167 (b1 := 0) (b2 := 4) (by decide +kernel) (by decide)
theorem dX8_had_88 : decode cX8_had 88 = .ok (.iconst 0, 1) := dq_3 (by decide +kernel)
theorem dX8_had_89 : decode cX8_had 89 = .ok (.istore 6, 2) := dq_54 (b1 := 6) (by decide +kernel) (by decide)
theorem dX8_had_9 : decode cX8_had 9 = .ok (.ireturn, 1) := dq_172 (by decide +kernel)
theorem dX8_had_91 : decode cX8_had 91 = .ok (.aload_n 0, 1) := dq_42 (by decide +kernel)
theorem dX8_had_92 : decode cX8_had 92 = .ok (.invokevirtual 194, 3) := dq_182 (b1 := 0) (b2 := 194) (by decide +kernel) (by decide)
theorem dX8_had_95 : decode cX8_had 95 = .ok (.iload 6, 2) := dq_21 (b1 := 6) (by decide +kernel) (by decide)
theorem dX8_had_97 : decode cX8_had 97 = .ok (.ifCond .eq 18, 3) := dq_153 (b1 := 0) (b2 := 18) (by decide +kernel) (by decide)
theorem dX8_kind_0 : decode cX8_kind 0 = .ok (.aload_n 0, 1) := dq_42 (by decide +kernel)
theorem dX8_kind_1 : decode cX8_kind 1 = .ok (.iload_n 1, 1) := dq_27 (by decide +kernel)
theorem dX8_kind_12 : decode cX8_kind 12 = .ok (.bipush 14, 2) := dq_16 (b1 := 14) (by decide +kernel) (by decide)
theorem dX8_kind_14 : decode cX8_kind 14 = .ok (.iload_n 1, 1) := dq_27 (by decide +kernel)
theorem dX8_kind_15 : decode cX8_kind 15 = .ok (.iadd, 1) := dq_96 (by decide +kernel)
theorem dX8_kind_16 : decode cX8_kind 16 = .ok (.iaload, 1) := dq_46 (by decide +kernel)
theorem dX8_kind_17 : decode cX8_kind 17 = .ok (.goto 5, 3) := dq_167 (b1 := 0) (b2 := 5) (by decide +kernel) (by decide)
theorem dX8_kind_2 : decode cX8_kind 2 = .ok (.invokevirtual 173, 3) := dq_182 (b1 := 0) (b2 := 173) (by decide +kernel) (by decide)
theorem dX8_kind_20 : decode cX8_kind 20 = .ok (.ldc 67, 2) := dq_18 (b1 := 67) (by decide +kernel) (by decide)
theorem dX8_kind_22 : decode cX8_kind 22 = .ok (.ireturn, 1) := dq_172 (by decide +kernel)
theorem dX8_kind_5 : decode cX8_kind 5 = .ok (.ifCond .eq 15, 3) := dq_153 (b1 := 0) (b2 := 15) (by decide +kernel) (by decide)
theorem dX8_kind_8 : decode cX8_kind 8 = .ok (.aload_n 0, 1) := dq_42 (by decide +kernel)
theorem dX8_kind_9 : decode cX8_kind 9 = .ok (.getfield 19, 3) := dq_180 (b1 := 0) (b2 := 19) (by decide +kernel) (by decide)
theorem dX8_mealBehind_0 : decode cX8_mealBehind 0 = .ok (.aload_n 0, 1) := dq_42 (by decide +kernel)
theorem dX8_mealBehind_1 : decode cX8_mealBehind 1 = .ok (.iload_n 1, 1) := dq_27 (by decide +kernel)
theorem dX8_mealBehind_11 : decode cX8_mealBehind 11 = .ok (.iaload, 1) := dq_46 (by decide +kernel)
theorem dX8_mealBehind_12 : decode cX8_mealBehind 12 = .ok (.istore_n 2, 1) := dq_61 (by decide +kernel)
theorem dX8_mealBehind_13 : decode cX8_mealBehind 13 = .ok (.aload_n 0, 1) := dq_42 (by decide +kernel)
theorem dX8_mealBehind_14 : decode cX8_mealBehind 14 = .ok (.invokevirtual 194, 3) := dq_182 (b1 := 0) (b2 := 194) (by decide +kernel) (by decide)
theorem dX8_mealBehind_17 : decode cX8_mealBehind 17 = .ok (.iload_n 2, 1) := dq_28 (by decide +kernel)
theorem dX8_mealBehind_18 : decode cX8_mealBehind 18 = .ok (.ireturn, 1) := dq_172 (by decide +kernel)
theorem dX8_mealBehind_2 : decode cX8_mealBehind 2 = .ok (.invokevirtual 190, 3) := dq_182 (b1 := 0) (b2 := 190) (by decide +kernel) (by decide)
theorem dX8_mealBehind_5 : decode cX8_mealBehind 5 = .ok (.aload_n 0, 1) := dq_42 (by decide +kernel)
theorem dX8_mealBehind_6 : decode cX8_mealBehind 6 = .ok (.getfield 19, 3) := dq_180 (b1 := 0) (b2 := 19) (by decide +kernel) (by decide)
theorem dX8_mealBehind_9 : decode cX8_mealBehind 9 = .ok (.bipush 7, 2) := dq_16 (b1 := 7) (by decide +kernel) (by decide)
theorem dX8_meal_0 : decode cX8_meal 0 = .ok (.aload_n 0, 1) := dq_42 (by decide +kernel)
theorem dX8_meal_1 : decode cX8_meal 1 = .ok (.getfield 138, 3) := dq_180 (b1 := 0) (b2 := 138) (by decide +kernel) (by decide)
theorem dX8_meal_10 : decode cX8_meal 10 = .ok (.iload_n 1, 1) := dq_27 (by decide +kernel)
theorem dX8_meal_11 : decode cX8_meal 11 = .ok (.i2l, 1) := dq_133 (by decide +kernel)
theorem dX8_meal_12 : decode cX8_meal 12 = .ok (.lconst 0, 1) := dq_9 (by decide +kernel)
theorem dX8_meal_13 : decode cX8_meal 13 = .ok (.ldc2_w 188, 3) := dq_20 (b1 := 0) (b2 := 188) (by decide +kernel) (by decide)
theorem dX8_meal_16 : decode cX8_meal 16 = .ok (.invokestatic 57, 3) := dq_184 (b1 := 0) (b2 := 57) (by decide +kernel) (by decide)
theorem dX8_meal_19 : decode cX8_meal 19 = .ok (.ifCond .ne 6, 3) := dq_154 (b1 := 0) (b2 := 6) (by decide +kernel) (by decide)
theorem dX8_meal_22 : decode cX8_meal 22 = .ok (.ldc 67, 2) := dq_18 (b1 := 67) (by decide +kernel) (by decide)
theorem dX8_meal_24 : decode cX8_meal 24 = .ok (.ireturn, 1) := dq_172 (by decide +kernel)
theorem dX8_meal_25 : decode cX8_meal 25 = .ok (.aload_n 0, 1) := dq_42 (by decide +kernel)
theorem dX8_meal_26 : decode cX8_meal 26 = .ok (.invokevirtual 197, 3) := dq_182 (b1 := 0) (b2 := 197) (by decide +kernel) (by decide)
theorem dX8_meal_29 : decode cX8_meal 29 = .ok (.aload_n 0, 1) := dq_42 (by decide +kernel)
theorem dX8_meal_30 : decode cX8_meal 30 = .ok (.iload_n 1, 1) := dq_27 (by decide +kernel)
theorem dX8_meal_31 : decode cX8_meal 31 = .ok (.invokevirtual 200, 3) := dq_182 (b1 := 0) (b2 := 200) (by decide +kernel) (by decide)
theorem dX8_meal_34 : decode cX8_meal 34 = .ok (.ireturn, 1) := dq_172 (by decide +kernel)
theorem dX8_meal_4 : decode cX8_meal 4 = .ok (.ifCond .ne 6, 3) := dq_154 (b1 := 0) (b2 := 6) (by decide +kernel) (by decide)
theorem dX8_meal_7 : decode cX8_meal 7 = .ok (.ldc 161, 2) := dq_18 (b1 := 161) (by decide +kernel) (by decide)
theorem dX8_meal_9 : decode cX8_meal 9 = .ok (.ireturn, 1) := dq_172 (by decide +kernel)
theorem dX8_putAside_0 : decode cX8_putAside 0 = .ok (.iconst 0, 1) := dq_3 (by decide +kernel)
theorem dX8_putAside_1 : decode cX8_putAside 1 = .ok (.istore_n 1, 1) := dq_60 (by decide +kernel)
theorem dX8_putAside_12 : decode cX8_putAside 12 = .ok (.iload_n 1, 1) := dq_27 (by decide +kernel)
theorem dX8_putAside_13 : decode cX8_putAside 13 = .ok (.aload_n 0, 1) := dq_42 (by decide +kernel)
theorem dX8_putAside_14 : decode cX8_putAside 14 = .ok (.getfield 19, 3) := dq_180 (b1 := 0) (b2 := 19) (by decide +kernel) (by decide)
theorem dX8_putAside_17 : decode cX8_putAside 17 = .ok (.iload_n 1, 1) := dq_27 (by decide +kernel)
theorem dX8_putAside_18 : decode cX8_putAside 18 = .ok (.iaload, 1) := dq_46 (by decide +kernel)
theorem dX8_putAside_19 : decode cX8_putAside 19 = .ok (.iastore, 1) := dq_79 (by decide +kernel)
theorem dX8_putAside_2 : decode cX8_putAside 2 = .ok (.iload_n 1, 1) := dq_27 (by decide +kernel)
theorem dX8_putAside_20 : decode cX8_putAside 20 = .ok (.iinc 1 1, 3) := dq_132 (b1 := 1) (b2 := 1) (by decide +kernel) (by decide) (by decide)
theorem dX8_putAside_23 : decode cX8_putAside 23 = .ok (.goto (-21), 3) := dq_167 (b1 := 255) (b2 := 235) (by decide +kernel) (by decide)
theorem dX8_putAside_26 : decode cX8_putAside 26 = .ok (.return_, 1) := dq_177 (by decide +kernel)
theorem dX8_putAside_3 : decode cX8_putAside 3 = .ok (.bipush 38, 2) := dq_16 (b1 := 38) (by decide +kernel) (by decide)
theorem dX8_putAside_5 : decode cX8_putAside 5 = .ok (.if_icmp .ge 21, 3) := dq_162 (b1 := 0) (b2 := 21) (by decide +kernel) (by decide)
theorem dX8_putAside_8 : decode cX8_putAside 8 = .ok (.aload_n 0, 1) := dq_42 (by decide +kernel)
theorem dX8_putAside_9 : decode cX8_putAside 9 = .ok (.getfield 34, 3) := dq_180 (b1 := 0) (b2 := 34) (by decide +kernel) (by decide)
theorem dX8_sack_0 : decode cX8_sack 0 = .ok (.aload_n 0, 1) := dq_42 (by decide +kernel)
theorem dX8_sack_1 : decode cX8_sack 1 = .ok (.getfield 138, 3) := dq_180 (b1 := 0) (b2 := 138) (by decide +kernel) (by decide)
theorem dX8_sack_10 : decode cX8_sack 10 = .ok (.iload_n 1, 1) := dq_27 (by decide +kernel)
theorem dX8_sack_100 : decode cX8_sack 100 = .ok (.goto (-45), 3) := dq_167 (b1 := 255) (b2 := 211) (by decide +kernel) (by decide)
theorem dX8_sack_103 : decode cX8_sack 103 = .ok (.iload_n 2, 1) := dq_28 (by decide +kernel)
theorem dX8_sack_104 : decode cX8_sack 104 = .ok (.ifCond .ne 8, 3) := dq_154 (b1 := 0) (b2 := 8) (by decide +kernel) (by decide)
theorem dX8_sack_107 : decode cX8_sack 107 = .ok (.iload 4, 2) := dq_21 (b1 := 4) (by decide +kernel) (by decide)
theorem dX8_sack_109 : decode cX8_sack 109 = .ok (.goto 24, 3) := dq_167 (b1 := 0) (b2 := 24) (by decide +kernel) (by decide)
theorem dX8_sack_11 : decode cX8_sack 11 = .ok (.i2l, 1) := dq_133 (by decide +kernel)
theorem dX8_sack_112 : decode cX8_sack 112 = .ok (.iload_n 2, 1) := dq_28 (by decide +kernel)
theorem dX8_sack_113 : decode cX8_sack 113 = .ok (.iconst 2, 1) := dq_5 (by decide +kernel)
theorem dX8_sack_114 : decode cX8_sack 114 = .ok (.if_icmp .ne 8, 3) := dq_160 (b1 := 0) (b2 := 8) (by decide +kernel) (by decide)
theorem dX8_sack_117 : decode cX8_sack 117 = .ok (.iload 6, 2) := dq_21 (b1 := 6) (by decide +kernel) (by decide)
theorem dX8_sack_119 : decode cX8_sack 119 = .ok (.goto 14, 3) := dq_167 (b1 := 0) (b2 := 14) (by decide +kernel) (by decide)
theorem dX8_sack_12 : decode cX8_sack 12 = .ok (.lconst 0, 1) := dq_9 (by decide +kernel)
theorem dX8_sack_122 : decode cX8_sack 122 = .ok (.iload 4, 2) := dq_21 (b1 := 4) (by decide +kernel) (by decide)
theorem dX8_sack_124 : decode cX8_sack 124 = .ok (.ifCond .ne 7, 3) := dq_154 (b1 := 0) (b2 := 7) (by decide +kernel) (by decide)
theorem dX8_sack_127 : decode cX8_sack 127 = .ok (.iconst 0, 1) := dq_3 (by decide +kernel)
theorem dX8_sack_128 : decode cX8_sack 128 = .ok (.goto 5, 3) := dq_167 (b1 := 0) (b2 := 5) (by decide +kernel) (by decide)
theorem dX8_sack_13 : decode cX8_sack 13 = .ok (.ldc2_w 217, 3) := dq_20 (b1 := 0) (b2 := 217) (by decide +kernel) (by decide)
theorem dX8_sack_131 : decode cX8_sack 131 = .ok (.iload 5, 2) := dq_21 (b1 := 5) (by decide +kernel) (by decide)
theorem dX8_sack_133 : decode cX8_sack 133 = .ok (.ireturn, 1) := dq_172 (by decide +kernel)
theorem dX8_sack_16 : decode cX8_sack 16 = .ok (.invokestatic 57, 3) := dq_184 (b1 := 0) (b2 := 57) (by decide +kernel) (by decide)
theorem dX8_sack_19 : decode cX8_sack 19 = .ok (.ifCond .eq 15, 3) := dq_153 (b1 := 0) (b2 := 15) (by decide +kernel) (by decide)
theorem dX8_sack_22 : decode cX8_sack 22 = .ok (.iload_n 2, 1) := dq_28 (by decide +kernel)
theorem dX8_sack_23 : decode cX8_sack 23 = .ok (.i2l, 1) := dq_133 (by decide +kernel)
theorem dX8_sack_24 : decode cX8_sack 24 = .ok (.lconst 0, 1) := dq_9 (by decide +kernel)
theorem dX8_sack_25 : decode cX8_sack 25 = .ok (.ldc2_w 65, 3) := dq_20 (b1 := 0) (b2 := 65) (by decide +kernel) (by decide)
theorem dX8_sack_28 : decode cX8_sack 28 = .ok (.invokestatic 57, 3) := dq_184 (b1 := 0) (b2 := 57) (by decide +kernel) (by decide)
theorem dX8_sack_31 : decode cX8_sack 31 = .ok (.ifCond .ne 6, 3) := dq_154 (b1 := 0) (b2 := 6) (by decide +kernel) (by decide)
theorem dX8_sack_34 : decode cX8_sack 34 = .ok (.ldc 67, 2) := dq_18 (b1 := 67) (by decide +kernel) (by decide)
theorem dX8_sack_36 : decode cX8_sack 36 = .ok (.ireturn, 1) := dq_172 (by decide +kernel)
theorem dX8_sack_37 : decode cX8_sack 37 = .ok (.aload_n 0, 1) := dq_42 (by decide +kernel)
theorem dX8_sack_38 : decode cX8_sack 38 = .ok (.iconst 0, 1) := dq_3 (by decide +kernel)
theorem dX8_sack_39 : decode cX8_sack 39 = .ok (.invokevirtual 182, 3) := dq_182 (b1 := 0) (b2 := 182) (by decide +kernel) (by decide)
theorem dX8_sack_4 : decode cX8_sack 4 = .ok (.ifCond .ne 6, 3) := dq_154 (b1 := 0) (b2 := 6) (by decide +kernel) (by decide)
theorem dX8_sack_42 : decode cX8_sack 42 = .ok (.istore_n 3, 1) := dq_62 (by decide +kernel)
theorem dX8_sack_43 : decode cX8_sack 43 = .ok (.iconst 0, 1) := dq_3 (by decide +kernel)
theorem dX8_sack_44 : decode cX8_sack 44 = .ok (.istore 4, 2) := dq_54 (b1 := 4) (by decide +kernel) (by decide)
theorem dX8_sack_46 : decode cX8_sack 46 = .ok (.iload_n 3, 1) := dq_29 (by decide +kernel)
theorem dX8_sack_47 : decode cX8_sack 47 = .ok (.istore 5, 2) := dq_54 (b1 := 5) (by decide +kernel) (by decide)
theorem dX8_sack_49 : decode cX8_sack 49 = .ok (.iconst 0, 1) := dq_3 (by decide +kernel)
theorem dX8_sack_50 : decode cX8_sack 50 = .ok (.istore 6, 2) := dq_54 (b1 := 6) (by decide +kernel) (by decide)
theorem dX8_sack_52 : decode cX8_sack 52 = .ok (.iconst 0, 1) := dq_3 (by decide +kernel)
theorem dX8_sack_53 : decode cX8_sack 53 = .ok (.istore 7, 2) := dq_54 (b1 := 7) (by decide +kernel) (by decide)
theorem dX8_sack_55 : decode cX8_sack 55 = .ok (.iload 7, 2) := dq_21 (b1 := 7) (by decide +kernel) (by decide)
theorem dX8_sack_57 : decode cX8_sack 57 = .ok (.iload_n 3, 1) := dq_29 (by decide +kernel)
theorem dX8_sack_58 : decode cX8_sack 58 = .ok (.if_icmp .gt 45, 3) := dq_163 (b1 := 0) (b2 := 45) (by decide +kernel) (by decide)
theorem dX8_sack_61 : decode cX8_sack 61 = .ok (.iload 7, 2) := dq_21 (b1 := 7) (by decide +kernel) (by decide)
theorem dX8_sack_63 : decode cX8_sack 63 = .ok (.iload_n 3, 1) := dq_29 (by decide +kernel)
theorem dX8_sack_64 : decode cX8_sack 64 = .ok (.iconst (-1), 1) := dq_2 (by decide +kernel)
theorem dX8_sack_65 : decode cX8_sack 65 = .ok (.ixor, 1) := dq_130 (by decide +kernel)
theorem dX8_sack_66 : decode cX8_sack 66 = .ok (.iand, 1) := dq_126 (by decide +kernel)
theorem dX8_sack_67 : decode cX8_sack 67 = .ok (.ifCond .ne 30, 3) := dq_154 (b1 := 0) (b2 := 30) (by decide +kernel) (by decide)
theorem dX8_sack_7 : decode cX8_sack 7 = .ok (.ldc 161, 2) := dq_18 (b1 := 161) (by decide +kernel) (by decide)
theorem dX8_sack_70 : decode cX8_sack 70 = .ok (.aload_n 0, 1) := dq_42 (by decide +kernel)
theorem dX8_sack_71 : decode cX8_sack 71 = .ok (.iload 7, 2) := dq_21 (b1 := 7) (by decide +kernel) (by decide)
theorem dX8_sack_73 : decode cX8_sack 73 = .ok (.invokevirtual 219, 3) := dq_182 (b1 := 0) (b2 := 219) (by decide +kernel) (by decide)
theorem dX8_sack_76 : decode cX8_sack 76 = .ok (.iload_n 1, 1) := dq_27 (by decide +kernel)
theorem dX8_sack_77 : decode cX8_sack 77 = .ok (.if_icmp .ne 20, 3) := dq_160 (b1 := 0) (b2 := 20) (by decide +kernel) (by decide)
theorem dX8_sack_80 : decode cX8_sack 80 = .ok (.iinc 4 1, 3) := dq_132 (b1 := 4) (b2 := 1) (by decide +kernel) (by decide) (by decide)
theorem dX8_sack_83 : decode cX8_sack 83 = .ok (.iload 5, 2) := dq_21 (b1 := 5) (by decide +kernel) (by decide)
theorem dX8_sack_85 : decode cX8_sack 85 = .ok (.iload 7, 2) := dq_21 (b1 := 7) (by decide +kernel) (by decide)
theorem dX8_sack_87 : decode cX8_sack 87 = .ok (.iand, 1) := dq_126 (by decide +kernel)
theorem dX8_sack_88 : decode cX8_sack 88 = .ok (.istore 5, 2) := dq_54 (b1 := 5) (by decide +kernel) (by decide)
theorem dX8_sack_9 : decode cX8_sack 9 = .ok (.ireturn, 1) := dq_172 (by decide +kernel)
theorem dX8_sack_90 : decode cX8_sack 90 = .ok (.iload 6, 2) := dq_21 (b1 := 6) (by decide +kernel) (by decide)
theorem dX8_sack_92 : decode cX8_sack 92 = .ok (.iload 7, 2) := dq_21 (b1 := 7) (by decide +kernel) (by decide)
theorem dX8_sack_94 : decode cX8_sack 94 = .ok (.ior, 1) := dq_128 (by decide +kernel)
theorem dX8_sack_95 : decode cX8_sack 95 = .ok (.istore 6, 2) := dq_54 (b1 := 6) (by decide +kernel) (by decide)
theorem dX8_sack_97 : decode cX8_sack 97 = .ok (.iinc 7 1, 3) := dq_132 (b1 := 7) (b2 := 1) (by decide +kernel) (by decide) (by decide)
theorem dX8_site_0 : decode cX8_site 0 = .ok (.aload_n 0, 1) := dq_42 (by decide +kernel)
theorem dX8_site_1 : decode cX8_site 1 = .ok (.getfield 138, 3) := dq_180 (b1 := 0) (b2 := 138) (by decide +kernel) (by decide)
theorem dX8_site_10 : decode cX8_site 10 = .ok (.iload_n 1, 1) := dq_27 (by decide +kernel)
theorem dX8_site_100 : decode cX8_site 100 = .ok (.iinc 5 1, 3) := dq_132 (b1 := 5) (b2 := 1) (by decide +kernel) (by decide) (by decide)
theorem dX8_site_103 : decode cX8_site 103 = .ok (.goto (-59), 3) := dq_167 (b1 := 255) (b2 := 197) (by decide +kernel) (by decide)
theorem dX8_site_106 : decode cX8_site 106 = .ok (.iload_n 2, 1) := dq_28 (by decide +kernel)
theorem dX8_site_107 : decode cX8_site 107 = .ok (.ifCond .ne 7, 3) := dq_154 (b1 := 0) (b2 := 7) (by decide +kernel) (by decide)
theorem dX8_site_11 : decode cX8_site 11 = .ok (.i2l, 1) := dq_133 (by decide +kernel)
theorem dX8_site_110 : decode cX8_site 110 = .ok (.iload_n 3, 1) := dq_29 (by decide +kernel)
theorem dX8_site_111 : decode cX8_site 111 = .ok (.goto 5, 3) := dq_167 (b1 := 0) (b2 := 5) (by decide +kernel) (by decide)
theorem dX8_site_114 : decode cX8_site 114 = .ok (.iload 4, 2) := dq_21 (b1 := 4) (by decide +kernel) (by decide)
theorem dX8_site_116 : decode cX8_site 116 = .ok (.ireturn, 1) := dq_172 (by decide +kernel)
theorem dX8_site_12 : decode cX8_site 12 = .ok (.lconst 1, 1) := dq_10 (by decide +kernel)
theorem dX8_site_13 : decode cX8_site 13 = .ok (.ldc2_w 208, 3) := dq_20 (b1 := 0) (b2 := 208) (by decide +kernel) (by decide)
theorem dX8_site_16 : decode cX8_site 16 = .ok (.invokestatic 57, 3) := dq_184 (b1 := 0) (b2 := 57) (by decide +kernel) (by decide)
theorem dX8_site_19 : decode cX8_site 19 = .ok (.ifCond .eq 10, 3) := dq_153 (b1 := 0) (b2 := 10) (by decide +kernel) (by decide)
theorem dX8_site_22 : decode cX8_site 22 = .ok (.iload_n 2, 1) := dq_28 (by decide +kernel)
theorem dX8_site_23 : decode cX8_site 23 = .ok (.invokestatic 210, 3) := dq_184 (b1 := 0) (b2 := 210) (by decide +kernel) (by decide)
theorem dX8_site_26 : decode cX8_site 26 = .ok (.ifCond .ne 6, 3) := dq_154 (b1 := 0) (b2 := 6) (by decide +kernel) (by decide)
theorem dX8_site_29 : decode cX8_site 29 = .ok (.ldc 67, 2) := dq_18 (b1 := 67) (by decide +kernel) (by decide)
theorem dX8_site_31 : decode cX8_site 31 = .ok (.ireturn, 1) := dq_172 (by decide +kernel)
theorem dX8_site_32 : decode cX8_site 32 = .ok (.aload_n 0, 1) := dq_42 (by decide +kernel)
theorem dX8_site_33 : decode cX8_site 33 = .ok (.invokevirtual 197, 3) := dq_182 (b1 := 0) (b2 := 197) (by decide +kernel) (by decide)
theorem dX8_site_36 : decode cX8_site 36 = .ok (.iconst (-1), 1) := dq_2 (by decide +kernel)
theorem dX8_site_37 : decode cX8_site 37 = .ok (.istore_n 3, 1) := dq_62 (by decide +kernel)
theorem dX8_site_38 : decode cX8_site 38 = .ok (.iconst (-1), 1) := dq_2 (by decide +kernel)
theorem dX8_site_39 : decode cX8_site 39 = .ok (.istore 4, 2) := dq_54 (b1 := 4) (by decide +kernel) (by decide)
theorem dX8_site_4 : decode cX8_site 4 = .ok (.ifCond .ne 6, 3) := dq_154 (b1 := 0) (b2 := 6) (by decide +kernel) (by decide)
theorem dX8_site_41 : decode cX8_site 41 = .ok (.iconst 0, 1) := dq_3 (by decide +kernel)
theorem dX8_site_42 : decode cX8_site 42 = .ok (.istore 5, 2) := dq_54 (b1 := 5) (by decide +kernel) (by decide)
theorem dX8_site_44 : decode cX8_site 44 = .ok (.iload 5, 2) := dq_21 (b1 := 5) (by decide +kernel) (by decide)
theorem dX8_site_46 : decode cX8_site 46 = .ok (.aload_n 0, 1) := dq_42 (by decide +kernel)
theorem dX8_site_47 : decode cX8_site 47 = .ok (.getfield 34, 3) := dq_180 (b1 := 0) (b2 := 34) (by decide +kernel) (by decide)
theorem dX8_site_50 : decode cX8_site 50 = .ok (.iconst 0, 1) := dq_3 (by decide +kernel)
theorem dX8_site_51 : decode cX8_site 51 = .ok (.iaload, 1) := dq_46 (by decide +kernel)
theorem dX8_site_52 : decode cX8_site 52 = .ok (.if_icmp .ge 54, 3) := dq_162 (b1 := 0) (b2 := 54) (by decide +kernel) (by decide)
theorem dX8_site_55 : decode cX8_site 55 = .ok (.aload_n 0, 1) := dq_42 (by decide +kernel)
theorem dX8_site_56 : decode cX8_site 56 = .ok (.getfield 19, 3) := dq_180 (b1 := 0) (b2 := 19) (by decide +kernel) (by decide)
theorem dX8_site_59 : decode cX8_site 59 = .ok (.iconst 1, 1) := dq_4 (by decide +kernel)
theorem dX8_site_60 : decode cX8_site 60 = .ok (.iload 5, 2) := dq_21 (b1 := 5) (by decide +kernel) (by decide)
theorem dX8_site_62 : decode cX8_site 62 = .ok (.iastore, 1) := dq_79 (by decide +kernel)
theorem dX8_site_63 : decode cX8_site 63 = .ok (.aload_n 0, 1) := dq_42 (by decide +kernel)
theorem dX8_site_64 : decode cX8_site 64 = .ok (.iload_n 1, 1) := dq_27 (by decide +kernel)
theorem dX8_site_65 : decode cX8_site 65 = .ok (.invokevirtual 200, 3) := dq_182 (b1 := 0) (b2 := 200) (by decide +kernel) (by decide)
theorem dX8_site_68 : decode cX8_site 68 = .ok (.istore 6, 2) := dq_54 (b1 := 6) (by decide +kernel) (by decide)
theorem dX8_site_7 : decode cX8_site 7 = .ok (.ldc 161, 2) := dq_18 (b1 := 161) (by decide +kernel) (by decide)
theorem dX8_site_70 : decode cX8_site 70 = .ok (.iload 6, 2) := dq_21 (b1 := 6) (by decide +kernel) (by decide)
theorem dX8_site_72 : decode cX8_site 72 = .ok (.iload 4, 2) := dq_21 (b1 := 4) (by decide +kernel) (by decide)
theorem dX8_site_74 : decode cX8_site 74 = .ok (.if_icmp .le 8, 3) := dq_164 (b1 := 0) (b2 := 8) (by decide +kernel) (by decide)
theorem dX8_site_77 : decode cX8_site 77 = .ok (.iload 5, 2) := dq_21 (b1 := 5) (by decide +kernel) (by decide)
theorem dX8_site_79 : decode cX8_site 79 = .ok (.goto 4, 3) := dq_167 (b1 := 0) (b2 := 4) (by decide +kernel) (by decide)
theorem dX8_site_82 : decode cX8_site 82 = .ok (.iload_n 3, 1) := dq_29 (by decide +kernel)
theorem dX8_site_83 : decode cX8_site 83 = .ok (.istore_n 3, 1) := dq_62 (by decide +kernel)
theorem dX8_site_84 : decode cX8_site 84 = .ok (.iload 6, 2) := dq_21 (b1 := 6) (by decide +kernel) (by decide)
theorem dX8_site_86 : decode cX8_site 86 = .ok (.iload 4, 2) := dq_21 (b1 := 4) (by decide +kernel) (by decide)
theorem dX8_site_88 : decode cX8_site 88 = .ok (.if_icmp .le 8, 3) := dq_164 (b1 := 0) (b2 := 8) (by decide +kernel) (by decide)
theorem dX8_site_9 : decode cX8_site 9 = .ok (.ireturn, 1) := dq_172 (by decide +kernel)
theorem dX8_site_91 : decode cX8_site 91 = .ok (.iload 6, 2) := dq_21 (b1 := 6) (by decide +kernel) (by decide)
theorem dX8_site_93 : decode cX8_site 93 = .ok (.goto 5, 3) := dq_167 (b1 := 0) (b2 := 5) (by decide +kernel) (by decide)
theorem dX8_site_96 : decode cX8_site 96 = .ok (.iload 4, 2) := dq_21 (b1 := 4) (by decide +kernel) (by decide)
theorem dX8_site_98 : decode cX8_site 98 = .ok (.istore 4, 2) := dq_54 (b1 := 4) (by decide +kernel) (by decide)
theorem dX8_sound_0 : decode cX8_sound 0 = .ok (.aload_n 0, 1) := dq_42 (by decide +kernel)
theorem dX8_sound_1 : decode cX8_sound 1 = .ok (.iload_n 1, 1) := dq_27 (by decide +kernel)
theorem dX8_sound_10 : decode cX8_sound 10 = .ok (.ireturn, 1) := dq_172 (by decide +kernel)
theorem dX8_sound_100 : decode cX8_sound 100 = .ok (.aload_n 0, 1) := dq_42 (by decide +kernel)
theorem dX8_sound_101 : decode cX8_sound 101 = .ok (.aload_n 0, 1) := dq_42 (by decide +kernel)
theorem dX8_sound_102 : decode cX8_sound 102 = .ok (.getfield 19, 3) := dq_180 (b1 := 0) (b2 := 19) (by decide +kernel) (by decide)
theorem dX8_sound_105 : decode cX8_sound 105 = .ok (.iconst 5, 1) := dq_8 (by decide +kernel)
theorem dX8_sound_106 : decode cX8_sound 106 = .ok (.iaload, 1) := dq_46 (by decide +kernel)
theorem dX8_sound_107 : decode cX8_sound 107 = .ok (.invokevirtual 151, 3) := dq_182 (b1 := 0) (b2 := 151) (by decide +kernel) (by decide)
theorem dX8_sound_11 : decode cX8_sound 11 = .ok (.iload_n 2, 1) := dq_28 (by decide +kernel)
theorem dX8_sound_110 : decode cX8_sound 110 = .ok (.iconst 2, 1) := dq_5 (by decide +kernel)
theorem dX8_sound_111 : decode cX8_sound 111 = .ok (.isub, 1) := dq_100 (by decide +kernel)
theorem dX8_sound_112 : decode cX8_sound 112 = .ok (.invokestatic 145, 3) := dq_184 (b1 := 0) (b2 := 145) (by decide +kernel) (by decide)
theorem dX8_sound_115 : decode cX8_sound 115 = .ok (.ireturn, 1) := dq_172 (by decide +kernel)
theorem dX8_sound_116 : decode cX8_sound 116 = .ok (.ldc 67, 2) := dq_18 (b1 := 67) (by decide +kernel) (by decide)
theorem dX8_sound_118 : decode cX8_sound 118 = .ok (.ireturn, 1) := dq_172 (by decide +kernel)
theorem dX8_sound_12 : decode cX8_sound 12 = .ok (.tableswitch 104 0 3 #[32, 59, 69, 79], 32) := by decide +kernel
theorem dX8_sound_2 : decode cX8_sound 2 = .ok (.invokevirtual 173, 3) := dq_182 (b1 := 0) (b2 := 173) (by decide +kernel) (by decide)
theorem dX8_sound_44 : decode cX8_sound 44 = .ok (.aload_n 0, 1) := dq_42 (by decide +kernel)
theorem dX8_sound_45 : decode cX8_sound 45 = .ok (.getfield 19, 3) := dq_180 (b1 := 0) (b2 := 19) (by decide +kernel) (by decide)
theorem dX8_sound_48 : decode cX8_sound 48 = .ok (.bipush 26, 2) := dq_16 (b1 := 26) (by decide +kernel) (by decide)
theorem dX8_sound_5 : decode cX8_sound 5 = .ok (.ifCond .ne 6, 3) := dq_154 (b1 := 0) (b2 := 6) (by decide +kernel) (by decide)
theorem dX8_sound_50 : decode cX8_sound 50 = .ok (.iload_n 1, 1) := dq_27 (by decide +kernel)
theorem dX8_sound_51 : decode cX8_sound 51 = .ok (.iadd, 1) := dq_96 (by decide +kernel)
theorem dX8_sound_52 : decode cX8_sound 52 = .ok (.iaload, 1) := dq_46 (by decide +kernel)
theorem dX8_sound_53 : decode cX8_sound 53 = .ok (.ifCond .ne 15, 3) := dq_154 (b1 := 0) (b2 := 15) (by decide +kernel) (by decide)
theorem dX8_sound_56 : decode cX8_sound 56 = .ok (.aload_n 0, 1) := dq_42 (by decide +kernel)
theorem dX8_sound_57 : decode cX8_sound 57 = .ok (.getfield 19, 3) := dq_180 (b1 := 0) (b2 := 19) (by decide +kernel) (by decide)
theorem dX8_sound_60 : decode cX8_sound 60 = .ok (.bipush 20, 2) := dq_16 (b1 := 20) (by decide +kernel) (by decide)
theorem dX8_sound_62 : decode cX8_sound 62 = .ok (.iload_n 1, 1) := dq_27 (by decide +kernel)
theorem dX8_sound_63 : decode cX8_sound 63 = .ok (.iadd, 1) := dq_96 (by decide +kernel)
theorem dX8_sound_64 : decode cX8_sound 64 = .ok (.iaload, 1) := dq_46 (by decide +kernel)
theorem dX8_sound_65 : decode cX8_sound 65 = .ok (.goto 5, 3) := dq_167 (b1 := 0) (b2 := 5) (by decide +kernel) (by decide)
theorem dX8_sound_68 : decode cX8_sound 68 = .ok (.ldc 187, 2) := dq_18 (b1 := 187) (by decide +kernel) (by decide)
theorem dX8_sound_70 : decode cX8_sound 70 = .ok (.ireturn, 1) := dq_172 (by decide +kernel)
theorem dX8_sound_71 : decode cX8_sound 71 = .ok (.aload_n 0, 1) := dq_42 (by decide +kernel)
theorem dX8_sound_72 : decode cX8_sound 72 = .ok (.getfield 19, 3) := dq_180 (b1 := 0) (b2 := 19) (by decide +kernel) (by decide)
theorem dX8_sound_75 : decode cX8_sound 75 = .ok (.bipush 26, 2) := dq_16 (b1 := 26) (by decide +kernel) (by decide)
theorem dX8_sound_77 : decode cX8_sound 77 = .ok (.iload_n 1, 1) := dq_27 (by decide +kernel)
theorem dX8_sound_78 : decode cX8_sound 78 = .ok (.iadd, 1) := dq_96 (by decide +kernel)
theorem dX8_sound_79 : decode cX8_sound 79 = .ok (.iaload, 1) := dq_46 (by decide +kernel)
theorem dX8_sound_8 : decode cX8_sound 8 = .ok (.ldc 67, 2) := dq_18 (b1 := 67) (by decide +kernel) (by decide)
theorem dX8_sound_80 : decode cX8_sound 80 = .ok (.ireturn, 1) := dq_172 (by decide +kernel)
theorem dX8_sound_81 : decode cX8_sound 81 = .ok (.aload_n 0, 1) := dq_42 (by decide +kernel)
theorem dX8_sound_82 : decode cX8_sound 82 = .ok (.getfield 19, 3) := dq_180 (b1 := 0) (b2 := 19) (by decide +kernel) (by decide)
theorem dX8_sound_85 : decode cX8_sound 85 = .ok (.bipush 32, 2) := dq_16 (b1 := 32) (by decide +kernel) (by decide)
theorem dX8_sound_87 : decode cX8_sound 87 = .ok (.iload_n 1, 1) := dq_27 (by decide +kernel)
theorem dX8_sound_88 : decode cX8_sound 88 = .ok (.iadd, 1) := dq_96 (by decide +kernel)
theorem dX8_sound_89 : decode cX8_sound 89 = .ok (.iaload, 1) := dq_46 (by decide +kernel)
theorem dX8_sound_90 : decode cX8_sound 90 = .ok (.ireturn, 1) := dq_172 (by decide +kernel)
theorem dX8_sound_91 : decode cX8_sound 91 = .ok (.aload_n 0, 1) := dq_42 (by decide +kernel)
theorem dX8_sound_92 : decode cX8_sound 92 = .ok (.getfield 19, 3) := dq_180 (b1 := 0) (b2 := 19) (by decide +kernel) (by decide)
theorem dX8_sound_95 : decode cX8_sound 95 = .ok (.bipush 14, 2) := dq_16 (b1 := 14) (by decide +kernel) (by decide)
theorem dX8_sound_97 : decode cX8_sound 97 = .ok (.iload_n 1, 1) := dq_27 (by decide +kernel)
theorem dX8_sound_98 : decode cX8_sound 98 = .ok (.iadd, 1) := dq_96 (by decide +kernel)
theorem dX8_sound_99 : decode cX8_sound 99 = .ok (.iaload, 1) := dq_46 (by decide +kernel)
theorem dX8_stand_0 : decode cX8_stand 0 = .ok (.aload_n 0, 1) := dq_42 (by decide +kernel)
theorem dX8_stand_1 : decode cX8_stand 1 = .ok (.getfield 138, 3) := dq_180 (b1 := 0) (b2 := 138) (by decide +kernel) (by decide)
theorem dX8_stand_10 : decode cX8_stand 10 = .ok (.iload_n 1, 1) := dq_27 (by decide +kernel)
theorem dX8_stand_101 : decode cX8_stand 101 = .ok (.ireturn, 1) := dq_172 (by decide +kernel)
theorem dX8_stand_11 : decode cX8_stand 11 = .ok (.tableswitch 88 0 6 #[41, 48, 55, 62, 70, 76, 82], 41) := by decide +kernel
theorem dX8_stand_4 : decode cX8_stand 4 = .ok (.ifCond .ne 6, 3) := dq_154 (b1 := 0) (b2 := 6) (by decide +kernel) (by decide)
theorem dX8_stand_52 : decode cX8_stand 52 = .ok (.aload_n 0, 1) := dq_42 (by decide +kernel)
theorem dX8_stand_53 : decode cX8_stand 53 = .ok (.getfield 19, 3) := dq_180 (b1 := 0) (b2 := 19) (by decide +kernel) (by decide)
theorem dX8_stand_56 : decode cX8_stand 56 = .ok (.iconst 0, 1) := dq_3 (by decide +kernel)
theorem dX8_stand_57 : decode cX8_stand 57 = .ok (.iaload, 1) := dq_46 (by decide +kernel)
theorem dX8_stand_58 : decode cX8_stand 58 = .ok (.ireturn, 1) := dq_172 (by decide +kernel)
theorem dX8_stand_59 : decode cX8_stand 59 = .ok (.aload_n 0, 1) := dq_42 (by decide +kernel)
theorem dX8_stand_60 : decode cX8_stand 60 = .ok (.getfield 19, 3) := dq_180 (b1 := 0) (b2 := 19) (by decide +kernel) (by decide)
theorem dX8_stand_63 : decode cX8_stand 63 = .ok (.iconst 1, 1) := dq_4 (by decide +kernel)
theorem dX8_stand_64 : decode cX8_stand 64 = .ok (.iaload, 1) := dq_46 (by decide +kernel)
theorem dX8_stand_65 : decode cX8_stand 65 = .ok (.ireturn, 1) := dq_172 (by decide +kernel)
theorem dX8_stand_66 : decode cX8_stand 66 = .ok (.aload_n 0, 1) := dq_42 (by decide +kernel)
theorem dX8_stand_67 : decode cX8_stand 67 = .ok (.getfield 19, 3) := dq_180 (b1 := 0) (b2 := 19) (by decide +kernel) (by decide)
theorem dX8_stand_7 : decode cX8_stand 7 = .ok (.ldc 161, 2) := dq_18 (b1 := 161) (by decide +kernel) (by decide)
theorem dX8_stand_70 : decode cX8_stand 70 = .ok (.iconst 2, 1) := dq_5 (by decide +kernel)
theorem dX8_stand_71 : decode cX8_stand 71 = .ok (.iaload, 1) := dq_46 (by decide +kernel)
theorem dX8_stand_72 : decode cX8_stand 72 = .ok (.ireturn, 1) := dq_172 (by decide +kernel)
theorem dX8_stand_73 : decode cX8_stand 73 = .ok (.aload_n 0, 1) := dq_42 (by decide +kernel)
theorem dX8_stand_74 : decode cX8_stand 74 = .ok (.getfield 19, 3) := dq_180 (b1 := 0) (b2 := 19) (by decide +kernel) (by decide)
theorem dX8_stand_77 : decode cX8_stand 77 = .ok (.bipush 6, 2) := dq_16 (b1 := 6) (by decide +kernel) (by decide)
theorem dX8_stand_79 : decode cX8_stand 79 = .ok (.iaload, 1) := dq_46 (by decide +kernel)
theorem dX8_stand_80 : decode cX8_stand 80 = .ok (.ireturn, 1) := dq_172 (by decide +kernel)
theorem dX8_stand_81 : decode cX8_stand 81 = .ok (.aload_n 0, 1) := dq_42 (by decide +kernel)
theorem dX8_stand_82 : decode cX8_stand 82 = .ok (.iconst 0, 1) := dq_3 (by decide +kernel)
theorem dX8_stand_83 : decode cX8_stand 83 = .ok (.invokevirtual 182, 3) := dq_182 (b1 := 0) (b2 := 182) (by decide +kernel) (by decide)
theorem dX8_stand_86 : decode cX8_stand 86 = .ok (.ireturn, 1) := dq_172 (by decide +kernel)
theorem dX8_stand_87 : decode cX8_stand 87 = .ok (.aload_n 0, 1) := dq_42 (by decide +kernel)
theorem dX8_stand_88 : decode cX8_stand 88 = .ok (.iconst 1, 1) := dq_4 (by decide +kernel)
theorem dX8_stand_89 : decode cX8_stand 89 = .ok (.invokevirtual 182, 3) := dq_182 (b1 := 0) (b2 := 182) (by decide +kernel) (by decide)
theorem dX8_stand_9 : decode cX8_stand 9 = .ok (.ireturn, 1) := dq_172 (by decide +kernel)
theorem dX8_stand_92 : decode cX8_stand 92 = .ok (.ireturn, 1) := dq_172 (by decide +kernel)
theorem dX8_stand_93 : decode cX8_stand 93 = .ok (.aload_n 0, 1) := dq_42 (by decide +kernel)
theorem dX8_stand_94 : decode cX8_stand 94 = .ok (.iconst 2, 1) := dq_5 (by decide +kernel)
theorem dX8_stand_95 : decode cX8_stand 95 = .ok (.invokevirtual 182, 3) := dq_182 (b1 := 0) (b2 := 182) (by decide +kernel) (by decide)
theorem dX8_stand_98 : decode cX8_stand 98 = .ok (.ireturn, 1) := dq_172 (by decide +kernel)
theorem dX8_stand_99 : decode cX8_stand 99 = .ok (.ldc 67, 2) := dq_18 (b1 := 67) (by decide +kernel) (by decide)
theorem dX8_takeBack_0 : decode cX8_takeBack 0 = .ok (.iconst 0, 1) := dq_3 (by decide +kernel)
theorem dX8_takeBack_1 : decode cX8_takeBack 1 = .ok (.istore_n 1, 1) := dq_60 (by decide +kernel)
theorem dX8_takeBack_12 : decode cX8_takeBack 12 = .ok (.iload_n 1, 1) := dq_27 (by decide +kernel)
theorem dX8_takeBack_13 : decode cX8_takeBack 13 = .ok (.aload_n 0, 1) := dq_42 (by decide +kernel)
theorem dX8_takeBack_14 : decode cX8_takeBack 14 = .ok (.getfield 34, 3) := dq_180 (b1 := 0) (b2 := 34) (by decide +kernel) (by decide)
theorem dX8_takeBack_17 : decode cX8_takeBack 17 = .ok (.iload_n 1, 1) := dq_27 (by decide +kernel)
theorem dX8_takeBack_18 : decode cX8_takeBack 18 = .ok (.iaload, 1) := dq_46 (by decide +kernel)
theorem dX8_takeBack_19 : decode cX8_takeBack 19 = .ok (.iastore, 1) := dq_79 (by decide +kernel)
theorem dX8_takeBack_2 : decode cX8_takeBack 2 = .ok (.iload_n 1, 1) := dq_27 (by decide +kernel)
theorem dX8_takeBack_20 : decode cX8_takeBack 20 = .ok (.iinc 1 1, 3) := dq_132 (b1 := 1) (b2 := 1) (by decide +kernel) (by decide) (by decide)
theorem dX8_takeBack_23 : decode cX8_takeBack 23 = .ok (.goto (-21), 3) := dq_167 (b1 := 255) (b2 := 235) (by decide +kernel) (by decide)
theorem dX8_takeBack_26 : decode cX8_takeBack 26 = .ok (.return_, 1) := dq_177 (by decide +kernel)
theorem dX8_takeBack_3 : decode cX8_takeBack 3 = .ok (.bipush 38, 2) := dq_16 (b1 := 38) (by decide +kernel) (by decide)
theorem dX8_takeBack_5 : decode cX8_takeBack 5 = .ok (.if_icmp .ge 21, 3) := dq_162 (b1 := 0) (b2 := 21) (by decide +kernel) (by decide)
theorem dX8_takeBack_8 : decode cX8_takeBack 8 = .ok (.aload_n 0, 1) := dq_42 (by decide +kernel)
theorem dX8_takeBack_9 : decode cX8_takeBack 9 = .ok (.getfield 19, 3) := dq_180 (b1 := 0) (b2 := 19) (by decide +kernel) (by decide)
theorem dX8_when_0 : decode cX8_when 0 = .ok (.aload_n 0, 1) := dq_42 (by decide +kernel)
theorem dX8_when_1 : decode cX8_when 1 = .ok (.iload_n 1, 1) := dq_27 (by decide +kernel)
theorem dX8_when_10 : decode cX8_when 10 = .ok (.lconst 1, 1) := dq_10 (by decide +kernel)
theorem dX8_when_11 : decode cX8_when 11 = .ok (.ldc2_w 65, 3) := dq_20 (b1 := 0) (b2 := 65) (by decide +kernel) (by decide)
theorem dX8_when_14 : decode cX8_when 14 = .ok (.invokestatic 57, 3) := dq_184 (b1 := 0) (b2 := 57) (by decide +kernel) (by decide)
theorem dX8_when_17 : decode cX8_when 17 = .ok (.ifCond .ne 6, 3) := dq_154 (b1 := 0) (b2 := 6) (by decide +kernel) (by decide)
theorem dX8_when_2 : decode cX8_when 2 = .ok (.invokevirtual 173, 3) := dq_182 (b1 := 0) (b2 := 173) (by decide +kernel) (by decide)
theorem dX8_when_20 : decode cX8_when 20 = .ok (.ldc 67, 2) := dq_18 (b1 := 67) (by decide +kernel) (by decide)
theorem dX8_when_22 : decode cX8_when 22 = .ok (.ireturn, 1) := dq_172 (by decide +kernel)
theorem dX8_when_23 : decode cX8_when 23 = .ok (.aload_n 0, 1) := dq_42 (by decide +kernel)
theorem dX8_when_24 : decode cX8_when 24 = .ok (.invokevirtual 197, 3) := dq_182 (b1 := 0) (b2 := 197) (by decide +kernel) (by decide)
theorem dX8_when_27 : decode cX8_when 27 = .ok (.iconst 0, 1) := dq_3 (by decide +kernel)
theorem dX8_when_28 : decode cX8_when 28 = .ok (.istore_n 3, 1) := dq_62 (by decide +kernel)
theorem dX8_when_29 : decode cX8_when 29 = .ok (.aload_n 0, 1) := dq_42 (by decide +kernel)
theorem dX8_when_30 : decode cX8_when 30 = .ok (.getfield 19, 3) := dq_180 (b1 := 0) (b2 := 19) (by decide +kernel) (by decide)
theorem dX8_when_33 : decode cX8_when 33 = .ok (.bipush 26, 2) := dq_16 (b1 := 26) (by decide +kernel) (by decide)
theorem dX8_when_35 : decode cX8_when 35 = .ok (.iload_n 1, 1) := dq_27 (by decide +kernel)
theorem dX8_when_36 : decode cX8_when 36 = .ok (.iadd, 1) := dq_96 (by decide +kernel)
theorem dX8_when_37 : decode cX8_when 37 = .ok (.iaload, 1) := dq_46 (by decide +kernel)
theorem dX8_when_38 : decode cX8_when 38 = .ok (.iload_n 2, 1) := dq_28 (by decide +kernel)
theorem dX8_when_39 : decode cX8_when 39 = .ok (.if_icmp .eq 20, 3) := dq_159 (b1 := 0) (b2 := 20) (by decide +kernel) (by decide)
theorem dX8_when_42 : decode cX8_when 42 = .ok (.iload_n 3, 1) := dq_29 (by decide +kernel)
theorem dX8_when_43 : decode cX8_when 43 = .ok (.bipush 60, 2) := dq_16 (b1 := 60) (by decide +kernel) (by decide)
theorem dX8_when_45 : decode cX8_when 45 = .ok (.if_icmp .ge 14, 3) := dq_162 (b1 := 0) (b2 := 14) (by decide +kernel) (by decide)
theorem dX8_when_48 : decode cX8_when 48 = .ok (.aload_n 0, 1) := dq_42 (by decide +kernel)
theorem dX8_when_49 : decode cX8_when 49 = .ok (.invokevirtual 167, 3) := dq_182 (b1 := 0) (b2 := 167) (by decide +kernel) (by decide)
theorem dX8_when_5 : decode cX8_when 5 = .ok (.ifCond .eq 15, 3) := dq_153 (b1 := 0) (b2 := 15) (by decide +kernel) (by decide)
theorem dX8_when_52 : decode cX8_when 52 = .ok (.pop, 1) := dq_87 (by decide +kernel)
theorem dX8_when_53 : decode cX8_when 53 = .ok (.iinc 3 1, 3) := dq_132 (b1 := 3) (b2 := 1) (by decide +kernel) (by decide) (by decide)
theorem dX8_when_56 : decode cX8_when 56 = .ok (.goto (-27), 3) := dq_167 (b1 := 255) (b2 := 229) (by decide +kernel) (by decide)
theorem dX8_when_59 : decode cX8_when 59 = .ok (.aload_n 0, 1) := dq_42 (by decide +kernel)
theorem dX8_when_60 : decode cX8_when 60 = .ok (.getfield 19, 3) := dq_180 (b1 := 0) (b2 := 19) (by decide +kernel) (by decide)
theorem dX8_when_63 : decode cX8_when 63 = .ok (.bipush 26, 2) := dq_16 (b1 := 26) (by decide +kernel) (by decide)
theorem dX8_when_65 : decode cX8_when 65 = .ok (.iload_n 1, 1) := dq_27 (by decide +kernel)
theorem dX8_when_66 : decode cX8_when 66 = .ok (.iadd, 1) := dq_96 (by decide +kernel)
theorem dX8_when_67 : decode cX8_when 67 = .ok (.iaload, 1) := dq_46 (by decide +kernel)
theorem dX8_when_68 : decode cX8_when 68 = .ok (.iload_n 2, 1) := dq_28 (by decide +kernel)
theorem dX8_when_69 : decode cX8_when 69 = .ok (.if_icmp .ne 7, 3) := dq_160 (b1 := 0) (b2 := 7) (by decide +kernel) (by decide)
theorem dX8_when_72 : decode cX8_when 72 = .ok (.iconst 1, 1) := dq_4 (by decide +kernel)
theorem dX8_when_73 : decode cX8_when 73 = .ok (.goto 4, 3) := dq_167 (b1 := 0) (b2 := 4) (by decide +kernel) (by decide)
theorem dX8_when_76 : decode cX8_when 76 = .ok (.iconst 0, 1) := dq_3 (by decide +kernel)
theorem dX8_when_77 : decode cX8_when 77 = .ok (.istore 4, 2) := dq_54 (b1 := 4) (by decide +kernel) (by decide)
theorem dX8_when_79 : decode cX8_when 79 = .ok (.aload_n 0, 1) := dq_42 (by decide +kernel)
theorem dX8_when_8 : decode cX8_when 8 = .ok (.iload_n 2, 1) := dq_28 (by decide +kernel)
theorem dX8_when_80 : decode cX8_when 80 = .ok (.invokevirtual 194, 3) := dq_182 (b1 := 0) (b2 := 194) (by decide +kernel) (by decide)
theorem dX8_when_83 : decode cX8_when 83 = .ok (.iload 4, 2) := dq_21 (b1 := 4) (by decide +kernel) (by decide)
theorem dX8_when_85 : decode cX8_when 85 = .ok (.ifCond .eq 7, 3) := dq_153 (b1 := 0) (b2 := 7) (by decide +kernel) (by decide)
theorem dX8_when_88 : decode cX8_when 88 = .ok (.iload_n 3, 1) := dq_29 (by decide +kernel)
theorem dX8_when_89 : decode cX8_when 89 = .ok (.goto 5, 3) := dq_167 (b1 := 0) (b2 := 5) (by decide +kernel) (by decide)
theorem dX8_when_9 : decode cX8_when 9 = .ok (.i2l, 1) := dq_133 (by decide +kernel)
theorem dX8_when_92 : decode cX8_when 92 = .ok (.ldc 187, 2) := dq_18 (b1 := 187) (by decide +kernel) (by decide)
theorem dX8_when_94 : decode cX8_when 94 = .ok (.ireturn, 1) := dq_172 (by decide +kernel)
theorem mb_X8_ahead_wsX8_ahead_r1 {w : Cond} (h : w ∈ wsX8_ahead_r1) : w ∈ wsX8_ahead := by unfold wsX8_ahead; exact List.mem_cons_of_mem _ (List.mem_append_left _ (List.mem_append_left _ (h)))
theorem mx_X8_ahead_22 : Cond.code yX8_goOn cX8_goOn 3 none ∈ wsX8_ahead := mb_X8_ahead_wsX8_ahead_r1 (List.mem_of_getElem? (i := 21) rfl)
theorem mx_X8_ahead_23 : Cond.methodLink RX8 167 yX8_oneHour ∈ wsX8_ahead := mb_X8_ahead_wsX8_ahead_r1 (List.mem_of_getElem? (i := 22) rfl)
theorem mx_X8_ahead_24 : Cond.instanceMethod yX8_oneHour ∈ wsX8_ahead := mb_X8_ahead_wsX8_ahead_r1 (List.mem_of_getElem? (i := 23) rfl)
theorem mb_X8_ahead_wsX8_ahead_r2 {w : Cond} (h : w ∈ wsX8_ahead_r2) : w ∈ wsX8_ahead := by unfold wsX8_ahead; exact List.mem_cons_of_mem _ (List.mem_append_left _ (List.mem_append_right _ (List.mem_append_left _ (h))))
theorem mx_X8_ahead_25 : Cond.selects RX8 yX8_oneHour yX8_oneHour ∈ wsX8_ahead := mb_X8_ahead_wsX8_ahead_r2 (List.mem_of_getElem? (i := 0) rfl)
theorem mx_X8_ahead_9 : Cond.initialized RX8 ∈ wsX8_ahead := mb_X8_ahead_wsX8_ahead_r1 (List.mem_of_getElem? (i := 8) rfl)
theorem mx_X8_ahead_26 : Cond.code yX8_oneHour cX8_oneHour 4 (some .int) ∈ wsX8_ahead := mb_X8_ahead_wsX8_ahead_r2 (List.mem_of_getElem? (i := 1) rfl)
theorem mx_X8_ahead_4 : Cond.fieldLink RX8 19 "MillTalkModel" "st" "[I" ∈ wsX8_ahead := mb_X8_ahead_wsX8_ahead_r1 (List.mem_of_getElem? (i := 3) rfl)
theorem mx_X8_ahead_27 : Cond.methodLink RX8 151 yX8_gustOf ∈ wsX8_ahead := mb_X8_ahead_wsX8_ahead_r2 (List.mem_of_getElem? (i := 2) rfl)
theorem mx_X8_ahead_28 : Cond.instanceMethod yX8_gustOf ∈ wsX8_ahead := mb_X8_ahead_wsX8_ahead_r2 (List.mem_of_getElem? (i := 3) rfl)
theorem mx_X8_ahead_29 : Cond.selects RX8 yX8_gustOf yX8_gustOf ∈ wsX8_ahead := mb_X8_ahead_wsX8_ahead_r2 (List.mem_of_getElem? (i := 4) rfl)
theorem mx_X8_ahead_30 : Cond.code yX8_gustOf cX8_gustOf 2 (some .int) ∈ wsX8_ahead := mb_X8_ahead_wsX8_ahead_r2 (List.mem_of_getElem? (i := 5) rfl)
theorem mx_X8_ahead_31 : Cond.methodLink RX8 154 yX8_drift ∈ wsX8_ahead := mb_X8_ahead_wsX8_ahead_r2 (List.mem_of_getElem? (i := 6) rfl)
theorem mx_X8_ahead_32 : Cond.instanceMethod yX8_drift ∈ wsX8_ahead := mb_X8_ahead_wsX8_ahead_r2 (List.mem_of_getElem? (i := 7) rfl)
theorem mx_X8_ahead_33 : Cond.selects RX8 yX8_drift yX8_drift ∈ wsX8_ahead := mb_X8_ahead_wsX8_ahead_r2 (List.mem_of_getElem? (i := 8) rfl)
theorem mx_X8_ahead_34 : Cond.code yX8_drift cX8_drift 7 none ∈ wsX8_ahead := mb_X8_ahead_wsX8_ahead_r2 (List.mem_of_getElem? (i := 9) rfl)
theorem mx_X8_ahead_35 : Cond.methodLink RX8 145 yX8_drifts ∈ wsX8_ahead := mb_X8_ahead_wsX8_ahead_r2 (List.mem_of_getElem? (i := 10) rfl)
theorem mx_X8_ahead_36 : Cond.static yX8_drifts ∈ wsX8_ahead := mb_X8_ahead_wsX8_ahead_r2 (List.mem_of_getElem? (i := 11) rfl)
theorem mx_X8_ahead_37 : Cond.code yX8_drifts cX8_drifts 2 (some .int) ∈ wsX8_ahead := mb_X8_ahead_wsX8_ahead_r2 (List.mem_of_getElem? (i := 12) rfl)
theorem mx_X8_ahead_38 : Cond.methodLink RX8 148 yX8_isCell ∈ wsX8_ahead := mb_X8_ahead_wsX8_ahead_r2 (List.mem_of_getElem? (i := 13) rfl)
theorem mx_X8_ahead_39 : Cond.instanceMethod yX8_isCell ∈ wsX8_ahead := mb_X8_ahead_wsX8_ahead_r2 (List.mem_of_getElem? (i := 14) rfl)
theorem mx_X8_ahead_40 : Cond.selects RX8 yX8_isCell yX8_isCell ∈ wsX8_ahead := mb_X8_ahead_wsX8_ahead_r2 (List.mem_of_getElem? (i := 15) rfl)
theorem mx_X8_ahead_41 : Cond.code yX8_isCell cX8_isCell 2 (some .boolean) ∈ wsX8_ahead := mb_X8_ahead_wsX8_ahead_r2 (List.mem_of_getElem? (i := 16) rfl)
theorem mx_X8_ahead_11 : Cond.methodLink RX8 57 yX8_in ∈ wsX8_ahead := mb_X8_ahead_wsX8_ahead_r1 (List.mem_of_getElem? (i := 10) rfl)
theorem mx_X8_ahead_12 : Cond.static yX8_in ∈ wsX8_ahead := mb_X8_ahead_wsX8_ahead_r1 (List.mem_of_getElem? (i := 11) rfl)
theorem mx_X8_ahead_13 : Cond.code yX8_in cX8_in 6 (some .boolean) ∈ wsX8_ahead := mb_X8_ahead_wsX8_ahead_r1 (List.mem_of_getElem? (i := 12) rfl)
theorem mx_X8_ahead_42 : Cond.methodLink RX8 158 yX8_isAtMill ∈ wsX8_ahead := mb_X8_ahead_wsX8_ahead_r2 (List.mem_of_getElem? (i := 17) rfl)
theorem mx_X8_ahead_43 : Cond.instanceMethod yX8_isAtMill ∈ wsX8_ahead := mb_X8_ahead_wsX8_ahead_r2 (List.mem_of_getElem? (i := 18) rfl)
theorem mx_X8_ahead_44 : Cond.selects RX8 yX8_isAtMill yX8_isAtMill ∈ wsX8_ahead := mb_X8_ahead_wsX8_ahead_r2 (List.mem_of_getElem? (i := 19) rfl)
theorem mx_X8_ahead_45 : Cond.code yX8_isAtMill cX8_isAtMill 3 (some .boolean) ∈ wsX8_ahead := mb_X8_ahead_wsX8_ahead_r2 (List.mem_of_getElem? (i := 20) rfl)
theorem mb_X8_ahead_wsX80 {w : Cond} (h : w ∈ wsX80) : w ∈ wsX8_ahead := by unfold wsX8_ahead; exact List.mem_cons_of_mem _ (List.mem_append_right _ (h))
theorem ggX8_ahead_X8_goOn : GoodIn wsX8_ahead wsX8_goOn := goodIn_sub (by unfold wsX8_goOn; exact List.forall_mem_cons.mpr ⟨mx_X8_ahead_22, List.forall_mem_append.mpr ⟨List.forall_mem_append.mpr ⟨(by unfold wsX8_goOn_r1; exact List.forall_mem_cons.mpr ⟨mx_X8_ahead_23, List.forall_mem_cons.mpr ⟨mx_X8_ahead_24, List.forall_mem_cons.mpr ⟨mx_X8_ahead_25, List.forall_mem_cons.mpr ⟨mx_X8_ahead_9, List.forall_mem_cons.mpr ⟨mx_X8_ahead_26, List.forall_mem_cons.mpr ⟨mx_X8_ahead_4, List.forall_mem_cons.mpr ⟨mx_X8_ahead_27, List.forall_mem_cons.mpr ⟨mx_X8_ahead_28, List.forall_mem_cons.mpr ⟨mx_X8_ahead_29, List.forall_mem_cons.mpr ⟨mx_X8_ahead_30, List.forall_mem_cons.mpr ⟨mx_X8_ahead_31, List.forall_mem_cons.mpr ⟨mx_X8_ahead_32, List.forall_mem_cons.mpr ⟨mx_X8_ahead_33, List.forall_mem_cons.mpr ⟨mx_X8_ahead_34, List.forall_mem_cons.mpr ⟨mx_X8_ahead_35, List.forall_mem_cons.mpr ⟨mx_X8_ahead_36, List.forall_mem_cons.mpr ⟨mx_X8_ahead_37, List.forall_mem_cons.mpr ⟨mx_X8_ahead_38, List.forall_mem_cons.mpr ⟨mx_X8_ahead_39, List.forall_mem_cons.mpr ⟨mx_X8_ahead_40, List.forall_mem_cons.mpr ⟨mx_X8_ahead_41, List.forall_mem_cons.mpr ⟨mx_X8_ahead_11, List.forall_mem_cons.mpr ⟨mx_X8_ahead_12, List.forall_mem_cons.mpr ⟨mx_X8_ahead_13, fun _ h_ => absurd h_ List.not_mem_nil⟩⟩⟩⟩⟩⟩⟩⟩⟩⟩⟩⟩⟩⟩⟩⟩⟩⟩⟩⟩⟩⟩⟩⟩), (by unfold wsX8_goOn_r2; exact List.forall_mem_cons.mpr ⟨mx_X8_ahead_42, List.forall_mem_cons.mpr ⟨mx_X8_ahead_43, List.forall_mem_cons.mpr ⟨mx_X8_ahead_44, List.forall_mem_cons.mpr ⟨mx_X8_ahead_45, fun _ h_ => absurd h_ List.not_mem_nil⟩⟩⟩⟩)⟩, (fun _ h_ => mb_X8_ahead_wsX80 h_)⟩⟩) (by decide +kernel)
theorem mx_X8_ahead_19 : Cond.methodLink RX8 190 yX8_goOn ∈ wsX8_ahead := mb_X8_ahead_wsX8_ahead_r1 (List.mem_of_getElem? (i := 18) rfl)
theorem mx_X8_ahead_20 : Cond.instanceMethod yX8_goOn ∈ wsX8_ahead := mb_X8_ahead_wsX8_ahead_r1 (List.mem_of_getElem? (i := 19) rfl)
theorem mx_X8_ahead_21 : Cond.selects RX8 yX8_goOn yX8_goOn ∈ wsX8_ahead := mb_X8_ahead_wsX8_ahead_r1 (List.mem_of_getElem? (i := 20) rfl)
theorem gX8_ahead_X8_goOn : GoodIn wsX8_ahead (wsV RX8 190 RX8 yX8_goOn wsX8_goOn) := goodIn_app (goodIn_sub (List.forall_mem_cons.mpr ⟨mx_X8_ahead_19, List.forall_mem_cons.mpr ⟨mx_X8_ahead_20, List.forall_mem_cons.mpr ⟨mx_X8_ahead_21, List.forall_mem_cons.mpr ⟨mx_X8_ahead_9, fun _ h_ => absurd h_ List.not_mem_nil⟩⟩⟩⟩) (by decide +kernel)) ggX8_ahead_X8_goOn
theorem ggX8_ahead_X8_in : GoodIn wsX8_ahead wsX8_in := goodIn_sub (by unfold wsX8_in; exact List.forall_mem_cons.mpr ⟨mx_X8_ahead_13, fun _ h_ => absurd h_ List.not_mem_nil⟩) (by decide +kernel)
set_option maxRecDepth 20000 in
theorem gX8_ahead_X8_in : GoodIn wsX8_ahead (va_wsS RX8 57 yX8_in wsX8_in) := goodIn_app (goodIn_of _ (by decide +kernel)) ggX8_ahead_X8_in
theorem mx_X8_ahead_10 : Cond.code yX8_isSound cX8_isSound 2 (some .boolean) ∈ wsX8_ahead := mb_X8_ahead_wsX8_ahead_r1 (List.mem_of_getElem? (i := 9) rfl)
theorem ggX8_ahead_X8_isSound : GoodIn wsX8_ahead wsX8_isSound := goodIn_sub (by unfold wsX8_isSound; exact List.forall_mem_cons.mpr ⟨mx_X8_ahead_10, List.forall_mem_append.mpr ⟨List.forall_mem_cons.mpr ⟨mx_X8_ahead_4, List.forall_mem_cons.mpr ⟨mx_X8_ahead_11, List.forall_mem_cons.mpr ⟨mx_X8_ahead_12, List.forall_mem_cons.mpr ⟨mx_X8_ahead_9, List.forall_mem_cons.mpr ⟨mx_X8_ahead_13, fun _ h_ => absurd h_ List.not_mem_nil⟩⟩⟩⟩⟩, (fun _ h_ => mb_X8_ahead_wsX80 h_)⟩⟩) (by decide +kernel)
theorem mx_X8_ahead_6 : Cond.methodLink RX8 173 yX8_isSound ∈ wsX8_ahead := mb_X8_ahead_wsX8_ahead_r1 (List.mem_of_getElem? (i := 5) rfl)
theorem mx_X8_ahead_7 : Cond.instanceMethod yX8_isSound ∈ wsX8_ahead := mb_X8_ahead_wsX8_ahead_r1 (List.mem_of_getElem? (i := 6) rfl)
theorem mx_X8_ahead_8 : Cond.selects RX8 yX8_isSound yX8_isSound ∈ wsX8_ahead := mb_X8_ahead_wsX8_ahead_r1 (List.mem_of_getElem? (i := 7) rfl)
theorem gX8_ahead_X8_isSound : GoodIn wsX8_ahead (wsV RX8 173 RX8 yX8_isSound wsX8_isSound) := goodIn_app (goodIn_sub (List.forall_mem_cons.mpr ⟨mx_X8_ahead_6, List.forall_mem_cons.mpr ⟨mx_X8_ahead_7, List.forall_mem_cons.mpr ⟨mx_X8_ahead_8, List.forall_mem_cons.mpr ⟨mx_X8_ahead_9, fun _ h_ => absurd h_ List.not_mem_nil⟩⟩⟩⟩) (by decide +kernel)) ggX8_ahead_X8_isSound
theorem mx_X8_ahead_17 : Cond.code yX8_putAside cX8_putAside 2 none ∈ wsX8_ahead := mb_X8_ahead_wsX8_ahead_r1 (List.mem_of_getElem? (i := 16) rfl)
theorem mx_X8_ahead_18 : Cond.fieldLink RX8 34 "MillTalkModel" "aside" "[I" ∈ wsX8_ahead := mb_X8_ahead_wsX8_ahead_r1 (List.mem_of_getElem? (i := 17) rfl)
theorem ggX8_ahead_X8_putAside : GoodIn wsX8_ahead wsX8_putAside := goodIn_sub (by unfold wsX8_putAside; exact List.forall_mem_cons.mpr ⟨mx_X8_ahead_17, List.forall_mem_append.mpr ⟨List.forall_mem_cons.mpr ⟨mx_X8_ahead_18, List.forall_mem_cons.mpr ⟨mx_X8_ahead_4, fun _ h_ => absurd h_ List.not_mem_nil⟩⟩, (fun _ h_ => mb_X8_ahead_wsX80 h_)⟩⟩) (by decide +kernel)
theorem mx_X8_ahead_14 : Cond.methodLink RX8 197 yX8_putAside ∈ wsX8_ahead := mb_X8_ahead_wsX8_ahead_r1 (List.mem_of_getElem? (i := 13) rfl)
theorem mx_X8_ahead_15 : Cond.instanceMethod yX8_putAside ∈ wsX8_ahead := mb_X8_ahead_wsX8_ahead_r1 (List.mem_of_getElem? (i := 14) rfl)
theorem mx_X8_ahead_16 : Cond.selects RX8 yX8_putAside yX8_putAside ∈ wsX8_ahead := mb_X8_ahead_wsX8_ahead_r1 (List.mem_of_getElem? (i := 15) rfl)
theorem gX8_ahead_X8_putAside : GoodIn wsX8_ahead (wsV RX8 197 RX8 yX8_putAside wsX8_putAside) := goodIn_app (goodIn_sub (List.forall_mem_cons.mpr ⟨mx_X8_ahead_14, List.forall_mem_cons.mpr ⟨mx_X8_ahead_15, List.forall_mem_cons.mpr ⟨mx_X8_ahead_16, List.forall_mem_cons.mpr ⟨mx_X8_ahead_9, fun _ h_ => absurd h_ List.not_mem_nil⟩⟩⟩⟩) (by decide +kernel)) ggX8_ahead_X8_putAside
theorem mb_X8_ahead_wsX8_ahead_r3 {w : Cond} (h : w ∈ wsX8_ahead_r3) : w ∈ wsX8_ahead := by unfold wsX8_ahead; exact List.mem_cons_of_mem _ (List.mem_append_left _ (List.mem_append_right _ (List.mem_append_right _ (h))))
theorem mx_X8_ahead_49 : Cond.code yX8_takeBack cX8_takeBack 2 none ∈ wsX8_ahead := mb_X8_ahead_wsX8_ahead_r3 (List.mem_of_getElem? (i := 0) rfl)
theorem ggX8_ahead_X8_takeBack : GoodIn wsX8_ahead wsX8_takeBack := goodIn_sub (by unfold wsX8_takeBack; exact List.forall_mem_cons.mpr ⟨mx_X8_ahead_49, List.forall_mem_append.mpr ⟨List.forall_mem_cons.mpr ⟨mx_X8_ahead_4, List.forall_mem_cons.mpr ⟨mx_X8_ahead_18, fun _ h_ => absurd h_ List.not_mem_nil⟩⟩, (fun _ h_ => mb_X8_ahead_wsX80 h_)⟩⟩) (by decide +kernel)
theorem mx_X8_ahead_46 : Cond.methodLink RX8 194 yX8_takeBack ∈ wsX8_ahead := mb_X8_ahead_wsX8_ahead_r2 (List.mem_of_getElem? (i := 21) rfl)
theorem mx_X8_ahead_47 : Cond.instanceMethod yX8_takeBack ∈ wsX8_ahead := mb_X8_ahead_wsX8_ahead_r2 (List.mem_of_getElem? (i := 22) rfl)
theorem mx_X8_ahead_48 : Cond.selects RX8 yX8_takeBack yX8_takeBack ∈ wsX8_ahead := mb_X8_ahead_wsX8_ahead_r2 (List.mem_of_getElem? (i := 23) rfl)
theorem gX8_ahead_X8_takeBack : GoodIn wsX8_ahead (wsV RX8 194 RX8 yX8_takeBack wsX8_takeBack) := goodIn_app (goodIn_sub (List.forall_mem_cons.mpr ⟨mx_X8_ahead_46, List.forall_mem_cons.mpr ⟨mx_X8_ahead_47, List.forall_mem_cons.mpr ⟨mx_X8_ahead_48, List.forall_mem_cons.mpr ⟨mx_X8_ahead_9, fun _ h_ => absurd h_ List.not_mem_nil⟩⟩⟩⟩) (by decide +kernel)) ggX8_ahead_X8_takeBack
theorem mb_X8_caps_wsX8_caps_r1 {w : Cond} (h : w ∈ wsX8_caps_r1) : w ∈ wsX8_caps := by unfold wsX8_caps; exact List.mem_cons_of_mem _ (List.mem_append_left _ (List.mem_append_left _ (h)))
theorem mx_X8_caps_19 : Cond.code yX8_goTurning cX8_goTurning 6 (some .int) ∈ wsX8_caps := mb_X8_caps_wsX8_caps_r1 (List.mem_of_getElem? (i := 18) rfl)
theorem mx_X8_caps_5 : Cond.fieldLink RX8 19 "MillTalkModel" "st" "[I" ∈ wsX8_caps := mb_X8_caps_wsX8_caps_r1 (List.mem_of_getElem? (i := 4) rfl)
theorem mx_X8_caps_20 : Cond.methodLink RX8 167 yX8_oneHour ∈ wsX8_caps := mb_X8_caps_wsX8_caps_r1 (List.mem_of_getElem? (i := 19) rfl)
theorem mx_X8_caps_21 : Cond.instanceMethod yX8_oneHour ∈ wsX8_caps := mb_X8_caps_wsX8_caps_r1 (List.mem_of_getElem? (i := 20) rfl)
theorem mx_X8_caps_22 : Cond.selects RX8 yX8_oneHour yX8_oneHour ∈ wsX8_caps := mb_X8_caps_wsX8_caps_r1 (List.mem_of_getElem? (i := 21) rfl)
theorem mx_X8_caps_9 : Cond.initialized RX8 ∈ wsX8_caps := mb_X8_caps_wsX8_caps_r1 (List.mem_of_getElem? (i := 8) rfl)
theorem mx_X8_caps_23 : Cond.code yX8_oneHour cX8_oneHour 4 (some .int) ∈ wsX8_caps := mb_X8_caps_wsX8_caps_r1 (List.mem_of_getElem? (i := 22) rfl)
theorem mx_X8_caps_24 : Cond.methodLink RX8 151 yX8_gustOf ∈ wsX8_caps := mb_X8_caps_wsX8_caps_r1 (List.mem_of_getElem? (i := 23) rfl)
theorem mb_X8_caps_wsX8_caps_r2 {w : Cond} (h : w ∈ wsX8_caps_r2) : w ∈ wsX8_caps := by unfold wsX8_caps; exact List.mem_cons_of_mem _ (List.mem_append_left _ (List.mem_append_right _ (h)))
theorem mx_X8_caps_25 : Cond.instanceMethod yX8_gustOf ∈ wsX8_caps := mb_X8_caps_wsX8_caps_r2 (List.mem_of_getElem? (i := 0) rfl)
theorem mx_X8_caps_26 : Cond.selects RX8 yX8_gustOf yX8_gustOf ∈ wsX8_caps := mb_X8_caps_wsX8_caps_r2 (List.mem_of_getElem? (i := 1) rfl)
theorem mx_X8_caps_27 : Cond.code yX8_gustOf cX8_gustOf 2 (some .int) ∈ wsX8_caps := mb_X8_caps_wsX8_caps_r2 (List.mem_of_getElem? (i := 2) rfl)
theorem mx_X8_caps_28 : Cond.methodLink RX8 154 yX8_drift ∈ wsX8_caps := mb_X8_caps_wsX8_caps_r2 (List.mem_of_getElem? (i := 3) rfl)
theorem mx_X8_caps_29 : Cond.instanceMethod yX8_drift ∈ wsX8_caps := mb_X8_caps_wsX8_caps_r2 (List.mem_of_getElem? (i := 4) rfl)
theorem mx_X8_caps_30 : Cond.selects RX8 yX8_drift yX8_drift ∈ wsX8_caps := mb_X8_caps_wsX8_caps_r2 (List.mem_of_getElem? (i := 5) rfl)
theorem mx_X8_caps_31 : Cond.code yX8_drift cX8_drift 7 none ∈ wsX8_caps := mb_X8_caps_wsX8_caps_r2 (List.mem_of_getElem? (i := 6) rfl)
theorem mx_X8_caps_32 : Cond.methodLink RX8 145 yX8_drifts ∈ wsX8_caps := mb_X8_caps_wsX8_caps_r2 (List.mem_of_getElem? (i := 7) rfl)
theorem mx_X8_caps_33 : Cond.static yX8_drifts ∈ wsX8_caps := mb_X8_caps_wsX8_caps_r2 (List.mem_of_getElem? (i := 8) rfl)
theorem mx_X8_caps_34 : Cond.code yX8_drifts cX8_drifts 2 (some .int) ∈ wsX8_caps := mb_X8_caps_wsX8_caps_r2 (List.mem_of_getElem? (i := 9) rfl)
theorem mx_X8_caps_35 : Cond.methodLink RX8 148 yX8_isCell ∈ wsX8_caps := mb_X8_caps_wsX8_caps_r2 (List.mem_of_getElem? (i := 10) rfl)
theorem mx_X8_caps_36 : Cond.instanceMethod yX8_isCell ∈ wsX8_caps := mb_X8_caps_wsX8_caps_r2 (List.mem_of_getElem? (i := 11) rfl)
theorem mx_X8_caps_37 : Cond.selects RX8 yX8_isCell yX8_isCell ∈ wsX8_caps := mb_X8_caps_wsX8_caps_r2 (List.mem_of_getElem? (i := 12) rfl)
theorem mx_X8_caps_38 : Cond.code yX8_isCell cX8_isCell 2 (some .boolean) ∈ wsX8_caps := mb_X8_caps_wsX8_caps_r2 (List.mem_of_getElem? (i := 13) rfl)
theorem mx_X8_caps_7 : Cond.methodLink RX8 57 yX8_in ∈ wsX8_caps := mb_X8_caps_wsX8_caps_r1 (List.mem_of_getElem? (i := 6) rfl)
theorem mx_X8_caps_8 : Cond.static yX8_in ∈ wsX8_caps := mb_X8_caps_wsX8_caps_r1 (List.mem_of_getElem? (i := 7) rfl)
theorem mx_X8_caps_10 : Cond.code yX8_in cX8_in 6 (some .boolean) ∈ wsX8_caps := mb_X8_caps_wsX8_caps_r1 (List.mem_of_getElem? (i := 9) rfl)
theorem mx_X8_caps_39 : Cond.methodLink RX8 158 yX8_isAtMill ∈ wsX8_caps := mb_X8_caps_wsX8_caps_r2 (List.mem_of_getElem? (i := 14) rfl)
theorem mx_X8_caps_40 : Cond.instanceMethod yX8_isAtMill ∈ wsX8_caps := mb_X8_caps_wsX8_caps_r2 (List.mem_of_getElem? (i := 15) rfl)
theorem mx_X8_caps_41 : Cond.selects RX8 yX8_isAtMill yX8_isAtMill ∈ wsX8_caps := mb_X8_caps_wsX8_caps_r2 (List.mem_of_getElem? (i := 16) rfl)
theorem mx_X8_caps_42 : Cond.code yX8_isAtMill cX8_isAtMill 3 (some .boolean) ∈ wsX8_caps := mb_X8_caps_wsX8_caps_r2 (List.mem_of_getElem? (i := 17) rfl)
theorem mb_X8_caps_wsX80 {w : Cond} (h : w ∈ wsX80) : w ∈ wsX8_caps := by unfold wsX8_caps; exact List.mem_cons_of_mem _ (List.mem_append_right _ (h))
theorem ggX8_caps_X8_goTurning : GoodIn wsX8_caps wsX8_goTurning := goodIn_sub (by unfold wsX8_goTurning; exact List.forall_mem_cons.mpr ⟨mx_X8_caps_19, List.forall_mem_append.mpr ⟨List.forall_mem_append.mpr ⟨(by unfold wsX8_goTurning_r1; exact List.forall_mem_cons.mpr ⟨mx_X8_caps_5, List.forall_mem_cons.mpr ⟨mx_X8_caps_20, List.forall_mem_cons.mpr ⟨mx_X8_caps_21, List.forall_mem_cons.mpr ⟨mx_X8_caps_22, List.forall_mem_cons.mpr ⟨mx_X8_caps_9, List.forall_mem_cons.mpr ⟨mx_X8_caps_23, List.forall_mem_cons.mpr ⟨mx_X8_caps_24, List.forall_mem_cons.mpr ⟨mx_X8_caps_25, List.forall_mem_cons.mpr ⟨mx_X8_caps_26, List.forall_mem_cons.mpr ⟨mx_X8_caps_27, List.forall_mem_cons.mpr ⟨mx_X8_caps_28, List.forall_mem_cons.mpr ⟨mx_X8_caps_29, List.forall_mem_cons.mpr ⟨mx_X8_caps_30, List.forall_mem_cons.mpr ⟨mx_X8_caps_31, List.forall_mem_cons.mpr ⟨mx_X8_caps_32, List.forall_mem_cons.mpr ⟨mx_X8_caps_33, List.forall_mem_cons.mpr ⟨mx_X8_caps_34, List.forall_mem_cons.mpr ⟨mx_X8_caps_35, List.forall_mem_cons.mpr ⟨mx_X8_caps_36, List.forall_mem_cons.mpr ⟨mx_X8_caps_37, List.forall_mem_cons.mpr ⟨mx_X8_caps_38, List.forall_mem_cons.mpr ⟨mx_X8_caps_7, List.forall_mem_cons.mpr ⟨mx_X8_caps_8, List.forall_mem_cons.mpr ⟨mx_X8_caps_10, fun _ h_ => absurd h_ List.not_mem_nil⟩⟩⟩⟩⟩⟩⟩⟩⟩⟩⟩⟩⟩⟩⟩⟩⟩⟩⟩⟩⟩⟩⟩⟩), (by unfold wsX8_goTurning_r2; exact List.forall_mem_cons.mpr ⟨mx_X8_caps_39, List.forall_mem_cons.mpr ⟨mx_X8_caps_40, List.forall_mem_cons.mpr ⟨mx_X8_caps_41, List.forall_mem_cons.mpr ⟨mx_X8_caps_42, fun _ h_ => absurd h_ List.not_mem_nil⟩⟩⟩⟩)⟩, (fun _ h_ => mb_X8_caps_wsX80 h_)⟩⟩) (by decide +kernel)
theorem mx_X8_caps_16 : Cond.methodLink RX8 205 yX8_goTurning ∈ wsX8_caps := mb_X8_caps_wsX8_caps_r1 (List.mem_of_getElem? (i := 15) rfl)
theorem mx_X8_caps_17 : Cond.instanceMethod yX8_goTurning ∈ wsX8_caps := mb_X8_caps_wsX8_caps_r1 (List.mem_of_getElem? (i := 16) rfl)
theorem mx_X8_caps_18 : Cond.selects RX8 yX8_goTurning yX8_goTurning ∈ wsX8_caps := mb_X8_caps_wsX8_caps_r1 (List.mem_of_getElem? (i := 17) rfl)
theorem gX8_caps_X8_goTurning : GoodIn wsX8_caps (wsV RX8 205 RX8 yX8_goTurning wsX8_goTurning) := goodIn_app (goodIn_sub (List.forall_mem_cons.mpr ⟨mx_X8_caps_16, List.forall_mem_cons.mpr ⟨mx_X8_caps_17, List.forall_mem_cons.mpr ⟨mx_X8_caps_18, List.forall_mem_cons.mpr ⟨mx_X8_caps_9, fun _ h_ => absurd h_ List.not_mem_nil⟩⟩⟩⟩) (by decide +kernel)) ggX8_caps_X8_goTurning
theorem ggX8_caps_X8_in : GoodIn wsX8_caps wsX8_in := goodIn_sub (by unfold wsX8_in; exact List.forall_mem_cons.mpr ⟨mx_X8_caps_10, fun _ h_ => absurd h_ List.not_mem_nil⟩) (by decide +kernel)
set_option maxRecDepth 20000 in
theorem gX8_caps_X8_in : GoodIn wsX8_caps (va_wsS RX8 57 yX8_in wsX8_in) := goodIn_app (goodIn_of _ (by decide +kernel)) ggX8_caps_X8_in
theorem mx_X8_caps_14 : Cond.code yX8_putAside cX8_putAside 2 none ∈ wsX8_caps := mb_X8_caps_wsX8_caps_r1 (List.mem_of_getElem? (i := 13) rfl)
theorem mx_X8_caps_15 : Cond.fieldLink RX8 34 "MillTalkModel" "aside" "[I" ∈ wsX8_caps := mb_X8_caps_wsX8_caps_r1 (List.mem_of_getElem? (i := 14) rfl)
theorem ggX8_caps_X8_putAside : GoodIn wsX8_caps wsX8_putAside := goodIn_sub (by unfold wsX8_putAside; exact List.forall_mem_cons.mpr ⟨mx_X8_caps_14, List.forall_mem_append.mpr ⟨List.forall_mem_cons.mpr ⟨mx_X8_caps_15, List.forall_mem_cons.mpr ⟨mx_X8_caps_5, fun _ h_ => absurd h_ List.not_mem_nil⟩⟩, (fun _ h_ => mb_X8_caps_wsX80 h_)⟩⟩) (by decide +kernel)
theorem mx_X8_caps_11 : Cond.methodLink RX8 197 yX8_putAside ∈ wsX8_caps := mb_X8_caps_wsX8_caps_r1 (List.mem_of_getElem? (i := 10) rfl)
theorem mx_X8_caps_12 : Cond.instanceMethod yX8_putAside ∈ wsX8_caps := mb_X8_caps_wsX8_caps_r1 (List.mem_of_getElem? (i := 11) rfl)
theorem mx_X8_caps_13 : Cond.selects RX8 yX8_putAside yX8_putAside ∈ wsX8_caps := mb_X8_caps_wsX8_caps_r1 (List.mem_of_getElem? (i := 12) rfl)
theorem gX8_caps_X8_putAside : GoodIn wsX8_caps (wsV RX8 197 RX8 yX8_putAside wsX8_putAside) := goodIn_app (goodIn_sub (List.forall_mem_cons.mpr ⟨mx_X8_caps_11, List.forall_mem_cons.mpr ⟨mx_X8_caps_12, List.forall_mem_cons.mpr ⟨mx_X8_caps_13, List.forall_mem_cons.mpr ⟨mx_X8_caps_9, fun _ h_ => absurd h_ List.not_mem_nil⟩⟩⟩⟩) (by decide +kernel)) ggX8_caps_X8_putAside
theorem mx_X8_caps_46 : Cond.code yX8_takeBack cX8_takeBack 2 none ∈ wsX8_caps := mb_X8_caps_wsX8_caps_r2 (List.mem_of_getElem? (i := 21) rfl)
theorem ggX8_caps_X8_takeBack : GoodIn wsX8_caps wsX8_takeBack := goodIn_sub (by unfold wsX8_takeBack; exact List.forall_mem_cons.mpr ⟨mx_X8_caps_46, List.forall_mem_append.mpr ⟨List.forall_mem_cons.mpr ⟨mx_X8_caps_5, List.forall_mem_cons.mpr ⟨mx_X8_caps_15, fun _ h_ => absurd h_ List.not_mem_nil⟩⟩, (fun _ h_ => mb_X8_caps_wsX80 h_)⟩⟩) (by decide +kernel)
theorem mx_X8_caps_43 : Cond.methodLink RX8 194 yX8_takeBack ∈ wsX8_caps := mb_X8_caps_wsX8_caps_r2 (List.mem_of_getElem? (i := 18) rfl)
theorem mx_X8_caps_44 : Cond.instanceMethod yX8_takeBack ∈ wsX8_caps := mb_X8_caps_wsX8_caps_r2 (List.mem_of_getElem? (i := 19) rfl)
theorem mx_X8_caps_45 : Cond.selects RX8 yX8_takeBack yX8_takeBack ∈ wsX8_caps := mb_X8_caps_wsX8_caps_r2 (List.mem_of_getElem? (i := 20) rfl)
theorem gX8_caps_X8_takeBack : GoodIn wsX8_caps (wsV RX8 194 RX8 yX8_takeBack wsX8_takeBack) := goodIn_app (goodIn_sub (List.forall_mem_cons.mpr ⟨mx_X8_caps_43, List.forall_mem_cons.mpr ⟨mx_X8_caps_44, List.forall_mem_cons.mpr ⟨mx_X8_caps_45, List.forall_mem_cons.mpr ⟨mx_X8_caps_9, fun _ h_ => absurd h_ List.not_mem_nil⟩⟩⟩⟩) (by decide +kernel)) ggX8_caps_X8_takeBack
theorem mb_X8_goOn_wsX8_goOn_r1 {w : Cond} (h : w ∈ wsX8_goOn_r1) : w ∈ wsX8_goOn := by unfold wsX8_goOn; exact List.mem_cons_of_mem _ (List.mem_append_left _ (List.mem_append_left _ (h)))
theorem mx_X8_goOn_5 : Cond.code yX8_oneHour cX8_oneHour 4 (some .int) ∈ wsX8_goOn := mb_X8_goOn_wsX8_goOn_r1 (List.mem_of_getElem? (i := 4) rfl)
theorem mx_X8_goOn_6 : Cond.fieldLink RX8 19 "MillTalkModel" "st" "[I" ∈ wsX8_goOn := mb_X8_goOn_wsX8_goOn_r1 (List.mem_of_getElem? (i := 5) rfl)
theorem mx_X8_goOn_7 : Cond.methodLink RX8 151 yX8_gustOf ∈ wsX8_goOn := mb_X8_goOn_wsX8_goOn_r1 (List.mem_of_getElem? (i := 6) rfl)
theorem mx_X8_goOn_8 : Cond.instanceMethod yX8_gustOf ∈ wsX8_goOn := mb_X8_goOn_wsX8_goOn_r1 (List.mem_of_getElem? (i := 7) rfl)
theorem mx_X8_goOn_9 : Cond.selects RX8 yX8_gustOf yX8_gustOf ∈ wsX8_goOn := mb_X8_goOn_wsX8_goOn_r1 (List.mem_of_getElem? (i := 8) rfl)
theorem mx_X8_goOn_4 : Cond.initialized RX8 ∈ wsX8_goOn := mb_X8_goOn_wsX8_goOn_r1 (List.mem_of_getElem? (i := 3) rfl)
theorem mx_X8_goOn_10 : Cond.code yX8_gustOf cX8_gustOf 2 (some .int) ∈ wsX8_goOn := mb_X8_goOn_wsX8_goOn_r1 (List.mem_of_getElem? (i := 9) rfl)
theorem mx_X8_goOn_11 : Cond.methodLink RX8 154 yX8_drift ∈ wsX8_goOn := mb_X8_goOn_wsX8_goOn_r1 (List.mem_of_getElem? (i := 10) rfl)
theorem mx_X8_goOn_12 : Cond.instanceMethod yX8_drift ∈ wsX8_goOn := mb_X8_goOn_wsX8_goOn_r1 (List.mem_of_getElem? (i := 11) rfl)
theorem mx_X8_goOn_13 : Cond.selects RX8 yX8_drift yX8_drift ∈ wsX8_goOn := mb_X8_goOn_wsX8_goOn_r1 (List.mem_of_getElem? (i := 12) rfl)
theorem mx_X8_goOn_14 : Cond.code yX8_drift cX8_drift 7 none ∈ wsX8_goOn := mb_X8_goOn_wsX8_goOn_r1 (List.mem_of_getElem? (i := 13) rfl)
theorem mx_X8_goOn_15 : Cond.methodLink RX8 145 yX8_drifts ∈ wsX8_goOn := mb_X8_goOn_wsX8_goOn_r1 (List.mem_of_getElem? (i := 14) rfl)
theorem mx_X8_goOn_16 : Cond.static yX8_drifts ∈ wsX8_goOn := mb_X8_goOn_wsX8_goOn_r1 (List.mem_of_getElem? (i := 15) rfl)
theorem mx_X8_goOn_17 : Cond.code yX8_drifts cX8_drifts 2 (some .int) ∈ wsX8_goOn := mb_X8_goOn_wsX8_goOn_r1 (List.mem_of_getElem? (i := 16) rfl)
theorem mx_X8_goOn_18 : Cond.methodLink RX8 148 yX8_isCell ∈ wsX8_goOn := mb_X8_goOn_wsX8_goOn_r1 (List.mem_of_getElem? (i := 17) rfl)
theorem mx_X8_goOn_19 : Cond.instanceMethod yX8_isCell ∈ wsX8_goOn := mb_X8_goOn_wsX8_goOn_r1 (List.mem_of_getElem? (i := 18) rfl)
theorem mx_X8_goOn_20 : Cond.selects RX8 yX8_isCell yX8_isCell ∈ wsX8_goOn := mb_X8_goOn_wsX8_goOn_r1 (List.mem_of_getElem? (i := 19) rfl)
theorem mx_X8_goOn_21 : Cond.code yX8_isCell cX8_isCell 2 (some .boolean) ∈ wsX8_goOn := mb_X8_goOn_wsX8_goOn_r1 (List.mem_of_getElem? (i := 20) rfl)
theorem mx_X8_goOn_22 : Cond.methodLink RX8 57 yX8_in ∈ wsX8_goOn := mb_X8_goOn_wsX8_goOn_r1 (List.mem_of_getElem? (i := 21) rfl)
theorem mx_X8_goOn_23 : Cond.static yX8_in ∈ wsX8_goOn := mb_X8_goOn_wsX8_goOn_r1 (List.mem_of_getElem? (i := 22) rfl)
theorem mx_X8_goOn_24 : Cond.code yX8_in cX8_in 6 (some .boolean) ∈ wsX8_goOn := mb_X8_goOn_wsX8_goOn_r1 (List.mem_of_getElem? (i := 23) rfl)
theorem mb_X8_goOn_wsX8_goOn_r2 {w : Cond} (h : w ∈ wsX8_goOn_r2) : w ∈ wsX8_goOn := by unfold wsX8_goOn; exact List.mem_cons_of_mem _ (List.mem_append_left _ (List.mem_append_right _ (h)))
theorem mx_X8_goOn_25 : Cond.methodLink RX8 158 yX8_isAtMill ∈ wsX8_goOn := mb_X8_goOn_wsX8_goOn_r2 (List.mem_of_getElem? (i := 0) rfl)
theorem mx_X8_goOn_26 : Cond.instanceMethod yX8_isAtMill ∈ wsX8_goOn := mb_X8_goOn_wsX8_goOn_r2 (List.mem_of_getElem? (i := 1) rfl)
theorem mx_X8_goOn_27 : Cond.selects RX8 yX8_isAtMill yX8_isAtMill ∈ wsX8_goOn := mb_X8_goOn_wsX8_goOn_r2 (List.mem_of_getElem? (i := 2) rfl)
theorem mx_X8_goOn_28 : Cond.code yX8_isAtMill cX8_isAtMill 3 (some .boolean) ∈ wsX8_goOn := mb_X8_goOn_wsX8_goOn_r2 (List.mem_of_getElem? (i := 3) rfl)
theorem mb_X8_goOn_wsX80 {w : Cond} (h : w ∈ wsX80) : w ∈ wsX8_goOn := by unfold wsX8_goOn; exact List.mem_cons_of_mem _ (List.mem_append_right _ (h))
theorem ggX8_goOn_X8_oneHour : GoodIn wsX8_goOn wsX8_oneHour := goodIn_sub (by unfold wsX8_oneHour; exact List.forall_mem_cons.mpr ⟨mx_X8_goOn_5, List.forall_mem_append.mpr ⟨List.forall_mem_cons.mpr ⟨mx_X8_goOn_6, List.forall_mem_cons.mpr ⟨mx_X8_goOn_7, List.forall_mem_cons.mpr ⟨mx_X8_goOn_8, List.forall_mem_cons.mpr ⟨mx_X8_goOn_9, List.forall_mem_cons.mpr ⟨mx_X8_goOn_4, List.forall_mem_cons.mpr ⟨mx_X8_goOn_10, List.forall_mem_cons.mpr ⟨mx_X8_goOn_11, List.forall_mem_cons.mpr ⟨mx_X8_goOn_12, List.forall_mem_cons.mpr ⟨mx_X8_goOn_13, List.forall_mem_cons.mpr ⟨mx_X8_goOn_14, List.forall_mem_cons.mpr ⟨mx_X8_goOn_15, List.forall_mem_cons.mpr ⟨mx_X8_goOn_16, List.forall_mem_cons.mpr ⟨mx_X8_goOn_17, List.forall_mem_cons.mpr ⟨mx_X8_goOn_18, List.forall_mem_cons.mpr ⟨mx_X8_goOn_19, List.forall_mem_cons.mpr ⟨mx_X8_goOn_20, List.forall_mem_cons.mpr ⟨mx_X8_goOn_21, List.forall_mem_cons.mpr ⟨mx_X8_goOn_22, List.forall_mem_cons.mpr ⟨mx_X8_goOn_23, List.forall_mem_cons.mpr ⟨mx_X8_goOn_24, List.forall_mem_cons.mpr ⟨mx_X8_goOn_25, List.forall_mem_cons.mpr ⟨mx_X8_goOn_26, List.forall_mem_cons.mpr ⟨mx_X8_goOn_27, List.forall_mem_cons.mpr ⟨mx_X8_goOn_28, fun _ h_ => absurd h_ List.not_mem_nil⟩⟩⟩⟩⟩⟩⟩⟩⟩⟩⟩⟩⟩⟩⟩⟩⟩⟩⟩⟩⟩⟩⟩⟩, (fun _ h_ => mb_X8_goOn_wsX80 h_)⟩⟩) (by decide +kernel)
theorem mx_X8_goOn_1 : Cond.methodLink RX8 167 yX8_oneHour ∈ wsX8_goOn := mb_X8_goOn_wsX8_goOn_r1 (List.mem_of_getElem? (i := 0) rfl)
theorem mx_X8_goOn_2 : Cond.instanceMethod yX8_oneHour ∈ wsX8_goOn := mb_X8_goOn_wsX8_goOn_r1 (List.mem_of_getElem? (i := 1) rfl)
theorem mx_X8_goOn_3 : Cond.selects RX8 yX8_oneHour yX8_oneHour ∈ wsX8_goOn := mb_X8_goOn_wsX8_goOn_r1 (List.mem_of_getElem? (i := 2) rfl)
theorem gX8_goOn_X8_oneHour : GoodIn wsX8_goOn (wsV RX8 167 RX8 yX8_oneHour wsX8_oneHour) := goodIn_app (goodIn_sub (List.forall_mem_cons.mpr ⟨mx_X8_goOn_1, List.forall_mem_cons.mpr ⟨mx_X8_goOn_2, List.forall_mem_cons.mpr ⟨mx_X8_goOn_3, List.forall_mem_cons.mpr ⟨mx_X8_goOn_4, fun _ h_ => absurd h_ List.not_mem_nil⟩⟩⟩⟩) (by decide +kernel)) ggX8_goOn_X8_oneHour
theorem mb_X8_goTurning_wsX8_goTurning_r1 {w : Cond} (h : w ∈ wsX8_goTurning_r1) : w ∈ wsX8_goTurning := by unfold wsX8_goTurning; exact List.mem_cons_of_mem _ (List.mem_append_left _ (List.mem_append_left _ (h)))
theorem mx_X8_goTurning_6 : Cond.code yX8_oneHour cX8_oneHour 4 (some .int) ∈ wsX8_goTurning := mb_X8_goTurning_wsX8_goTurning_r1 (List.mem_of_getElem? (i := 5) rfl)
theorem mx_X8_goTurning_1 : Cond.fieldLink RX8 19 "MillTalkModel" "st" "[I" ∈ wsX8_goTurning := mb_X8_goTurning_wsX8_goTurning_r1 (List.mem_of_getElem? (i := 0) rfl)
theorem mx_X8_goTurning_7 : Cond.methodLink RX8 151 yX8_gustOf ∈ wsX8_goTurning := mb_X8_goTurning_wsX8_goTurning_r1 (List.mem_of_getElem? (i := 6) rfl)
theorem mx_X8_goTurning_8 : Cond.instanceMethod yX8_gustOf ∈ wsX8_goTurning := mb_X8_goTurning_wsX8_goTurning_r1 (List.mem_of_getElem? (i := 7) rfl)
theorem mx_X8_goTurning_9 : Cond.selects RX8 yX8_gustOf yX8_gustOf ∈ wsX8_goTurning := mb_X8_goTurning_wsX8_goTurning_r1 (List.mem_of_getElem? (i := 8) rfl)
theorem mx_X8_goTurning_5 : Cond.initialized RX8 ∈ wsX8_goTurning := mb_X8_goTurning_wsX8_goTurning_r1 (List.mem_of_getElem? (i := 4) rfl)
theorem mx_X8_goTurning_10 : Cond.code yX8_gustOf cX8_gustOf 2 (some .int) ∈ wsX8_goTurning := mb_X8_goTurning_wsX8_goTurning_r1 (List.mem_of_getElem? (i := 9) rfl)
theorem mx_X8_goTurning_11 : Cond.methodLink RX8 154 yX8_drift ∈ wsX8_goTurning := mb_X8_goTurning_wsX8_goTurning_r1 (List.mem_of_getElem? (i := 10) rfl)
theorem mx_X8_goTurning_12 : Cond.instanceMethod yX8_drift ∈ wsX8_goTurning := mb_X8_goTurning_wsX8_goTurning_r1 (List.mem_of_getElem? (i := 11) rfl)
theorem mx_X8_goTurning_13 : Cond.selects RX8 yX8_drift yX8_drift ∈ wsX8_goTurning := mb_X8_goTurning_wsX8_goTurning_r1 (List.mem_of_getElem? (i := 12) rfl)
theorem mx_X8_goTurning_14 : Cond.code yX8_drift cX8_drift 7 none ∈ wsX8_goTurning := mb_X8_goTurning_wsX8_goTurning_r1 (List.mem_of_getElem? (i := 13) rfl)
theorem mx_X8_goTurning_15 : Cond.methodLink RX8 145 yX8_drifts ∈ wsX8_goTurning := mb_X8_goTurning_wsX8_goTurning_r1 (List.mem_of_getElem? (i := 14) rfl)
theorem mx_X8_goTurning_16 : Cond.static yX8_drifts ∈ wsX8_goTurning := mb_X8_goTurning_wsX8_goTurning_r1 (List.mem_of_getElem? (i := 15) rfl)
theorem mx_X8_goTurning_17 : Cond.code yX8_drifts cX8_drifts 2 (some .int) ∈ wsX8_goTurning := mb_X8_goTurning_wsX8_goTurning_r1 (List.mem_of_getElem? (i := 16) rfl)
theorem mx_X8_goTurning_18 : Cond.methodLink RX8 148 yX8_isCell ∈ wsX8_goTurning := mb_X8_goTurning_wsX8_goTurning_r1 (List.mem_of_getElem? (i := 17) rfl)
theorem mx_X8_goTurning_19 : Cond.instanceMethod yX8_isCell ∈ wsX8_goTurning := mb_X8_goTurning_wsX8_goTurning_r1 (List.mem_of_getElem? (i := 18) rfl)
theorem mx_X8_goTurning_20 : Cond.selects RX8 yX8_isCell yX8_isCell ∈ wsX8_goTurning := mb_X8_goTurning_wsX8_goTurning_r1 (List.mem_of_getElem? (i := 19) rfl)
theorem mx_X8_goTurning_21 : Cond.code yX8_isCell cX8_isCell 2 (some .boolean) ∈ wsX8_goTurning := mb_X8_goTurning_wsX8_goTurning_r1 (List.mem_of_getElem? (i := 20) rfl)
theorem mx_X8_goTurning_22 : Cond.methodLink RX8 57 yX8_in ∈ wsX8_goTurning := mb_X8_goTurning_wsX8_goTurning_r1 (List.mem_of_getElem? (i := 21) rfl)
theorem mx_X8_goTurning_23 : Cond.static yX8_in ∈ wsX8_goTurning := mb_X8_goTurning_wsX8_goTurning_r1 (List.mem_of_getElem? (i := 22) rfl)
theorem mx_X8_goTurning_24 : Cond.code yX8_in cX8_in 6 (some .boolean) ∈ wsX8_goTurning := mb_X8_goTurning_wsX8_goTurning_r1 (List.mem_of_getElem? (i := 23) rfl)
theorem mb_X8_goTurning_wsX8_goTurning_r2 {w : Cond} (h : w ∈ wsX8_goTurning_r2) : w ∈ wsX8_goTurning := by unfold wsX8_goTurning; exact List.mem_cons_of_mem _ (List.mem_append_left _ (List.mem_append_right _ (h)))
theorem mx_X8_goTurning_25 : Cond.methodLink RX8 158 yX8_isAtMill ∈ wsX8_goTurning := mb_X8_goTurning_wsX8_goTurning_r2 (List.mem_of_getElem? (i := 0) rfl)
theorem mx_X8_goTurning_26 : Cond.instanceMethod yX8_isAtMill ∈ wsX8_goTurning := mb_X8_goTurning_wsX8_goTurning_r2 (List.mem_of_getElem? (i := 1) rfl)
theorem mx_X8_goTurning_27 : Cond.selects RX8 yX8_isAtMill yX8_isAtMill ∈ wsX8_goTurning := mb_X8_goTurning_wsX8_goTurning_r2 (List.mem_of_getElem? (i := 2) rfl)
theorem mx_X8_goTurning_28 : Cond.code yX8_isAtMill cX8_isAtMill 3 (some .boolean) ∈ wsX8_goTurning := mb_X8_goTurning_wsX8_goTurning_r2 (List.mem_of_getElem? (i := 3) rfl)
theorem mb_X8_goTurning_wsX80 {w : Cond} (h : w ∈ wsX80) : w ∈ wsX8_goTurning := by unfold wsX8_goTurning; exact List.mem_cons_of_mem _ (List.mem_append_right _ (h))
theorem ggX8_goTurning_X8_oneHour : GoodIn wsX8_goTurning wsX8_oneHour := goodIn_sub (by unfold wsX8_oneHour; exact List.forall_mem_cons.mpr ⟨mx_X8_goTurning_6, List.forall_mem_append.mpr ⟨List.forall_mem_cons.mpr ⟨mx_X8_goTurning_1, List.forall_mem_cons.mpr ⟨mx_X8_goTurning_7, List.forall_mem_cons.mpr ⟨mx_X8_goTurning_8, List.forall_mem_cons.mpr ⟨mx_X8_goTurning_9, List.forall_mem_cons.mpr ⟨mx_X8_goTurning_5, List.forall_mem_cons.mpr ⟨mx_X8_goTurning_10, List.forall_mem_cons.mpr ⟨mx_X8_goTurning_11, List.forall_mem_cons.mpr ⟨mx_X8_goTurning_12, List.forall_mem_cons.mpr ⟨mx_X8_goTurning_13, List.forall_mem_cons.mpr ⟨mx_X8_goTurning_14, List.forall_mem_cons.mpr ⟨mx_X8_goTurning_15, List.forall_mem_cons.mpr ⟨mx_X8_goTurning_16, List.forall_mem_cons.mpr ⟨mx_X8_goTurning_17, List.forall_mem_cons.mpr ⟨mx_X8_goTurning_18, List.forall_mem_cons.mpr ⟨mx_X8_goTurning_19, List.forall_mem_cons.mpr ⟨mx_X8_goTurning_20, List.forall_mem_cons.mpr ⟨mx_X8_goTurning_21, List.forall_mem_cons.mpr ⟨mx_X8_goTurning_22, List.forall_mem_cons.mpr ⟨mx_X8_goTurning_23, List.forall_mem_cons.mpr ⟨mx_X8_goTurning_24, List.forall_mem_cons.mpr ⟨mx_X8_goTurning_25, List.forall_mem_cons.mpr ⟨mx_X8_goTurning_26, List.forall_mem_cons.mpr ⟨mx_X8_goTurning_27, List.forall_mem_cons.mpr ⟨mx_X8_goTurning_28, fun _ h_ => absurd h_ List.not_mem_nil⟩⟩⟩⟩⟩⟩⟩⟩⟩⟩⟩⟩⟩⟩⟩⟩⟩⟩⟩⟩⟩⟩⟩⟩, (fun _ h_ => mb_X8_goTurning_wsX80 h_)⟩⟩) (by decide +kernel)
theorem mx_X8_goTurning_2 : Cond.methodLink RX8 167 yX8_oneHour ∈ wsX8_goTurning := mb_X8_goTurning_wsX8_goTurning_r1 (List.mem_of_getElem? (i := 1) rfl)
theorem mx_X8_goTurning_3 : Cond.instanceMethod yX8_oneHour ∈ wsX8_goTurning := mb_X8_goTurning_wsX8_goTurning_r1 (List.mem_of_getElem? (i := 2) rfl)
theorem mx_X8_goTurning_4 : Cond.selects RX8 yX8_oneHour yX8_oneHour ∈ wsX8_goTurning := mb_X8_goTurning_wsX8_goTurning_r1 (List.mem_of_getElem? (i := 3) rfl)
theorem gX8_goTurning_X8_oneHour : GoodIn wsX8_goTurning (wsV RX8 167 RX8 yX8_oneHour wsX8_oneHour) := goodIn_app (goodIn_sub (List.forall_mem_cons.mpr ⟨mx_X8_goTurning_2, List.forall_mem_cons.mpr ⟨mx_X8_goTurning_3, List.forall_mem_cons.mpr ⟨mx_X8_goTurning_4, List.forall_mem_cons.mpr ⟨mx_X8_goTurning_5, fun _ h_ => absurd h_ List.not_mem_nil⟩⟩⟩⟩) (by decide +kernel)) ggX8_goTurning_X8_oneHour
theorem mx_X8_gust_13 : Cond.code yX8_gustOf cX8_gustOf 2 (some .int) ∈ wsX8_gust := by unfold wsX8_gust; exact List.mem_cons_of_mem _ (List.mem_append_left _ (List.mem_of_getElem? (i := 12) rfl))
theorem mx_X8_gust_4 : Cond.fieldLink RX8 19 "MillTalkModel" "st" "[I" ∈ wsX8_gust := by unfold wsX8_gust; exact List.mem_cons_of_mem _ (List.mem_append_left _ (List.mem_of_getElem? (i := 3) rfl))
theorem mb_X8_gust_wsX80 {w : Cond} (h : w ∈ wsX80) : w ∈ wsX8_gust := by unfold wsX8_gust; exact List.mem_cons_of_mem _ (List.mem_append_right _ (h))
theorem ggX8_gust_X8_gustOf : GoodIn wsX8_gust wsX8_gustOf := goodIn_sub (by unfold wsX8_gustOf; exact List.forall_mem_cons.mpr ⟨mx_X8_gust_13, List.forall_mem_append.mpr ⟨List.forall_mem_cons.mpr ⟨mx_X8_gust_4, fun _ h_ => absurd h_ List.not_mem_nil⟩, (fun _ h_ => mb_X8_gust_wsX80 h_)⟩⟩) (by decide +kernel)
theorem mx_X8_gust_10 : Cond.methodLink RX8 151 yX8_gustOf ∈ wsX8_gust := by unfold wsX8_gust; exact List.mem_cons_of_mem _ (List.mem_append_left _ (List.mem_of_getElem? (i := 9) rfl))
theorem mx_X8_gust_11 : Cond.instanceMethod yX8_gustOf ∈ wsX8_gust := by unfold wsX8_gust; exact List.mem_cons_of_mem _ (List.mem_append_left _ (List.mem_of_getElem? (i := 10) rfl))
theorem mx_X8_gust_12 : Cond.selects RX8 yX8_gustOf yX8_gustOf ∈ wsX8_gust := by unfold wsX8_gust; exact List.mem_cons_of_mem _ (List.mem_append_left _ (List.mem_of_getElem? (i := 11) rfl))
theorem mx_X8_gust_8 : Cond.initialized RX8 ∈ wsX8_gust := by unfold wsX8_gust; exact List.mem_cons_of_mem _ (List.mem_append_left _ (List.mem_of_getElem? (i := 7) rfl))
theorem gX8_gust_X8_gustOf : GoodIn wsX8_gust (wsV RX8 151 RX8 yX8_gustOf wsX8_gustOf) := goodIn_app (goodIn_sub (List.forall_mem_cons.mpr ⟨mx_X8_gust_10, List.forall_mem_cons.mpr ⟨mx_X8_gust_11, List.forall_mem_cons.mpr ⟨mx_X8_gust_12, List.forall_mem_cons.mpr ⟨mx_X8_gust_8, fun _ h_ => absurd h_ List.not_mem_nil⟩⟩⟩⟩) (by decide +kernel)) ggX8_gust_X8_gustOf
theorem mx_X8_gust_9 : Cond.code yX8_in cX8_in 6 (some .boolean) ∈ wsX8_gust := by unfold wsX8_gust; exact List.mem_cons_of_mem _ (List.mem_append_left _ (List.mem_of_getElem? (i := 8) rfl))
theorem ggX8_gust_X8_in : GoodIn wsX8_gust wsX8_in := goodIn_sub (by unfold wsX8_in; exact List.forall_mem_cons.mpr ⟨mx_X8_gust_9, fun _ h_ => absurd h_ List.not_mem_nil⟩) (by decide +kernel)
set_option maxRecDepth 20000 in
theorem gX8_gust_X8_in : GoodIn wsX8_gust (va_wsS RX8 57 yX8_in wsX8_in) := goodIn_app (goodIn_of _ (by decide +kernel)) ggX8_gust_X8_in
theorem mb_X8_had_wsX8_had_r1 {w : Cond} (h : w ∈ wsX8_had_r1) : w ∈ wsX8_had := by unfold wsX8_had; exact List.mem_cons_of_mem _ (List.mem_append_left _ (List.mem_append_left _ (h)))
theorem mx_X8_had_19 : Cond.code yX8_goTurning cX8_goTurning 6 (some .int) ∈ wsX8_had := mb_X8_had_wsX8_had_r1 (List.mem_of_getElem? (i := 18) rfl)
theorem mx_X8_had_3 : Cond.fieldLink RX8 19 "MillTalkModel" "st" "[I" ∈ wsX8_had := mb_X8_had_wsX8_had_r1 (List.mem_of_getElem? (i := 2) rfl)
theorem mx_X8_had_20 : Cond.methodLink RX8 167 yX8_oneHour ∈ wsX8_had := mb_X8_had_wsX8_had_r1 (List.mem_of_getElem? (i := 19) rfl)
theorem mx_X8_had_21 : Cond.instanceMethod yX8_oneHour ∈ wsX8_had := mb_X8_had_wsX8_had_r1 (List.mem_of_getElem? (i := 20) rfl)
theorem mx_X8_had_22 : Cond.selects RX8 yX8_oneHour yX8_oneHour ∈ wsX8_had := mb_X8_had_wsX8_had_r1 (List.mem_of_getElem? (i := 21) rfl)
theorem mx_X8_had_9 : Cond.initialized RX8 ∈ wsX8_had := mb_X8_had_wsX8_had_r1 (List.mem_of_getElem? (i := 8) rfl)
theorem mx_X8_had_23 : Cond.code yX8_oneHour cX8_oneHour 4 (some .int) ∈ wsX8_had := mb_X8_had_wsX8_had_r1 (List.mem_of_getElem? (i := 22) rfl)
theorem mx_X8_had_24 : Cond.methodLink RX8 151 yX8_gustOf ∈ wsX8_had := mb_X8_had_wsX8_had_r1 (List.mem_of_getElem? (i := 23) rfl)
theorem mb_X8_had_wsX8_had_r2 {w : Cond} (h : w ∈ wsX8_had_r2) : w ∈ wsX8_had := by unfold wsX8_had; exact List.mem_cons_of_mem _ (List.mem_append_left _ (List.mem_append_right _ (List.mem_append_left _ (h))))
theorem mx_X8_had_25 : Cond.instanceMethod yX8_gustOf ∈ wsX8_had := mb_X8_had_wsX8_had_r2 (List.mem_of_getElem? (i := 0) rfl)
theorem mx_X8_had_26 : Cond.selects RX8 yX8_gustOf yX8_gustOf ∈ wsX8_had := mb_X8_had_wsX8_had_r2 (List.mem_of_getElem? (i := 1) rfl)
theorem mx_X8_had_27 : Cond.code yX8_gustOf cX8_gustOf 2 (some .int) ∈ wsX8_had := mb_X8_had_wsX8_had_r2 (List.mem_of_getElem? (i := 2) rfl)
theorem mx_X8_had_28 : Cond.methodLink RX8 154 yX8_drift ∈ wsX8_had := mb_X8_had_wsX8_had_r2 (List.mem_of_getElem? (i := 3) rfl)
theorem mx_X8_had_29 : Cond.instanceMethod yX8_drift ∈ wsX8_had := mb_X8_had_wsX8_had_r2 (List.mem_of_getElem? (i := 4) rfl)
theorem mx_X8_had_30 : Cond.selects RX8 yX8_drift yX8_drift ∈ wsX8_had := mb_X8_had_wsX8_had_r2 (List.mem_of_getElem? (i := 5) rfl)
theorem mx_X8_had_31 : Cond.code yX8_drift cX8_drift 7 none ∈ wsX8_had := mb_X8_had_wsX8_had_r2 (List.mem_of_getElem? (i := 6) rfl)
theorem mx_X8_had_32 : Cond.methodLink RX8 145 yX8_drifts ∈ wsX8_had := mb_X8_had_wsX8_had_r2 (List.mem_of_getElem? (i := 7) rfl)
theorem mx_X8_had_33 : Cond.static yX8_drifts ∈ wsX8_had := mb_X8_had_wsX8_had_r2 (List.mem_of_getElem? (i := 8) rfl)
theorem mx_X8_had_34 : Cond.code yX8_drifts cX8_drifts 2 (some .int) ∈ wsX8_had := mb_X8_had_wsX8_had_r2 (List.mem_of_getElem? (i := 9) rfl)
theorem mx_X8_had_35 : Cond.methodLink RX8 148 yX8_isCell ∈ wsX8_had := mb_X8_had_wsX8_had_r2 (List.mem_of_getElem? (i := 10) rfl)
theorem mx_X8_had_36 : Cond.instanceMethod yX8_isCell ∈ wsX8_had := mb_X8_had_wsX8_had_r2 (List.mem_of_getElem? (i := 11) rfl)
theorem mx_X8_had_37 : Cond.selects RX8 yX8_isCell yX8_isCell ∈ wsX8_had := mb_X8_had_wsX8_had_r2 (List.mem_of_getElem? (i := 12) rfl)
theorem mx_X8_had_38 : Cond.code yX8_isCell cX8_isCell 2 (some .boolean) ∈ wsX8_had := mb_X8_had_wsX8_had_r2 (List.mem_of_getElem? (i := 13) rfl)
theorem mx_X8_had_7 : Cond.methodLink RX8 57 yX8_in ∈ wsX8_had := mb_X8_had_wsX8_had_r1 (List.mem_of_getElem? (i := 6) rfl)
theorem mx_X8_had_8 : Cond.static yX8_in ∈ wsX8_had := mb_X8_had_wsX8_had_r1 (List.mem_of_getElem? (i := 7) rfl)
theorem mx_X8_had_10 : Cond.code yX8_in cX8_in 6 (some .boolean) ∈ wsX8_had := mb_X8_had_wsX8_had_r1 (List.mem_of_getElem? (i := 9) rfl)
theorem mx_X8_had_39 : Cond.methodLink RX8 158 yX8_isAtMill ∈ wsX8_had := mb_X8_had_wsX8_had_r2 (List.mem_of_getElem? (i := 14) rfl)
theorem mx_X8_had_40 : Cond.instanceMethod yX8_isAtMill ∈ wsX8_had := mb_X8_had_wsX8_had_r2 (List.mem_of_getElem? (i := 15) rfl)
theorem mx_X8_had_41 : Cond.selects RX8 yX8_isAtMill yX8_isAtMill ∈ wsX8_had := mb_X8_had_wsX8_had_r2 (List.mem_of_getElem? (i := 16) rfl)
theorem mx_X8_had_42 : Cond.code yX8_isAtMill cX8_isAtMill 3 (some .boolean) ∈ wsX8_had := mb_X8_had_wsX8_had_r2 (List.mem_of_getElem? (i := 17) rfl)
theorem mb_X8_had_wsX80 {w : Cond} (h : w ∈ wsX80) : w ∈ wsX8_had := by unfold wsX8_had; exact List.mem_cons_of_mem _ (List.mem_append_right _ (h))
theorem ggX8_had_X8_goTurning : GoodIn wsX8_had wsX8_goTurning := goodIn_sub (by unfold wsX8_goTurning; exact List.forall_mem_cons.mpr ⟨mx_X8_had_19, List.forall_mem_append.mpr ⟨List.forall_mem_append.mpr ⟨(by unfold wsX8_goTurning_r1; exact List.forall_mem_cons.mpr ⟨mx_X8_had_3, List.forall_mem_cons.mpr ⟨mx_X8_had_20, List.forall_mem_cons.mpr ⟨mx_X8_had_21, List.forall_mem_cons.mpr ⟨mx_X8_had_22, List.forall_mem_cons.mpr ⟨mx_X8_had_9, List.forall_mem_cons.mpr ⟨mx_X8_had_23, List.forall_mem_cons.mpr ⟨mx_X8_had_24, List.forall_mem_cons.mpr ⟨mx_X8_had_25, List.forall_mem_cons.mpr ⟨mx_X8_had_26, List.forall_mem_cons.mpr ⟨mx_X8_had_27, List.forall_mem_cons.mpr ⟨mx_X8_had_28, List.forall_mem_cons.mpr ⟨mx_X8_had_29, List.forall_mem_cons.mpr ⟨mx_X8_had_30, List.forall_mem_cons.mpr ⟨mx_X8_had_31, List.forall_mem_cons.mpr ⟨mx_X8_had_32, List.forall_mem_cons.mpr ⟨mx_X8_had_33, List.forall_mem_cons.mpr ⟨mx_X8_had_34, List.forall_mem_cons.mpr ⟨mx_X8_had_35, List.forall_mem_cons.mpr ⟨mx_X8_had_36, List.forall_mem_cons.mpr ⟨mx_X8_had_37, List.forall_mem_cons.mpr ⟨mx_X8_had_38, List.forall_mem_cons.mpr ⟨mx_X8_had_7, List.forall_mem_cons.mpr ⟨mx_X8_had_8, List.forall_mem_cons.mpr ⟨mx_X8_had_10, fun _ h_ => absurd h_ List.not_mem_nil⟩⟩⟩⟩⟩⟩⟩⟩⟩⟩⟩⟩⟩⟩⟩⟩⟩⟩⟩⟩⟩⟩⟩⟩), (by unfold wsX8_goTurning_r2; exact List.forall_mem_cons.mpr ⟨mx_X8_had_39, List.forall_mem_cons.mpr ⟨mx_X8_had_40, List.forall_mem_cons.mpr ⟨mx_X8_had_41, List.forall_mem_cons.mpr ⟨mx_X8_had_42, fun _ h_ => absurd h_ List.not_mem_nil⟩⟩⟩⟩)⟩, (fun _ h_ => mb_X8_had_wsX80 h_)⟩⟩) (by decide +kernel)
theorem mx_X8_had_16 : Cond.methodLink RX8 205 yX8_goTurning ∈ wsX8_had := mb_X8_had_wsX8_had_r1 (List.mem_of_getElem? (i := 15) rfl)
theorem mx_X8_had_17 : Cond.instanceMethod yX8_goTurning ∈ wsX8_had := mb_X8_had_wsX8_had_r1 (List.mem_of_getElem? (i := 16) rfl)
theorem mx_X8_had_18 : Cond.selects RX8 yX8_goTurning yX8_goTurning ∈ wsX8_had := mb_X8_had_wsX8_had_r1 (List.mem_of_getElem? (i := 17) rfl)
theorem gX8_had_X8_goTurning : GoodIn wsX8_had (wsV RX8 205 RX8 yX8_goTurning wsX8_goTurning) := goodIn_app (goodIn_sub (List.forall_mem_cons.mpr ⟨mx_X8_had_16, List.forall_mem_cons.mpr ⟨mx_X8_had_17, List.forall_mem_cons.mpr ⟨mx_X8_had_18, List.forall_mem_cons.mpr ⟨mx_X8_had_9, fun _ h_ => absurd h_ List.not_mem_nil⟩⟩⟩⟩) (by decide +kernel)) ggX8_had_X8_goTurning
theorem ggX8_had_X8_in : GoodIn wsX8_had wsX8_in := goodIn_sub (by unfold wsX8_in; exact List.forall_mem_cons.mpr ⟨mx_X8_had_10, fun _ h_ => absurd h_ List.not_mem_nil⟩) (by decide +kernel)
set_option maxRecDepth 20000 in
theorem gX8_had_X8_in : GoodIn wsX8_had (va_wsS RX8 57 yX8_in wsX8_in) := goodIn_app (goodIn_of _ (by decide +kernel)) ggX8_had_X8_in
theorem mx_X8_had_14 : Cond.code yX8_putAside cX8_putAside 2 none ∈ wsX8_had := mb_X8_had_wsX8_had_r1 (List.mem_of_getElem? (i := 13) rfl)
theorem mx_X8_had_15 : Cond.fieldLink RX8 34 "MillTalkModel" "aside" "[I" ∈ wsX8_had := mb_X8_had_wsX8_had_r1 (List.mem_of_getElem? (i := 14) rfl)
theorem ggX8_had_X8_putAside : GoodIn wsX8_had wsX8_putAside := goodIn_sub (by unfold wsX8_putAside; exact List.forall_mem_cons.mpr ⟨mx_X8_had_14, List.forall_mem_append.mpr ⟨List.forall_mem_cons.mpr ⟨mx_X8_had_15, List.forall_mem_cons.mpr ⟨mx_X8_had_3, fun _ h_ => absurd h_ List.not_mem_nil⟩⟩, (fun _ h_ => mb_X8_had_wsX80 h_)⟩⟩) (by decide +kernel)
theorem mx_X8_had_11 : Cond.methodLink RX8 197 yX8_putAside ∈ wsX8_had := mb_X8_had_wsX8_had_r1 (List.mem_of_getElem? (i := 10) rfl)
theorem mx_X8_had_12 : Cond.instanceMethod yX8_putAside ∈ wsX8_had := mb_X8_had_wsX8_had_r1 (List.mem_of_getElem? (i := 11) rfl)
theorem mx_X8_had_13 : Cond.selects RX8 yX8_putAside yX8_putAside ∈ wsX8_had := mb_X8_had_wsX8_had_r1 (List.mem_of_getElem? (i := 12) rfl)
theorem gX8_had_X8_putAside : GoodIn wsX8_had (wsV RX8 197 RX8 yX8_putAside wsX8_putAside) := goodIn_app (goodIn_sub (List.forall_mem_cons.mpr ⟨mx_X8_had_11, List.forall_mem_cons.mpr ⟨mx_X8_had_12, List.forall_mem_cons.mpr ⟨mx_X8_had_13, List.forall_mem_cons.mpr ⟨mx_X8_had_9, fun _ h_ => absurd h_ List.not_mem_nil⟩⟩⟩⟩) (by decide +kernel)) ggX8_had_X8_putAside
theorem mb_X8_had_wsX8_had_r3 {w : Cond} (h : w ∈ wsX8_had_r3) : w ∈ wsX8_had := by unfold wsX8_had; exact List.mem_cons_of_mem _ (List.mem_append_left _ (List.mem_append_right _ (List.mem_append_right _ (h))))
theorem mx_X8_had_50 : Cond.code yX8_takeBack cX8_takeBack 2 none ∈ wsX8_had := mb_X8_had_wsX8_had_r3 (List.mem_of_getElem? (i := 1) rfl)
theorem ggX8_had_X8_takeBack : GoodIn wsX8_had wsX8_takeBack := goodIn_sub (by unfold wsX8_takeBack; exact List.forall_mem_cons.mpr ⟨mx_X8_had_50, List.forall_mem_append.mpr ⟨List.forall_mem_cons.mpr ⟨mx_X8_had_3, List.forall_mem_cons.mpr ⟨mx_X8_had_15, fun _ h_ => absurd h_ List.not_mem_nil⟩⟩, (fun _ h_ => mb_X8_had_wsX80 h_)⟩⟩) (by decide +kernel)
theorem mx_X8_had_47 : Cond.methodLink RX8 194 yX8_takeBack ∈ wsX8_had := mb_X8_had_wsX8_had_r2 (List.mem_of_getElem? (i := 22) rfl)
theorem mx_X8_had_48 : Cond.instanceMethod yX8_takeBack ∈ wsX8_had := mb_X8_had_wsX8_had_r2 (List.mem_of_getElem? (i := 23) rfl)
theorem mx_X8_had_49 : Cond.selects RX8 yX8_takeBack yX8_takeBack ∈ wsX8_had := mb_X8_had_wsX8_had_r3 (List.mem_of_getElem? (i := 0) rfl)
theorem gX8_had_X8_takeBack : GoodIn wsX8_had (wsV RX8 194 RX8 yX8_takeBack wsX8_takeBack) := goodIn_app (goodIn_sub (List.forall_mem_cons.mpr ⟨mx_X8_had_47, List.forall_mem_cons.mpr ⟨mx_X8_had_48, List.forall_mem_cons.mpr ⟨mx_X8_had_49, List.forall_mem_cons.mpr ⟨mx_X8_had_9, fun _ h_ => absurd h_ List.not_mem_nil⟩⟩⟩⟩) (by decide +kernel)) ggX8_had_X8_takeBack
theorem mx_X8_had_46 : Cond.code yX8_those cX8_those 4 (some .int) ∈ wsX8_had := mb_X8_had_wsX8_had_r2 (List.mem_of_getElem? (i := 21) rfl)
theorem ggX8_had_X8_those : GoodIn wsX8_had wsX8_those := goodIn_sub (by unfold wsX8_those; exact List.forall_mem_cons.mpr ⟨mx_X8_had_46, List.forall_mem_append.mpr ⟨List.forall_mem_cons.mpr ⟨mx_X8_had_3, fun _ h_ => absurd h_ List.not_mem_nil⟩, (fun _ h_ => mb_X8_had_wsX80 h_)⟩⟩) (by decide +kernel)
theorem mx_X8_had_43 : Cond.methodLink RX8 182 yX8_those ∈ wsX8_had := mb_X8_had_wsX8_had_r2 (List.mem_of_getElem? (i := 18) rfl)
theorem mx_X8_had_44 : Cond.instanceMethod yX8_those ∈ wsX8_had := mb_X8_had_wsX8_had_r2 (List.mem_of_getElem? (i := 19) rfl)
theorem mx_X8_had_45 : Cond.selects RX8 yX8_those yX8_those ∈ wsX8_had := mb_X8_had_wsX8_had_r2 (List.mem_of_getElem? (i := 20) rfl)
theorem gX8_had_X8_those : GoodIn wsX8_had (wsV RX8 182 RX8 yX8_those wsX8_those) := goodIn_app (goodIn_sub (List.forall_mem_cons.mpr ⟨mx_X8_had_43, List.forall_mem_cons.mpr ⟨mx_X8_had_44, List.forall_mem_cons.mpr ⟨mx_X8_had_45, List.forall_mem_cons.mpr ⟨mx_X8_had_9, fun _ h_ => absurd h_ List.not_mem_nil⟩⟩⟩⟩) (by decide +kernel)) ggX8_had_X8_those
theorem mx_X8_kind_7 : Cond.code yX8_isSound cX8_isSound 2 (some .boolean) ∈ wsX8_kind := by unfold wsX8_kind; exact List.mem_cons_of_mem _ (List.mem_append_left _ (List.mem_of_getElem? (i := 6) rfl))
theorem mx_X8_kind_1 : Cond.fieldLink RX8 19 "MillTalkModel" "st" "[I" ∈ wsX8_kind := by unfold wsX8_kind; exact List.mem_cons_of_mem _ (List.mem_append_left _ (List.mem_of_getElem? (i := 0) rfl))
theorem mx_X8_kind_8 : Cond.methodLink RX8 57 yX8_in ∈ wsX8_kind := by unfold wsX8_kind; exact List.mem_cons_of_mem _ (List.mem_append_left _ (List.mem_of_getElem? (i := 7) rfl))
theorem mx_X8_kind_9 : Cond.static yX8_in ∈ wsX8_kind := by unfold wsX8_kind; exact List.mem_cons_of_mem _ (List.mem_append_left _ (List.mem_of_getElem? (i := 8) rfl))
theorem mx_X8_kind_6 : Cond.initialized RX8 ∈ wsX8_kind := by unfold wsX8_kind; exact List.mem_cons_of_mem _ (List.mem_append_left _ (List.mem_of_getElem? (i := 5) rfl))
theorem mx_X8_kind_10 : Cond.code yX8_in cX8_in 6 (some .boolean) ∈ wsX8_kind := by unfold wsX8_kind; exact List.mem_cons_of_mem _ (List.mem_append_left _ (List.mem_of_getElem? (i := 9) rfl))
theorem mb_X8_kind_wsX80 {w : Cond} (h : w ∈ wsX80) : w ∈ wsX8_kind := by unfold wsX8_kind; exact List.mem_cons_of_mem _ (List.mem_append_right _ (h))
theorem ggX8_kind_X8_isSound : GoodIn wsX8_kind wsX8_isSound := goodIn_sub (by unfold wsX8_isSound; exact List.forall_mem_cons.mpr ⟨mx_X8_kind_7, List.forall_mem_append.mpr ⟨List.forall_mem_cons.mpr ⟨mx_X8_kind_1, List.forall_mem_cons.mpr ⟨mx_X8_kind_8, List.forall_mem_cons.mpr ⟨mx_X8_kind_9, List.forall_mem_cons.mpr ⟨mx_X8_kind_6, List.forall_mem_cons.mpr ⟨mx_X8_kind_10, fun _ h_ => absurd h_ List.not_mem_nil⟩⟩⟩⟩⟩, (fun _ h_ => mb_X8_kind_wsX80 h_)⟩⟩) (by decide +kernel)
theorem mx_X8_kind_3 : Cond.methodLink RX8 173 yX8_isSound ∈ wsX8_kind := by unfold wsX8_kind; exact List.mem_cons_of_mem _ (List.mem_append_left _ (List.mem_of_getElem? (i := 2) rfl))
theorem mx_X8_kind_4 : Cond.instanceMethod yX8_isSound ∈ wsX8_kind := by unfold wsX8_kind; exact List.mem_cons_of_mem _ (List.mem_append_left _ (List.mem_of_getElem? (i := 3) rfl))
theorem mx_X8_kind_5 : Cond.selects RX8 yX8_isSound yX8_isSound ∈ wsX8_kind := by unfold wsX8_kind; exact List.mem_cons_of_mem _ (List.mem_append_left _ (List.mem_of_getElem? (i := 4) rfl))
theorem gX8_kind_X8_isSound : GoodIn wsX8_kind (wsV RX8 173 RX8 yX8_isSound wsX8_isSound) := goodIn_app (goodIn_sub (List.forall_mem_cons.mpr ⟨mx_X8_kind_3, List.forall_mem_cons.mpr ⟨mx_X8_kind_4, List.forall_mem_cons.mpr ⟨mx_X8_kind_5, List.forall_mem_cons.mpr ⟨mx_X8_kind_6, fun _ h_ => absurd h_ List.not_mem_nil⟩⟩⟩⟩) (by decide +kernel)) ggX8_kind_X8_isSound
theorem mb_X8_mealBehind_wsX8_mealBehind_r1 {w : Cond} (h : w ∈ wsX8_mealBehind_r1) : w ∈ wsX8_mealBehind := by unfold wsX8_mealBehind; exact List.mem_cons_of_mem _ (List.mem_append_left _ (List.mem_append_left _ (h)))
theorem mx_X8_mealBehind_6 : Cond.code yX8_goOn cX8_goOn 3 none ∈ wsX8_mealBehind := mb_X8_mealBehind_wsX8_mealBehind_r1 (List.mem_of_getElem? (i := 5) rfl)
theorem mx_X8_mealBehind_7 : Cond.methodLink RX8 167 yX8_oneHour ∈ wsX8_mealBehind := mb_X8_mealBehind_wsX8_mealBehind_r1 (List.mem_of_getElem? (i := 6) rfl)
theorem mx_X8_mealBehind_8 : Cond.instanceMethod yX8_oneHour ∈ wsX8_mealBehind := mb_X8_mealBehind_wsX8_mealBehind_r1 (List.mem_of_getElem? (i := 7) rfl)
theorem mx_X8_mealBehind_9 : Cond.selects RX8 yX8_oneHour yX8_oneHour ∈ wsX8_mealBehind := mb_X8_mealBehind_wsX8_mealBehind_r1 (List.mem_of_getElem? (i := 8) rfl)
theorem mx_X8_mealBehind_5 : Cond.initialized RX8 ∈ wsX8_mealBehind := mb_X8_mealBehind_wsX8_mealBehind_r1 (List.mem_of_getElem? (i := 4) rfl)
theorem mx_X8_mealBehind_10 : Cond.code yX8_oneHour cX8_oneHour 4 (some .int) ∈ wsX8_mealBehind := mb_X8_mealBehind_wsX8_mealBehind_r1 (List.mem_of_getElem? (i := 9) rfl)
theorem mx_X8_mealBehind_1 : Cond.fieldLink RX8 19 "MillTalkModel" "st" "[I" ∈ wsX8_mealBehind := mb_X8_mealBehind_wsX8_mealBehind_r1 (List.mem_of_getElem? (i := 0) rfl)
theorem mx_X8_mealBehind_11 : Cond.methodLink RX8 151 yX8_gustOf ∈ wsX8_mealBehind := mb_X8_mealBehind_wsX8_mealBehind_r1 (List.mem_of_getElem? (i := 10) rfl)
theorem mx_X8_mealBehind_12 : Cond.instanceMethod yX8_gustOf ∈ wsX8_mealBehind := mb_X8_mealBehind_wsX8_mealBehind_r1 (List.mem_of_getElem? (i := 11) rfl)
theorem mx_X8_mealBehind_13 : Cond.selects RX8 yX8_gustOf yX8_gustOf ∈ wsX8_mealBehind := mb_X8_mealBehind_wsX8_mealBehind_r1 (List.mem_of_getElem? (i := 12) rfl)
theorem mx_X8_mealBehind_14 : Cond.code yX8_gustOf cX8_gustOf 2 (some .int) ∈ wsX8_mealBehind := mb_X8_mealBehind_wsX8_mealBehind_r1 (List.mem_of_getElem? (i := 13) rfl)
theorem mx_X8_mealBehind_15 : Cond.methodLink RX8 154 yX8_drift ∈ wsX8_mealBehind := mb_X8_mealBehind_wsX8_mealBehind_r1 (List.mem_of_getElem? (i := 14) rfl)
theorem mx_X8_mealBehind_16 : Cond.instanceMethod yX8_drift ∈ wsX8_mealBehind := mb_X8_mealBehind_wsX8_mealBehind_r1 (List.mem_of_getElem? (i := 15) rfl)
theorem mx_X8_mealBehind_17 : Cond.selects RX8 yX8_drift yX8_drift ∈ wsX8_mealBehind := mb_X8_mealBehind_wsX8_mealBehind_r1 (List.mem_of_getElem? (i := 16) rfl)
theorem mx_X8_mealBehind_18 : Cond.code yX8_drift cX8_drift 7 none ∈ wsX8_mealBehind := mb_X8_mealBehind_wsX8_mealBehind_r1 (List.mem_of_getElem? (i := 17) rfl)
theorem mx_X8_mealBehind_19 : Cond.methodLink RX8 145 yX8_drifts ∈ wsX8_mealBehind := mb_X8_mealBehind_wsX8_mealBehind_r1 (List.mem_of_getElem? (i := 18) rfl)
theorem mx_X8_mealBehind_20 : Cond.static yX8_drifts ∈ wsX8_mealBehind := mb_X8_mealBehind_wsX8_mealBehind_r1 (List.mem_of_getElem? (i := 19) rfl)
theorem mx_X8_mealBehind_21 : Cond.code yX8_drifts cX8_drifts 2 (some .int) ∈ wsX8_mealBehind := mb_X8_mealBehind_wsX8_mealBehind_r1 (List.mem_of_getElem? (i := 20) rfl)
theorem mx_X8_mealBehind_22 : Cond.methodLink RX8 148 yX8_isCell ∈ wsX8_mealBehind := mb_X8_mealBehind_wsX8_mealBehind_r1 (List.mem_of_getElem? (i := 21) rfl)
theorem mx_X8_mealBehind_23 : Cond.instanceMethod yX8_isCell ∈ wsX8_mealBehind := mb_X8_mealBehind_wsX8_mealBehind_r1 (List.mem_of_getElem? (i := 22) rfl)
theorem mx_X8_mealBehind_24 : Cond.selects RX8 yX8_isCell yX8_isCell ∈ wsX8_mealBehind := mb_X8_mealBehind_wsX8_mealBehind_r1 (List.mem_of_getElem? (i := 23) rfl)
theorem mb_X8_mealBehind_wsX8_mealBehind_r2 {w : Cond} (h : w ∈ wsX8_mealBehind_r2) : w ∈ wsX8_mealBehind := by unfold wsX8_mealBehind; exact List.mem_cons_of_mem _ (List.mem_append_left _ (List.mem_append_right _ (h)))
theorem mx_X8_mealBehind_25 : Cond.code yX8_isCell cX8_isCell 2 (some .boolean) ∈ wsX8_mealBehind := mb_X8_mealBehind_wsX8_mealBehind_r2 (List.mem_of_getElem? (i := 0) rfl)
theorem mx_X8_mealBehind_26 : Cond.methodLink RX8 57 yX8_in ∈ wsX8_mealBehind := mb_X8_mealBehind_wsX8_mealBehind_r2 (List.mem_of_getElem? (i := 1) rfl)
theorem mx_X8_mealBehind_27 : Cond.static yX8_in ∈ wsX8_mealBehind := mb_X8_mealBehind_wsX8_mealBehind_r2 (List.mem_of_getElem? (i := 2) rfl)
theorem mx_X8_mealBehind_28 : Cond.code yX8_in cX8_in 6 (some .boolean) ∈ wsX8_mealBehind := mb_X8_mealBehind_wsX8_mealBehind_r2 (List.mem_of_getElem? (i := 3) rfl)
theorem mx_X8_mealBehind_29 : Cond.methodLink RX8 158 yX8_isAtMill ∈ wsX8_mealBehind := mb_X8_mealBehind_wsX8_mealBehind_r2 (List.mem_of_getElem? (i := 4) rfl)
theorem mx_X8_mealBehind_30 : Cond.instanceMethod yX8_isAtMill ∈ wsX8_mealBehind := mb_X8_mealBehind_wsX8_mealBehind_r2 (List.mem_of_getElem? (i := 5) rfl)
theorem mx_X8_mealBehind_31 : Cond.selects RX8 yX8_isAtMill yX8_isAtMill ∈ wsX8_mealBehind := mb_X8_mealBehind_wsX8_mealBehind_r2 (List.mem_of_getElem? (i := 6) rfl)
theorem mx_X8_mealBehind_32 : Cond.code yX8_isAtMill cX8_isAtMill 3 (some .boolean) ∈ wsX8_mealBehind := mb_X8_mealBehind_wsX8_mealBehind_r2 (List.mem_of_getElem? (i := 7) rfl)
theorem mb_X8_mealBehind_wsX80 {w : Cond} (h : w ∈ wsX80) : w ∈ wsX8_mealBehind := by unfold wsX8_mealBehind; exact List.mem_cons_of_mem _ (List.mem_append_right _ (h))
theorem ggX8_mealBehind_X8_goOn : GoodIn wsX8_mealBehind wsX8_goOn := goodIn_sub (by unfold wsX8_goOn; exact List.forall_mem_cons.mpr ⟨mx_X8_mealBehind_6, List.forall_mem_append.mpr ⟨List.forall_mem_append.mpr ⟨(by unfold wsX8_goOn_r1; exact List.forall_mem_cons.mpr ⟨mx_X8_mealBehind_7, List.forall_mem_cons.mpr ⟨mx_X8_mealBehind_8, List.forall_mem_cons.mpr ⟨mx_X8_mealBehind_9, List.forall_mem_cons.mpr ⟨mx_X8_mealBehind_5, List.forall_mem_cons.mpr ⟨mx_X8_mealBehind_10, List.forall_mem_cons.mpr ⟨mx_X8_mealBehind_1, List.forall_mem_cons.mpr ⟨mx_X8_mealBehind_11, List.forall_mem_cons.mpr ⟨mx_X8_mealBehind_12, List.forall_mem_cons.mpr ⟨mx_X8_mealBehind_13, List.forall_mem_cons.mpr ⟨mx_X8_mealBehind_14, List.forall_mem_cons.mpr ⟨mx_X8_mealBehind_15, List.forall_mem_cons.mpr ⟨mx_X8_mealBehind_16, List.forall_mem_cons.mpr ⟨mx_X8_mealBehind_17, List.forall_mem_cons.mpr ⟨mx_X8_mealBehind_18, List.forall_mem_cons.mpr ⟨mx_X8_mealBehind_19, List.forall_mem_cons.mpr ⟨mx_X8_mealBehind_20, List.forall_mem_cons.mpr ⟨mx_X8_mealBehind_21, List.forall_mem_cons.mpr ⟨mx_X8_mealBehind_22, List.forall_mem_cons.mpr ⟨mx_X8_mealBehind_23, List.forall_mem_cons.mpr ⟨mx_X8_mealBehind_24, List.forall_mem_cons.mpr ⟨mx_X8_mealBehind_25, List.forall_mem_cons.mpr ⟨mx_X8_mealBehind_26, List.forall_mem_cons.mpr ⟨mx_X8_mealBehind_27, List.forall_mem_cons.mpr ⟨mx_X8_mealBehind_28, fun _ h_ => absurd h_ List.not_mem_nil⟩⟩⟩⟩⟩⟩⟩⟩⟩⟩⟩⟩⟩⟩⟩⟩⟩⟩⟩⟩⟩⟩⟩⟩), (by unfold wsX8_goOn_r2; exact List.forall_mem_cons.mpr ⟨mx_X8_mealBehind_29, List.forall_mem_cons.mpr ⟨mx_X8_mealBehind_30, List.forall_mem_cons.mpr ⟨mx_X8_mealBehind_31, List.forall_mem_cons.mpr ⟨mx_X8_mealBehind_32, fun _ h_ => absurd h_ List.not_mem_nil⟩⟩⟩⟩)⟩, (fun _ h_ => mb_X8_mealBehind_wsX80 h_)⟩⟩) (by decide +kernel)
theorem mx_X8_mealBehind_2 : Cond.methodLink RX8 190 yX8_goOn ∈ wsX8_mealBehind := mb_X8_mealBehind_wsX8_mealBehind_r1 (List.mem_of_getElem? (i := 1) rfl)
theorem mx_X8_mealBehind_3 : Cond.instanceMethod yX8_goOn ∈ wsX8_mealBehind := mb_X8_mealBehind_wsX8_mealBehind_r1 (List.mem_of_getElem? (i := 2) rfl)
theorem mx_X8_mealBehind_4 : Cond.selects RX8 yX8_goOn yX8_goOn ∈ wsX8_mealBehind := mb_X8_mealBehind_wsX8_mealBehind_r1 (List.mem_of_getElem? (i := 3) rfl)
theorem gX8_mealBehind_X8_goOn : GoodIn wsX8_mealBehind (wsV RX8 190 RX8 yX8_goOn wsX8_goOn) := goodIn_app (goodIn_sub (List.forall_mem_cons.mpr ⟨mx_X8_mealBehind_2, List.forall_mem_cons.mpr ⟨mx_X8_mealBehind_3, List.forall_mem_cons.mpr ⟨mx_X8_mealBehind_4, List.forall_mem_cons.mpr ⟨mx_X8_mealBehind_5, fun _ h_ => absurd h_ List.not_mem_nil⟩⟩⟩⟩) (by decide +kernel)) ggX8_mealBehind_X8_goOn
theorem mx_X8_mealBehind_36 : Cond.code yX8_takeBack cX8_takeBack 2 none ∈ wsX8_mealBehind := mb_X8_mealBehind_wsX8_mealBehind_r2 (List.mem_of_getElem? (i := 11) rfl)
theorem mx_X8_mealBehind_37 : Cond.fieldLink RX8 34 "MillTalkModel" "aside" "[I" ∈ wsX8_mealBehind := mb_X8_mealBehind_wsX8_mealBehind_r2 (List.mem_of_getElem? (i := 12) rfl)
theorem ggX8_mealBehind_X8_takeBack : GoodIn wsX8_mealBehind wsX8_takeBack := goodIn_sub (by unfold wsX8_takeBack; exact List.forall_mem_cons.mpr ⟨mx_X8_mealBehind_36, List.forall_mem_append.mpr ⟨List.forall_mem_cons.mpr ⟨mx_X8_mealBehind_1, List.forall_mem_cons.mpr ⟨mx_X8_mealBehind_37, fun _ h_ => absurd h_ List.not_mem_nil⟩⟩, (fun _ h_ => mb_X8_mealBehind_wsX80 h_)⟩⟩) (by decide +kernel)
theorem mx_X8_mealBehind_33 : Cond.methodLink RX8 194 yX8_takeBack ∈ wsX8_mealBehind := mb_X8_mealBehind_wsX8_mealBehind_r2 (List.mem_of_getElem? (i := 8) rfl)
theorem mx_X8_mealBehind_34 : Cond.instanceMethod yX8_takeBack ∈ wsX8_mealBehind := mb_X8_mealBehind_wsX8_mealBehind_r2 (List.mem_of_getElem? (i := 9) rfl)
theorem mx_X8_mealBehind_35 : Cond.selects RX8 yX8_takeBack yX8_takeBack ∈ wsX8_mealBehind := mb_X8_mealBehind_wsX8_mealBehind_r2 (List.mem_of_getElem? (i := 10) rfl)
theorem gX8_mealBehind_X8_takeBack : GoodIn wsX8_mealBehind (wsV RX8 194 RX8 yX8_takeBack wsX8_takeBack) := goodIn_app (goodIn_sub (List.forall_mem_cons.mpr ⟨mx_X8_mealBehind_33, List.forall_mem_cons.mpr ⟨mx_X8_mealBehind_34, List.forall_mem_cons.mpr ⟨mx_X8_mealBehind_35, List.forall_mem_cons.mpr ⟨mx_X8_mealBehind_5, fun _ h_ => absurd h_ List.not_mem_nil⟩⟩⟩⟩) (by decide +kernel)) ggX8_mealBehind_X8_takeBack
theorem mb_X8_meal_wsX8_meal_r1 {w : Cond} (h : w ∈ wsX8_meal_r1) : w ∈ wsX8_meal := by unfold wsX8_meal; exact List.mem_cons_of_mem _ (List.mem_append_left _ (List.mem_append_left _ (h)))
theorem mx_X8_meal_8 : Cond.code yX8_in cX8_in 6 (some .boolean) ∈ wsX8_meal := mb_X8_meal_wsX8_meal_r1 (List.mem_of_getElem? (i := 7) rfl)
theorem ggX8_meal_X8_in : GoodIn wsX8_meal wsX8_in := goodIn_sub (by unfold wsX8_in; exact List.forall_mem_cons.mpr ⟨mx_X8_meal_8, fun _ h_ => absurd h_ List.not_mem_nil⟩) (by decide +kernel)
set_option maxRecDepth 20000 in
theorem gX8_meal_X8_in : GoodIn wsX8_meal (va_wsS RX8 57 yX8_in wsX8_in) := goodIn_app (goodIn_of _ (by decide +kernel)) ggX8_meal_X8_in
theorem mx_X8_meal_18 : Cond.code yX8_mealBehind cX8_mealBehind 3 (some .int) ∈ wsX8_meal := mb_X8_meal_wsX8_meal_r1 (List.mem_of_getElem? (i := 17) rfl)
theorem mx_X8_meal_14 : Cond.fieldLink RX8 19 "MillTalkModel" "st" "[I" ∈ wsX8_meal := mb_X8_meal_wsX8_meal_r1 (List.mem_of_getElem? (i := 13) rfl)
theorem mx_X8_meal_19 : Cond.methodLink RX8 190 yX8_goOn ∈ wsX8_meal := mb_X8_meal_wsX8_meal_r1 (List.mem_of_getElem? (i := 18) rfl)
theorem mx_X8_meal_20 : Cond.instanceMethod yX8_goOn ∈ wsX8_meal := mb_X8_meal_wsX8_meal_r1 (List.mem_of_getElem? (i := 19) rfl)
theorem mx_X8_meal_21 : Cond.selects RX8 yX8_goOn yX8_goOn ∈ wsX8_meal := mb_X8_meal_wsX8_meal_r1 (List.mem_of_getElem? (i := 20) rfl)
theorem mx_X8_meal_7 : Cond.initialized RX8 ∈ wsX8_meal := mb_X8_meal_wsX8_meal_r1 (List.mem_of_getElem? (i := 6) rfl)
theorem mx_X8_meal_22 : Cond.code yX8_goOn cX8_goOn 3 none ∈ wsX8_meal := mb_X8_meal_wsX8_meal_r1 (List.mem_of_getElem? (i := 21) rfl)
theorem mx_X8_meal_23 : Cond.methodLink RX8 167 yX8_oneHour ∈ wsX8_meal := mb_X8_meal_wsX8_meal_r1 (List.mem_of_getElem? (i := 22) rfl)
theorem mx_X8_meal_24 : Cond.instanceMethod yX8_oneHour ∈ wsX8_meal := mb_X8_meal_wsX8_meal_r1 (List.mem_of_getElem? (i := 23) rfl)
theorem mb_X8_meal_wsX8_meal_r2 {w : Cond} (h : w ∈ wsX8_meal_r2) : w ∈ wsX8_meal := by unfold wsX8_meal; exact List.mem_cons_of_mem _ (List.mem_append_left _ (List.mem_append_right _ (List.mem_append_left _ (h))))
theorem mx_X8_meal_25 : Cond.selects RX8 yX8_oneHour yX8_oneHour ∈ wsX8_meal := mb_X8_meal_wsX8_meal_r2 (List.mem_of_getElem? (i := 0) rfl)
theorem mx_X8_meal_26 : Cond.code yX8_oneHour cX8_oneHour 4 (some .int) ∈ wsX8_meal := mb_X8_meal_wsX8_meal_r2 (List.mem_of_getElem? (i := 1) rfl)
theorem mx_X8_meal_27 : Cond.methodLink RX8 151 yX8_gustOf ∈ wsX8_meal := mb_X8_meal_wsX8_meal_r2 (List.mem_of_getElem? (i := 2) rfl)
theorem mx_X8_meal_28 : Cond.instanceMethod yX8_gustOf ∈ wsX8_meal := mb_X8_meal_wsX8_meal_r2 (List.mem_of_getElem? (i := 3) rfl)
theorem mx_X8_meal_29 : Cond.selects RX8 yX8_gustOf yX8_gustOf ∈ wsX8_meal := mb_X8_meal_wsX8_meal_r2 (List.mem_of_getElem? (i := 4) rfl)
theorem mx_X8_meal_30 : Cond.code yX8_gustOf cX8_gustOf 2 (some .int) ∈ wsX8_meal := mb_X8_meal_wsX8_meal_r2 (List.mem_of_getElem? (i := 5) rfl)
theorem mx_X8_meal_31 : Cond.methodLink RX8 154 yX8_drift ∈ wsX8_meal := mb_X8_meal_wsX8_meal_r2 (List.mem_of_getElem? (i := 6) rfl)
theorem mx_X8_meal_32 : Cond.instanceMethod yX8_drift ∈ wsX8_meal := mb_X8_meal_wsX8_meal_r2 (List.mem_of_getElem? (i := 7) rfl)
theorem mx_X8_meal_33 : Cond.selects RX8 yX8_drift yX8_drift ∈ wsX8_meal := mb_X8_meal_wsX8_meal_r2 (List.mem_of_getElem? (i := 8) rfl)
theorem mx_X8_meal_34 : Cond.code yX8_drift cX8_drift 7 none ∈ wsX8_meal := mb_X8_meal_wsX8_meal_r2 (List.mem_of_getElem? (i := 9) rfl)
theorem mx_X8_meal_35 : Cond.methodLink RX8 145 yX8_drifts ∈ wsX8_meal := mb_X8_meal_wsX8_meal_r2 (List.mem_of_getElem? (i := 10) rfl)
theorem mx_X8_meal_36 : Cond.static yX8_drifts ∈ wsX8_meal := mb_X8_meal_wsX8_meal_r2 (List.mem_of_getElem? (i := 11) rfl)
theorem mx_X8_meal_37 : Cond.code yX8_drifts cX8_drifts 2 (some .int) ∈ wsX8_meal := mb_X8_meal_wsX8_meal_r2 (List.mem_of_getElem? (i := 12) rfl)
theorem mx_X8_meal_38 : Cond.methodLink RX8 148 yX8_isCell ∈ wsX8_meal := mb_X8_meal_wsX8_meal_r2 (List.mem_of_getElem? (i := 13) rfl)
theorem mx_X8_meal_39 : Cond.instanceMethod yX8_isCell ∈ wsX8_meal := mb_X8_meal_wsX8_meal_r2 (List.mem_of_getElem? (i := 14) rfl)
theorem mx_X8_meal_40 : Cond.selects RX8 yX8_isCell yX8_isCell ∈ wsX8_meal := mb_X8_meal_wsX8_meal_r2 (List.mem_of_getElem? (i := 15) rfl)
theorem mx_X8_meal_41 : Cond.code yX8_isCell cX8_isCell 2 (some .boolean) ∈ wsX8_meal := mb_X8_meal_wsX8_meal_r2 (List.mem_of_getElem? (i := 16) rfl)
theorem mx_X8_meal_5 : Cond.methodLink RX8 57 yX8_in ∈ wsX8_meal := mb_X8_meal_wsX8_meal_r1 (List.mem_of_getElem? (i := 4) rfl)
theorem mx_X8_meal_6 : Cond.static yX8_in ∈ wsX8_meal := mb_X8_meal_wsX8_meal_r1 (List.mem_of_getElem? (i := 5) rfl)
theorem mx_X8_meal_42 : Cond.methodLink RX8 158 yX8_isAtMill ∈ wsX8_meal := mb_X8_meal_wsX8_meal_r2 (List.mem_of_getElem? (i := 17) rfl)
theorem mx_X8_meal_43 : Cond.instanceMethod yX8_isAtMill ∈ wsX8_meal := mb_X8_meal_wsX8_meal_r2 (List.mem_of_getElem? (i := 18) rfl)
theorem mx_X8_meal_44 : Cond.selects RX8 yX8_isAtMill yX8_isAtMill ∈ wsX8_meal := mb_X8_meal_wsX8_meal_r2 (List.mem_of_getElem? (i := 19) rfl)
theorem mx_X8_meal_45 : Cond.code yX8_isAtMill cX8_isAtMill 3 (some .boolean) ∈ wsX8_meal := mb_X8_meal_wsX8_meal_r2 (List.mem_of_getElem? (i := 20) rfl)
theorem mx_X8_meal_46 : Cond.methodLink RX8 194 yX8_takeBack ∈ wsX8_meal := mb_X8_meal_wsX8_meal_r2 (List.mem_of_getElem? (i := 21) rfl)
theorem mx_X8_meal_47 : Cond.instanceMethod yX8_takeBack ∈ wsX8_meal := mb_X8_meal_wsX8_meal_r2 (List.mem_of_getElem? (i := 22) rfl)
theorem mx_X8_meal_48 : Cond.selects RX8 yX8_takeBack yX8_takeBack ∈ wsX8_meal := mb_X8_meal_wsX8_meal_r2 (List.mem_of_getElem? (i := 23) rfl)
theorem mb_X8_meal_wsX8_meal_r3 {w : Cond} (h : w ∈ wsX8_meal_r3) : w ∈ wsX8_meal := by unfold wsX8_meal; exact List.mem_cons_of_mem _ (List.mem_append_left _ (List.mem_append_right _ (List.mem_append_right _ (h))))
theorem mx_X8_meal_49 : Cond.code yX8_takeBack cX8_takeBack 2 none ∈ wsX8_meal := mb_X8_meal_wsX8_meal_r3 (List.mem_of_getElem? (i := 0) rfl)
theorem mx_X8_meal_13 : Cond.fieldLink RX8 34 "MillTalkModel" "aside" "[I" ∈ wsX8_meal := mb_X8_meal_wsX8_meal_r1 (List.mem_of_getElem? (i := 12) rfl)
theorem mb_X8_meal_wsX80 {w : Cond} (h : w ∈ wsX80) : w ∈ wsX8_meal := by unfold wsX8_meal; exact List.mem_cons_of_mem _ (List.mem_append_right _ (h))
theorem ggX8_meal_X8_mealBehind : GoodIn wsX8_meal wsX8_mealBehind := goodIn_sub (by unfold wsX8_mealBehind; exact List.forall_mem_cons.mpr ⟨mx_X8_meal_18, List.forall_mem_append.mpr ⟨List.forall_mem_append.mpr ⟨(by unfold wsX8_mealBehind_r1; exact List.forall_mem_cons.mpr ⟨mx_X8_meal_14, List.forall_mem_cons.mpr ⟨mx_X8_meal_19, List.forall_mem_cons.mpr ⟨mx_X8_meal_20, List.forall_mem_cons.mpr ⟨mx_X8_meal_21, List.forall_mem_cons.mpr ⟨mx_X8_meal_7, List.forall_mem_cons.mpr ⟨mx_X8_meal_22, List.forall_mem_cons.mpr ⟨mx_X8_meal_23, List.forall_mem_cons.mpr ⟨mx_X8_meal_24, List.forall_mem_cons.mpr ⟨mx_X8_meal_25, List.forall_mem_cons.mpr ⟨mx_X8_meal_26, List.forall_mem_cons.mpr ⟨mx_X8_meal_27, List.forall_mem_cons.mpr ⟨mx_X8_meal_28, List.forall_mem_cons.mpr ⟨mx_X8_meal_29, List.forall_mem_cons.mpr ⟨mx_X8_meal_30, List.forall_mem_cons.mpr ⟨mx_X8_meal_31, List.forall_mem_cons.mpr ⟨mx_X8_meal_32, List.forall_mem_cons.mpr ⟨mx_X8_meal_33, List.forall_mem_cons.mpr ⟨mx_X8_meal_34, List.forall_mem_cons.mpr ⟨mx_X8_meal_35, List.forall_mem_cons.mpr ⟨mx_X8_meal_36, List.forall_mem_cons.mpr ⟨mx_X8_meal_37, List.forall_mem_cons.mpr ⟨mx_X8_meal_38, List.forall_mem_cons.mpr ⟨mx_X8_meal_39, List.forall_mem_cons.mpr ⟨mx_X8_meal_40, fun _ h_ => absurd h_ List.not_mem_nil⟩⟩⟩⟩⟩⟩⟩⟩⟩⟩⟩⟩⟩⟩⟩⟩⟩⟩⟩⟩⟩⟩⟩⟩), (by unfold wsX8_mealBehind_r2; exact List.forall_mem_cons.mpr ⟨mx_X8_meal_41, List.forall_mem_cons.mpr ⟨mx_X8_meal_5, List.forall_mem_cons.mpr ⟨mx_X8_meal_6, List.forall_mem_cons.mpr ⟨mx_X8_meal_8, List.forall_mem_cons.mpr ⟨mx_X8_meal_42, List.forall_mem_cons.mpr ⟨mx_X8_meal_43, List.forall_mem_cons.mpr ⟨mx_X8_meal_44, List.forall_mem_cons.mpr ⟨mx_X8_meal_45, List.forall_mem_cons.mpr ⟨mx_X8_meal_46, List.forall_mem_cons.mpr ⟨mx_X8_meal_47, List.forall_mem_cons.mpr ⟨mx_X8_meal_48, List.forall_mem_cons.mpr ⟨mx_X8_meal_49, List.forall_mem_cons.mpr ⟨mx_X8_meal_13, fun _ h_ => absurd h_ List.not_mem_nil⟩⟩⟩⟩⟩⟩⟩⟩⟩⟩⟩⟩⟩)⟩, (fun _ h_ => mb_X8_meal_wsX80 h_)⟩⟩) (by decide +kernel)
theorem mx_X8_meal_15 : Cond.methodLink RX8 200 yX8_mealBehind ∈ wsX8_meal := mb_X8_meal_wsX8_meal_r1 (List.mem_of_getElem? (i := 14) rfl)
theorem mx_X8_meal_16 : Cond.instanceMethod yX8_mealBehind ∈ wsX8_meal := mb_X8_meal_wsX8_meal_r1 (List.mem_of_getElem? (i := 15) rfl)
theorem mx_X8_meal_17 : Cond.selects RX8 yX8_mealBehind yX8_mealBehind ∈ wsX8_meal := mb_X8_meal_wsX8_meal_r1 (List.mem_of_getElem? (i := 16) rfl)
theorem gX8_meal_X8_mealBehind : GoodIn wsX8_meal (wsV RX8 200 RX8 yX8_mealBehind wsX8_mealBehind) := goodIn_app (goodIn_sub (List.forall_mem_cons.mpr ⟨mx_X8_meal_15, List.forall_mem_cons.mpr ⟨mx_X8_meal_16, List.forall_mem_cons.mpr ⟨mx_X8_meal_17, List.forall_mem_cons.mpr ⟨mx_X8_meal_7, fun _ h_ => absurd h_ List.not_mem_nil⟩⟩⟩⟩) (by decide +kernel)) ggX8_meal_X8_mealBehind
theorem mx_X8_meal_12 : Cond.code yX8_putAside cX8_putAside 2 none ∈ wsX8_meal := mb_X8_meal_wsX8_meal_r1 (List.mem_of_getElem? (i := 11) rfl)
theorem ggX8_meal_X8_putAside : GoodIn wsX8_meal wsX8_putAside := goodIn_sub (by unfold wsX8_putAside; exact List.forall_mem_cons.mpr ⟨mx_X8_meal_12, List.forall_mem_append.mpr ⟨List.forall_mem_cons.mpr ⟨mx_X8_meal_13, List.forall_mem_cons.mpr ⟨mx_X8_meal_14, fun _ h_ => absurd h_ List.not_mem_nil⟩⟩, (fun _ h_ => mb_X8_meal_wsX80 h_)⟩⟩) (by decide +kernel)
theorem mx_X8_meal_9 : Cond.methodLink RX8 197 yX8_putAside ∈ wsX8_meal := mb_X8_meal_wsX8_meal_r1 (List.mem_of_getElem? (i := 8) rfl)
theorem mx_X8_meal_10 : Cond.instanceMethod yX8_putAside ∈ wsX8_meal := mb_X8_meal_wsX8_meal_r1 (List.mem_of_getElem? (i := 9) rfl)
theorem mx_X8_meal_11 : Cond.selects RX8 yX8_putAside yX8_putAside ∈ wsX8_meal := mb_X8_meal_wsX8_meal_r1 (List.mem_of_getElem? (i := 10) rfl)
theorem gX8_meal_X8_putAside : GoodIn wsX8_meal (wsV RX8 197 RX8 yX8_putAside wsX8_putAside) := goodIn_app (goodIn_sub (List.forall_mem_cons.mpr ⟨mx_X8_meal_9, List.forall_mem_cons.mpr ⟨mx_X8_meal_10, List.forall_mem_cons.mpr ⟨mx_X8_meal_11, List.forall_mem_cons.mpr ⟨mx_X8_meal_7, fun _ h_ => absurd h_ List.not_mem_nil⟩⟩⟩⟩) (by decide +kernel)) ggX8_meal_X8_putAside
theorem mx_X8_sack_9 : Cond.code yX8_in cX8_in 6 (some .boolean) ∈ wsX8_sack := by unfold wsX8_sack; exact List.mem_cons_of_mem _ (List.mem_append_left _ (List.mem_of_getElem? (i := 8) rfl))
theorem ggX8_sack_X8_in : GoodIn wsX8_sack wsX8_in := goodIn_sub (by unfold wsX8_in; exact List.forall_mem_cons.mpr ⟨mx_X8_sack_9, fun _ h_ => absurd h_ List.not_mem_nil⟩) (by decide +kernel)
set_option maxRecDepth 20000 in
theorem gX8_sack_X8_in : GoodIn wsX8_sack (va_wsS RX8 57 yX8_in wsX8_in) := goodIn_app (goodIn_of _ (by decide +kernel)) ggX8_sack_X8_in
theorem mx_X8_sack_18 : Cond.code yX8_loudOf cX8_loudOf 4 (some .int) ∈ wsX8_sack := by unfold wsX8_sack; exact List.mem_cons_of_mem _ (List.mem_append_left _ (List.mem_of_getElem? (i := 17) rfl))
theorem mx_X8_sack_14 : Cond.fieldLink RX8 19 "MillTalkModel" "st" "[I" ∈ wsX8_sack := by unfold wsX8_sack; exact List.mem_cons_of_mem _ (List.mem_append_left _ (List.mem_of_getElem? (i := 13) rfl))
theorem mx_X8_sack_19 : Cond.methodLink RX8 213 yX8_has ∈ wsX8_sack := by unfold wsX8_sack; exact List.mem_cons_of_mem _ (List.mem_append_left _ (List.mem_of_getElem? (i := 18) rfl))
theorem mx_X8_sack_20 : Cond.static yX8_has ∈ wsX8_sack := by unfold wsX8_sack; exact List.mem_cons_of_mem _ (List.mem_append_left _ (List.mem_of_getElem? (i := 19) rfl))
theorem mx_X8_sack_8 : Cond.initialized RX8 ∈ wsX8_sack := by unfold wsX8_sack; exact List.mem_cons_of_mem _ (List.mem_append_left _ (List.mem_of_getElem? (i := 7) rfl))
theorem mx_X8_sack_21 : Cond.code yX8_has cX8_has 2 (some .boolean) ∈ wsX8_sack := by unfold wsX8_sack; exact List.mem_cons_of_mem _ (List.mem_append_left _ (List.mem_of_getElem? (i := 20) rfl))
theorem mb_X8_sack_wsX80 {w : Cond} (h : w ∈ wsX80) : w ∈ wsX8_sack := by unfold wsX8_sack; exact List.mem_cons_of_mem _ (List.mem_append_right _ (h))
theorem ggX8_sack_X8_loudOf : GoodIn wsX8_sack wsX8_loudOf := goodIn_sub (by unfold wsX8_loudOf; exact List.forall_mem_cons.mpr ⟨mx_X8_sack_18, List.forall_mem_append.mpr ⟨List.forall_mem_cons.mpr ⟨mx_X8_sack_14, List.forall_mem_cons.mpr ⟨mx_X8_sack_19, List.forall_mem_cons.mpr ⟨mx_X8_sack_20, List.forall_mem_cons.mpr ⟨mx_X8_sack_8, List.forall_mem_cons.mpr ⟨mx_X8_sack_21, fun _ h_ => absurd h_ List.not_mem_nil⟩⟩⟩⟩⟩, (fun _ h_ => mb_X8_sack_wsX80 h_)⟩⟩) (by decide +kernel)
theorem mx_X8_sack_15 : Cond.methodLink RX8 219 yX8_loudOf ∈ wsX8_sack := by unfold wsX8_sack; exact List.mem_cons_of_mem _ (List.mem_append_left _ (List.mem_of_getElem? (i := 14) rfl))
theorem mx_X8_sack_16 : Cond.instanceMethod yX8_loudOf ∈ wsX8_sack := by unfold wsX8_sack; exact List.mem_cons_of_mem _ (List.mem_append_left _ (List.mem_of_getElem? (i := 15) rfl))
theorem mx_X8_sack_17 : Cond.selects RX8 yX8_loudOf yX8_loudOf ∈ wsX8_sack := by unfold wsX8_sack; exact List.mem_cons_of_mem _ (List.mem_append_left _ (List.mem_of_getElem? (i := 16) rfl))
theorem gX8_sack_X8_loudOf : GoodIn wsX8_sack (wsV RX8 219 RX8 yX8_loudOf wsX8_loudOf) := goodIn_app (goodIn_sub (List.forall_mem_cons.mpr ⟨mx_X8_sack_15, List.forall_mem_cons.mpr ⟨mx_X8_sack_16, List.forall_mem_cons.mpr ⟨mx_X8_sack_17, List.forall_mem_cons.mpr ⟨mx_X8_sack_8, fun _ h_ => absurd h_ List.not_mem_nil⟩⟩⟩⟩) (by decide +kernel)) ggX8_sack_X8_loudOf
theorem mx_X8_sack_13 : Cond.code yX8_those cX8_those 4 (some .int) ∈ wsX8_sack := by unfold wsX8_sack; exact List.mem_cons_of_mem _ (List.mem_append_left _ (List.mem_of_getElem? (i := 12) rfl))
theorem ggX8_sack_X8_those : GoodIn wsX8_sack wsX8_those := goodIn_sub (by unfold wsX8_those; exact List.forall_mem_cons.mpr ⟨mx_X8_sack_13, List.forall_mem_append.mpr ⟨List.forall_mem_cons.mpr ⟨mx_X8_sack_14, fun _ h_ => absurd h_ List.not_mem_nil⟩, (fun _ h_ => mb_X8_sack_wsX80 h_)⟩⟩) (by decide +kernel)
theorem mx_X8_sack_10 : Cond.methodLink RX8 182 yX8_those ∈ wsX8_sack := by unfold wsX8_sack; exact List.mem_cons_of_mem _ (List.mem_append_left _ (List.mem_of_getElem? (i := 9) rfl))
theorem mx_X8_sack_11 : Cond.instanceMethod yX8_those ∈ wsX8_sack := by unfold wsX8_sack; exact List.mem_cons_of_mem _ (List.mem_append_left _ (List.mem_of_getElem? (i := 10) rfl))
theorem mx_X8_sack_12 : Cond.selects RX8 yX8_those yX8_those ∈ wsX8_sack := by unfold wsX8_sack; exact List.mem_cons_of_mem _ (List.mem_append_left _ (List.mem_of_getElem? (i := 11) rfl))
theorem gX8_sack_X8_those : GoodIn wsX8_sack (wsV RX8 182 RX8 yX8_those wsX8_those) := goodIn_app (goodIn_sub (List.forall_mem_cons.mpr ⟨mx_X8_sack_10, List.forall_mem_cons.mpr ⟨mx_X8_sack_11, List.forall_mem_cons.mpr ⟨mx_X8_sack_12, List.forall_mem_cons.mpr ⟨mx_X8_sack_8, fun _ h_ => absurd h_ List.not_mem_nil⟩⟩⟩⟩) (by decide +kernel)) ggX8_sack_X8_those
theorem mb_X8_site_wsX8_site_r1 {w : Cond} (h : w ∈ wsX8_site_r1) : w ∈ wsX8_site := by unfold wsX8_site; exact List.mem_cons_of_mem _ (List.mem_append_left _ (List.mem_append_left _ (h)))
theorem mx_X8_site_10 : Cond.code yX8_in cX8_in 6 (some .boolean) ∈ wsX8_site := mb_X8_site_wsX8_site_r1 (List.mem_of_getElem? (i := 9) rfl)
theorem ggX8_site_X8_in : GoodIn wsX8_site wsX8_in := goodIn_sub (by unfold wsX8_in; exact List.forall_mem_cons.mpr ⟨mx_X8_site_10, fun _ h_ => absurd h_ List.not_mem_nil⟩) (by decide +kernel)
set_option maxRecDepth 20000 in
theorem gX8_site_X8_in : GoodIn wsX8_site (va_wsS RX8 57 yX8_in wsX8_in) := goodIn_app (goodIn_of _ (by decide +kernel)) ggX8_site_X8_in
theorem mx_X8_site_13 : Cond.code yX8_isWhat cX8_isWhat 1 (some .boolean) ∈ wsX8_site := mb_X8_site_wsX8_site_r1 (List.mem_of_getElem? (i := 12) rfl)
theorem mx_X8_site_7 : Cond.methodLink RX8 57 yX8_in ∈ wsX8_site := mb_X8_site_wsX8_site_r1 (List.mem_of_getElem? (i := 6) rfl)
theorem mx_X8_site_8 : Cond.static yX8_in ∈ wsX8_site := mb_X8_site_wsX8_site_r1 (List.mem_of_getElem? (i := 7) rfl)
theorem mx_X8_site_9 : Cond.initialized RX8 ∈ wsX8_site := mb_X8_site_wsX8_site_r1 (List.mem_of_getElem? (i := 8) rfl)
theorem ggX8_site_X8_isWhat : GoodIn wsX8_site wsX8_isWhat := goodIn_sub (by unfold wsX8_isWhat; exact List.forall_mem_cons.mpr ⟨mx_X8_site_13, List.forall_mem_cons.mpr ⟨mx_X8_site_7, List.forall_mem_cons.mpr ⟨mx_X8_site_8, List.forall_mem_cons.mpr ⟨mx_X8_site_9, List.forall_mem_cons.mpr ⟨mx_X8_site_10, fun _ h_ => absurd h_ List.not_mem_nil⟩⟩⟩⟩⟩) (by decide +kernel)
set_option maxRecDepth 20000 in
theorem gX8_site_X8_isWhat : GoodIn wsX8_site (va_wsS RX8 210 yX8_isWhat wsX8_isWhat) := goodIn_app (goodIn_of _ (by decide +kernel)) ggX8_site_X8_isWhat
theorem mx_X8_site_21 : Cond.code yX8_mealBehind cX8_mealBehind 3 (some .int) ∈ wsX8_site := mb_X8_site_wsX8_site_r1 (List.mem_of_getElem? (i := 20) rfl)
theorem mx_X8_site_6 : Cond.fieldLink RX8 19 "MillTalkModel" "st" "[I" ∈ wsX8_site := mb_X8_site_wsX8_site_r1 (List.mem_of_getElem? (i := 5) rfl)
theorem mx_X8_site_22 : Cond.methodLink RX8 190 yX8_goOn ∈ wsX8_site := mb_X8_site_wsX8_site_r1 (List.mem_of_getElem? (i := 21) rfl)
theorem mx_X8_site_23 : Cond.instanceMethod yX8_goOn ∈ wsX8_site := mb_X8_site_wsX8_site_r1 (List.mem_of_getElem? (i := 22) rfl)
theorem mx_X8_site_24 : Cond.selects RX8 yX8_goOn yX8_goOn ∈ wsX8_site := mb_X8_site_wsX8_site_r1 (List.mem_of_getElem? (i := 23) rfl)
theorem mb_X8_site_wsX8_site_r2 {w : Cond} (h : w ∈ wsX8_site_r2) : w ∈ wsX8_site := by unfold wsX8_site; exact List.mem_cons_of_mem _ (List.mem_append_left _ (List.mem_append_right _ (List.mem_append_left _ (h))))
theorem mx_X8_site_25 : Cond.code yX8_goOn cX8_goOn 3 none ∈ wsX8_site := mb_X8_site_wsX8_site_r2 (List.mem_of_getElem? (i := 0) rfl)
theorem mx_X8_site_26 : Cond.methodLink RX8 167 yX8_oneHour ∈ wsX8_site := mb_X8_site_wsX8_site_r2 (List.mem_of_getElem? (i := 1) rfl)
theorem mx_X8_site_27 : Cond.instanceMethod yX8_oneHour ∈ wsX8_site := mb_X8_site_wsX8_site_r2 (List.mem_of_getElem? (i := 2) rfl)
theorem mx_X8_site_28 : Cond.selects RX8 yX8_oneHour yX8_oneHour ∈ wsX8_site := mb_X8_site_wsX8_site_r2 (List.mem_of_getElem? (i := 3) rfl)
theorem mx_X8_site_29 : Cond.code yX8_oneHour cX8_oneHour 4 (some .int) ∈ wsX8_site := mb_X8_site_wsX8_site_r2 (List.mem_of_getElem? (i := 4) rfl)
theorem mx_X8_site_30 : Cond.methodLink RX8 151 yX8_gustOf ∈ wsX8_site := mb_X8_site_wsX8_site_r2 (List.mem_of_getElem? (i := 5) rfl)
theorem mx_X8_site_31 : Cond.instanceMethod yX8_gustOf ∈ wsX8_site := mb_X8_site_wsX8_site_r2 (List.mem_of_getElem? (i := 6) rfl)
theorem mx_X8_site_32 : Cond.selects RX8 yX8_gustOf yX8_gustOf ∈ wsX8_site := mb_X8_site_wsX8_site_r2 (List.mem_of_getElem? (i := 7) rfl)
theorem mx_X8_site_33 : Cond.code yX8_gustOf cX8_gustOf 2 (some .int) ∈ wsX8_site := mb_X8_site_wsX8_site_r2 (List.mem_of_getElem? (i := 8) rfl)
theorem mx_X8_site_34 : Cond.methodLink RX8 154 yX8_drift ∈ wsX8_site := mb_X8_site_wsX8_site_r2 (List.mem_of_getElem? (i := 9) rfl)
theorem mx_X8_site_35 : Cond.instanceMethod yX8_drift ∈ wsX8_site := mb_X8_site_wsX8_site_r2 (List.mem_of_getElem? (i := 10) rfl)
theorem mx_X8_site_36 : Cond.selects RX8 yX8_drift yX8_drift ∈ wsX8_site := mb_X8_site_wsX8_site_r2 (List.mem_of_getElem? (i := 11) rfl)
theorem mx_X8_site_37 : Cond.code yX8_drift cX8_drift 7 none ∈ wsX8_site := mb_X8_site_wsX8_site_r2 (List.mem_of_getElem? (i := 12) rfl)
theorem mx_X8_site_38 : Cond.methodLink RX8 145 yX8_drifts ∈ wsX8_site := mb_X8_site_wsX8_site_r2 (List.mem_of_getElem? (i := 13) rfl)
theorem mx_X8_site_39 : Cond.static yX8_drifts ∈ wsX8_site := mb_X8_site_wsX8_site_r2 (List.mem_of_getElem? (i := 14) rfl)
theorem mx_X8_site_40 : Cond.code yX8_drifts cX8_drifts 2 (some .int) ∈ wsX8_site := mb_X8_site_wsX8_site_r2 (List.mem_of_getElem? (i := 15) rfl)
theorem mx_X8_site_41 : Cond.methodLink RX8 148 yX8_isCell ∈ wsX8_site := mb_X8_site_wsX8_site_r2 (List.mem_of_getElem? (i := 16) rfl)
theorem mx_X8_site_42 : Cond.instanceMethod yX8_isCell ∈ wsX8_site := mb_X8_site_wsX8_site_r2 (List.mem_of_getElem? (i := 17) rfl)
theorem mx_X8_site_43 : Cond.selects RX8 yX8_isCell yX8_isCell ∈ wsX8_site := mb_X8_site_wsX8_site_r2 (List.mem_of_getElem? (i := 18) rfl)
theorem mx_X8_site_44 : Cond.code yX8_isCell cX8_isCell 2 (some .boolean) ∈ wsX8_site := mb_X8_site_wsX8_site_r2 (List.mem_of_getElem? (i := 19) rfl)
theorem mx_X8_site_45 : Cond.methodLink RX8 158 yX8_isAtMill ∈ wsX8_site := mb_X8_site_wsX8_site_r2 (List.mem_of_getElem? (i := 20) rfl)
theorem mx_X8_site_46 : Cond.instanceMethod yX8_isAtMill ∈ wsX8_site := mb_X8_site_wsX8_site_r2 (List.mem_of_getElem? (i := 21) rfl)
theorem mx_X8_site_47 : Cond.selects RX8 yX8_isAtMill yX8_isAtMill ∈ wsX8_site := mb_X8_site_wsX8_site_r2 (List.mem_of_getElem? (i := 22) rfl)
theorem mx_X8_site_48 : Cond.code yX8_isAtMill cX8_isAtMill 3 (some .boolean) ∈ wsX8_site := mb_X8_site_wsX8_site_r2 (List.mem_of_getElem? (i := 23) rfl)
theorem mb_X8_site_wsX8_site_r3 {w : Cond} (h : w ∈ wsX8_site_r3) : w ∈ wsX8_site := by unfold wsX8_site; exact List.mem_cons_of_mem _ (List.mem_append_left _ (List.mem_append_right _ (List.mem_append_right _ (h))))
theorem mx_X8_site_49 : Cond.methodLink RX8 194 yX8_takeBack ∈ wsX8_site := mb_X8_site_wsX8_site_r3 (List.mem_of_getElem? (i := 0) rfl)
theorem mx_X8_site_50 : Cond.instanceMethod yX8_takeBack ∈ wsX8_site := mb_X8_site_wsX8_site_r3 (List.mem_of_getElem? (i := 1) rfl)
theorem mx_X8_site_51 : Cond.selects RX8 yX8_takeBack yX8_takeBack ∈ wsX8_site := mb_X8_site_wsX8_site_r3 (List.mem_of_getElem? (i := 2) rfl)
theorem mx_X8_site_52 : Cond.code yX8_takeBack cX8_takeBack 2 none ∈ wsX8_site := mb_X8_site_wsX8_site_r3 (List.mem_of_getElem? (i := 3) rfl)
theorem mx_X8_site_5 : Cond.fieldLink RX8 34 "MillTalkModel" "aside" "[I" ∈ wsX8_site := mb_X8_site_wsX8_site_r1 (List.mem_of_getElem? (i := 4) rfl)
theorem mb_X8_site_wsX80 {w : Cond} (h : w ∈ wsX80) : w ∈ wsX8_site := by unfold wsX8_site; exact List.mem_cons_of_mem _ (List.mem_append_right _ (h))
theorem ggX8_site_X8_mealBehind : GoodIn wsX8_site wsX8_mealBehind := goodIn_sub (by unfold wsX8_mealBehind; exact List.forall_mem_cons.mpr ⟨mx_X8_site_21, List.forall_mem_append.mpr ⟨List.forall_mem_append.mpr ⟨(by unfold wsX8_mealBehind_r1; exact List.forall_mem_cons.mpr ⟨mx_X8_site_6, List.forall_mem_cons.mpr ⟨mx_X8_site_22, List.forall_mem_cons.mpr ⟨mx_X8_site_23, List.forall_mem_cons.mpr ⟨mx_X8_site_24, List.forall_mem_cons.mpr ⟨mx_X8_site_9, List.forall_mem_cons.mpr ⟨mx_X8_site_25, List.forall_mem_cons.mpr ⟨mx_X8_site_26, List.forall_mem_cons.mpr ⟨mx_X8_site_27, List.forall_mem_cons.mpr ⟨mx_X8_site_28, List.forall_mem_cons.mpr ⟨mx_X8_site_29, List.forall_mem_cons.mpr ⟨mx_X8_site_30, List.forall_mem_cons.mpr ⟨mx_X8_site_31, List.forall_mem_cons.mpr ⟨mx_X8_site_32, List.forall_mem_cons.mpr ⟨mx_X8_site_33, List.forall_mem_cons.mpr ⟨mx_X8_site_34, List.forall_mem_cons.mpr ⟨mx_X8_site_35, List.forall_mem_cons.mpr ⟨mx_X8_site_36, List.forall_mem_cons.mpr ⟨mx_X8_site_37, List.forall_mem_cons.mpr ⟨mx_X8_site_38, List.forall_mem_cons.mpr ⟨mx_X8_site_39, List.forall_mem_cons.mpr ⟨mx_X8_site_40, List.forall_mem_cons.mpr ⟨mx_X8_site_41, List.forall_mem_cons.mpr ⟨mx_X8_site_42, List.forall_mem_cons.mpr ⟨mx_X8_site_43, fun _ h_ => absurd h_ List.not_mem_nil⟩⟩⟩⟩⟩⟩⟩⟩⟩⟩⟩⟩⟩⟩⟩⟩⟩⟩⟩⟩⟩⟩⟩⟩), (by unfold wsX8_mealBehind_r2; exact List.forall_mem_cons.mpr ⟨mx_X8_site_44, List.forall_mem_cons.mpr ⟨mx_X8_site_7, List.forall_mem_cons.mpr ⟨mx_X8_site_8, List.forall_mem_cons.mpr ⟨mx_X8_site_10, List.forall_mem_cons.mpr ⟨mx_X8_site_45, List.forall_mem_cons.mpr ⟨mx_X8_site_46, List.forall_mem_cons.mpr ⟨mx_X8_site_47, List.forall_mem_cons.mpr ⟨mx_X8_site_48, List.forall_mem_cons.mpr ⟨mx_X8_site_49, List.forall_mem_cons.mpr ⟨mx_X8_site_50, List.forall_mem_cons.mpr ⟨mx_X8_site_51, List.forall_mem_cons.mpr ⟨mx_X8_site_52, List.forall_mem_cons.mpr ⟨mx_X8_site_5, fun _ h_ => absurd h_ List.not_mem_nil⟩⟩⟩⟩⟩⟩⟩⟩⟩⟩⟩⟩⟩)⟩, (fun _ h_ => mb_X8_site_wsX80 h_)⟩⟩) (by decide +kernel)
theorem mx_X8_site_18 : Cond.methodLink RX8 200 yX8_mealBehind ∈ wsX8_site := mb_X8_site_wsX8_site_r1 (List.mem_of_getElem? (i := 17) rfl)
theorem mx_X8_site_19 : Cond.instanceMethod yX8_mealBehind ∈ wsX8_site := mb_X8_site_wsX8_site_r1 (List.mem_of_getElem? (i := 18) rfl)
theorem mx_X8_site_20 : Cond.selects RX8 yX8_mealBehind yX8_mealBehind ∈ wsX8_site := mb_X8_site_wsX8_site_r1 (List.mem_of_getElem? (i := 19) rfl)
theorem gX8_site_X8_mealBehind : GoodIn wsX8_site (wsV RX8 200 RX8 yX8_mealBehind wsX8_mealBehind) := goodIn_app (goodIn_sub (List.forall_mem_cons.mpr ⟨mx_X8_site_18, List.forall_mem_cons.mpr ⟨mx_X8_site_19, List.forall_mem_cons.mpr ⟨mx_X8_site_20, List.forall_mem_cons.mpr ⟨mx_X8_site_9, fun _ h_ => absurd h_ List.not_mem_nil⟩⟩⟩⟩) (by decide +kernel)) ggX8_site_X8_mealBehind
theorem mx_X8_site_17 : Cond.code yX8_putAside cX8_putAside 2 none ∈ wsX8_site := mb_X8_site_wsX8_site_r1 (List.mem_of_getElem? (i := 16) rfl)
theorem ggX8_site_X8_putAside : GoodIn wsX8_site wsX8_putAside := goodIn_sub (by unfold wsX8_putAside; exact List.forall_mem_cons.mpr ⟨mx_X8_site_17, List.forall_mem_append.mpr ⟨List.forall_mem_cons.mpr ⟨mx_X8_site_5, List.forall_mem_cons.mpr ⟨mx_X8_site_6, fun _ h_ => absurd h_ List.not_mem_nil⟩⟩, (fun _ h_ => mb_X8_site_wsX80 h_)⟩⟩) (by decide +kernel)
theorem mx_X8_site_14 : Cond.methodLink RX8 197 yX8_putAside ∈ wsX8_site := mb_X8_site_wsX8_site_r1 (List.mem_of_getElem? (i := 13) rfl)
theorem mx_X8_site_15 : Cond.instanceMethod yX8_putAside ∈ wsX8_site := mb_X8_site_wsX8_site_r1 (List.mem_of_getElem? (i := 14) rfl)
theorem mx_X8_site_16 : Cond.selects RX8 yX8_putAside yX8_putAside ∈ wsX8_site := mb_X8_site_wsX8_site_r1 (List.mem_of_getElem? (i := 15) rfl)
theorem gX8_site_X8_putAside : GoodIn wsX8_site (wsV RX8 197 RX8 yX8_putAside wsX8_putAside) := goodIn_app (goodIn_sub (List.forall_mem_cons.mpr ⟨mx_X8_site_14, List.forall_mem_cons.mpr ⟨mx_X8_site_15, List.forall_mem_cons.mpr ⟨mx_X8_site_16, List.forall_mem_cons.mpr ⟨mx_X8_site_9, fun _ h_ => absurd h_ List.not_mem_nil⟩⟩⟩⟩) (by decide +kernel)) ggX8_site_X8_putAside
theorem mx_X8_sound_18 : Cond.code yX8_drifts cX8_drifts 2 (some .int) ∈ wsX8_sound := by unfold wsX8_sound; exact List.mem_cons_of_mem _ (List.mem_append_left _ (List.mem_of_getElem? (i := 17) rfl))
theorem ggX8_sound_X8_drifts : GoodIn wsX8_sound wsX8_drifts := goodIn_sub (by unfold wsX8_drifts; exact List.forall_mem_cons.mpr ⟨mx_X8_sound_18, fun _ h_ => absurd h_ List.not_mem_nil⟩) (by decide +kernel)
set_option maxRecDepth 20000 in
theorem gX8_sound_X8_drifts : GoodIn wsX8_sound (va_wsS RX8 145 yX8_drifts wsX8_drifts) := goodIn_app (goodIn_of _ (by decide +kernel)) ggX8_sound_X8_drifts
theorem mx_X8_sound_15 : Cond.code yX8_gustOf cX8_gustOf 2 (some .int) ∈ wsX8_sound := by unfold wsX8_sound; exact List.mem_cons_of_mem _ (List.mem_append_left _ (List.mem_of_getElem? (i := 14) rfl))
theorem mx_X8_sound_2 : Cond.fieldLink RX8 19 "MillTalkModel" "st" "[I" ∈ wsX8_sound := by unfold wsX8_sound; exact List.mem_cons_of_mem _ (List.mem_append_left _ (List.mem_of_getElem? (i := 1) rfl))
theorem mb_X8_sound_wsX80 {w : Cond} (h : w ∈ wsX80) : w ∈ wsX8_sound := by unfold wsX8_sound; exact List.mem_cons_of_mem _ (List.mem_append_right _ (h))
theorem ggX8_sound_X8_gustOf : GoodIn wsX8_sound wsX8_gustOf := goodIn_sub (by unfold wsX8_gustOf; exact List.forall_mem_cons.mpr ⟨mx_X8_sound_15, List.forall_mem_append.mpr ⟨List.forall_mem_cons.mpr ⟨mx_X8_sound_2, fun _ h_ => absurd h_ List.not_mem_nil⟩, (fun _ h_ => mb_X8_sound_wsX80 h_)⟩⟩) (by decide +kernel)
theorem mx_X8_sound_12 : Cond.methodLink RX8 151 yX8_gustOf ∈ wsX8_sound := by unfold wsX8_sound; exact List.mem_cons_of_mem _ (List.mem_append_left _ (List.mem_of_getElem? (i := 11) rfl))
theorem mx_X8_sound_13 : Cond.instanceMethod yX8_gustOf ∈ wsX8_sound := by unfold wsX8_sound; exact List.mem_cons_of_mem _ (List.mem_append_left _ (List.mem_of_getElem? (i := 12) rfl))
theorem mx_X8_sound_14 : Cond.selects RX8 yX8_gustOf yX8_gustOf ∈ wsX8_sound := by unfold wsX8_sound; exact List.mem_cons_of_mem _ (List.mem_append_left _ (List.mem_of_getElem? (i := 13) rfl))
theorem mx_X8_sound_7 : Cond.initialized RX8 ∈ wsX8_sound := by unfold wsX8_sound; exact List.mem_cons_of_mem _ (List.mem_append_left _ (List.mem_of_getElem? (i := 6) rfl))
theorem gX8_sound_X8_gustOf : GoodIn wsX8_sound (wsV RX8 151 RX8 yX8_gustOf wsX8_gustOf) := goodIn_app (goodIn_sub (List.forall_mem_cons.mpr ⟨mx_X8_sound_12, List.forall_mem_cons.mpr ⟨mx_X8_sound_13, List.forall_mem_cons.mpr ⟨mx_X8_sound_14, List.forall_mem_cons.mpr ⟨mx_X8_sound_7, fun _ h_ => absurd h_ List.not_mem_nil⟩⟩⟩⟩) (by decide +kernel)) ggX8_sound_X8_gustOf
theorem mx_X8_sound_8 : Cond.code yX8_isSound cX8_isSound 2 (some .boolean) ∈ wsX8_sound := by unfold wsX8_sound; exact List.mem_cons_of_mem _ (List.mem_append_left _ (List.mem_of_getElem? (i := 7) rfl))
theorem mx_X8_sound_9 : Cond.methodLink RX8 57 yX8_in ∈ wsX8_sound := by unfold wsX8_sound; exact List.mem_cons_of_mem _ (List.mem_append_left _ (List.mem_of_getElem? (i := 8) rfl))
theorem mx_X8_sound_10 : Cond.static yX8_in ∈ wsX8_sound := by unfold wsX8_sound; exact List.mem_cons_of_mem _ (List.mem_append_left _ (List.mem_of_getElem? (i := 9) rfl))
theorem mx_X8_sound_11 : Cond.code yX8_in cX8_in 6 (some .boolean) ∈ wsX8_sound := by unfold wsX8_sound; exact List.mem_cons_of_mem _ (List.mem_append_left _ (List.mem_of_getElem? (i := 10) rfl))
theorem ggX8_sound_X8_isSound : GoodIn wsX8_sound wsX8_isSound := goodIn_sub (by unfold wsX8_isSound; exact List.forall_mem_cons.mpr ⟨mx_X8_sound_8, List.forall_mem_append.mpr ⟨List.forall_mem_cons.mpr ⟨mx_X8_sound_2, List.forall_mem_cons.mpr ⟨mx_X8_sound_9, List.forall_mem_cons.mpr ⟨mx_X8_sound_10, List.forall_mem_cons.mpr ⟨mx_X8_sound_7, List.forall_mem_cons.mpr ⟨mx_X8_sound_11, fun _ h_ => absurd h_ List.not_mem_nil⟩⟩⟩⟩⟩, (fun _ h_ => mb_X8_sound_wsX80 h_)⟩⟩) (by decide +kernel)
theorem mx_X8_sound_4 : Cond.methodLink RX8 173 yX8_isSound ∈ wsX8_sound := by unfold wsX8_sound; exact List.mem_cons_of_mem _ (List.mem_append_left _ (List.mem_of_getElem? (i := 3) rfl))
theorem mx_X8_sound_5 : Cond.instanceMethod yX8_isSound ∈ wsX8_sound := by unfold wsX8_sound; exact List.mem_cons_of_mem _ (List.mem_append_left _ (List.mem_of_getElem? (i := 4) rfl))
theorem mx_X8_sound_6 : Cond.selects RX8 yX8_isSound yX8_isSound ∈ wsX8_sound := by unfold wsX8_sound; exact List.mem_cons_of_mem _ (List.mem_append_left _ (List.mem_of_getElem? (i := 5) rfl))
theorem gX8_sound_X8_isSound : GoodIn wsX8_sound (wsV RX8 173 RX8 yX8_isSound wsX8_isSound) := goodIn_app (goodIn_sub (List.forall_mem_cons.mpr ⟨mx_X8_sound_4, List.forall_mem_cons.mpr ⟨mx_X8_sound_5, List.forall_mem_cons.mpr ⟨mx_X8_sound_6, List.forall_mem_cons.mpr ⟨mx_X8_sound_7, fun _ h_ => absurd h_ List.not_mem_nil⟩⟩⟩⟩) (by decide +kernel)) ggX8_sound_X8_isSound
theorem mx_X8_stand_9 : Cond.code yX8_those cX8_those 4 (some .int) ∈ wsX8_stand := by unfold wsX8_stand; exact List.mem_cons_of_mem _ (List.mem_append_left _ (List.mem_of_getElem? (i := 8) rfl))
theorem mx_X8_stand_3 : Cond.fieldLink RX8 19 "MillTalkModel" "st" "[I" ∈ wsX8_stand := by unfold wsX8_stand; exact List.mem_cons_of_mem _ (List.mem_append_left _ (List.mem_of_getElem? (i := 2) rfl))
theorem mb_X8_stand_wsX80 {w : Cond} (h : w ∈ wsX80) : w ∈ wsX8_stand := by unfold wsX8_stand; exact List.mem_cons_of_mem _ (List.mem_append_right _ (h))
theorem ggX8_stand_X8_those : GoodIn wsX8_stand wsX8_those := goodIn_sub (by unfold wsX8_those; exact List.forall_mem_cons.mpr ⟨mx_X8_stand_9, List.forall_mem_append.mpr ⟨List.forall_mem_cons.mpr ⟨mx_X8_stand_3, fun _ h_ => absurd h_ List.not_mem_nil⟩, (fun _ h_ => mb_X8_stand_wsX80 h_)⟩⟩) (by decide +kernel)
theorem mx_X8_stand_5 : Cond.methodLink RX8 182 yX8_those ∈ wsX8_stand := by unfold wsX8_stand; exact List.mem_cons_of_mem _ (List.mem_append_left _ (List.mem_of_getElem? (i := 4) rfl))
theorem mx_X8_stand_6 : Cond.instanceMethod yX8_those ∈ wsX8_stand := by unfold wsX8_stand; exact List.mem_cons_of_mem _ (List.mem_append_left _ (List.mem_of_getElem? (i := 5) rfl))
theorem mx_X8_stand_7 : Cond.selects RX8 yX8_those yX8_those ∈ wsX8_stand := by unfold wsX8_stand; exact List.mem_cons_of_mem _ (List.mem_append_left _ (List.mem_of_getElem? (i := 6) rfl))
theorem mx_X8_stand_8 : Cond.initialized RX8 ∈ wsX8_stand := by unfold wsX8_stand; exact List.mem_cons_of_mem _ (List.mem_append_left _ (List.mem_of_getElem? (i := 7) rfl))
theorem gX8_stand_X8_those : GoodIn wsX8_stand (wsV RX8 182 RX8 yX8_those wsX8_those) := goodIn_app (goodIn_sub (List.forall_mem_cons.mpr ⟨mx_X8_stand_5, List.forall_mem_cons.mpr ⟨mx_X8_stand_6, List.forall_mem_cons.mpr ⟨mx_X8_stand_7, List.forall_mem_cons.mpr ⟨mx_X8_stand_8, fun _ h_ => absurd h_ List.not_mem_nil⟩⟩⟩⟩) (by decide +kernel)) ggX8_stand_X8_those
theorem mb_X8_when_wsX8_when_r1 {w : Cond} (h : w ∈ wsX8_when_r1) : w ∈ wsX8_when := by unfold wsX8_when; exact List.mem_cons_of_mem _ (List.mem_append_left _ (List.mem_append_left _ (h)))
theorem mx_X8_when_12 : Cond.code yX8_in cX8_in 6 (some .boolean) ∈ wsX8_when := mb_X8_when_wsX8_when_r1 (List.mem_of_getElem? (i := 11) rfl)
theorem ggX8_when_X8_in : GoodIn wsX8_when wsX8_in := goodIn_sub (by unfold wsX8_in; exact List.forall_mem_cons.mpr ⟨mx_X8_when_12, fun _ h_ => absurd h_ List.not_mem_nil⟩) (by decide +kernel)
set_option maxRecDepth 20000 in
theorem gX8_when_X8_in : GoodIn wsX8_when (va_wsS RX8 57 yX8_in wsX8_in) := goodIn_app (goodIn_of _ (by decide +kernel)) ggX8_when_X8_in
theorem mx_X8_when_9 : Cond.code yX8_isSound cX8_isSound 2 (some .boolean) ∈ wsX8_when := mb_X8_when_wsX8_when_r1 (List.mem_of_getElem? (i := 8) rfl)
theorem mx_X8_when_3 : Cond.fieldLink RX8 19 "MillTalkModel" "st" "[I" ∈ wsX8_when := mb_X8_when_wsX8_when_r1 (List.mem_of_getElem? (i := 2) rfl)
theorem mx_X8_when_10 : Cond.methodLink RX8 57 yX8_in ∈ wsX8_when := mb_X8_when_wsX8_when_r1 (List.mem_of_getElem? (i := 9) rfl)
theorem mx_X8_when_11 : Cond.static yX8_in ∈ wsX8_when := mb_X8_when_wsX8_when_r1 (List.mem_of_getElem? (i := 10) rfl)
theorem mx_X8_when_8 : Cond.initialized RX8 ∈ wsX8_when := mb_X8_when_wsX8_when_r1 (List.mem_of_getElem? (i := 7) rfl)
theorem mb_X8_when_wsX80 {w : Cond} (h : w ∈ wsX80) : w ∈ wsX8_when := by unfold wsX8_when; exact List.mem_cons_of_mem _ (List.mem_append_right _ (h))
theorem ggX8_when_X8_isSound : GoodIn wsX8_when wsX8_isSound := goodIn_sub (by unfold wsX8_isSound; exact List.forall_mem_cons.mpr ⟨mx_X8_when_9, List.forall_mem_append.mpr ⟨List.forall_mem_cons.mpr ⟨mx_X8_when_3, List.forall_mem_cons.mpr ⟨mx_X8_when_10, List.forall_mem_cons.mpr ⟨mx_X8_when_11, List.forall_mem_cons.mpr ⟨mx_X8_when_8, List.forall_mem_cons.mpr ⟨mx_X8_when_12, fun _ h_ => absurd h_ List.not_mem_nil⟩⟩⟩⟩⟩, (fun _ h_ => mb_X8_when_wsX80 h_)⟩⟩) (by decide +kernel)
theorem mx_X8_when_5 : Cond.methodLink RX8 173 yX8_isSound ∈ wsX8_when := mb_X8_when_wsX8_when_r1 (List.mem_of_getElem? (i := 4) rfl)
theorem mx_X8_when_6 : Cond.instanceMethod yX8_isSound ∈ wsX8_when := mb_X8_when_wsX8_when_r1 (List.mem_of_getElem? (i := 5) rfl)
theorem mx_X8_when_7 : Cond.selects RX8 yX8_isSound yX8_isSound ∈ wsX8_when := mb_X8_when_wsX8_when_r1 (List.mem_of_getElem? (i := 6) rfl)
theorem gX8_when_X8_isSound : GoodIn wsX8_when (wsV RX8 173 RX8 yX8_isSound wsX8_isSound) := goodIn_app (goodIn_sub (List.forall_mem_cons.mpr ⟨mx_X8_when_5, List.forall_mem_cons.mpr ⟨mx_X8_when_6, List.forall_mem_cons.mpr ⟨mx_X8_when_7, List.forall_mem_cons.mpr ⟨mx_X8_when_8, fun _ h_ => absurd h_ List.not_mem_nil⟩⟩⟩⟩) (by decide +kernel)) ggX8_when_X8_isSound
theorem mx_X8_when_21 : Cond.code yX8_oneHour cX8_oneHour 4 (some .int) ∈ wsX8_when := mb_X8_when_wsX8_when_r1 (List.mem_of_getElem? (i := 20) rfl)
theorem mx_X8_when_22 : Cond.methodLink RX8 151 yX8_gustOf ∈ wsX8_when := mb_X8_when_wsX8_when_r1 (List.mem_of_getElem? (i := 21) rfl)
theorem mx_X8_when_23 : Cond.instanceMethod yX8_gustOf ∈ wsX8_when := mb_X8_when_wsX8_when_r1 (List.mem_of_getElem? (i := 22) rfl)
theorem mx_X8_when_24 : Cond.selects RX8 yX8_gustOf yX8_gustOf ∈ wsX8_when := mb_X8_when_wsX8_when_r1 (List.mem_of_getElem? (i := 23) rfl)
theorem mb_X8_when_wsX8_when_r2 {w : Cond} (h : w ∈ wsX8_when_r2) : w ∈ wsX8_when := by unfold wsX8_when; exact List.mem_cons_of_mem _ (List.mem_append_left _ (List.mem_append_right _ (h)))
theorem mx_X8_when_25 : Cond.code yX8_gustOf cX8_gustOf 2 (some .int) ∈ wsX8_when := mb_X8_when_wsX8_when_r2 (List.mem_of_getElem? (i := 0) rfl)
theorem mx_X8_when_26 : Cond.methodLink RX8 154 yX8_drift ∈ wsX8_when := mb_X8_when_wsX8_when_r2 (List.mem_of_getElem? (i := 1) rfl)
theorem mx_X8_when_27 : Cond.instanceMethod yX8_drift ∈ wsX8_when := mb_X8_when_wsX8_when_r2 (List.mem_of_getElem? (i := 2) rfl)
theorem mx_X8_when_28 : Cond.selects RX8 yX8_drift yX8_drift ∈ wsX8_when := mb_X8_when_wsX8_when_r2 (List.mem_of_getElem? (i := 3) rfl)
theorem mx_X8_when_29 : Cond.code yX8_drift cX8_drift 7 none ∈ wsX8_when := mb_X8_when_wsX8_when_r2 (List.mem_of_getElem? (i := 4) rfl)
theorem mx_X8_when_30 : Cond.methodLink RX8 145 yX8_drifts ∈ wsX8_when := mb_X8_when_wsX8_when_r2 (List.mem_of_getElem? (i := 5) rfl)
theorem mx_X8_when_31 : Cond.static yX8_drifts ∈ wsX8_when := mb_X8_when_wsX8_when_r2 (List.mem_of_getElem? (i := 6) rfl)
theorem mx_X8_when_32 : Cond.code yX8_drifts cX8_drifts 2 (some .int) ∈ wsX8_when := mb_X8_when_wsX8_when_r2 (List.mem_of_getElem? (i := 7) rfl)
theorem mx_X8_when_33 : Cond.methodLink RX8 148 yX8_isCell ∈ wsX8_when := mb_X8_when_wsX8_when_r2 (List.mem_of_getElem? (i := 8) rfl)
theorem mx_X8_when_34 : Cond.instanceMethod yX8_isCell ∈ wsX8_when := mb_X8_when_wsX8_when_r2 (List.mem_of_getElem? (i := 9) rfl)
theorem mx_X8_when_35 : Cond.selects RX8 yX8_isCell yX8_isCell ∈ wsX8_when := mb_X8_when_wsX8_when_r2 (List.mem_of_getElem? (i := 10) rfl)
theorem mx_X8_when_36 : Cond.code yX8_isCell cX8_isCell 2 (some .boolean) ∈ wsX8_when := mb_X8_when_wsX8_when_r2 (List.mem_of_getElem? (i := 11) rfl)
theorem mx_X8_when_37 : Cond.methodLink RX8 158 yX8_isAtMill ∈ wsX8_when := mb_X8_when_wsX8_when_r2 (List.mem_of_getElem? (i := 12) rfl)
theorem mx_X8_when_38 : Cond.instanceMethod yX8_isAtMill ∈ wsX8_when := mb_X8_when_wsX8_when_r2 (List.mem_of_getElem? (i := 13) rfl)
theorem mx_X8_when_39 : Cond.selects RX8 yX8_isAtMill yX8_isAtMill ∈ wsX8_when := mb_X8_when_wsX8_when_r2 (List.mem_of_getElem? (i := 14) rfl)
theorem mx_X8_when_40 : Cond.code yX8_isAtMill cX8_isAtMill 3 (some .boolean) ∈ wsX8_when := mb_X8_when_wsX8_when_r2 (List.mem_of_getElem? (i := 15) rfl)
theorem ggX8_when_X8_oneHour : GoodIn wsX8_when wsX8_oneHour := goodIn_sub (by unfold wsX8_oneHour; exact List.forall_mem_cons.mpr ⟨mx_X8_when_21, List.forall_mem_append.mpr ⟨List.forall_mem_cons.mpr ⟨mx_X8_when_3, List.forall_mem_cons.mpr ⟨mx_X8_when_22, List.forall_mem_cons.mpr ⟨mx_X8_when_23, List.forall_mem_cons.mpr ⟨mx_X8_when_24, List.forall_mem_cons.mpr ⟨mx_X8_when_8, List.forall_mem_cons.mpr ⟨mx_X8_when_25, List.forall_mem_cons.mpr ⟨mx_X8_when_26, List.forall_mem_cons.mpr ⟨mx_X8_when_27, List.forall_mem_cons.mpr ⟨mx_X8_when_28, List.forall_mem_cons.mpr ⟨mx_X8_when_29, List.forall_mem_cons.mpr ⟨mx_X8_when_30, List.forall_mem_cons.mpr ⟨mx_X8_when_31, List.forall_mem_cons.mpr ⟨mx_X8_when_32, List.forall_mem_cons.mpr ⟨mx_X8_when_33, List.forall_mem_cons.mpr ⟨mx_X8_when_34, List.forall_mem_cons.mpr ⟨mx_X8_when_35, List.forall_mem_cons.mpr ⟨mx_X8_when_36, List.forall_mem_cons.mpr ⟨mx_X8_when_10, List.forall_mem_cons.mpr ⟨mx_X8_when_11, List.forall_mem_cons.mpr ⟨mx_X8_when_12, List.forall_mem_cons.mpr ⟨mx_X8_when_37, List.forall_mem_cons.mpr ⟨mx_X8_when_38, List.forall_mem_cons.mpr ⟨mx_X8_when_39, List.forall_mem_cons.mpr ⟨mx_X8_when_40, fun _ h_ => absurd h_ List.not_mem_nil⟩⟩⟩⟩⟩⟩⟩⟩⟩⟩⟩⟩⟩⟩⟩⟩⟩⟩⟩⟩⟩⟩⟩⟩, (fun _ h_ => mb_X8_when_wsX80 h_)⟩⟩) (by decide +kernel)
theorem mx_X8_when_18 : Cond.methodLink RX8 167 yX8_oneHour ∈ wsX8_when := mb_X8_when_wsX8_when_r1 (List.mem_of_getElem? (i := 17) rfl)
theorem mx_X8_when_19 : Cond.instanceMethod yX8_oneHour ∈ wsX8_when := mb_X8_when_wsX8_when_r1 (List.mem_of_getElem? (i := 18) rfl)
theorem mx_X8_when_20 : Cond.selects RX8 yX8_oneHour yX8_oneHour ∈ wsX8_when := mb_X8_when_wsX8_when_r1 (List.mem_of_getElem? (i := 19) rfl)
theorem gX8_when_X8_oneHour : GoodIn wsX8_when (wsV RX8 167 RX8 yX8_oneHour wsX8_oneHour) := goodIn_app (goodIn_sub (List.forall_mem_cons.mpr ⟨mx_X8_when_18, List.forall_mem_cons.mpr ⟨mx_X8_when_19, List.forall_mem_cons.mpr ⟨mx_X8_when_20, List.forall_mem_cons.mpr ⟨mx_X8_when_8, fun _ h_ => absurd h_ List.not_mem_nil⟩⟩⟩⟩) (by decide +kernel)) ggX8_when_X8_oneHour
theorem mx_X8_when_16 : Cond.code yX8_putAside cX8_putAside 2 none ∈ wsX8_when := mb_X8_when_wsX8_when_r1 (List.mem_of_getElem? (i := 15) rfl)
theorem mx_X8_when_17 : Cond.fieldLink RX8 34 "MillTalkModel" "aside" "[I" ∈ wsX8_when := mb_X8_when_wsX8_when_r1 (List.mem_of_getElem? (i := 16) rfl)
theorem ggX8_when_X8_putAside : GoodIn wsX8_when wsX8_putAside := goodIn_sub (by unfold wsX8_putAside; exact List.forall_mem_cons.mpr ⟨mx_X8_when_16, List.forall_mem_append.mpr ⟨List.forall_mem_cons.mpr ⟨mx_X8_when_17, List.forall_mem_cons.mpr ⟨mx_X8_when_3, fun _ h_ => absurd h_ List.not_mem_nil⟩⟩, (fun _ h_ => mb_X8_when_wsX80 h_)⟩⟩) (by decide +kernel)
theorem mx_X8_when_13 : Cond.methodLink RX8 197 yX8_putAside ∈ wsX8_when := mb_X8_when_wsX8_when_r1 (List.mem_of_getElem? (i := 12) rfl)
theorem mx_X8_when_14 : Cond.instanceMethod yX8_putAside ∈ wsX8_when := mb_X8_when_wsX8_when_r1 (List.mem_of_getElem? (i := 13) rfl)
theorem mx_X8_when_15 : Cond.selects RX8 yX8_putAside yX8_putAside ∈ wsX8_when := mb_X8_when_wsX8_when_r1 (List.mem_of_getElem? (i := 14) rfl)
theorem gX8_when_X8_putAside : GoodIn wsX8_when (wsV RX8 197 RX8 yX8_putAside wsX8_putAside) := goodIn_app (goodIn_sub (List.forall_mem_cons.mpr ⟨mx_X8_when_13, List.forall_mem_cons.mpr ⟨mx_X8_when_14, List.forall_mem_cons.mpr ⟨mx_X8_when_15, List.forall_mem_cons.mpr ⟨mx_X8_when_8, fun _ h_ => absurd h_ List.not_mem_nil⟩⟩⟩⟩) (by decide +kernel)) ggX8_when_X8_putAside
theorem mx_X8_when_44 : Cond.code yX8_takeBack cX8_takeBack 2 none ∈ wsX8_when := mb_X8_when_wsX8_when_r2 (List.mem_of_getElem? (i := 19) rfl)
theorem ggX8_when_X8_takeBack : GoodIn wsX8_when wsX8_takeBack := goodIn_sub (by unfold wsX8_takeBack; exact List.forall_mem_cons.mpr ⟨mx_X8_when_44, List.forall_mem_append.mpr ⟨List.forall_mem_cons.mpr ⟨mx_X8_when_3, List.forall_mem_cons.mpr ⟨mx_X8_when_17, fun _ h_ => absurd h_ List.not_mem_nil⟩⟩, (fun _ h_ => mb_X8_when_wsX80 h_)⟩⟩) (by decide +kernel)
theorem mx_X8_when_41 : Cond.methodLink RX8 194 yX8_takeBack ∈ wsX8_when := mb_X8_when_wsX8_when_r2 (List.mem_of_getElem? (i := 16) rfl)
theorem mx_X8_when_42 : Cond.instanceMethod yX8_takeBack ∈ wsX8_when := mb_X8_when_wsX8_when_r2 (List.mem_of_getElem? (i := 17) rfl)
theorem mx_X8_when_43 : Cond.selects RX8 yX8_takeBack yX8_takeBack ∈ wsX8_when := mb_X8_when_wsX8_when_r2 (List.mem_of_getElem? (i := 18) rfl)
theorem gX8_when_X8_takeBack : GoodIn wsX8_when (wsV RX8 194 RX8 yX8_takeBack wsX8_takeBack) := goodIn_app (goodIn_sub (List.forall_mem_cons.mpr ⟨mx_X8_when_41, List.forall_mem_cons.mpr ⟨mx_X8_when_42, List.forall_mem_cons.mpr ⟨mx_X8_when_43, List.forall_mem_cons.mpr ⟨mx_X8_when_8, fun _ h_ => absurd h_ List.not_mem_nil⟩⟩⟩⟩) (by decide +kernel)) ggX8_when_X8_takeBack
theorem i_X8_ahead_X8 : ∀ w ∈ u_ws RX8 TX8 24, w ∈ wsX8_ahead := fun _ h_ => mb_X8_ahead_wsX80 h_
theorem i_X8_caps_X8 : ∀ w ∈ u_ws RX8 TX8 24, w ∈ wsX8_caps := fun _ h_ => mb_X8_caps_wsX80 h_
theorem i_X8_goTurning_X8 : ∀ w ∈ u_ws RX8 TX8 24, w ∈ wsX8_goTurning := fun _ h_ => mb_X8_goTurning_wsX80 h_
theorem i_X8_gust_X8 : ∀ w ∈ u_ws RX8 TX8 24, w ∈ wsX8_gust := fun _ h_ => mb_X8_gust_wsX80 h_
theorem i_X8_had_X8 : ∀ w ∈ u_ws RX8 TX8 24, w ∈ wsX8_had := fun _ h_ => mb_X8_had_wsX80 h_
theorem i_X8_kind_X8 : ∀ w ∈ u_ws RX8 TX8 24, w ∈ wsX8_kind := fun _ h_ => mb_X8_kind_wsX80 h_
theorem i_X8_meal_X8 : ∀ w ∈ u_ws RX8 TX8 24, w ∈ wsX8_meal := fun _ h_ => mb_X8_meal_wsX80 h_
theorem i_X8_mealBehind_X8 : ∀ w ∈ u_ws RX8 TX8 24, w ∈ wsX8_mealBehind := fun _ h_ => mb_X8_mealBehind_wsX80 h_
theorem mb_X8_putAside_wsX80 {w : Cond} (h : w ∈ wsX80) : w ∈ wsX8_putAside := by unfold wsX8_putAside; exact List.mem_cons_of_mem _ (List.mem_append_right _ (h))
theorem i_X8_putAside_X8 : ∀ w ∈ u_ws RX8 TX8 24, w ∈ wsX8_putAside := fun _ h_ => mb_X8_putAside_wsX80 h_
theorem i_X8_sack_X8 : ∀ w ∈ u_ws RX8 TX8 24, w ∈ wsX8_sack := fun _ h_ => mb_X8_sack_wsX80 h_
theorem i_X8_site_X8 : ∀ w ∈ u_ws RX8 TX8 24, w ∈ wsX8_site := fun _ h_ => mb_X8_site_wsX80 h_
theorem i_X8_sound_X8 : ∀ w ∈ u_ws RX8 TX8 24, w ∈ wsX8_sound := fun _ h_ => mb_X8_sound_wsX80 h_
theorem i_X8_stand_X8 : ∀ w ∈ u_ws RX8 TX8 24, w ∈ wsX8_stand := fun _ h_ => mb_X8_stand_wsX80 h_
theorem mb_X8_takeBack_wsX80 {w : Cond} (h : w ∈ wsX80) : w ∈ wsX8_takeBack := by unfold wsX8_takeBack; exact List.mem_cons_of_mem _ (List.mem_append_right _ (h))
theorem i_X8_takeBack_X8 : ∀ w ∈ u_ws RX8 TX8 24, w ∈ wsX8_takeBack := fun _ h_ => mb_X8_takeBack_wsX80 h_
theorem i_X8_when_X8 : ∀ w ∈ u_ws RX8 TX8 24, w ∈ wsX8_when := fun _ h_ => mb_X8_when_wsX80 h_
theorem mx_X8_putAside_1 : Cond.fieldLink RX8 34 "MillTalkModel" "aside" "[I" ∈ wsX8_putAside := by unfold wsX8_putAside; exact List.mem_cons_of_mem _ (List.mem_append_left _ (List.mem_of_getElem? (i := 0) rfl))
theorem mx_X8_putAside_2 : Cond.fieldLink RX8 19 "MillTalkModel" "st" "[I" ∈ wsX8_putAside := by unfold wsX8_putAside; exact List.mem_cons_of_mem _ (List.mem_append_left _ (List.mem_of_getElem? (i := 1) rfl))
theorem mx_X8_takeBack_1 : Cond.fieldLink RX8 19 "MillTalkModel" "st" "[I" ∈ wsX8_takeBack := by unfold wsX8_takeBack; exact List.mem_cons_of_mem _ (List.mem_append_left _ (List.mem_of_getElem? (i := 0) rfl))
theorem mx_X8_takeBack_2 : Cond.fieldLink RX8 34 "MillTalkModel" "aside" "[I" ∈ wsX8_takeBack := by unfold wsX8_takeBack; exact List.mem_cons_of_mem _ (List.mem_append_left _ (List.mem_of_getElem? (i := 1) rfl))
theorem mx_X8_ahead_3 : Cond.constant RX8 67 (-1000001) ∈ wsX8_ahead := mb_X8_ahead_wsX8_ahead_r1 (List.mem_of_getElem? (i := 2) rfl)
theorem mx_X8_ahead_1 : Cond.constantLong RX8 188 (60) ∈ wsX8_ahead := mb_X8_ahead_wsX8_ahead_r1 (List.mem_of_getElem? (i := 0) rfl)
theorem mx_X8_ahead_2 : Cond.constantLong RX8 65 (2) ∈ wsX8_ahead := mb_X8_ahead_wsX8_ahead_r1 (List.mem_of_getElem? (i := 1) rfl)
theorem mx_X8_ahead_5 : Cond.constant RX8 187 (-1000000) ∈ wsX8_ahead := mb_X8_ahead_wsX8_ahead_r1 (List.mem_of_getElem? (i := 4) rfl)
theorem mx_X8_meal_1 : Cond.fieldLink RX8 138 "MillTalkModel" "isThere" "Z" ∈ wsX8_meal := mb_X8_meal_wsX8_meal_r1 (List.mem_of_getElem? (i := 0) rfl)
theorem mx_X8_meal_3 : Cond.constantLong RX8 188 (60) ∈ wsX8_meal := mb_X8_meal_wsX8_meal_r1 (List.mem_of_getElem? (i := 2) rfl)
theorem mx_X8_meal_4 : Cond.constant RX8 67 (-1000001) ∈ wsX8_meal := mb_X8_meal_wsX8_meal_r1 (List.mem_of_getElem? (i := 3) rfl)
theorem mx_X8_meal_2 : Cond.constant RX8 161 (-1000002) ∈ wsX8_meal := mb_X8_meal_wsX8_meal_r1 (List.mem_of_getElem? (i := 1) rfl)
theorem mx_X8_when_2 : Cond.constant RX8 67 (-1000001) ∈ wsX8_when := mb_X8_when_wsX8_when_r1 (List.mem_of_getElem? (i := 1) rfl)
theorem mx_X8_when_1 : Cond.constantLong RX8 65 (2) ∈ wsX8_when := mb_X8_when_wsX8_when_r1 (List.mem_of_getElem? (i := 0) rfl)
theorem mx_X8_when_4 : Cond.constant RX8 187 (-1000000) ∈ wsX8_when := mb_X8_when_wsX8_when_r1 (List.mem_of_getElem? (i := 3) rfl)
theorem mx_X8_sound_1 : Cond.constant RX8 67 (-1000001) ∈ wsX8_sound := by unfold wsX8_sound; exact List.mem_cons_of_mem _ (List.mem_append_left _ (List.mem_of_getElem? (i := 0) rfl))
theorem mx_X8_sound_3 : Cond.constant RX8 187 (-1000000) ∈ wsX8_sound := by unfold wsX8_sound; exact List.mem_cons_of_mem _ (List.mem_append_left _ (List.mem_of_getElem? (i := 2) rfl))
theorem mx_X8_stand_1 : Cond.fieldLink RX8 138 "MillTalkModel" "isThere" "Z" ∈ wsX8_stand := by unfold wsX8_stand; exact List.mem_cons_of_mem _ (List.mem_append_left _ (List.mem_of_getElem? (i := 0) rfl))
theorem mx_X8_stand_4 : Cond.constant RX8 67 (-1000001) ∈ wsX8_stand := by unfold wsX8_stand; exact List.mem_cons_of_mem _ (List.mem_append_left _ (List.mem_of_getElem? (i := 3) rfl))
theorem mx_X8_stand_2 : Cond.constant RX8 161 (-1000002) ∈ wsX8_stand := by unfold wsX8_stand; exact List.mem_cons_of_mem _ (List.mem_append_left _ (List.mem_of_getElem? (i := 1) rfl))
theorem mx_X8_gust_1 : Cond.fieldLink RX8 138 "MillTalkModel" "isThere" "Z" ∈ wsX8_gust := by unfold wsX8_gust; exact List.mem_cons_of_mem _ (List.mem_append_left _ (List.mem_of_getElem? (i := 0) rfl))
theorem mx_X8_gust_3 : Cond.constantLong RX8 188 (60) ∈ wsX8_gust := by unfold wsX8_gust; exact List.mem_cons_of_mem _ (List.mem_append_left _ (List.mem_of_getElem? (i := 2) rfl))
theorem mx_X8_gust_5 : Cond.constant RX8 67 (-1000001) ∈ wsX8_gust := by unfold wsX8_gust; exact List.mem_cons_of_mem _ (List.mem_append_left _ (List.mem_of_getElem? (i := 4) rfl))
theorem mx_X8_gust_2 : Cond.constant RX8 161 (-1000002) ∈ wsX8_gust := by unfold wsX8_gust; exact List.mem_cons_of_mem _ (List.mem_append_left _ (List.mem_of_getElem? (i := 1) rfl))
theorem mx_X8_kind_2 : Cond.constant RX8 67 (-1000001) ∈ wsX8_kind := by unfold wsX8_kind; exact List.mem_cons_of_mem _ (List.mem_append_left _ (List.mem_of_getElem? (i := 1) rfl))
theorem mx_X8_caps_1 : Cond.fieldLink RX8 138 "MillTalkModel" "isThere" "Z" ∈ wsX8_caps := mb_X8_caps_wsX8_caps_r1 (List.mem_of_getElem? (i := 0) rfl)
theorem mx_X8_caps_3 : Cond.constantLong RX8 203 (8) ∈ wsX8_caps := mb_X8_caps_wsX8_caps_r1 (List.mem_of_getElem? (i := 2) rfl)
theorem mx_X8_caps_4 : Cond.constant RX8 67 (-1000001) ∈ wsX8_caps := mb_X8_caps_wsX8_caps_r1 (List.mem_of_getElem? (i := 3) rfl)
theorem mx_X8_caps_6 : Cond.constant RX8 187 (-1000000) ∈ wsX8_caps := mb_X8_caps_wsX8_caps_r1 (List.mem_of_getElem? (i := 5) rfl)
theorem mx_X8_caps_2 : Cond.constant RX8 161 (-1000002) ∈ wsX8_caps := mb_X8_caps_wsX8_caps_r1 (List.mem_of_getElem? (i := 1) rfl)
theorem mx_X8_had_1 : Cond.fieldLink RX8 138 "MillTalkModel" "isThere" "Z" ∈ wsX8_had := mb_X8_had_wsX8_had_r1 (List.mem_of_getElem? (i := 0) rfl)
theorem mx_X8_had_5 : Cond.constant RX8 67 (-1000001) ∈ wsX8_had := mb_X8_had_wsX8_had_r1 (List.mem_of_getElem? (i := 4) rfl)
theorem mx_X8_had_4 : Cond.constantLong RX8 203 (8) ∈ wsX8_had := mb_X8_had_wsX8_had_r1 (List.mem_of_getElem? (i := 3) rfl)
theorem mx_X8_had_6 : Cond.constant RX8 187 (-1000000) ∈ wsX8_had := mb_X8_had_wsX8_had_r1 (List.mem_of_getElem? (i := 5) rfl)
theorem mx_X8_had_2 : Cond.constant RX8 161 (-1000002) ∈ wsX8_had := mb_X8_had_wsX8_had_r1 (List.mem_of_getElem? (i := 1) rfl)
theorem mx_X8_site_1 : Cond.fieldLink RX8 138 "MillTalkModel" "isThere" "Z" ∈ wsX8_site := mb_X8_site_wsX8_site_r1 (List.mem_of_getElem? (i := 0) rfl)
theorem mx_X8_site_3 : Cond.constantLong RX8 208 (30) ∈ wsX8_site := mb_X8_site_wsX8_site_r1 (List.mem_of_getElem? (i := 2) rfl)
theorem mx_X8_site_4 : Cond.constant RX8 67 (-1000001) ∈ wsX8_site := mb_X8_site_wsX8_site_r1 (List.mem_of_getElem? (i := 3) rfl)
theorem mx_X8_site_2 : Cond.constant RX8 161 (-1000002) ∈ wsX8_site := mb_X8_site_wsX8_site_r1 (List.mem_of_getElem? (i := 1) rfl)
theorem mx_X8_sack_1 : Cond.fieldLink RX8 138 "MillTalkModel" "isThere" "Z" ∈ wsX8_sack := by unfold wsX8_sack; exact List.mem_cons_of_mem _ (List.mem_append_left _ (List.mem_of_getElem? (i := 0) rfl))
theorem mx_X8_sack_3 : Cond.constantLong RX8 217 (120) ∈ wsX8_sack := by unfold wsX8_sack; exact List.mem_cons_of_mem _ (List.mem_append_left _ (List.mem_of_getElem? (i := 2) rfl))
theorem mx_X8_sack_5 : Cond.constant RX8 67 (-1000001) ∈ wsX8_sack := by unfold wsX8_sack; exact List.mem_cons_of_mem _ (List.mem_append_left _ (List.mem_of_getElem? (i := 4) rfl))
theorem mx_X8_sack_4 : Cond.constantLong RX8 65 (2) ∈ wsX8_sack := by unfold wsX8_sack; exact List.mem_cons_of_mem _ (List.mem_append_left _ (List.mem_of_getElem? (i := 3) rfl))
theorem mx_X8_sack_2 : Cond.constant RX8 161 (-1000002) ∈ wsX8_sack := by unfold wsX8_sack; exact List.mem_cons_of_mem _ (List.mem_append_left _ (List.mem_of_getElem? (i := 1) rfl))
