theorem lf_X3_isTold_1 {v0 : Int32} {hh : Nat} {ww : Nat} {kk : Nat} (hhb : hh < 2000000000) (hww : ww ≤ 6) (hkk : kk ≤ 6) (c_1 : v0 ≤ 0) : ¬ 0 < v0 := by
  grind
theorem lf_X3_isTold_2 {v0 : Int32} {hh : Nat} {ww : Nat} {kk : Nat} (hhb : hh < 2000000000) (hww : ww ≤ 6) (hkk : kk ≤ 6) (c_1 : ¬ (v0 ≤ 0)) : 0 < v0 := by
  grind
set_option maxHeartbeats 4000000 in
set_option maxRecDepth 100000 in
theorem r_X3_isTold (l : Launch) (dC : Nat → ClassId) (dI : Nat → Nat → Nat) (cI cZ cL cJ : ClassId) (h : Nat) (v0 : Int32) (v1 : Int32) (v2 : Int32) (v3 : Int32) (v5 : Int32) (hh : Nat) (ww : Nat) (kk : Nat) (b1 : Nat) (b2 : Nat) (b3 : Nat) (b4 : Nat) (b5 : Nat) (g1 : Nat → Int32) (g2 : Nat → Int32) (g3 : Nat → Int32) (g4 : Nat → Int32) (g5 : Nat → Int32) (hhb : hh < 2000000000) (hww : ww ≤ 6) (hkk : kk ≤ 6) : Met l yX3_isTold wsX3_isTold ({ frames := 0, cells := 0, slots := 0, locals := 0 }) (va_Pc [.ref h] (fun U => va_P (dC, dI) vwCl [(xo_3_iiiiiiiirrrrr h v0 v1 v2 v3 (nI hh) v5 (nI ww) (nI kk) b1 b2 b3 b4 b5), (xI b1 cI 6 g1), (xI b2 cI 6 g2), (xI b3 cI 6 g3), (xI b4 cI 6 g4), (xI b5 cI 6 g5)] U.heap ∧ va_K (dC, dI) vwCl [(cI, .int), (cZ, .boolean), (cL, .object RX3), (cJ, .array .int)] U)) (vp_Si (fun r => (r = 0 ∧ ¬ 0 < v0) ∨ (r = 1 ∧ 0 < v0))) 0 0 (fun _ => False) := by
  refine Met.ofW (cc := cX3_isTold) (maxL := 1) (ret := (some .boolean)) (by decide) rfl ?_
  intro p e s m args below meth c s₁ B hml hv
  obtain ⟨rfl, hP, hK⟩ := hv
  have hx := B.exec
  have hb := B.bytes
  have hr := B.returns
  have hts := atoms_spec (ws := wsX3_isTold) B.pre
  have hown : s.vm.findClass RX3 = some m.cls := findClass_of_methodNamed B.named
  have hlocks := B.notSynchronized
  have hP : va_P (dC, dI) vwCl [(xo_3_iiiiiiiirrrrr h v0 v1 v2 v3 (nI hh) v5 (nI ww) (nI kk) b1 b2 b3 b4 b5), (xI b1 cI 6 g1), (xI b2 cI 6 g2), (xI b3 cI 6 g3), (xI b4 cI 6 g4), (xI b5 cI 6 g5)] s.heap := hP
  have hl := lv_entry ([.ref h]) (n := 1) (Nat.le_of_ble_eq_true rfl)
  rw [lg_entry_eq]
  generalize (lg_sl ([.ref h]) ++ List.replicate (1 - (lg_sl ([.ref h])).length) Slot.unset).toArray = ls at hl ⊢
  have hl : lv_has ls 1 [(0, .ref h)] := hl
  refine lv_aload_n hx hb dX3_isTold_0 rfl (lv_at hl 0 rfl) ?_
  refine va_get (D := (dC, dI)) (ci := 3) (v := .int v0) (C := RX3) (T := TX3) (N := 13) hx hb hts i_X3_isTold_X3 hown hK hP 0 rfl rfl 0 (by decide) (hts _ mx_X3_isTold_1) (fun _ h9 => h9) rfl dX3_isTold_1 ?_
  refine lv_if_le (tgt := 11) hx hb dX3_isTold_4 (by decide) (fun c_1 => ?_) (fun c_1 => ?_)
  · skip
    refine lv_iconst (v := 0) hx hb dX3_isTold_11 (by decide) ?_
    exact W.zret (v := 0) hx hb hr (by decide) (fun t ht hW => ⟨0, rfl, Or.inl (⟨rfl, (lf_X3_isTold_1 hhb hww hkk c_1)⟩), ht⟩) (fun _ h => by cases h) dX3_isTold_12
  · skip
    refine lv_iconst (v := 1) hx hb dX3_isTold_7 (by decide) ?_
    refine lv_goto (tgt := 12) hx hb dX3_isTold_8 (by decide) ?_
    exact W.zret (v := 1) hx hb hr (by decide) (fun t ht hW => ⟨1, rfl, Or.inr (⟨rfl, (lf_X3_isTold_2 hhb hww hkk c_1)⟩), ht⟩) (fun _ h => by cases h) dX3_isTold_12
theorem lf_X3_hasCell_1 {v0 : Int32} {hh : Nat} {ww : Nat} {kk : Nat} {n : Int32} (hhb : hh < 2000000000) (hww : ww ≤ 6) (hkk : kk ≤ 6) (c_1 : n < 0) : (n < 0 ∨ v0 ≤ n) := by
  grind
theorem lf_X3_hasCell_2 {v0 : Int32} {hh : Nat} {ww : Nat} {kk : Nat} {n : Int32} (hhb : hh < 2000000000) (hww : ww ≤ 6) (hkk : kk ≤ 6) (c_1 : ¬ (n < 0)) (c_2 : v0 ≤ n) : (n < 0 ∨ v0 ≤ n) := by
  grind
theorem lf_X3_hasCell_3 {v0 : Int32} {hh : Nat} {ww : Nat} {kk : Nat} {n : Int32} (hhb : hh < 2000000000) (hww : ww ≤ 6) (hkk : kk ≤ 6) (c_1 : ¬ (n < 0)) (c_2 : ¬ (v0 ≤ n)) : ¬ n < 0 := by
  grind
theorem lf_X3_hasCell_4 {v0 : Int32} {hh : Nat} {ww : Nat} {kk : Nat} {n : Int32} (hhb : hh < 2000000000) (hww : ww ≤ 6) (hkk : kk ≤ 6) (c_1 : ¬ (n < 0)) (c_2 : ¬ (v0 ≤ n)) : ¬ v0 ≤ n := by
  grind
set_option maxHeartbeats 4000000 in
set_option maxRecDepth 100000 in
theorem r_X3_hasCell (l : Launch) (dC : Nat → ClassId) (dI : Nat → Nat → Nat) (cI cZ cL cJ : ClassId) (h : Nat) (v0 : Int32) (v1 : Int32) (v2 : Int32) (v3 : Int32) (v5 : Int32) (hh : Nat) (ww : Nat) (kk : Nat) (b1 : Nat) (b2 : Nat) (b3 : Nat) (b4 : Nat) (b5 : Nat) (g1 : Nat → Int32) (g2 : Nat → Int32) (g3 : Nat → Int32) (g4 : Nat → Int32) (g5 : Nat → Int32) (n : Int32) (hhb : hh < 2000000000) (hww : ww ≤ 6) (hkk : kk ≤ 6) : Met l yX3_hasCell wsX3_hasCell ({ frames := 0, cells := 0, slots := 0, locals := 0 }) (va_Pc [.ref h, .int n] (fun U => va_P (dC, dI) vwCl [(xo_3_iiiiiiiirrrrr h v0 v1 v2 v3 (nI hh) v5 (nI ww) (nI kk) b1 b2 b3 b4 b5), (xI b1 cI 6 g1), (xI b2 cI 6 g2), (xI b3 cI 6 g3), (xI b4 cI 6 g4), (xI b5 cI 6 g5)] U.heap ∧ va_K (dC, dI) vwCl [(cI, .int), (cZ, .boolean), (cL, .object RX3), (cJ, .array .int)] U)) (vp_Si (fun r => (r = 0 ∧ (n < 0 ∨ v0 ≤ n)) ∨ (r = 1 ∧ ¬ n < 0 ∧ ¬ v0 ≤ n))) 0 0 (fun _ => False) := by
  refine Met.ofW (cc := cX3_hasCell) (maxL := 2) (ret := (some .boolean)) (by decide) rfl ?_
  intro p e s m args below meth c s₁ B hml hv
  obtain ⟨rfl, hP, hK⟩ := hv
  have hx := B.exec
  have hb := B.bytes
  have hr := B.returns
  have hts := atoms_spec (ws := wsX3_hasCell) B.pre
  have hown : s.vm.findClass RX3 = some m.cls := findClass_of_methodNamed B.named
  have hlocks := B.notSynchronized
  have hP : va_P (dC, dI) vwCl [(xo_3_iiiiiiiirrrrr h v0 v1 v2 v3 (nI hh) v5 (nI ww) (nI kk) b1 b2 b3 b4 b5), (xI b1 cI 6 g1), (xI b2 cI 6 g2), (xI b3 cI 6 g3), (xI b4 cI 6 g4), (xI b5 cI 6 g5)] s.heap := hP
  have hl := lv_entry ([.ref h, .int n]) (n := 2) (Nat.le_of_ble_eq_true rfl)
  rw [lg_entry_eq]
  generalize (lg_sl ([.ref h, .int n]) ++ List.replicate (2 - (lg_sl ([.ref h, .int n])).length) Slot.unset).toArray = ls at hl ⊢
  have hl : lv_has ls 2 [(0, .ref h), (1, .int n)] := hl
  refine lv_iload_n hx hb dX3_hasCell_0 rfl (lv_at hl 1 rfl) ?_
  refine lv_if_lt (tgt := 16) hx hb dX3_hasCell_1 (by decide) (fun c_1 => ?_) (fun c_1 => ?_)
  · skip
    refine lv_iconst (v := 0) hx hb dX3_hasCell_16 (by decide) ?_
    exact W.zret (v := 0) hx hb hr (by decide) (fun t ht hW => ⟨0, rfl, Or.inl (⟨rfl, (lf_X3_hasCell_1 hhb hww hkk c_1)⟩), ht⟩) (fun _ h => by cases h) dX3_hasCell_17
  · skip
    refine lv_iload_n hx hb dX3_hasCell_4 rfl (lv_at hl 1 rfl) ?_
    refine lv_aload_n hx hb dX3_hasCell_5 rfl (lv_at hl 0 rfl) ?_
    refine va_get (D := (dC, dI)) (ci := 3) (v := .int v0) (C := RX3) (T := TX3) (N := 13) hx hb hts i_X3_hasCell_X3 hown hK hP 0 rfl rfl 0 (by decide) (hts _ mx_X3_hasCell_1) (fun _ h9 => h9) rfl dX3_hasCell_6 ?_
    refine lv_icmp_ge (tgt := 16) hx hb dX3_hasCell_9 (by decide) (fun c_2 => ?_) (fun c_2 => ?_)
    · skip
      refine lv_iconst (v := 0) hx hb dX3_hasCell_16 (by decide) ?_
      exact W.zret (v := 0) hx hb hr (by decide) (fun t ht hW => ⟨0, rfl, Or.inl (⟨rfl, (lf_X3_hasCell_2 hhb hww hkk c_1 c_2)⟩), ht⟩) (fun _ h => by cases h) dX3_hasCell_17
    · skip
      refine lv_iconst (v := 1) hx hb dX3_hasCell_12 (by decide) ?_
      refine lv_goto (tgt := 17) hx hb dX3_hasCell_13 (by decide) ?_
      exact W.zret (v := 1) hx hb hr (by decide) (fun t ht hW => ⟨1, rfl, Or.inr (⟨rfl, (lf_X3_hasCell_3 hhb hww hkk c_1 c_2), (lf_X3_hasCell_4 hhb hww hkk c_1 c_2)⟩), ht⟩) (fun _ h => by cases h) dX3_hasCell_17
theorem lf_X3_hasSound_1 {hh : Nat} {ww : Nat} {kk : Nat} {n : Int32} (hhb : hh < 2000000000) (hww : ww ≤ 6) (hkk : kk ≤ 6) (c_1 : n < 0) : (n < 0 ∨ (nI kk) ≤ n) := by
  grind
theorem lf_X3_hasSound_2 {hh : Nat} {ww : Nat} {kk : Nat} {n : Int32} (hhb : hh < 2000000000) (hww : ww ≤ 6) (hkk : kk ≤ 6) (c_1 : ¬ (n < 0)) (c_2 : (nI kk) ≤ n) : (n < 0 ∨ (nI kk) ≤ n) := by
  grind
set_option maxHeartbeats 4000000 in
set_option maxRecDepth 100000 in
theorem r_X3_hasSound (l : Launch) (dC : Nat → ClassId) (dI : Nat → Nat → Nat) (cI cZ cL cJ : ClassId) (h : Nat) (v0 : Int32) (v1 : Int32) (v2 : Int32) (v3 : Int32) (v5 : Int32) (hh : Nat) (ww : Nat) (kk : Nat) (b1 : Nat) (b2 : Nat) (b3 : Nat) (b4 : Nat) (b5 : Nat) (g1 : Nat → Int32) (g2 : Nat → Int32) (g3 : Nat → Int32) (g4 : Nat → Int32) (g5 : Nat → Int32) (n : Int32) (hhb : hh < 2000000000) (hww : ww ≤ 6) (hkk : kk ≤ 6) : Met l yX3_hasSound wsX3_hasSound ({ frames := 0, cells := 0, slots := 0, locals := 0 }) (va_Pc [.ref h, .int n] (fun U => va_P (dC, dI) vwCl [(xo_3_iiiiiiiirrrrr h v0 v1 v2 v3 (nI hh) v5 (nI ww) (nI kk) b1 b2 b3 b4 b5), (xI b1 cI 6 g1), (xI b2 cI 6 g2), (xI b3 cI 6 g3), (xI b4 cI 6 g4), (xI b5 cI 6 g5)] U.heap ∧ va_K (dC, dI) vwCl [(cI, .int), (cZ, .boolean), (cL, .object RX3), (cJ, .array .int)] U)) (vp_Si (fun r => (r = 0 ∧ (n < 0 ∨ (nI kk) ≤ n)) ∨ (r = 1 ∧ vp_in n kk))) 0 0 (fun _ => False) := by
  refine Met.ofW (cc := cX3_hasSound) (maxL := 2) (ret := (some .boolean)) (by decide) rfl ?_
  intro p e s m args below meth c s₁ B hml hv
  obtain ⟨rfl, hP, hK⟩ := hv
  have hx := B.exec
  have hb := B.bytes
  have hr := B.returns
  have hts := atoms_spec (ws := wsX3_hasSound) B.pre
  have hown : s.vm.findClass RX3 = some m.cls := findClass_of_methodNamed B.named
  have hlocks := B.notSynchronized
  have hP : va_P (dC, dI) vwCl [(xo_3_iiiiiiiirrrrr h v0 v1 v2 v3 (nI hh) v5 (nI ww) (nI kk) b1 b2 b3 b4 b5), (xI b1 cI 6 g1), (xI b2 cI 6 g2), (xI b3 cI 6 g3), (xI b4 cI 6 g4), (xI b5 cI 6 g5)] s.heap := hP
  have hl := lv_entry ([.ref h, .int n]) (n := 2) (Nat.le_of_ble_eq_true rfl)
  rw [lg_entry_eq]
  generalize (lg_sl ([.ref h, .int n]) ++ List.replicate (2 - (lg_sl ([.ref h, .int n])).length) Slot.unset).toArray = ls at hl ⊢
  have hl : lv_has ls 2 [(0, .ref h), (1, .int n)] := hl
  refine lv_iload_n hx hb dX3_hasSound_0 rfl (lv_at hl 1 rfl) ?_
  refine lv_if_lt (tgt := 16) hx hb dX3_hasSound_1 (by decide) (fun c_1 => ?_) (fun c_1 => ?_)
  · skip
    refine lv_iconst (v := 0) hx hb dX3_hasSound_16 (by decide) ?_
    exact W.zret (v := 0) hx hb hr (by decide) (fun t ht hW => ⟨0, rfl, Or.inl (⟨rfl, (lf_X3_hasSound_1 hhb hww hkk c_1)⟩), ht⟩) (fun _ h => by cases h) dX3_hasSound_17
  · skip
    refine lv_iload_n hx hb dX3_hasSound_4 rfl (lv_at hl 1 rfl) ?_
    refine lv_aload_n hx hb dX3_hasSound_5 rfl (lv_at hl 0 rfl) ?_
    refine va_get (D := (dC, dI)) (ci := 3) (v := .int (nI kk)) (C := RX3) (T := TX3) (N := 13) hx hb hts i_X3_hasSound_X3 hown hK hP 0 rfl rfl 7 (by decide) (hts _ mx_X3_hasSound_1) (fun _ h9 => h9) rfl dX3_hasSound_6 ?_
    refine lv_icmp_ge (tgt := 16) hx hb dX3_hasSound_9 (by decide) (fun c_2 => ?_) (fun c_2 => ?_)
    · skip
      refine lv_iconst (v := 0) hx hb dX3_hasSound_16 (by decide) ?_
      exact W.zret (v := 0) hx hb hr (by decide) (fun t ht hW => ⟨0, rfl, Or.inl (⟨rfl, (lf_X3_hasSound_2 hhb hww hkk c_1 c_2)⟩), ht⟩) (fun _ h => by cases h) dX3_hasSound_17
    · skip
      refine lv_iconst (v := 1) hx hb dX3_hasSound_12 (by decide) ?_
      refine lv_goto (tgt := 17) hx hb dX3_hasSound_13 (by decide) ?_
      exact W.zret (v := 1) hx hb hr (by decide) (fun t ht hW => ⟨1, rfl, Or.inr (⟨rfl, (in_of c_1 c_2 (by omega))⟩), ht⟩) (fun _ h => by cases h) dX3_hasSound_17
theorem lf_X3_hasWind_1 {hh : Nat} {ww : Nat} {kk : Nat} {n : Int32} (hhb : hh < 2000000000) (hww : ww ≤ 6) (hkk : kk ≤ 6) (c_1 : n < 0) : (n < 0 ∨ (nI ww) ≤ n) := by
  grind
theorem lf_X3_hasWind_2 {hh : Nat} {ww : Nat} {kk : Nat} {n : Int32} (hhb : hh < 2000000000) (hww : ww ≤ 6) (hkk : kk ≤ 6) (c_1 : ¬ (n < 0)) (c_2 : (nI ww) ≤ n) : (n < 0 ∨ (nI ww) ≤ n) := by
  grind
set_option maxHeartbeats 4000000 in
set_option maxRecDepth 100000 in
theorem r_X3_hasWind (l : Launch) (dC : Nat → ClassId) (dI : Nat → Nat → Nat) (cI cZ cL cJ : ClassId) (h : Nat) (v0 : Int32) (v1 : Int32) (v2 : Int32) (v3 : Int32) (v5 : Int32) (hh : Nat) (ww : Nat) (kk : Nat) (b1 : Nat) (b2 : Nat) (b3 : Nat) (b4 : Nat) (b5 : Nat) (g1 : Nat → Int32) (g2 : Nat → Int32) (g3 : Nat → Int32) (g4 : Nat → Int32) (g5 : Nat → Int32) (n : Int32) (hhb : hh < 2000000000) (hww : ww ≤ 6) (hkk : kk ≤ 6) : Met l yX3_hasWind wsX3_hasWind ({ frames := 0, cells := 0, slots := 0, locals := 0 }) (va_Pc [.ref h, .int n] (fun U => va_P (dC, dI) vwCl [(xo_3_iiiiiiiirrrrr h v0 v1 v2 v3 (nI hh) v5 (nI ww) (nI kk) b1 b2 b3 b4 b5), (xI b1 cI 6 g1), (xI b2 cI 6 g2), (xI b3 cI 6 g3), (xI b4 cI 6 g4), (xI b5 cI 6 g5)] U.heap ∧ va_K (dC, dI) vwCl [(cI, .int), (cZ, .boolean), (cL, .object RX3), (cJ, .array .int)] U)) (vp_Si (fun r => (r = 0 ∧ (n < 0 ∨ (nI ww) ≤ n)) ∨ (r = 1 ∧ vp_in n ww))) 0 0 (fun _ => False) := by
  refine Met.ofW (cc := cX3_hasWind) (maxL := 2) (ret := (some .boolean)) (by decide) rfl ?_
  intro p e s m args below meth c s₁ B hml hv
  obtain ⟨rfl, hP, hK⟩ := hv
  have hx := B.exec
  have hb := B.bytes
  have hr := B.returns
  have hts := atoms_spec (ws := wsX3_hasWind) B.pre
  have hown : s.vm.findClass RX3 = some m.cls := findClass_of_methodNamed B.named
  have hlocks := B.notSynchronized
  have hP : va_P (dC, dI) vwCl [(xo_3_iiiiiiiirrrrr h v0 v1 v2 v3 (nI hh) v5 (nI ww) (nI kk) b1 b2 b3 b4 b5), (xI b1 cI 6 g1), (xI b2 cI 6 g2), (xI b3 cI 6 g3), (xI b4 cI 6 g4), (xI b5 cI 6 g5)] s.heap := hP
  have hl := lv_entry ([.ref h, .int n]) (n := 2) (Nat.le_of_ble_eq_true rfl)
  rw [lg_entry_eq]
  generalize (lg_sl ([.ref h, .int n]) ++ List.replicate (2 - (lg_sl ([.ref h, .int n])).length) Slot.unset).toArray = ls at hl ⊢
  have hl : lv_has ls 2 [(0, .ref h), (1, .int n)] := hl
  refine lv_iload_n hx hb dX3_hasWind_0 rfl (lv_at hl 1 rfl) ?_
  refine lv_if_lt (tgt := 16) hx hb dX3_hasWind_1 (by decide) (fun c_1 => ?_) (fun c_1 => ?_)
  · skip
    refine lv_iconst (v := 0) hx hb dX3_hasWind_16 (by decide) ?_
    exact W.zret (v := 0) hx hb hr (by decide) (fun t ht hW => ⟨0, rfl, Or.inl (⟨rfl, (lf_X3_hasWind_1 hhb hww hkk c_1)⟩), ht⟩) (fun _ h => by cases h) dX3_hasWind_17
  · skip
    refine lv_iload_n hx hb dX3_hasWind_4 rfl (lv_at hl 1 rfl) ?_
    refine lv_aload_n hx hb dX3_hasWind_5 rfl (lv_at hl 0 rfl) ?_
    refine va_get (D := (dC, dI)) (ci := 3) (v := .int (nI ww)) (C := RX3) (T := TX3) (N := 13) hx hb hts i_X3_hasWind_X3 hown hK hP 0 rfl rfl 6 (by decide) (hts _ mx_X3_hasWind_1) (fun _ h9 => h9) rfl dX3_hasWind_6 ?_
    refine lv_icmp_ge (tgt := 16) hx hb dX3_hasWind_9 (by decide) (fun c_2 => ?_) (fun c_2 => ?_)
    · skip
      refine lv_iconst (v := 0) hx hb dX3_hasWind_16 (by decide) ?_
      exact W.zret (v := 0) hx hb hr (by decide) (fun t ht hW => ⟨0, rfl, Or.inl (⟨rfl, (lf_X3_hasWind_2 hhb hww hkk c_1 c_2)⟩), ht⟩) (fun _ h => by cases h) dX3_hasWind_17
    · skip
      refine lv_iconst (v := 1) hx hb dX3_hasWind_12 (by decide) ?_
      refine lv_goto (tgt := 17) hx hb dX3_hasWind_13 (by decide) ?_
      exact W.zret (v := 1) hx hb hr (by decide) (fun t ht hW => ⟨1, rfl, Or.inr (⟨rfl, (in_of c_1 c_2 (by omega))⟩), ht⟩) (fun _ h => by cases h) dX3_hasWind_17
theorem lf_X3_isLoose_1 {hh : Nat} {ww : Nat} {kk : Nat} {g5 : Nat → Int32} {i : Nat} {v_1 : Int32} (hhb : hh < 2000000000) (hww : ww ≤ 6) (hkk : kk ≤ 6) (hi : i < 6) (e_1 : v_1 = g5 i) (c_2 : ¬ (v_1 = 0)) : ¬ g5 i = 0 := by
  grind
theorem lf_X3_isLoose_2 {hh : Nat} {ww : Nat} {kk : Nat} {g5 : Nat → Int32} {i : Nat} {v_1 : Int32} (hhb : hh < 2000000000) (hww : ww ≤ 6) (hkk : kk ≤ 6) (hi : i < 6) (e_1 : v_1 = g5 i) (c_2 : v_1 = 0) : g5 i = 0 := by
  grind
set_option maxHeartbeats 4000000 in
set_option maxRecDepth 100000 in
theorem r_X3_isLoose (l : Launch) (dC : Nat → ClassId) (dI : Nat → Nat → Nat) (cI cZ cL cJ : ClassId) (h : Nat) (v0 : Int32) (v1 : Int32) (v2 : Int32) (v3 : Int32) (v5 : Int32) (hh : Nat) (ww : Nat) (kk : Nat) (b1 : Nat) (b2 : Nat) (b3 : Nat) (b4 : Nat) (b5 : Nat) (g1 : Nat → Int32) (g2 : Nat → Int32) (g3 : Nat → Int32) (g4 : Nat → Int32) (g5 : Nat → Int32) (i : Nat) (hhb : hh < 2000000000) (hww : ww ≤ 6) (hkk : kk ≤ 6) (hi : i < 6) : Met l yX3_isLoose wsX3_isLoose ({ frames := 0, cells := 0, slots := 0, locals := 0 }) (va_Pc [.ref h, .int (nI i)] (fun U => va_P (dC, dI) vwCl [(xo_3_iiiiiiiirrrrr h v0 v1 v2 v3 (nI hh) v5 (nI ww) (nI kk) b1 b2 b3 b4 b5), (xI b1 cI 6 g1), (xI b2 cI 6 g2), (xI b3 cI 6 g3), (xI b4 cI 6 g4), (xI b5 cI 6 g5)] U.heap ∧ va_K (dC, dI) vwCl [(cI, .int), (cZ, .boolean), (cL, .object RX3), (cJ, .array .int)] U)) (vp_Si (fun r => (r = 0 ∧ ¬ g5 i = 0) ∨ (r = 1 ∧ g5 i = 0))) 0 0 (fun _ => False) := by
  refine Met.ofW (cc := cX3_isLoose) (maxL := 2) (ret := (some .boolean)) (by decide) rfl ?_
  intro p e s m args below meth c s₁ B hml hv
  obtain ⟨rfl, hP, hK⟩ := hv
  have hx := B.exec
  have hb := B.bytes
  have hr := B.returns
  have hts := atoms_spec (ws := wsX3_isLoose) B.pre
  have hown : s.vm.findClass RX3 = some m.cls := findClass_of_methodNamed B.named
  have hlocks := B.notSynchronized
  have hP : va_P (dC, dI) vwCl [(xo_3_iiiiiiiirrrrr h v0 v1 v2 v3 (nI hh) v5 (nI ww) (nI kk) b1 b2 b3 b4 b5), (xI b1 cI 6 g1), (xI b2 cI 6 g2), (xI b3 cI 6 g3), (xI b4 cI 6 g4), (xI b5 cI 6 g5)] s.heap := hP
  have hl := lv_entry ([.ref h, .int (nI i)]) (n := 2) (Nat.le_of_ble_eq_true rfl)
  rw [lg_entry_eq]
  generalize (lg_sl ([.ref h, .int (nI i)]) ++ List.replicate (2 - (lg_sl ([.ref h, .int (nI i)])).length) Slot.unset).toArray = ls at hl ⊢
  have hl : lv_has ls 2 [(0, .ref h), (1, .int (nI i))] := hl
  refine lv_aload_n hx hb dX3_isLoose_0 rfl (lv_at hl 0 rfl) ?_
  refine va_get (D := (dC, dI)) (ci := 3) (v := .ref b5) (C := RX3) (T := TX3) (N := 13) hx hb hts i_X3_isLoose_X3 hown hK hP 0 rfl rfl 12 (by decide) (hts _ mx_X3_isLoose_1) (fun _ h9 => h9) rfl dX3_isLoose_1 ?_
  refine lv_iload_n hx hb dX3_isLoose_4 rfl (lv_at hl 1 rfl) ?_
  refine va_iald hx hb hK hP 5 0 rfl rfl (vp_in_nI (by omega) (by omega)) dX3_isLoose_5 ?_
  refine lv_topi (fun v_1 e_1 => ?_)
  have e_1 : v_1 = g5 i := e_1.trans (congrArg g5 (nI_clamp (by omega)))
  refine lv_if_ne (tgt := 13) hx hb dX3_isLoose_6 (by decide) (fun c_2 => ?_) (fun c_2 => ?_)
  · skip
    refine lv_iconst (v := 0) hx hb dX3_isLoose_13 (by decide) ?_
    exact W.zret (v := 0) hx hb hr (by decide) (fun t ht hW => ⟨0, rfl, Or.inl (⟨rfl, (lf_X3_isLoose_1 hhb hww hkk hi e_1 c_2)⟩), ht⟩) (fun _ h => by cases h) dX3_isLoose_14
  · skip
    refine lv_iconst (v := 1) hx hb dX3_isLoose_9 (by decide) ?_
    refine lv_goto (tgt := 14) hx hb dX3_isLoose_10 (by decide) ?_
    exact W.zret (v := 1) hx hb hr (by decide) (fun t ht hW => ⟨1, rfl, Or.inr (⟨rfl, (lf_X3_isLoose_2 hhb hww hkk hi e_1 c_2)⟩), ht⟩) (fun _ h => by cases h) dX3_isLoose_14
theorem lf_X3_soundsThatAre_1 {hh : Nat} {ww : Nat} {kk : Nat} {g5 : Nat → Int32} {n : Int32} {w_7 : Int32} {ii : Nat} {v_16 : Int32} {v_18 : Int32} (hhb : hh < 2000000000) (hww : ww ≤ 6) (hkk : kk ≤ 6) (hii : ii < kk) (haf_0 : (w_7 = thR g5 n ii)) (e_16 : v_16 = g5 ii) (c_17 : ¬ (v_16 = n)) (e_18 : v_18 = (w_7 ||| 0)) : v_18 = thR g5 n (ii + 1) := by
  first | assumption | (simp only [thR]; grind)
theorem lf_X3_soundsThatAre_2 {hh : Nat} {ww : Nat} {kk : Nat} {g5 : Nat → Int32} {n : Int32} {w_7 : Int32} {ii : Nat} {v_16 : Int32} {v_19 : Int32} {v_20 : Int32} (hhb : hh < 2000000000) (hww : ww ≤ 6) (hkk : kk ≤ 6) (hii : ii < kk) (haf_0 : (w_7 = thR g5 n ii)) (e_16 : v_16 = g5 ii) (c_17 : v_16 = n) (e_19 : v_19 = ((1 : Int32) <<< (((nI ii) : Int32) &&& 31))) (e_20 : v_20 = (w_7 ||| v_19)) : v_20 = thR g5 n (ii + 1) := by
  first | assumption | (simp only [thR]; grind)
theorem lf_X3_soundsThatAre_3 {hh : Nat} {ww : Nat} {kk : Nat} {g5 : Nat → Int32} {n : Int32} {w_7 : Int32} (hhb : hh < 2000000000) (hww : ww ≤ 6) (hkk : kk ≤ 6) (haf_0 : (w_7 = thR g5 n kk)) : w_7 = (thR g5 n kk) := by
  first | assumption | (simp only [thR]; grind)
set_option maxHeartbeats 4000000 in
set_option maxRecDepth 100000 in
theorem r_X3_soundsThatAre (l : Launch) (dC : Nat → ClassId) (dI : Nat → Nat → Nat) (cI cZ cL cJ : ClassId) (h : Nat) (v0 : Int32) (v1 : Int32) (v2 : Int32) (v3 : Int32) (v5 : Int32) (hh : Nat) (ww : Nat) (kk : Nat) (b1 : Nat) (b2 : Nat) (b3 : Nat) (b4 : Nat) (b5 : Nat) (g1 : Nat → Int32) (g2 : Nat → Int32) (g3 : Nat → Int32) (g4 : Nat → Int32) (g5 : Nat → Int32) (n : Int32) (hhb : hh < 2000000000) (hww : ww ≤ 6) (hkk : kk ≤ 6) : Met l yX3_soundsThatAre wsX3_soundsThatAre ({ frames := 0, cells := 0, slots := 0, locals := 0 }) (va_Pc [.ref h, .int n] (fun U => va_P (dC, dI) vwCl [(xo_3_iiiiiiiirrrrr h v0 v1 v2 v3 (nI hh) v5 (nI ww) (nI kk) b1 b2 b3 b4 b5), (xI b1 cI 6 g1), (xI b2 cI 6 g2), (xI b3 cI 6 g3), (xI b4 cI 6 g4), (xI b5 cI 6 g5)] U.heap ∧ va_K (dC, dI) vwCl [(cI, .int), (cZ, .boolean), (cL, .object RX3), (cJ, .array .int)] U)) (vp_Si (fun r => r = (thR g5 n kk))) 0 0 (fun _ => False) := by
  refine Met.ofW (cc := cX3_soundsThatAre) (maxL := 4) (ret := (some .int)) (by decide) rfl ?_
  intro p e s m args below meth c s₁ B hml hv
  obtain ⟨rfl, hP, hK⟩ := hv
  have hx := B.exec
  have hb := B.bytes
  have hr := B.returns
  have hts := atoms_spec (ws := wsX3_soundsThatAre) B.pre
  have hown : s.vm.findClass RX3 = some m.cls := findClass_of_methodNamed B.named
  have hlocks := B.notSynchronized
  have hP : va_P (dC, dI) vwCl [(xo_3_iiiiiiiirrrrr h v0 v1 v2 v3 (nI hh) v5 (nI ww) (nI kk) b1 b2 b3 b4 b5), (xI b1 cI 6 g1), (xI b2 cI 6 g2), (xI b3 cI 6 g3), (xI b4 cI 6 g4), (xI b5 cI 6 g5)] s.heap := hP
  have hl := lv_entry ([.ref h, .int n]) (n := 4) (Nat.le_of_ble_eq_true rfl)
  rw [lg_entry_eq]
  generalize (lg_sl ([.ref h, .int n]) ++ List.replicate (4 - (lg_sl ([.ref h, .int n])).length) Slot.unset).toArray = ls at hl ⊢
  have hl : lv_has ls 4 [(0, .ref h), (1, .int n)] := hl
  refine lv_iconst (v := 0) hx hb dX3_soundsThatAre_0 (by decide) ?_
  refine lv_istore_n (lv' := [(2, .int 0), (0, .ref h), (1, .int n)]) hx hb dX3_soundsThatAre_1 rfl hl (by decide) rfl (fun ls hl => ?_)
  refine lv_iconst (v := 0) hx hb dX3_soundsThatAre_2 (by decide) ?_
  refine lv_istore_n (lv' := [(3, .int 0), (2, .int 0), (0, .ref h), (1, .int n)]) hx hb dX3_soundsThatAre_3 rfl hl (by decide) rfl (fun ls hl => ?_)
  refine lp_go (σ := (Int32)) (fun ii (st : (Int32)) H locs ls => match st with | w_7 => lv_has ls 4 [(3, .int (nI ii)), (2, .int w_7), (0, .ref h), (1, .int n)] ∧ H = s.heap ∧ locs = [] ∧ (w_7 = thR g5 n ii)) kk ?_ ?_ 0 (by omega) (0) ⟨lv_sub hl [0, 1, 2, 3] rfl, rfl, rfl, rfl⟩
  · rintro ii w_7 H locs ls hii ⟨hl, rfl, rfl, haf_0⟩ ih
    refine lv_iload_n hx hb dX3_soundsThatAre_4 rfl (lv_at hl 0 rfl) ?_
    refine lv_aload_n hx hb dX3_soundsThatAre_5 rfl (lv_at hl 2 rfl) ?_
    refine va_get (D := (dC, dI)) (ci := 3) (v := .int (nI kk)) (C := RX3) (T := TX3) (N := 13) hx hb hts i_X3_soundsThatAre_X3 hown hK hP 0 rfl rfl 7 (by decide) (hts _ mx_X3_soundsThatAre_1) (fun _ h9 => h9) rfl dX3_soundsThatAre_6 ?_
    refine lv_icmp_ge (tgt := 38) hx hb dX3_soundsThatAre_9 (by decide) (fun c_ => absurd c_ (fun q_ => absurd ((nI_leI (a := kk) (b := ii) (by omega) (by omega)).mp q_) (by omega))) (fun _ => ?_)
    refine lv_iload_n hx hb dX3_soundsThatAre_12 rfl (lv_at hl 1 rfl) ?_
    refine lv_aload_n hx hb dX3_soundsThatAre_13 rfl (lv_at hl 2 rfl) ?_
    refine va_get (D := (dC, dI)) (ci := 3) (v := .ref b5) (C := RX3) (T := TX3) (N := 13) hx hb hts i_X3_soundsThatAre_X3 hown hK hP 0 rfl rfl 12 (by decide) (hts _ mx_X3_soundsThatAre_2) (fun _ h9 => h9) rfl dX3_soundsThatAre_14 ?_
    refine lv_iload_n hx hb dX3_soundsThatAre_17 rfl (lv_at hl 0 rfl) ?_
    refine va_iald hx hb hK hP 5 0 rfl rfl (vp_in_nI (by omega) (by omega)) dX3_soundsThatAre_18 ?_
    refine lv_topi (fun v_16 e_16 => ?_)
    have e_16 : v_16 = g5 ii := e_16.trans (congrArg g5 (nI_clamp (by omega)))
    refine lv_iload_n hx hb dX3_soundsThatAre_19 rfl (lv_at hl 3 rfl) ?_
    refine lv_icmp_ne (tgt := 29) hx hb dX3_soundsThatAre_20 (by decide) (fun c_17 => ?_) (fun c_17 => ?_)
    · skip
      refine lv_iconst (v := 0) hx hb dX3_soundsThatAre_29 (by decide) ?_
      refine lv_ior hx hb dX3_soundsThatAre_30 ?_
      refine lv_topi (fun v_18 e_18 => ?_)
      refine lv_istore_n (lv' := [(2, .int v_18), (3, .int (nI ii)), (0, .ref h), (1, .int n)]) hx hb dX3_soundsThatAre_31 rfl hl (by decide) rfl (fun ls hl => ?_)
      refine lv_iinc (v := (nI (ii + 1))) (lv' := [(3, .int (nI (ii + 1))), (2, .int v_18), (0, .ref h), (1, .int n)]) hx hb dX3_soundsThatAre_32 hl (k := 1) rfl (nI_add ii 1) (by decide) rfl (fun ls hl => ?_)
      refine lv_goto (tgt := 4) hx hb dX3_soundsThatAre_35 (by decide) ?_
      exact ih (v_18) _ _ _ ⟨lv_sub hl [0, 1, 2, 3] rfl, rfl, rfl, (lf_X3_soundsThatAre_1 hhb hww hkk hii haf_0 e_16 c_17 e_18)⟩
    · skip
      refine lv_iconst (v := 1) hx hb dX3_soundsThatAre_23 (by decide) ?_
      refine lv_iload_n hx hb dX3_soundsThatAre_24 rfl (lv_at hl 0 rfl) ?_
      refine lv_ishl hx hb dX3_soundsThatAre_25 ?_
      refine lv_topi (fun v_19 e_19 => ?_)
      refine lv_goto (tgt := 30) hx hb dX3_soundsThatAre_26 (by decide) ?_
      refine lv_ior hx hb dX3_soundsThatAre_30 ?_
      refine lv_topi (fun v_20 e_20 => ?_)
      refine lv_istore_n (lv' := [(2, .int v_20), (3, .int (nI ii)), (0, .ref h), (1, .int n)]) hx hb dX3_soundsThatAre_31 rfl hl (by decide) rfl (fun ls hl => ?_)
      refine lv_iinc (v := (nI (ii + 1))) (lv' := [(3, .int (nI (ii + 1))), (2, .int v_20), (0, .ref h), (1, .int n)]) hx hb dX3_soundsThatAre_32 hl (k := 1) rfl (nI_add ii 1) (by decide) rfl (fun ls hl => ?_)
      refine lv_goto (tgt := 4) hx hb dX3_soundsThatAre_35 (by decide) ?_
      exact ih (v_20) _ _ _ ⟨lv_sub hl [0, 1, 2, 3] rfl, rfl, rfl, (lf_X3_soundsThatAre_2 hhb hww hkk hii haf_0 e_16 c_17 e_19 e_20)⟩
  · rintro w_7 H locs ls ⟨hl, rfl, rfl, haf_0⟩
    refine lv_iload_n hx hb dX3_soundsThatAre_4 rfl (lv_at hl 0 rfl) ?_
    refine lv_aload_n hx hb dX3_soundsThatAre_5 rfl (lv_at hl 2 rfl) ?_
    refine va_get (D := (dC, dI)) (ci := 3) (v := .int (nI kk)) (C := RX3) (T := TX3) (N := 13) hx hb hts i_X3_soundsThatAre_X3 hown hK hP 0 rfl rfl 7 (by decide) (hts _ mx_X3_soundsThatAre_1) (fun _ h9 => h9) rfl dX3_soundsThatAre_6 ?_
    refine lv_icmp_ge (tgt := 38) hx hb dX3_soundsThatAre_9 (by decide) (fun _ => ?_) (fun c_ => absurd ((nI_leI (a := kk) (b := kk) (by omega) (by omega)).mpr (by omega)) c_)
    refine lv_iload_n hx hb dX3_soundsThatAre_38 rfl (lv_at hl 1 rfl) ?_
    exact W.iret (v := w_7) hx hb hr (fun t ht hW => ⟨w_7, rfl, (lf_X3_soundsThatAre_3 hhb hww hkk haf_0), ht⟩) (fun _ h => by cases h) dX3_soundsThatAre_39
theorem lf_X3_loudOf_1 {hh : Nat} {ww : Nat} {kk : Nat} {g4 : Nat → Int32} {n : Int32} {w_8 : Int32} {ii : Nat} {v_18 : Int32} {v_19 : Int32} {v_21 : Int32} (hhb : hh < 2000000000) (hww : ww ≤ 6) (hkk : kk ≤ 6) (hii : ii < kk) (haf_0 : (w_8 = ldR g4 n ii)) (e_18 : v_18 = ((n : Int32) >>> (((nI ii) : Int32) &&& 31))) (e_19 : v_19 = (v_18 &&& 1)) (c_20 : ¬ (v_19 = 1)) (e_21 : v_21 = (w_8 + 0)) : v_21 = ldR g4 n (ii + 1) := by
  first | assumption | (simp only [ldR]; grind)
theorem lf_X3_loudOf_2 {hh : Nat} {ww : Nat} {kk : Nat} {g4 : Nat → Int32} {n : Int32} {w_8 : Int32} {ii : Nat} {v_18 : Int32} {v_19 : Int32} {v_22 : Int32} {v_23 : Int32} (hhb : hh < 2000000000) (hww : ww ≤ 6) (hkk : kk ≤ 6) (hii : ii < kk) (haf_0 : (w_8 = ldR g4 n ii)) (e_18 : v_18 = ((n : Int32) >>> (((nI ii) : Int32) &&& 31))) (e_19 : v_19 = (v_18 &&& 1)) (c_20 : v_19 = 1) (e_22 : v_22 = g4 ii) (e_23 : v_23 = (w_8 + v_22)) : v_23 = ldR g4 n (ii + 1) := by
  first | assumption | (simp only [ldR]; grind)
theorem lf_X3_loudOf_3 {hh : Nat} {ww : Nat} {kk : Nat} {g4 : Nat → Int32} {n : Int32} {w_8 : Int32} (hhb : hh < 2000000000) (hww : ww ≤ 6) (hkk : kk ≤ 6) (haf_0 : (w_8 = ldR g4 n kk)) : w_8 = (ldR g4 n kk) := by
  first | assumption | (simp only [ldR]; grind)
set_option maxHeartbeats 4000000 in
set_option maxRecDepth 100000 in
theorem r_X3_loudOf (l : Launch) (dC : Nat → ClassId) (dI : Nat → Nat → Nat) (cI cZ cL cJ : ClassId) (h : Nat) (v0 : Int32) (v1 : Int32) (v2 : Int32) (v3 : Int32) (v5 : Int32) (hh : Nat) (ww : Nat) (kk : Nat) (b1 : Nat) (b2 : Nat) (b3 : Nat) (b4 : Nat) (b5 : Nat) (g1 : Nat → Int32) (g2 : Nat → Int32) (g3 : Nat → Int32) (g4 : Nat → Int32) (g5 : Nat → Int32) (n : Int32) (hhb : hh < 2000000000) (hww : ww ≤ 6) (hkk : kk ≤ 6) : Met l yX3_loudOf wsX3_loudOf ({ frames := 0, cells := 0, slots := 0, locals := 0 }) (va_Pc [.ref h, .int n] (fun U => va_P (dC, dI) vwCl [(xo_3_iiiiiiiirrrrr h v0 v1 v2 v3 (nI hh) v5 (nI ww) (nI kk) b1 b2 b3 b4 b5), (xI b1 cI 6 g1), (xI b2 cI 6 g2), (xI b3 cI 6 g3), (xI b4 cI 6 g4), (xI b5 cI 6 g5)] U.heap ∧ va_K (dC, dI) vwCl [(cI, .int), (cZ, .boolean), (cL, .object RX3), (cJ, .array .int)] U)) (vp_Si (fun r => r = (ldR g4 n kk))) 0 0 (fun _ => False) := by
  refine Met.ofW (cc := cX3_loudOf) (maxL := 4) (ret := (some .int)) (by decide) rfl ?_
  intro p e s m args below meth c s₁ B hml hv
  obtain ⟨rfl, hP, hK⟩ := hv
  have hx := B.exec
  have hb := B.bytes
  have hr := B.returns
  have hts := atoms_spec (ws := wsX3_loudOf) B.pre
  have hown : s.vm.findClass RX3 = some m.cls := findClass_of_methodNamed B.named
  have hlocks := B.notSynchronized
  have hP : va_P (dC, dI) vwCl [(xo_3_iiiiiiiirrrrr h v0 v1 v2 v3 (nI hh) v5 (nI ww) (nI kk) b1 b2 b3 b4 b5), (xI b1 cI 6 g1), (xI b2 cI 6 g2), (xI b3 cI 6 g3), (xI b4 cI 6 g4), (xI b5 cI 6 g5)] s.heap := hP
  have hl := lv_entry ([.ref h, .int n]) (n := 4) (Nat.le_of_ble_eq_true rfl)
  rw [lg_entry_eq]
  generalize (lg_sl ([.ref h, .int n]) ++ List.replicate (4 - (lg_sl ([.ref h, .int n])).length) Slot.unset).toArray = ls at hl ⊢
  have hl : lv_has ls 4 [(0, .ref h), (1, .int n)] := hl
  refine lv_iconst (v := 0) hx hb dX3_loudOf_0 (by decide) ?_
  refine lv_istore_n (lv' := [(2, .int 0), (0, .ref h), (1, .int n)]) hx hb dX3_loudOf_1 rfl hl (by decide) rfl (fun ls hl => ?_)
  refine lv_iconst (v := 0) hx hb dX3_loudOf_2 (by decide) ?_
  refine lv_istore_n (lv' := [(3, .int 0), (2, .int 0), (0, .ref h), (1, .int n)]) hx hb dX3_loudOf_3 rfl hl (by decide) rfl (fun ls hl => ?_)
  refine lp_go (σ := (Int32)) (fun ii (st : (Int32)) H locs ls => match st with | w_8 => lv_has ls 4 [(3, .int (nI ii)), (2, .int w_8), (0, .ref h), (1, .int n)] ∧ H = s.heap ∧ locs = [] ∧ (w_8 = ldR g4 n ii)) kk ?_ ?_ 0 (by omega) (0) ⟨lv_sub hl [0, 1, 2, 3] rfl, rfl, rfl, rfl⟩
  · rintro ii w_8 H locs ls hii ⟨hl, rfl, rfl, haf_0⟩ ih
    refine lv_iload_n hx hb dX3_loudOf_4 rfl (lv_at hl 0 rfl) ?_
    refine lv_aload_n hx hb dX3_loudOf_5 rfl (lv_at hl 2 rfl) ?_
    refine va_get (D := (dC, dI)) (ci := 3) (v := .int (nI kk)) (C := RX3) (T := TX3) (N := 13) hx hb hts i_X3_loudOf_X3 hown hK hP 0 rfl rfl 7 (by decide) (hts _ mx_X3_loudOf_1) (fun _ h9 => h9) rfl dX3_loudOf_6 ?_
    refine lv_icmp_ge (tgt := 40) hx hb dX3_loudOf_9 (by decide) (fun c_ => absurd c_ (fun q_ => absurd ((nI_leI (a := kk) (b := ii) (by omega) (by omega)).mp q_) (by omega))) (fun _ => ?_)
    refine lv_iload_n hx hb dX3_loudOf_12 rfl (lv_at hl 1 rfl) ?_
    refine lv_iload_n hx hb dX3_loudOf_13 rfl (lv_at hl 3 rfl) ?_
    refine lv_iload_n hx hb dX3_loudOf_14 rfl (lv_at hl 0 rfl) ?_
    refine lv_ishr hx hb dX3_loudOf_15 ?_
    refine lv_topi (fun v_18 e_18 => ?_)
    refine lv_iconst (v := 1) hx hb dX3_loudOf_16 (by decide) ?_
    refine lv_iand hx hb dX3_loudOf_17 ?_
    refine lv_topi (fun v_19 e_19 => ?_)
    refine lv_iconst (v := 1) hx hb dX3_loudOf_18 (by decide) ?_
    refine lv_icmp_ne (tgt := 31) hx hb dX3_loudOf_19 (by decide) (fun c_20 => ?_) (fun c_20 => ?_)
    · skip
      refine lv_iconst (v := 0) hx hb dX3_loudOf_31 (by decide) ?_
      refine lv_iadd hx hb dX3_loudOf_32 ?_
      refine lv_topi (fun v_21 e_21 => ?_)
      refine lv_istore_n (lv' := [(2, .int v_21), (3, .int (nI ii)), (0, .ref h), (1, .int n)]) hx hb dX3_loudOf_33 rfl hl (by decide) rfl (fun ls hl => ?_)
      refine lv_iinc (v := (nI (ii + 1))) (lv' := [(3, .int (nI (ii + 1))), (2, .int v_21), (0, .ref h), (1, .int n)]) hx hb dX3_loudOf_34 hl (k := 1) rfl (nI_add ii 1) (by decide) rfl (fun ls hl => ?_)
      refine lv_goto (tgt := 4) hx hb dX3_loudOf_37 (by decide) ?_
      exact ih (v_21) _ _ _ ⟨lv_sub hl [0, 1, 2, 3] rfl, rfl, rfl, (lf_X3_loudOf_1 hhb hww hkk hii haf_0 e_18 e_19 c_20 e_21)⟩
    · skip
      refine lv_aload_n hx hb dX3_loudOf_22 rfl (lv_at hl 2 rfl) ?_
      refine va_get (D := (dC, dI)) (ci := 3) (v := .ref b4) (C := RX3) (T := TX3) (N := 13) hx hb hts i_X3_loudOf_X3 hown hK hP 0 rfl rfl 11 (by decide) (hts _ mx_X3_loudOf_2) (fun _ h9 => h9) rfl dX3_loudOf_23 ?_
      refine lv_iload_n hx hb dX3_loudOf_26 rfl (lv_at hl 0 rfl) ?_
      refine va_iald hx hb hK hP 4 0 rfl rfl (vp_in_nI (by omega) (by omega)) dX3_loudOf_27 ?_
      refine lv_topi (fun v_22 e_22 => ?_)
      have e_22 : v_22 = g4 ii := e_22.trans (congrArg g4 (nI_clamp (by omega)))
      refine lv_goto (tgt := 32) hx hb dX3_loudOf_28 (by decide) ?_
      refine lv_iadd hx hb dX3_loudOf_32 ?_
      refine lv_topi (fun v_23 e_23 => ?_)
      refine lv_istore_n (lv' := [(2, .int v_23), (3, .int (nI ii)), (0, .ref h), (1, .int n)]) hx hb dX3_loudOf_33 rfl hl (by decide) rfl (fun ls hl => ?_)
      refine lv_iinc (v := (nI (ii + 1))) (lv' := [(3, .int (nI (ii + 1))), (2, .int v_23), (0, .ref h), (1, .int n)]) hx hb dX3_loudOf_34 hl (k := 1) rfl (nI_add ii 1) (by decide) rfl (fun ls hl => ?_)
      refine lv_goto (tgt := 4) hx hb dX3_loudOf_37 (by decide) ?_
      exact ih (v_23) _ _ _ ⟨lv_sub hl [0, 1, 2, 3] rfl, rfl, rfl, (lf_X3_loudOf_2 hhb hww hkk hii haf_0 e_18 e_19 c_20 e_22 e_23)⟩
  · rintro w_8 H locs ls ⟨hl, rfl, rfl, haf_0⟩
    refine lv_iload_n hx hb dX3_loudOf_4 rfl (lv_at hl 0 rfl) ?_
    refine lv_aload_n hx hb dX3_loudOf_5 rfl (lv_at hl 2 rfl) ?_
    refine va_get (D := (dC, dI)) (ci := 3) (v := .int (nI kk)) (C := RX3) (T := TX3) (N := 13) hx hb hts i_X3_loudOf_X3 hown hK hP 0 rfl rfl 7 (by decide) (hts _ mx_X3_loudOf_1) (fun _ h9 => h9) rfl dX3_loudOf_6 ?_
    refine lv_icmp_ge (tgt := 40) hx hb dX3_loudOf_9 (by decide) (fun _ => ?_) (fun c_ => absurd ((nI_leI (a := kk) (b := kk) (by omega) (by omega)).mpr (by omega)) c_)
    refine lv_iload_n hx hb dX3_loudOf_40 rfl (lv_at hl 1 rfl) ?_
    exact W.iret (v := w_8) hx hb hr (fun t ht hW => ⟨w_8, rfl, (lf_X3_loudOf_3 hhb hww hkk haf_0), ht⟩) (fun _ h => by cases h) dX3_loudOf_41
theorem lf_X3_tellOf_1 {hh : Nat} {ww : Nat} {kk : Nat} {g3 : Nat → Int32} {g4 : Nat → Int32} {g5 : Nat → Int32} {i : Nat} {n : Int32} {v_3 : Int32} (hhb : hh < 2000000000) (hww : ww ≤ 6) (hkk : kk ≤ 6) (hi : i < 6) (c_1 : ¬ (n = 0)) (c_2 : ¬ (n = 1)) (e_3 : v_3 = g4 i) : v_3 = (tlX g3 g4 g5 i n) := by
  simp only [tlX]; grind
theorem lf_X3_tellOf_2 {hh : Nat} {ww : Nat} {kk : Nat} {g3 : Nat → Int32} {g4 : Nat → Int32} {g5 : Nat → Int32} {i : Nat} {n : Int32} {v_4 : Int32} (hhb : hh < 2000000000) (hww : ww ≤ 6) (hkk : kk ≤ 6) (hi : i < 6) (c_1 : ¬ (n = 0)) (c_2 : n = 1) (e_4 : v_4 = g5 i) : v_4 = (tlX g3 g4 g5 i n) := by
  simp only [tlX]; grind
theorem lf_X3_tellOf_3 {hh : Nat} {ww : Nat} {kk : Nat} {g3 : Nat → Int32} {g4 : Nat → Int32} {g5 : Nat → Int32} {i : Nat} {n : Int32} (hhb : hh < 2000000000) (hww : ww ≤ 6) (hkk : kk ≤ 6) (hi : i < 6) (c_1 : n = 0) (f_5_0_0 : ¬ g5 i = 0) : (-1000000) = (tlX g3 g4 g5 i n) := by
  simp only [tlX]; grind
theorem lf_X3_tellOf_4 {hh : Nat} {ww : Nat} {kk : Nat} {g3 : Nat → Int32} {g4 : Nat → Int32} {g5 : Nat → Int32} {i : Nat} {n : Int32} {v_8 : Int32} (hhb : hh < 2000000000) (hww : ww ≤ 6) (hkk : kk ≤ 6) (hi : i < 6) (c_1 : n = 0) (f_5_1_0 : g5 i = 0) (e_8 : v_8 = g3 i) : v_8 = (tlX g3 g4 g5 i n) := by
  simp only [tlX]; grind
set_option maxHeartbeats 4000000 in
set_option maxRecDepth 100000 in
theorem r_X3_tellOf (l : Launch) (dC : Nat → ClassId) (dI : Nat → Nat → Nat) (cI cZ cL cJ : ClassId) (h : Nat) (v0 : Int32) (v1 : Int32) (v2 : Int32) (v3 : Int32) (v5 : Int32) (hh : Nat) (ww : Nat) (kk : Nat) (b1 : Nat) (b2 : Nat) (b3 : Nat) (b4 : Nat) (b5 : Nat) (g1 : Nat → Int32) (g2 : Nat → Int32) (g3 : Nat → Int32) (g4 : Nat → Int32) (g5 : Nat → Int32) (i : Nat) (n : Int32) (hhb : hh < 2000000000) (hww : ww ≤ 6) (hkk : kk ≤ 6) (hi : i < 6) : Met l yX3_tellOf wsX3_tellOf ({ frames := 1, cells := 0, slots := 0, locals := 21 }) (va_Pc [.ref h, .int (nI i), .int n] (fun U => va_P (dC, dI) vwCl [(xo_3_iiiiiiiirrrrr h v0 v1 v2 v3 (nI hh) v5 (nI ww) (nI kk) b1 b2 b3 b4 b5), (xI b1 cI 6 g1), (xI b2 cI 6 g2), (xI b3 cI 6 g3), (xI b4 cI 6 g4), (xI b5 cI 6 g5)] U.heap ∧ va_K (dC, dI) vwCl [(cI, .int), (cZ, .boolean), (cL, .object RX3), (cJ, .array .int)] U)) (vp_Si (fun r => r = (tlX g3 g4 g5 i n))) 0 0 (fun _ => False) := by
  refine Met.ofW (cc := cX3_tellOf) (maxL := 3) (ret := (some .int)) (by decide) rfl ?_
  intro p e s m args below meth c s₁ B hml hv
  obtain ⟨rfl, hP, hK⟩ := hv
  have hx := B.exec
  have hb := B.bytes
  have hr := B.returns
  have hts := atoms_spec (ws := wsX3_tellOf) B.pre
  have hown : s.vm.findClass RX3 = some m.cls := findClass_of_methodNamed B.named
  have hlocks := B.notSynchronized
  have hP : va_P (dC, dI) vwCl [(xo_3_iiiiiiiirrrrr h v0 v1 v2 v3 (nI hh) v5 (nI ww) (nI kk) b1 b2 b3 b4 b5), (xI b1 cI 6 g1), (xI b2 cI 6 g2), (xI b3 cI 6 g3), (xI b4 cI 6 g4), (xI b5 cI 6 g5)] s.heap := hP
  have hl := lv_entry ([.ref h, .int (nI i), .int n]) (n := 3) (Nat.le_of_ble_eq_true rfl)
  rw [lg_entry_eq]
  generalize (lg_sl ([.ref h, .int (nI i), .int n]) ++ List.replicate (3 - (lg_sl ([.ref h, .int (nI i), .int n])).length) Slot.unset).toArray = ls at hl ⊢
  have hl : lv_has ls 3 [(0, .ref h), (1, .int (nI i)), (2, .int n)] := hl
  refine lv_iload_n hx hb dX3_tellOf_0 rfl (lv_at hl 2 rfl) ?_
  refine lv_if_ne (tgt := 24) hx hb dX3_tellOf_1 (by decide) (fun c_1 => ?_) (fun c_1 => ?_)
  · skip
    refine lv_iload_n hx hb dX3_tellOf_24 rfl (lv_at hl 2 rfl) ?_
    refine lv_iconst (v := 1) hx hb dX3_tellOf_25 (by decide) ?_
    refine lv_icmp_ne (tgt := 38) hx hb dX3_tellOf_26 (by decide) (fun c_2 => ?_) (fun c_2 => ?_)
    · skip
      refine lv_aload_n hx hb dX3_tellOf_38 rfl (lv_at hl 0 rfl) ?_
      refine va_get (D := (dC, dI)) (ci := 3) (v := .ref b4) (C := RX3) (T := TX3) (N := 13) hx hb hts i_X3_tellOf_X3 hown hK hP 0 rfl rfl 11 (by decide) (hts _ mx_X3_tellOf_4) (fun _ h9 => h9) rfl dX3_tellOf_39 ?_
      refine lv_iload_n hx hb dX3_tellOf_42 rfl (lv_at hl 1 rfl) ?_
      refine va_iald hx hb hK hP 4 0 rfl rfl (vp_in_nI (by omega) (by omega)) dX3_tellOf_43 ?_
      refine lv_topi (fun v_3 e_3 => ?_)
      have e_3 : v_3 = g4 i := e_3.trans (congrArg g4 (nI_clamp (by omega)))
      exact W.iret (v := v_3) hx hb hr (fun t ht hW => ⟨v_3, rfl, (lf_X3_tellOf_1 hhb hww hkk hi c_1 c_2 e_3), ht⟩) (fun _ h => by cases h) dX3_tellOf_44
    · skip
      refine lv_aload_n hx hb dX3_tellOf_29 rfl (lv_at hl 0 rfl) ?_
      refine va_get (D := (dC, dI)) (ci := 3) (v := .ref b5) (C := RX3) (T := TX3) (N := 13) hx hb hts i_X3_tellOf_X3 hown hK hP 0 rfl rfl 12 (by decide) (hts _ mx_X3_tellOf_3) (fun _ h9 => h9) rfl dX3_tellOf_30 ?_
      refine lv_iload_n hx hb dX3_tellOf_33 rfl (lv_at hl 1 rfl) ?_
      refine va_iald hx hb hK hP 5 0 rfl rfl (vp_in_nI (by omega) (by omega)) dX3_tellOf_34 ?_
      refine lv_topi (fun v_4 e_4 => ?_)
      have e_4 : v_4 = g5 i := e_4.trans (congrArg g5 (nI_clamp (by omega)))
      refine lv_goto (tgt := 44) hx hb dX3_tellOf_35 (by decide) ?_
      exact W.iret (v := v_4) hx hb hr (fun t ht hW => ⟨v_4, rfl, (lf_X3_tellOf_2 hhb hww hkk hi c_1 c_2 e_4), ht⟩) (fun _ h => by cases h) dX3_tellOf_44
  · skip
    refine lv_aload_n hx hb dX3_tellOf_4 rfl (lv_at hl 0 rfl) ?_
    refine lv_iload_n hx hb dX3_tellOf_5 rfl (lv_at hl 1 rfl) ?_
    have hPc_5 := hP
    refine vp_callSi (W.runV (As := [.int (nI i)]) (rest := []) ⟨hx, hb, hml, hown, hts⟩ (r_X3_isLoose l dC dI cI cZ cL cJ h v0 v1 v2 v3 v5 hh ww kk b1 b2 b3 b4 b5 g1 g2 g3 g4 g5 i (hhb) (hww) (hkk) (hi)) (cwV 1 hts gX3_tellOf_X3_isLoose rfl rfl rfl (by decide +kernel) ⟨Nat.le_of_ble_eq_true rfl, Nat.le_of_ble_eq_true rfl⟩) (pvP 3 0 hK hP rfl rfl hPc_5) rfl rfl hl.1 rfl (lv_room (Nat.le_of_ble_eq_true rfl)) dX3_tellOf_6 ⟨Nat.le_of_ble_eq_true rfl, Nat.le_of_ble_eq_true rfl⟩) (fun r_5 h_5 => ?_)
    rcases h_5 with ⟨h_5, f_5_0_0⟩ | ⟨h_5, f_5_1_0⟩
    · subst h_5
      refine lv_if_eq (tgt := 21) hx hb dX3_tellOf_9 (by decide) (fun _ => ?_) (fun c_ => absurd (by decide) c_)
      refine lv_ldc (own := RX3) (v := (-1000000)) hx hb hown (hts _ mx_X3_tellOf_2) dX3_tellOf_21 ?_
      exact W.iret (v := (-1000000)) hx hb hr (fun t ht hW => ⟨(-1000000), rfl, (lf_X3_tellOf_3 hhb hww hkk hi c_1 f_5_0_0), ht⟩) (fun _ h => by cases h) dX3_tellOf_23
    · subst h_5
      refine lv_if_eq (tgt := 21) hx hb dX3_tellOf_9 (by decide) (fun c_ => absurd c_ (by decide)) (fun _ => ?_)
      refine lv_aload_n hx hb dX3_tellOf_12 rfl (lv_at hl 0 rfl) ?_
      refine va_get (D := (dC, dI)) (ci := 3) (v := .ref b3) (C := RX3) (T := TX3) (N := 13) hx hb hts i_X3_tellOf_X3 hown hK hP 0 rfl rfl 10 (by decide) (hts _ mx_X3_tellOf_1) (fun _ h9 => h9) rfl dX3_tellOf_13 ?_
      refine lv_iload_n hx hb dX3_tellOf_16 rfl (lv_at hl 1 rfl) ?_
      refine va_iald hx hb hK hP 3 0 rfl rfl (vp_in_nI (by omega) (by omega)) dX3_tellOf_17 ?_
      refine lv_topi (fun v_8 e_8 => ?_)
      have e_8 : v_8 = g3 i := e_8.trans (congrArg g3 (nI_clamp (by omega)))
      refine lv_goto (tgt := 23) hx hb dX3_tellOf_18 (by decide) ?_
      exact W.iret (v := v_8) hx hb hr (fun t ht hW => ⟨v_8, rfl, (lf_X3_tellOf_4 hhb hww hkk hi c_1 f_5_1_0 e_8), ht⟩) (fun _ h => by cases h) dX3_tellOf_23
theorem lf_X3_windOn_1 {hh : Nat} {ww : Nat} {kk : Nat} {g1 : Nat → Int32} {j : Nat} {z_3 : Nat} {v_4 : Int32} (hhb : hh < 2000000000) (hww : ww ≤ 6) (hkk : kk ≤ 6) (hj : j ≤ 100000000) (c_1 : 0 < ww) (hz_3 : z_3 < ww) (hze_3 : z_3 = (hh + j) % ww) (e_4 : v_4 = g1 z_3) : v_4 = (wdX g1 ww hh j) := by
  simp only [wdX]; grind
theorem lf_X3_windOn_2 {hh : Nat} {ww : Nat} {kk : Nat} {g1 : Nat → Int32} {j : Nat} (hhb : hh < 2000000000) (hww : ww ≤ 6) (hkk : kk ≤ 6) (hj : j ≤ 100000000) (c_1 : ¬ (0 < ww)) : 2 = (wdX g1 ww hh j) := by
  simp only [wdX]; grind
set_option maxHeartbeats 4000000 in
set_option maxRecDepth 100000 in
theorem r_X3_windOn (l : Launch) (dC : Nat → ClassId) (dI : Nat → Nat → Nat) (cI cZ cL cJ : ClassId) (h : Nat) (v0 : Int32) (v1 : Int32) (v2 : Int32) (v3 : Int32) (v5 : Int32) (hh : Nat) (ww : Nat) (kk : Nat) (b1 : Nat) (b2 : Nat) (b3 : Nat) (b4 : Nat) (b5 : Nat) (g1 : Nat → Int32) (g2 : Nat → Int32) (g3 : Nat → Int32) (g4 : Nat → Int32) (g5 : Nat → Int32) (j : Nat) (hhb : hh < 2000000000) (hww : ww ≤ 6) (hkk : kk ≤ 6) (hj : j ≤ 100000000) : Met l yX3_windOn wsX3_windOn ({ frames := 0, cells := 0, slots := 0, locals := 0 }) (va_Pc [.ref h, .int (nI j)] (fun U => va_P (dC, dI) vwCl [(xo_3_iiiiiiiirrrrr h v0 v1 v2 v3 (nI hh) v5 (nI ww) (nI kk) b1 b2 b3 b4 b5), (xI b1 cI 6 g1), (xI b2 cI 6 g2), (xI b3 cI 6 g3), (xI b4 cI 6 g4), (xI b5 cI 6 g5)] U.heap ∧ va_K (dC, dI) vwCl [(cI, .int), (cZ, .boolean), (cL, .object RX3), (cJ, .array .int)] U)) (vp_Si (fun r => r = (wdX g1 ww hh j))) 0 0 (fun _ => False) := by
  refine Met.ofW (cc := cX3_windOn) (maxL := 2) (ret := (some .int)) (by decide) rfl ?_
  intro p e s m args below meth c s₁ B hml hv
  obtain ⟨rfl, hP, hK⟩ := hv
  have hx := B.exec
  have hb := B.bytes
  have hr := B.returns
  have hts := atoms_spec (ws := wsX3_windOn) B.pre
  have hown : s.vm.findClass RX3 = some m.cls := findClass_of_methodNamed B.named
  have hlocks := B.notSynchronized
  have hP : va_P (dC, dI) vwCl [(xo_3_iiiiiiiirrrrr h v0 v1 v2 v3 (nI hh) v5 (nI ww) (nI kk) b1 b2 b3 b4 b5), (xI b1 cI 6 g1), (xI b2 cI 6 g2), (xI b3 cI 6 g3), (xI b4 cI 6 g4), (xI b5 cI 6 g5)] s.heap := hP
  have hl := lv_entry ([.ref h, .int (nI j)]) (n := 2) (Nat.le_of_ble_eq_true rfl)
  rw [lg_entry_eq]
  generalize (lg_sl ([.ref h, .int (nI j)]) ++ List.replicate (2 - (lg_sl ([.ref h, .int (nI j)])).length) Slot.unset).toArray = ls at hl ⊢
  have hl : lv_has ls 2 [(0, .ref h), (1, .int (nI j))] := hl
  refine lv_aload_n hx hb dX3_windOn_0 rfl (lv_at hl 0 rfl) ?_
  refine va_get (D := (dC, dI)) (ci := 3) (v := .int (nI ww)) (C := RX3) (T := TX3) (N := 13) hx hb hts i_X3_windOn_X3 hown hK hP 0 rfl rfl 6 (by decide) (hts _ mx_X3_windOn_1) (fun _ h9 => h9) rfl dX3_windOn_1 ?_
  refine lv_if_gt (tgt := 11) hx hb dX3_windOn_4 (by decide) (fun c_1 => ?_) (fun c_1 => ?_)
  · have c_1 : 0 < ww := (nI_ltI (a := 0) (b := ww) (by omega) (by omega)).mp c_1
    refine lv_aload_n hx hb dX3_windOn_11 rfl (lv_at hl 0 rfl) ?_
    refine va_get (D := (dC, dI)) (ci := 3) (v := .ref b1) (C := RX3) (T := TX3) (N := 13) hx hb hts i_X3_windOn_X3 hown hK hP 0 rfl rfl 8 (by decide) (hts _ mx_X3_windOn_2) (fun _ h9 => h9) rfl dX3_windOn_12 ?_
    refine lv_aload_n hx hb dX3_windOn_15 rfl (lv_at hl 0 rfl) ?_
    refine va_get (D := (dC, dI)) (ci := 3) (v := .int (nI hh)) (C := RX3) (T := TX3) (N := 13) hx hb hts i_X3_windOn_X3 hown hK hP 0 rfl rfl 4 (by decide) (hts _ mx_X3_windOn_3) (fun _ h9 => h9) rfl dX3_windOn_16 ?_
    refine lv_iload_n hx hb dX3_windOn_19 rfl (lv_at hl 1 rfl) ?_
    refine lv_iadd hx hb dX3_windOn_20 ?_
    refine lv_topi (fun v_2 e_2 => ?_)
    obtain rfl : v_2 = (nI (hh + j)) := (e_2).trans (nI_add hh j)
    refine lv_aload_n hx hb dX3_windOn_21 rfl (lv_at hl 0 rfl) ?_
    refine va_get (D := (dC, dI)) (ci := 3) (v := .int (nI ww)) (C := RX3) (T := TX3) (N := 13) hx hb hts i_X3_windOn_X3 hown hK hP 0 rfl rfl 6 (by decide) (hts _ mx_X3_windOn_1) (fun _ h9 => h9) rfl dX3_windOn_22 ?_
    refine lv_irem hx hb dX3_windOn_25 (nI_ne0 (by omega) (by omega)) ?_
    refine lv_topi (fun v_3 e_3 => ?_)
    obtain ⟨z_3, hz_3, hze_3, rfl⟩ : ∃ z : Nat, z < ww ∧ z = (hh + j) % ww ∧ v_3 = nI z := ⟨(hh + j) % ww, Nat.mod_lt _ (by omega), rfl, e_3.trans (pk_rem (a := (hh + j)) (d := ww) (by omega) (by omega) (by omega))⟩
    refine va_iald hx hb hK hP 1 0 rfl rfl (vp_in_nI (by omega) (by omega)) dX3_windOn_26 ?_
    refine lv_topi (fun v_4 e_4 => ?_)
    have e_4 : v_4 = g1 z_3 := e_4.trans (congrArg g1 (nI_clamp (by omega)))
    exact W.iret (v := v_4) hx hb hr (fun t ht hW => ⟨v_4, rfl, (lf_X3_windOn_1 hhb hww hkk hj c_1 hz_3 hze_3 e_4), ht⟩) (fun _ h => by cases h) dX3_windOn_27
  · have c_1 : ¬ (0 < ww) := fun q_ => c_1 ((nI_ltI (a := 0) (b := ww) (by omega) (by omega)).mpr q_)
    refine lv_iconst (v := 2) hx hb dX3_windOn_7 (by decide) ?_
    refine lv_goto (tgt := 27) hx hb dX3_windOn_8 (by decide) ?_
    exact W.iret (v := 2) hx hb hr (fun t ht hW => ⟨2, rfl, (lf_X3_windOn_2 hhb hww hkk hj c_1), ht⟩) (fun _ h => by cases h) dX3_windOn_27
theorem lf_X3_driftOf_1 {hh : Nat} {ww : Nat} {kk : Nat} {g2 : Nat → Int32} {i : Nat} {n : Int32} {v_1 : Int32} (hhb : hh < 2000000000) (hww : ww ≤ 6) (hkk : kk ≤ 6) (hi : i < 6) (e_1 : v_1 = (n - 2)) (e_2 : (1 : Int32) = g2 i) : v_1 = (dfX (g2 i) (n - 2)) := by
  simp only [dfX]; grind
theorem lf_X3_driftOf_2 {hh : Nat} {ww : Nat} {kk : Nat} {g2 : Nat → Int32} {i : Nat} {n : Int32} {v_1 : Int32} {v_5 : Int32} (hhb : hh < 2000000000) (hww : ww ≤ 6) (hkk : kk ≤ 6) (hi : i < 6) (e_1 : v_1 = (n - 2)) (e_2 : (2 : Int32) = g2 i) (k_3 : ¬ (2 : Int32) = 1) (e_5 : v_5 = (v_1 / 2)) : v_5 = (dfX (g2 i) (n - 2)) := by
  simp only [dfX]; grind
theorem lf_X3_driftOf_3 {hh : Nat} {ww : Nat} {kk : Nat} {g2 : Nat → Int32} {i : Nat} {n : Int32} {v_1 : Int32} {v_7 : Int32} (hhb : hh < 2000000000) (hww : ww ≤ 6) (hkk : kk ≤ 6) (hi : i < 6) (e_1 : v_1 = (n - 2)) (e_2 : (3 : Int32) = g2 i) (k_3 : ¬ (3 : Int32) = 1) (k_4 : ¬ (3 : Int32) = 2) (e_7 : v_7 = (v_1 * 2)) : v_7 = (dfX (g2 i) (n - 2)) := by
  simp only [dfX]; grind
theorem lf_X3_driftOf_4 {hh : Nat} {ww : Nat} {kk : Nat} {g2 : Nat → Int32} {i : Nat} {n : Int32} {v_1 : Int32} {v_9 : Int32} (hhb : hh < 2000000000) (hww : ww ≤ 6) (hkk : kk ≤ 6) (hi : i < 6) (e_1 : v_1 = (n - 2)) (e_2 : (4 : Int32) = g2 i) (k_3 : ¬ (4 : Int32) = 1) (k_4 : ¬ (4 : Int32) = 2) (k_6 : ¬ (4 : Int32) = 3) (e_9 : v_9 = (-v_1)) : v_9 = (dfX (g2 i) (n - 2)) := by
  simp only [dfX]; grind
theorem lf_X3_driftOf_5 {hh : Nat} {ww : Nat} {kk : Nat} {g2 : Nat → Int32} {i : Nat} {n : Int32} {v_1 : Int32} {v_2 : Int32} (hhb : hh < 2000000000) (hww : ww ≤ 6) (hkk : kk ≤ 6) (hi : i < 6) (e_1 : v_1 = (n - 2)) (e_2 : v_2 = g2 i) (k_3 : ¬ v_2 = 1) (k_4 : ¬ v_2 = 2) (k_6 : ¬ v_2 = 3) (k_8 : ¬ v_2 = 4) : 0 = (dfX (g2 i) (n - 2)) := by
  simp only [dfX]; grind
set_option maxHeartbeats 4000000 in
set_option maxRecDepth 100000 in
theorem r_X3_driftOf (l : Launch) (dC : Nat → ClassId) (dI : Nat → Nat → Nat) (cI cZ cL cJ : ClassId) (h : Nat) (v0 : Int32) (v1 : Int32) (v2 : Int32) (v3 : Int32) (v5 : Int32) (hh : Nat) (ww : Nat) (kk : Nat) (b1 : Nat) (b2 : Nat) (b3 : Nat) (b4 : Nat) (b5 : Nat) (g1 : Nat → Int32) (g2 : Nat → Int32) (g3 : Nat → Int32) (g4 : Nat → Int32) (g5 : Nat → Int32) (i : Nat) (n : Int32) (hhb : hh < 2000000000) (hww : ww ≤ 6) (hkk : kk ≤ 6) (hi : i < 6) : Met l yX3_driftOf wsX3_driftOf ({ frames := 0, cells := 0, slots := 0, locals := 0 }) (va_Pc [.ref h, .int (nI i), .int n] (fun U => va_P (dC, dI) vwCl [(xo_3_iiiiiiiirrrrr h v0 v1 v2 v3 (nI hh) v5 (nI ww) (nI kk) b1 b2 b3 b4 b5), (xI b1 cI 6 g1), (xI b2 cI 6 g2), (xI b3 cI 6 g3), (xI b4 cI 6 g4), (xI b5 cI 6 g5)] U.heap ∧ va_K (dC, dI) vwCl [(cI, .int), (cZ, .boolean), (cL, .object RX3), (cJ, .array .int)] U)) (vp_Si (fun r => r = (dfX (g2 i) (n - 2)))) 0 0 (fun _ => False) := by
  refine Met.ofW (cc := cX3_driftOf) (maxL := 4) (ret := (some .int)) (by decide) rfl ?_
  intro p e s m args below meth c s₁ B hml hv
  obtain ⟨rfl, hP, hK⟩ := hv
  have hx := B.exec
  have hb := B.bytes
  have hr := B.returns
  have hts := atoms_spec (ws := wsX3_driftOf) B.pre
  have hown : s.vm.findClass RX3 = some m.cls := findClass_of_methodNamed B.named
  have hlocks := B.notSynchronized
  have hP : va_P (dC, dI) vwCl [(xo_3_iiiiiiiirrrrr h v0 v1 v2 v3 (nI hh) v5 (nI ww) (nI kk) b1 b2 b3 b4 b5), (xI b1 cI 6 g1), (xI b2 cI 6 g2), (xI b3 cI 6 g3), (xI b4 cI 6 g4), (xI b5 cI 6 g5)] s.heap := hP
  have hl := lv_entry ([.ref h, .int (nI i), .int n]) (n := 4) (Nat.le_of_ble_eq_true rfl)
  rw [lg_entry_eq]
  generalize (lg_sl ([.ref h, .int (nI i), .int n]) ++ List.replicate (4 - (lg_sl ([.ref h, .int (nI i), .int n])).length) Slot.unset).toArray = ls at hl ⊢
  have hl : lv_has ls 4 [(0, .ref h), (1, .int (nI i)), (2, .int n)] := hl
  refine lv_iload_n hx hb dX3_driftOf_0 rfl (lv_at hl 2 rfl) ?_
  refine lv_iconst (v := 2) hx hb dX3_driftOf_1 (by decide) ?_
  refine lv_isub hx hb dX3_driftOf_2 ?_
  refine lv_topi (fun v_1 e_1 => ?_)
  refine lv_istore_n (lv' := [(3, .int v_1), (0, .ref h), (1, .int (nI i)), (2, .int n)]) hx hb dX3_driftOf_3 rfl hl (by decide) rfl (fun ls hl => ?_)
  refine lv_aload_n hx hb dX3_driftOf_4 rfl (lv_at hl 1 rfl) ?_
  refine va_get (D := (dC, dI)) (ci := 3) (v := .ref b2) (C := RX3) (T := TX3) (N := 13) hx hb hts i_X3_driftOf_X3 hown hK hP 0 rfl rfl 9 (by decide) (hts _ mx_X3_driftOf_1) (fun _ h9 => h9) rfl dX3_driftOf_5 ?_
  refine lv_iload_n hx hb dX3_driftOf_8 rfl (lv_at hl 2 rfl) ?_
  refine va_iald hx hb hK hP 2 0 rfl rfl (vp_in_nI (by omega) (by omega)) dX3_driftOf_9 ?_
  refine lv_topi (fun v_2 e_2 => ?_)
  have e_2 : v_2 = g2 i := e_2.trans (congrArg g2 (nI_clamp (by omega)))
  by_cases k_3 : v_2 = 1
  · subst k_3
    refine lv_tableIn (off := 30) (tgt := 40) hx hb dX3_driftOf_10 (by decide) (by decide) (by decide) (by decide) ?_
    refine lv_iload_n hx hb dX3_driftOf_40 rfl (lv_at hl 0 rfl) ?_
    exact W.iret (v := v_1) hx hb hr (fun t ht hW => ⟨v_1, rfl, (lf_X3_driftOf_1 hhb hww hkk hi e_1 e_2), ht⟩) (fun _ h => by cases h) dX3_driftOf_41
  by_cases k_4 : v_2 = 2
  · subst k_4
    refine lv_tableIn (off := 32) (tgt := 42) hx hb dX3_driftOf_10 (by decide) (by decide) (by decide) (by decide) ?_
    refine lv_iload_n hx hb dX3_driftOf_42 rfl (lv_at hl 0 rfl) ?_
    refine lv_iconst (v := 2) hx hb dX3_driftOf_43 (by decide) ?_
    refine lv_idiv hx hb dX3_driftOf_44 (by decide) ?_
    refine lv_topi (fun v_5 e_5 => ?_)
    exact W.iret (v := v_5) hx hb hr (fun t ht hW => ⟨v_5, rfl, (lf_X3_driftOf_2 hhb hww hkk hi e_1 e_2 k_3 e_5), ht⟩) (fun _ h => by cases h) dX3_driftOf_45
  by_cases k_6 : v_2 = 3
  · subst k_6
    refine lv_tableIn (off := 36) (tgt := 46) hx hb dX3_driftOf_10 (by decide) (by decide) (by decide) (by decide) ?_
    refine lv_iload_n hx hb dX3_driftOf_46 rfl (lv_at hl 0 rfl) ?_
    refine lv_iconst (v := 2) hx hb dX3_driftOf_47 (by decide) ?_
    refine lv_imul hx hb dX3_driftOf_48 ?_
    refine lv_topi (fun v_7 e_7 => ?_)
    exact W.iret (v := v_7) hx hb hr (fun t ht hW => ⟨v_7, rfl, (lf_X3_driftOf_3 hhb hww hkk hi e_1 e_2 k_3 k_4 e_7), ht⟩) (fun _ h => by cases h) dX3_driftOf_49
  by_cases k_8 : v_2 = 4
  · subst k_8
    refine lv_tableIn (off := 40) (tgt := 50) hx hb dX3_driftOf_10 (by decide) (by decide) (by decide) (by decide) ?_
    refine lv_iload_n hx hb dX3_driftOf_50 rfl (lv_at hl 0 rfl) ?_
    refine lv_ineg hx hb dX3_driftOf_51 ?_
    refine lv_topi (fun v_9 e_9 => ?_)
    exact W.iret (v := v_9) hx hb hr (fun t ht hW => ⟨v_9, rfl, (lf_X3_driftOf_4 hhb hww hkk hi e_1 e_2 k_3 k_4 k_6 e_9), ht⟩) (fun _ h => by cases h) dX3_driftOf_52
  have kT_3 := lv_neT k_3 (show (1 : Int32).toInt = 1 from rfl)
  have kT_4 := lv_neT k_4 (show (2 : Int32).toInt = 2 from rfl)
  have kT_6 := lv_neT k_6 (show (3 : Int32).toInt = 3 from rfl)
  have kT_8 := lv_neT k_8 (show (4 : Int32).toInt = 4 from rfl)
  refine lv_tableOut (tgt := 53) hx hb dX3_driftOf_10 (by omega) (by decide) ?_
  refine lv_iconst (v := 0) hx hb dX3_driftOf_53 (by decide) ?_
  exact W.iret (v := 0) hx hb hr (fun t ht hW => ⟨0, rfl, (lf_X3_driftOf_5 hhb hww hkk hi e_1 e_2 k_3 k_4 k_6 k_8), ht⟩) (fun _ h => by cases h) dX3_driftOf_54
theorem lf_X3_loudBehindHour_1 {hh : Nat} {ww : Nat} {kk : Nat} {g2 : Nat → Int32} {g4 : Nat → Int32} {i : Nat} {v_3 : Int32} {v_4 : Int32} (hhb : hh < 2000000000) (hww : ww ≤ 6) (hkk : kk ≤ 6) (hi : i < 6) (e_1 : (4 : Int32) = g2 i) (e_3 : v_3 = g4 i) (e_4 : v_4 = (v_3 - 1)) : v_4 = (lbX (g2 i) (g4 i)) := by
  simp only [lbX]; grind
theorem lf_X3_loudBehindHour_2 {hh : Nat} {ww : Nat} {kk : Nat} {g2 : Nat → Int32} {g4 : Nat → Int32} {i : Nat} {v_6 : Int32} {v_7 : Int32} {v_8 : Int32} (hhb : hh < 2000000000) (hww : ww ≤ 6) (hkk : kk ≤ 6) (hi : i < 6) (e_1 : (5 : Int32) = g2 i) (k_2 : ¬ (5 : Int32) = 4) (e_6 : v_6 = g4 i) (e_7 : v_7 = (v_6 + 1)) (e_8 : v_8 = (if 20 < v_7 then 20 else v_7)) : v_8 = (lbX (g2 i) (g4 i)) := by
  simp only [lbX]; grind
theorem lf_X3_loudBehindHour_3 {hh : Nat} {ww : Nat} {kk : Nat} {g2 : Nat → Int32} {g4 : Nat → Int32} {i : Nat} {v_1 : Int32} {v_9 : Int32} (hhb : hh < 2000000000) (hww : ww ≤ 6) (hkk : kk ≤ 6) (hi : i < 6) (e_1 : v_1 = g2 i) (k_2 : ¬ v_1 = 4) (k_5 : ¬ v_1 = 5) (e_9 : v_9 = g4 i) : v_9 = (lbX (g2 i) (g4 i)) := by
  simp only [lbX]; grind
set_option maxHeartbeats 4000000 in
set_option maxRecDepth 100000 in
theorem r_X3_loudBehindHour (l : Launch) (dC : Nat → ClassId) (dI : Nat → Nat → Nat) (cI cZ cL cJ : ClassId) (h : Nat) (v0 : Int32) (v1 : Int32) (v2 : Int32) (v3 : Int32) (v5 : Int32) (hh : Nat) (ww : Nat) (kk : Nat) (b1 : Nat) (b2 : Nat) (b3 : Nat) (b4 : Nat) (b5 : Nat) (g1 : Nat → Int32) (g2 : Nat → Int32) (g3 : Nat → Int32) (g4 : Nat → Int32) (g5 : Nat → Int32) (i : Nat) (hhb : hh < 2000000000) (hww : ww ≤ 6) (hkk : kk ≤ 6) (hi : i < 6) : Met l yX3_loudBehindHour wsX3_loudBehindHour ({ frames := 1, cells := 0, slots := 0, locals := 21 }) (va_Pc [.ref h, .int (nI i)] (fun U => va_P (dC, dI) vwCl [(xo_3_iiiiiiiirrrrr h v0 v1 v2 v3 (nI hh) v5 (nI ww) (nI kk) b1 b2 b3 b4 b5), (xI b1 cI 6 g1), (xI b2 cI 6 g2), (xI b3 cI 6 g3), (xI b4 cI 6 g4), (xI b5 cI 6 g5)] U.heap ∧ va_K (dC, dI) vwCl [(cI, .int), (cZ, .boolean), (cL, .object RX3), (cJ, .array .int)] U)) (vp_Si (fun r => r = (lbX (g2 i) (g4 i)))) 0 0 (fun _ => False) := by
  refine Met.ofW (cc := cX3_loudBehindHour) (maxL := 2) (ret := (some .int)) (by decide) rfl ?_
  intro p e s m args below meth c s₁ B hml hv
  obtain ⟨rfl, hP, hK⟩ := hv
  have hx := B.exec
  have hb := B.bytes
  have hr := B.returns
  have hts := atoms_spec (ws := wsX3_loudBehindHour) B.pre
  have hown : s.vm.findClass RX3 = some m.cls := findClass_of_methodNamed B.named
  have hlocks := B.notSynchronized
  have hP : va_P (dC, dI) vwCl [(xo_3_iiiiiiiirrrrr h v0 v1 v2 v3 (nI hh) v5 (nI ww) (nI kk) b1 b2 b3 b4 b5), (xI b1 cI 6 g1), (xI b2 cI 6 g2), (xI b3 cI 6 g3), (xI b4 cI 6 g4), (xI b5 cI 6 g5)] s.heap := hP
  have hl := lv_entry ([.ref h, .int (nI i)]) (n := 2) (Nat.le_of_ble_eq_true rfl)
  rw [lg_entry_eq]
  generalize (lg_sl ([.ref h, .int (nI i)]) ++ List.replicate (2 - (lg_sl ([.ref h, .int (nI i)])).length) Slot.unset).toArray = ls at hl ⊢
  have hl : lv_has ls 2 [(0, .ref h), (1, .int (nI i))] := hl
  refine lv_aload_n hx hb dX3_loudBehindHour_0 rfl (lv_at hl 0 rfl) ?_
  refine va_get (D := (dC, dI)) (ci := 3) (v := .ref b2) (C := RX3) (T := TX3) (N := 13) hx hb hts i_X3_loudBehindHour_X3 hown hK hP 0 rfl rfl 9 (by decide) (hts _ mx_X3_loudBehindHour_1) (fun _ h9 => h9) rfl dX3_loudBehindHour_1 ?_
  refine lv_iload_n hx hb dX3_loudBehindHour_4 rfl (lv_at hl 1 rfl) ?_
  refine va_iald hx hb hK hP 2 0 rfl rfl (vp_in_nI (by omega) (by omega)) dX3_loudBehindHour_5 ?_
  refine lv_topi (fun v_1 e_1 => ?_)
  have e_1 : v_1 = g2 i := e_1.trans (congrArg g2 (nI_clamp (by omega)))
  by_cases k_2 : v_1 = 4
  · subst k_2
    refine lv_lookup (off := 26) (tgt := 32) hx hb dX3_loudBehindHour_6 (by decide) (by decide) (by decide) ?_
    refine lv_aload_n hx hb dX3_loudBehindHour_32 rfl (lv_at hl 0 rfl) ?_
    refine va_get (D := (dC, dI)) (ci := 3) (v := .ref b4) (C := RX3) (T := TX3) (N := 13) hx hb hts i_X3_loudBehindHour_X3 hown hK hP 0 rfl rfl 11 (by decide) (hts _ mx_X3_loudBehindHour_2) (fun _ h9 => h9) rfl dX3_loudBehindHour_33 ?_
    refine lv_iload_n hx hb dX3_loudBehindHour_36 rfl (lv_at hl 1 rfl) ?_
    refine va_iald hx hb hK hP 4 0 rfl rfl (vp_in_nI (by omega) (by omega)) dX3_loudBehindHour_37 ?_
    refine lv_topi (fun v_3 e_3 => ?_)
    have e_3 : v_3 = g4 i := e_3.trans (congrArg g4 (nI_clamp (by omega)))
    refine lv_iconst (v := 1) hx hb dX3_loudBehindHour_38 (by decide) ?_
    refine lv_isub hx hb dX3_loudBehindHour_39 ?_
    refine lv_topi (fun v_4 e_4 => ?_)
    exact W.iret (v := v_4) hx hb hr (fun t ht hW => ⟨v_4, rfl, (lf_X3_loudBehindHour_1 hhb hww hkk hi e_1 e_3 e_4), ht⟩) (fun _ h => by cases h) dX3_loudBehindHour_40
  by_cases k_5 : v_1 = 5
  · subst k_5
    refine lv_lookup (off := 35) (tgt := 41) hx hb dX3_loudBehindHour_6 (by decide) (by decide) (by decide) ?_
    refine lv_aload_n hx hb dX3_loudBehindHour_41 rfl (lv_at hl 0 rfl) ?_
    refine va_get (D := (dC, dI)) (ci := 3) (v := .ref b4) (C := RX3) (T := TX3) (N := 13) hx hb hts i_X3_loudBehindHour_X3 hown hK hP 0 rfl rfl 11 (by decide) (hts _ mx_X3_loudBehindHour_2) (fun _ h9 => h9) rfl dX3_loudBehindHour_42 ?_
    refine lv_iload_n hx hb dX3_loudBehindHour_45 rfl (lv_at hl 1 rfl) ?_
    refine va_iald hx hb hK hP 4 0 rfl rfl (vp_in_nI (by omega) (by omega)) dX3_loudBehindHour_46 ?_
    refine lv_topi (fun v_6 e_6 => ?_)
    have e_6 : v_6 = g4 i := e_6.trans (congrArg g4 (nI_clamp (by omega)))
    refine lv_iconst (v := 1) hx hb dX3_loudBehindHour_47 (by decide) ?_
    refine lv_iadd hx hb dX3_loudBehindHour_48 ?_
    refine lv_topi (fun v_7 e_7 => ?_)
    refine lv_bipush (v := 20) hx hb dX3_loudBehindHour_49 (by decide) ?_
    refine va_mmin hx hb (by rw [hml]; exact hl.1.symm) hown (hts _ mx_X3_loudBehindHour_3) (hts _ mx_X3_loudBehindHour_4) (hts _ mx_X3_loudBehindHour_5) (hts _ mx_X3_loudBehindHour_6) (Nat.le_of_ble_eq_true rfl) (Nat.le_of_ble_eq_true rfl) (Nat.zero_le _) (Nat.zero_le _) dX3_loudBehindHour_51 ?_
    refine lv_topi (fun v_8 e_8 => ?_)
    exact W.iret (v := v_8) hx hb hr (fun t ht hW => ⟨v_8, rfl, (lf_X3_loudBehindHour_2 hhb hww hkk hi e_1 k_2 e_6 e_7 e_8), ht⟩) (fun _ h => by cases h) dX3_loudBehindHour_54
  refine lv_lookup (off := 49) (tgt := 55) hx hb dX3_loudBehindHour_6 (by decide) ((lv_osw k_2 rfl).trans ( (lv_osw k_5 rfl).trans (rfl))) (by decide) ?_
  refine lv_aload_n hx hb dX3_loudBehindHour_55 rfl (lv_at hl 0 rfl) ?_
  refine va_get (D := (dC, dI)) (ci := 3) (v := .ref b4) (C := RX3) (T := TX3) (N := 13) hx hb hts i_X3_loudBehindHour_X3 hown hK hP 0 rfl rfl 11 (by decide) (hts _ mx_X3_loudBehindHour_2) (fun _ h9 => h9) rfl dX3_loudBehindHour_56 ?_
  refine lv_iload_n hx hb dX3_loudBehindHour_59 rfl (lv_at hl 1 rfl) ?_
  refine va_iald hx hb hK hP 4 0 rfl rfl (vp_in_nI (by omega) (by omega)) dX3_loudBehindHour_60 ?_
  refine lv_topi (fun v_9 e_9 => ?_)
  have e_9 : v_9 = g4 i := e_9.trans (congrArg g4 (nI_clamp (by omega)))
  exact W.iret (v := v_9) hx hb hr (fun t ht hW => ⟨v_9, rfl, (lf_X3_loudBehindHour_3 hhb hww hkk hi e_1 k_2 k_5 e_9), ht⟩) (fun _ h => by cases h) dX3_loudBehindHour_61
theorem lf_X3_grindsAt_1 {v1 : Int32} {v2 : Int32} {v3 : Int32} {hh : Nat} {ww : Nat} {kk : Nat} {n : Int32} {k : Int32} {v_2 : Int32} (hhb : hh < 2000000000) (hww : ww ≤ 6) (hkk : kk ≤ 6) (c_1 : ¬ (v3 = 1)) (e_2 : v_2 = (v1 - n)) (c_3 : k = 2) : ¬ grX v1 v2 v3 n k := by
  simp only [grX, frX]; grind
theorem lf_X3_grindsAt_2 {v1 : Int32} {v2 : Int32} {v3 : Int32} {hh : Nat} {ww : Nat} {kk : Nat} {n : Int32} {k : Int32} {v_2 : Int32} (hhb : hh < 2000000000) (hww : ww ≤ 6) (hkk : kk ≤ 6) (c_1 : ¬ (v3 = 1)) (e_2 : v_2 = (v1 - n)) (c_3 : ¬ (k = 2)) (c_4 : v_2 < 0) : ¬ grX v1 v2 v3 n k := by
  simp only [grX, frX]; grind
theorem lf_X3_grindsAt_3 {v1 : Int32} {v2 : Int32} {v3 : Int32} {hh : Nat} {ww : Nat} {kk : Nat} {n : Int32} {k : Int32} {v_2 : Int32} (hhb : hh < 2000000000) (hww : ww ≤ 6) (hkk : kk ≤ 6) (c_1 : ¬ (v3 = 1)) (e_2 : v_2 = (v1 - n)) (c_3 : ¬ (k = 2)) (c_4 : ¬ (v_2 < 0)) (c_5 : v2 < v_2) : ¬ grX v1 v2 v3 n k := by
  simp only [grX, frX]; grind
theorem lf_X3_grindsAt_4 {v1 : Int32} {v2 : Int32} {v3 : Int32} {hh : Nat} {ww : Nat} {kk : Nat} {n : Int32} {k : Int32} {v_2 : Int32} (hhb : hh < 2000000000) (hww : ww ≤ 6) (hkk : kk ≤ 6) (c_1 : ¬ (v3 = 1)) (e_2 : v_2 = (v1 - n)) (c_3 : ¬ (k = 2)) (c_4 : ¬ (v_2 < 0)) (c_5 : ¬ (v2 < v_2)) : grX v1 v2 v3 n k := by
  simp only [grX, frX]; grind
theorem lf_X3_grindsAt_5 {v1 : Int32} {v2 : Int32} {v3 : Int32} {hh : Nat} {ww : Nat} {kk : Nat} {n : Int32} {k : Int32} {v_6 : Int32} (hhb : hh < 2000000000) (hww : ww ≤ 6) (hkk : kk ≤ 6) (c_1 : v3 = 1) (e_6 : v_6 = (n - v1)) (c_7 : k = 2) : ¬ grX v1 v2 v3 n k := by
  simp only [grX, frX]; grind
theorem lf_X3_grindsAt_6 {v1 : Int32} {v2 : Int32} {v3 : Int32} {hh : Nat} {ww : Nat} {kk : Nat} {n : Int32} {k : Int32} {v_6 : Int32} (hhb : hh < 2000000000) (hww : ww ≤ 6) (hkk : kk ≤ 6) (c_1 : v3 = 1) (e_6 : v_6 = (n - v1)) (c_7 : ¬ (k = 2)) (c_8 : v_6 < 0) : ¬ grX v1 v2 v3 n k := by
  simp only [grX, frX]; grind
theorem lf_X3_grindsAt_7 {v1 : Int32} {v2 : Int32} {v3 : Int32} {hh : Nat} {ww : Nat} {kk : Nat} {n : Int32} {k : Int32} {v_6 : Int32} (hhb : hh < 2000000000) (hww : ww ≤ 6) (hkk : kk ≤ 6) (c_1 : v3 = 1) (e_6 : v_6 = (n - v1)) (c_7 : ¬ (k = 2)) (c_8 : ¬ (v_6 < 0)) (c_9 : v2 < v_6) : ¬ grX v1 v2 v3 n k := by
  simp only [grX, frX]; grind
theorem lf_X3_grindsAt_8 {v1 : Int32} {v2 : Int32} {v3 : Int32} {hh : Nat} {ww : Nat} {kk : Nat} {n : Int32} {k : Int32} {v_6 : Int32} (hhb : hh < 2000000000) (hww : ww ≤ 6) (hkk : kk ≤ 6) (c_1 : v3 = 1) (e_6 : v_6 = (n - v1)) (c_7 : ¬ (k = 2)) (c_8 : ¬ (v_6 < 0)) (c_9 : ¬ (v2 < v_6)) : grX v1 v2 v3 n k := by
  simp only [grX, frX]; grind
set_option maxHeartbeats 4000000 in
set_option maxRecDepth 100000 in
theorem r_X3_grindsAt (l : Launch) (dC : Nat → ClassId) (dI : Nat → Nat → Nat) (cI cZ cL cJ : ClassId) (h : Nat) (v0 : Int32) (v1 : Int32) (v2 : Int32) (v3 : Int32) (v5 : Int32) (hh : Nat) (ww : Nat) (kk : Nat) (b1 : Nat) (b2 : Nat) (b3 : Nat) (b4 : Nat) (b5 : Nat) (g1 : Nat → Int32) (g2 : Nat → Int32) (g3 : Nat → Int32) (g4 : Nat → Int32) (g5 : Nat → Int32) (n : Int32) (k : Int32) (hhb : hh < 2000000000) (hww : ww ≤ 6) (hkk : kk ≤ 6) : Met l yX3_grindsAt wsX3_grindsAt ({ frames := 0, cells := 0, slots := 0, locals := 0 }) (va_Pc [.ref h, .int n, .int k] (fun U => va_P (dC, dI) vwCl [(xo_3_iiiiiiiirrrrr h v0 v1 v2 v3 (nI hh) v5 (nI ww) (nI kk) b1 b2 b3 b4 b5), (xI b1 cI 6 g1), (xI b2 cI 6 g2), (xI b3 cI 6 g3), (xI b4 cI 6 g4), (xI b5 cI 6 g5)] U.heap ∧ va_K (dC, dI) vwCl [(cI, .int), (cZ, .boolean), (cL, .object RX3), (cJ, .array .int)] U)) (vp_Si (fun r => (r = 0 ∧ ¬ grX v1 v2 v3 n k) ∨ (r = 1 ∧ grX v1 v2 v3 n k))) 0 0 (fun _ => False) := by
  refine Met.ofW (cc := cX3_grindsAt) (maxL := 4) (ret := (some .boolean)) (by decide) rfl ?_
  intro p e s m args below meth c s₁ B hml hv
  obtain ⟨rfl, hP, hK⟩ := hv
  have hx := B.exec
  have hb := B.bytes
  have hr := B.returns
  have hts := atoms_spec (ws := wsX3_grindsAt) B.pre
  have hown : s.vm.findClass RX3 = some m.cls := findClass_of_methodNamed B.named
  have hlocks := B.notSynchronized
  have hP : va_P (dC, dI) vwCl [(xo_3_iiiiiiiirrrrr h v0 v1 v2 v3 (nI hh) v5 (nI ww) (nI kk) b1 b2 b3 b4 b5), (xI b1 cI 6 g1), (xI b2 cI 6 g2), (xI b3 cI 6 g3), (xI b4 cI 6 g4), (xI b5 cI 6 g5)] s.heap := hP
  have hl := lv_entry ([.ref h, .int n, .int k]) (n := 4) (Nat.le_of_ble_eq_true rfl)
  rw [lg_entry_eq]
  generalize (lg_sl ([.ref h, .int n, .int k]) ++ List.replicate (4 - (lg_sl ([.ref h, .int n, .int k])).length) Slot.unset).toArray = ls at hl ⊢
  have hl : lv_has ls 4 [(0, .ref h), (1, .int n), (2, .int k)] := hl
  refine lv_aload_n hx hb dX3_grindsAt_0 rfl (lv_at hl 0 rfl) ?_
  refine va_get (D := (dC, dI)) (ci := 3) (v := .int v3) (C := RX3) (T := TX3) (N := 13) hx hb hts i_X3_grindsAt_X3 hown hK hP 0 rfl rfl 3 (by decide) (hts _ mx_X3_grindsAt_1) (fun _ h9 => h9) rfl dX3_grindsAt_1 ?_
  refine lv_iconst (v := 1) hx hb dX3_grindsAt_4 (by decide) ?_
  refine lv_icmp_ne (tgt := 17) hx hb dX3_grindsAt_5 (by decide) (fun c_1 => ?_) (fun c_1 => ?_)
  · skip
    refine lv_aload_n hx hb dX3_grindsAt_17 rfl (lv_at hl 0 rfl) ?_
    refine va_get (D := (dC, dI)) (ci := 3) (v := .int v1) (C := RX3) (T := TX3) (N := 13) hx hb hts i_X3_grindsAt_X3 hown hK hP 0 rfl rfl 1 (by decide) (hts _ mx_X3_grindsAt_2) (fun _ h9 => h9) rfl dX3_grindsAt_18 ?_
    refine lv_iload_n hx hb dX3_grindsAt_21 rfl (lv_at hl 1 rfl) ?_
    refine lv_isub hx hb dX3_grindsAt_22 ?_
    refine lv_topi (fun v_2 e_2 => ?_)
    refine lv_istore_n (lv' := [(3, .int v_2), (0, .ref h), (1, .int n), (2, .int k)]) hx hb dX3_grindsAt_23 rfl hl (by decide) rfl (fun ls hl => ?_)
    refine lv_iload_n hx hb dX3_grindsAt_24 rfl (lv_at hl 3 rfl) ?_
    refine lv_iconst (v := 2) hx hb dX3_grindsAt_25 (by decide) ?_
    refine lv_icmp_eq (tgt := 45) hx hb dX3_grindsAt_26 (by decide) (fun c_3 => ?_) (fun c_3 => ?_)
    · skip
      refine lv_iconst (v := 0) hx hb dX3_grindsAt_45 (by decide) ?_
      exact W.zret (v := 0) hx hb hr (by decide) (fun t ht hW => ⟨0, rfl, Or.inl (⟨rfl, (lf_X3_grindsAt_1 hhb hww hkk c_1 e_2 c_3)⟩), ht⟩) (fun _ h => by cases h) dX3_grindsAt_46
    · skip
      refine lv_iload_n hx hb dX3_grindsAt_29 rfl (lv_at hl 0 rfl) ?_
      refine lv_if_lt (tgt := 45) hx hb dX3_grindsAt_30 (by decide) (fun c_4 => ?_) (fun c_4 => ?_)
      · skip
        refine lv_iconst (v := 0) hx hb dX3_grindsAt_45 (by decide) ?_
        exact W.zret (v := 0) hx hb hr (by decide) (fun t ht hW => ⟨0, rfl, Or.inl (⟨rfl, (lf_X3_grindsAt_2 hhb hww hkk c_1 e_2 c_3 c_4)⟩), ht⟩) (fun _ h => by cases h) dX3_grindsAt_46
      · skip
        refine lv_iload_n hx hb dX3_grindsAt_33 rfl (lv_at hl 0 rfl) ?_
        refine lv_aload_n hx hb dX3_grindsAt_34 rfl (lv_at hl 1 rfl) ?_
        refine va_get (D := (dC, dI)) (ci := 3) (v := .int v2) (C := RX3) (T := TX3) (N := 13) hx hb hts i_X3_grindsAt_X3 hown hK hP 0 rfl rfl 2 (by decide) (hts _ mx_X3_grindsAt_3) (fun _ h9 => h9) rfl dX3_grindsAt_35 ?_
        refine lv_icmp_gt (tgt := 45) hx hb dX3_grindsAt_38 (by decide) (fun c_5 => ?_) (fun c_5 => ?_)
        · skip
          refine lv_iconst (v := 0) hx hb dX3_grindsAt_45 (by decide) ?_
          exact W.zret (v := 0) hx hb hr (by decide) (fun t ht hW => ⟨0, rfl, Or.inl (⟨rfl, (lf_X3_grindsAt_3 hhb hww hkk c_1 e_2 c_3 c_4 c_5)⟩), ht⟩) (fun _ h => by cases h) dX3_grindsAt_46
        · skip
          refine lv_iconst (v := 1) hx hb dX3_grindsAt_41 (by decide) ?_
          refine lv_goto (tgt := 46) hx hb dX3_grindsAt_42 (by decide) ?_
          exact W.zret (v := 1) hx hb hr (by decide) (fun t ht hW => ⟨1, rfl, Or.inr (⟨rfl, (lf_X3_grindsAt_4 hhb hww hkk c_1 e_2 c_3 c_4 c_5)⟩), ht⟩) (fun _ h => by cases h) dX3_grindsAt_46
  · skip
    refine lv_iload_n hx hb dX3_grindsAt_8 rfl (lv_at hl 1 rfl) ?_
    refine lv_aload_n hx hb dX3_grindsAt_9 rfl (lv_at hl 0 rfl) ?_
    refine va_get (D := (dC, dI)) (ci := 3) (v := .int v1) (C := RX3) (T := TX3) (N := 13) hx hb hts i_X3_grindsAt_X3 hown hK hP 0 rfl rfl 1 (by decide) (hts _ mx_X3_grindsAt_2) (fun _ h9 => h9) rfl dX3_grindsAt_10 ?_
    refine lv_isub hx hb dX3_grindsAt_13 ?_
    refine lv_topi (fun v_6 e_6 => ?_)
    refine lv_goto (tgt := 23) hx hb dX3_grindsAt_14 (by decide) ?_
    refine lv_istore_n (lv' := [(3, .int v_6), (0, .ref h), (1, .int n), (2, .int k)]) hx hb dX3_grindsAt_23 rfl hl (by decide) rfl (fun ls hl => ?_)
    refine lv_iload_n hx hb dX3_grindsAt_24 rfl (lv_at hl 3 rfl) ?_
    refine lv_iconst (v := 2) hx hb dX3_grindsAt_25 (by decide) ?_
    refine lv_icmp_eq (tgt := 45) hx hb dX3_grindsAt_26 (by decide) (fun c_7 => ?_) (fun c_7 => ?_)
    · skip
      refine lv_iconst (v := 0) hx hb dX3_grindsAt_45 (by decide) ?_
      exact W.zret (v := 0) hx hb hr (by decide) (fun t ht hW => ⟨0, rfl, Or.inl (⟨rfl, (lf_X3_grindsAt_5 hhb hww hkk c_1 e_6 c_7)⟩), ht⟩) (fun _ h => by cases h) dX3_grindsAt_46
    · skip
      refine lv_iload_n hx hb dX3_grindsAt_29 rfl (lv_at hl 0 rfl) ?_
      refine lv_if_lt (tgt := 45) hx hb dX3_grindsAt_30 (by decide) (fun c_8 => ?_) (fun c_8 => ?_)
      · skip
        refine lv_iconst (v := 0) hx hb dX3_grindsAt_45 (by decide) ?_
        exact W.zret (v := 0) hx hb hr (by decide) (fun t ht hW => ⟨0, rfl, Or.inl (⟨rfl, (lf_X3_grindsAt_6 hhb hww hkk c_1 e_6 c_7 c_8)⟩), ht⟩) (fun _ h => by cases h) dX3_grindsAt_46
      · skip
        refine lv_iload_n hx hb dX3_grindsAt_33 rfl (lv_at hl 0 rfl) ?_
        refine lv_aload_n hx hb dX3_grindsAt_34 rfl (lv_at hl 1 rfl) ?_
        refine va_get (D := (dC, dI)) (ci := 3) (v := .int v2) (C := RX3) (T := TX3) (N := 13) hx hb hts i_X3_grindsAt_X3 hown hK hP 0 rfl rfl 2 (by decide) (hts _ mx_X3_grindsAt_3) (fun _ h9 => h9) rfl dX3_grindsAt_35 ?_
        refine lv_icmp_gt (tgt := 45) hx hb dX3_grindsAt_38 (by decide) (fun c_9 => ?_) (fun c_9 => ?_)
        · skip
          refine lv_iconst (v := 0) hx hb dX3_grindsAt_45 (by decide) ?_
          exact W.zret (v := 0) hx hb hr (by decide) (fun t ht hW => ⟨0, rfl, Or.inl (⟨rfl, (lf_X3_grindsAt_7 hhb hww hkk c_1 e_6 c_7 c_8 c_9)⟩), ht⟩) (fun _ h => by cases h) dX3_grindsAt_46
        · skip
          refine lv_iconst (v := 1) hx hb dX3_grindsAt_41 (by decide) ?_
          refine lv_goto (tgt := 46) hx hb dX3_grindsAt_42 (by decide) ?_
          exact W.zret (v := 1) hx hb hr (by decide) (fun t ht hW => ⟨1, rfl, Or.inr (⟨rfl, (lf_X3_grindsAt_8 hhb hww hkk c_1 e_6 c_7 c_8 c_9)⟩), ht⟩) (fun _ h => by cases h) dX3_grindsAt_46
theorem lf_X3_turnCap_1 {v3 : Int32} {hh : Nat} {ww : Nat} {kk : Nat} {v_1 : Int32} (hhb : hh < 2000000000) (hww : ww ≤ 6) (hkk : kk ≤ 6) (e_1 : v_1 = (1 - v3)) : v_1 = 1 - v3 := by
  grind
set_option maxHeartbeats 4000000 in
set_option maxRecDepth 100000 in
theorem r_X3_turnCap (l : Launch) (dC : Nat → ClassId) (dI : Nat → Nat → Nat) (cI cZ cL cJ : ClassId) (sz : Nat) (h : Nat) (v0 : Int32) (v1 : Int32) (v2 : Int32) (v3 : Int32) (v5 : Int32) (hh : Nat) (ww : Nat) (kk : Nat) (b1 : Nat) (b2 : Nat) (b3 : Nat) (b4 : Nat) (b5 : Nat) (g1 : Nat → Int32) (g2 : Nat → Int32) (g3 : Nat → Int32) (g4 : Nat → Int32) (g5 : Nat → Int32) (hhb : hh < 2000000000) (hww : ww ≤ 6) (hkk : kk ≤ 6) : Met l yX3_turnCap wsX3_turnCap ({ frames := 0, cells := 0, slots := 0, locals := 0 }) (va_Pc [.ref h] (fun U => U.heap.size = sz ∧ va_P (dC, dI) vwCl [(xo_3_iiiiiiiirrrrr h v0 v1 v2 v3 (nI hh) v5 (nI ww) (nI kk) b1 b2 b3 b4 b5), (xI b1 cI 6 g1), (xI b2 cI 6 g2), (xI b3 cI 6 g3), (xI b4 cI 6 g4), (xI b5 cI 6 g5)] U.heap ∧ va_K (dC, dI) vwCl [(cI, .int), (cZ, .boolean), (cL, .object RX3), (cJ, .array .int)] U ∧ va_D (fun _ => True) [(xo_3_iiiiiiiirrrrr h v0 v1 v2 v3 (nI hh) v5 (nI ww) (nI kk) b1 b2 b3 b4 b5), (xI b1 cI 6 g1), (xI b2 cI 6 g2), (xI b3 cI 6 g3), (xI b4 cI 6 g4), (xI b5 cI 6 g5)])) (va_Qv (fun (_ : Unit) => True) (fun (_ : Unit) t => ∃ (v3n : Int32), va_P (dC, dI) vwCl [(xo_3_iiiiiiiirrrrr h v0 v1 v2 v3n (nI hh) v5 (nI ww) (nI kk) b1 b2 b3 b4 b5), (xI b1 cI 6 g1), (xI b2 cI 6 g2), (xI b3 cI 6 g3), (xI b4 cI 6 g4), (xI b5 cI 6 g5)] t.heap ∧ va_D (va_A [(xo_3_iiiiiiiirrrrr h v0 v1 v2 v3 (nI hh) v5 (nI ww) (nI kk) b1 b2 b3 b4 b5), (xI b1 cI 6 g1), (xI b2 cI 6 g2), (xI b3 cI 6 g3), (xI b4 cI 6 g4), (xI b5 cI 6 g5)] sz) [(xo_3_iiiiiiiirrrrr h v0 v1 v2 v3n (nI hh) v5 (nI ww) (nI kk) b1 b2 b3 b4 b5), (xI b1 cI 6 g1), (xI b2 cI 6 g2), (xI b3 cI 6 g3), (xI b4 cI 6 g4), (xI b5 cI 6 g5)] ∧ v3n = 1 - v3) (va_A [(xo_3_iiiiiiiirrrrr h v0 v1 v2 v3 (nI hh) v5 (nI ww) (nI kk) b1 b2 b3 b4 b5), (xI b1 cI 6 g1), (xI b2 cI 6 g2), (xI b3 cI 6 g3), (xI b4 cI 6 g4), (xI b5 cI 6 g5)] sz)) 0 0 (va_A [(xo_3_iiiiiiiirrrrr h v0 v1 v2 v3 (nI hh) v5 (nI ww) (nI kk) b1 b2 b3 b4 b5), (xI b1 cI 6 g1), (xI b2 cI 6 g2), (xI b3 cI 6 g3), (xI b4 cI 6 g4), (xI b5 cI 6 g5)] sz) := by
  refine Met.ofW (cc := cX3_turnCap) (maxL := 1) (ret := none) (by decide) rfl ?_
  intro p e s m args below meth c s₁ B hml hv
  obtain ⟨rfl, hsz, hP, hK, hD0⟩ := hv
  have hx := B.exec
  have hb := B.bytes
  have hr := B.returns
  have hts := atoms_spec (ws := wsX3_turnCap) B.pre
  have hown : s.vm.findClass RX3 = some m.cls := findClass_of_methodNamed B.named
  have hlocks := B.notSynchronized
  subst hsz
  have hD := hD0.self (sz := s.heap.size)
  generalize hAe : va_A [(xo_3_iiiiiiiirrrrr h v0 v1 v2 v3 (nI hh) v5 (nI ww) (nI kk) b1 b2 b3 b4 b5), (xI b1 cI 6 g1), (xI b2 cI 6 g2), (xI b3 cI 6 g3), (xI b4 cI 6 g4), (xI b5 cI 6 g5)] s.heap.size = A at hD ⊢
  have hA : ∀ q : Nat, s.heap.size ≤ q → A q := fun q h => by rw [← hAe]; exact Or.inr h
  have hS : va_S A s.heap s.heap [] := va_S.rf
  have hP : va_P (dC, dI) vwCl [(xo_3_iiiiiiiirrrrr h v0 v1 v2 v3 (nI hh) v5 (nI ww) (nI kk) b1 b2 b3 b4 b5), (xI b1 cI 6 g1), (xI b2 cI 6 g2), (xI b3 cI 6 g3), (xI b4 cI 6 g4), (xI b5 cI 6 g5)] s.heap := hP
  have hl := lv_entry ([.ref h]) (n := 1) (Nat.le_of_ble_eq_true rfl)
  rw [lg_entry_eq]
  generalize (lg_sl ([.ref h]) ++ List.replicate (1 - (lg_sl ([.ref h])).length) Slot.unset).toArray = ls at hl ⊢
  have hl : lv_has ls 1 [(0, .ref h)] := hl
  refine lv_aload_n hx hb dX3_turnCap_0 rfl (lv_at hl 0 rfl) ?_
  refine lv_iconst (v := 1) hx hb dX3_turnCap_1 (by decide) ?_
  refine lv_aload_n hx hb dX3_turnCap_2 rfl (lv_at hl 0 rfl) ?_
  refine va_get (D := (dC, dI)) (ci := 3) (v := .int v3) (C := RX3) (T := TX3) (N := 13) hx hb hts i_X3_turnCap_X3 hown hK hP 0 rfl rfl 3 (by decide) (hts _ mx_X3_turnCap_1) (fun _ h9 => h9) rfl dX3_turnCap_3 ?_
  refine lv_isub hx hb dX3_turnCap_6 ?_
  refine lv_topi (fun v_1 e_1 => ?_)
  refine va_put (D := (dC, dI)) (ci := 3) (v := .int v_1) (ty := .int) (C := RX3) (T := TX3) (N := 13) hx hb hts i_X3_turnCap_X3 tyX3 tyX3_ok nmX3 hown hK hP hD hS 0 rfl rfl 3 (by decide) (hts _ mx_X3_turnCap_1) (fun _ h9 => h9) rfl (by decide +kernel) rfl rfl (Nat.le_of_ble_eq_true rfl) dX3_turnCap_7 (fun H locs hP hD hS => ?_)
  have hP : va_P (dC, dI) vwCl [(xo_3_iiiiiiiirrrrr h v0 v1 v2 v_1 (nI hh) v5 (nI ww) (nI kk) b1 b2 b3 b4 b5), (xI b1 cI 6 g1), (xI b2 cI 6 g2), (xI b3 cI 6 g3), (xI b4 cI 6 g4), (xI b5 cI 6 g5)] H := hP
  have hD := dto hP hD
  have hX9 := cut2 (wc := [(xo_3_iiiiiiiirrrrr h v0 v1 v2 v_1 (nI hh) v5 (nI ww) (nI kk) b1 b2 b3 b4 b5), (xI b1 cI 6 g1), (xI b2 cI 6 g2), (xI b3 cI 6 g3), (xI b4 cI 6 g4), (xI b5 cI 6 g5)]) hP hD [0, 1, 2, 3, 4, 5] (by decide +kernel) rfl
  exact W.vret hx hb hr (fun t ht hW => ⟨⟨(), rfl, trivial, ⟨v_1, va_Ht ht hX9.1, hX9.2, (lf_X3_turnCap_1 hhb hww hkk e_1)⟩⟩, hS.F ht⟩) hS.2.2 dX3_turnCap_10
theorem lf_X3_turnWind_1 {hh : Nat} {ww : Nat} {kk : Nat} {g1 : Nat → Int32} (hhb : hh < 2000000000) (hww : ww ≤ 6) (hkk : kk ≤ 6) (c_1 : ww ≤ 0) : g1 = twX g1 ww hh := by
  simp only [twX]; grind
theorem lf_X3_turnWind_2 {hh : Nat} {ww : Nat} {kk : Nat} {g1 : Nat → Int32} {z_2 : Nat} {v_3 : Int32} {v_4 : Int32} {g_5 : Nat → Int32} (hhb : hh < 2000000000) (hww : ww ≤ 6) (hkk : kk ≤ 6) (c_1 : ¬ (ww ≤ 0)) (hz_2 : z_2 < ww) (hze_2 : z_2 = hh % ww) (e_3 : v_3 = g1 z_2) (e_4 : v_4 = (4 - v_3)) (hu_5 : g_5 = upd g1 z_2 v_4) : g_5 = twX g1 ww hh := by
  simp only [twX]; grind
set_option maxHeartbeats 4000000 in
set_option maxRecDepth 100000 in
theorem r_X3_turnWind (l : Launch) (dC : Nat → ClassId) (dI : Nat → Nat → Nat) (cI cZ cL cJ : ClassId) (sz : Nat) (h : Nat) (v0 : Int32) (v1 : Int32) (v2 : Int32) (v3 : Int32) (v5 : Int32) (hh : Nat) (ww : Nat) (kk : Nat) (b1 : Nat) (b2 : Nat) (b3 : Nat) (b4 : Nat) (b5 : Nat) (g1 : Nat → Int32) (g2 : Nat → Int32) (g3 : Nat → Int32) (g4 : Nat → Int32) (g5 : Nat → Int32) (hhb : hh < 2000000000) (hww : ww ≤ 6) (hkk : kk ≤ 6) : Met l yX3_turnWind wsX3_turnWind ({ frames := 0, cells := 0, slots := 0, locals := 0 }) (va_Pc [.ref h] (fun U => U.heap.size = sz ∧ va_P (dC, dI) vwCl [(xo_3_iiiiiiiirrrrr h v0 v1 v2 v3 (nI hh) v5 (nI ww) (nI kk) b1 b2 b3 b4 b5), (xI b1 cI 6 g1), (xI b2 cI 6 g2), (xI b3 cI 6 g3), (xI b4 cI 6 g4), (xI b5 cI 6 g5)] U.heap ∧ va_K (dC, dI) vwCl [(cI, .int), (cZ, .boolean), (cL, .object RX3), (cJ, .array .int)] U ∧ va_D (fun _ => True) [(xo_3_iiiiiiiirrrrr h v0 v1 v2 v3 (nI hh) v5 (nI ww) (nI kk) b1 b2 b3 b4 b5), (xI b1 cI 6 g1), (xI b2 cI 6 g2), (xI b3 cI 6 g3), (xI b4 cI 6 g4), (xI b5 cI 6 g5)])) (va_Qv (fun (_ : Unit) => True) (fun (_ : Unit) t => ∃ (g1n : Nat → Int32), va_P (dC, dI) vwCl [(xo_3_iiiiiiiirrrrr h v0 v1 v2 v3 (nI hh) v5 (nI ww) (nI kk) b1 b2 b3 b4 b5), (xI b1 cI 6 g1n), (xI b2 cI 6 g2), (xI b3 cI 6 g3), (xI b4 cI 6 g4), (xI b5 cI 6 g5)] t.heap ∧ va_D (va_A [(xo_3_iiiiiiiirrrrr h v0 v1 v2 v3 (nI hh) v5 (nI ww) (nI kk) b1 b2 b3 b4 b5), (xI b1 cI 6 g1), (xI b2 cI 6 g2), (xI b3 cI 6 g3), (xI b4 cI 6 g4), (xI b5 cI 6 g5)] sz) [(xo_3_iiiiiiiirrrrr h v0 v1 v2 v3 (nI hh) v5 (nI ww) (nI kk) b1 b2 b3 b4 b5), (xI b1 cI 6 g1n), (xI b2 cI 6 g2), (xI b3 cI 6 g3), (xI b4 cI 6 g4), (xI b5 cI 6 g5)] ∧ g1n = twX g1 ww hh) (va_A [(xo_3_iiiiiiiirrrrr h v0 v1 v2 v3 (nI hh) v5 (nI ww) (nI kk) b1 b2 b3 b4 b5), (xI b1 cI 6 g1), (xI b2 cI 6 g2), (xI b3 cI 6 g3), (xI b4 cI 6 g4), (xI b5 cI 6 g5)] sz)) 0 0 (va_A [(xo_3_iiiiiiiirrrrr h v0 v1 v2 v3 (nI hh) v5 (nI ww) (nI kk) b1 b2 b3 b4 b5), (xI b1 cI 6 g1), (xI b2 cI 6 g2), (xI b3 cI 6 g3), (xI b4 cI 6 g4), (xI b5 cI 6 g5)] sz) := by
  refine Met.ofW (cc := cX3_turnWind) (maxL := 2) (ret := none) (by decide) rfl ?_
  intro p e s m args below meth c s₁ B hml hv
  obtain ⟨rfl, hsz, hP, hK, hD0⟩ := hv
  have hx := B.exec
  have hb := B.bytes
  have hr := B.returns
  have hts := atoms_spec (ws := wsX3_turnWind) B.pre
  have hown : s.vm.findClass RX3 = some m.cls := findClass_of_methodNamed B.named
  have hlocks := B.notSynchronized
  subst hsz
  have hD := hD0.self (sz := s.heap.size)
  generalize hAe : va_A [(xo_3_iiiiiiiirrrrr h v0 v1 v2 v3 (nI hh) v5 (nI ww) (nI kk) b1 b2 b3 b4 b5), (xI b1 cI 6 g1), (xI b2 cI 6 g2), (xI b3 cI 6 g3), (xI b4 cI 6 g4), (xI b5 cI 6 g5)] s.heap.size = A at hD ⊢
  have hA : ∀ q : Nat, s.heap.size ≤ q → A q := fun q h => by rw [← hAe]; exact Or.inr h
  have hS : va_S A s.heap s.heap [] := va_S.rf
  have hP : va_P (dC, dI) vwCl [(xo_3_iiiiiiiirrrrr h v0 v1 v2 v3 (nI hh) v5 (nI ww) (nI kk) b1 b2 b3 b4 b5), (xI b1 cI 6 g1), (xI b2 cI 6 g2), (xI b3 cI 6 g3), (xI b4 cI 6 g4), (xI b5 cI 6 g5)] s.heap := hP
  have hl := lv_entry ([.ref h]) (n := 2) (Nat.le_of_ble_eq_true rfl)
  rw [lg_entry_eq]
  generalize (lg_sl ([.ref h]) ++ List.replicate (2 - (lg_sl ([.ref h])).length) Slot.unset).toArray = ls at hl ⊢
  have hl : lv_has ls 2 [(0, .ref h)] := hl
  refine lv_aload_n hx hb dX3_turnWind_0 rfl (lv_at hl 0 rfl) ?_
  refine va_get (D := (dC, dI)) (ci := 3) (v := .int (nI ww)) (C := RX3) (T := TX3) (N := 13) hx hb hts i_X3_turnWind_X3 hown hK hP 0 rfl rfl 6 (by decide) (hts _ mx_X3_turnWind_1) (fun _ h9 => h9) rfl dX3_turnWind_1 ?_
  refine lv_if_le (tgt := 31) hx hb dX3_turnWind_4 (by decide) (fun c_1 => ?_) (fun c_1 => ?_)
  · have c_1 : ww ≤ 0 := (nI_leI (a := ww) (b := 0) (by omega) (by omega)).mp c_1
    have hX9 := cut2 (wc := [(xo_3_iiiiiiiirrrrr h v0 v1 v2 v3 (nI hh) v5 (nI ww) (nI kk) b1 b2 b3 b4 b5), (xI b1 cI 6 g1), (xI b2 cI 6 g2), (xI b3 cI 6 g3), (xI b4 cI 6 g4), (xI b5 cI 6 g5)]) hP hD [0, 1, 2, 3, 4, 5] (by decide +kernel) rfl
    exact W.vret hx hb hr (fun t ht hW => ⟨⟨(), rfl, trivial, ⟨g1, va_Ht ht hX9.1, hX9.2, (lf_X3_turnWind_1 hhb hww hkk c_1)⟩⟩, hS.F ht⟩) hS.2.2 dX3_turnWind_31
  · have c_1 : ¬ (ww ≤ 0) := fun q_ => c_1 ((nI_leI (a := ww) (b := 0) (by omega) (by omega)).mpr q_)
    refine lv_aload_n hx hb dX3_turnWind_7 rfl (lv_at hl 0 rfl) ?_
    refine va_get (D := (dC, dI)) (ci := 3) (v := .int (nI hh)) (C := RX3) (T := TX3) (N := 13) hx hb hts i_X3_turnWind_X3 hown hK hP 0 rfl rfl 4 (by decide) (hts _ mx_X3_turnWind_2) (fun _ h9 => h9) rfl dX3_turnWind_8 ?_
    refine lv_aload_n hx hb dX3_turnWind_11 rfl (lv_at hl 0 rfl) ?_
    refine va_get (D := (dC, dI)) (ci := 3) (v := .int (nI ww)) (C := RX3) (T := TX3) (N := 13) hx hb hts i_X3_turnWind_X3 hown hK hP 0 rfl rfl 6 (by decide) (hts _ mx_X3_turnWind_1) (fun _ h9 => h9) rfl dX3_turnWind_12 ?_
    refine lv_irem hx hb dX3_turnWind_15 (nI_ne0 (by omega) (by omega)) ?_
    refine lv_topi (fun v_2 e_2 => ?_)
    obtain ⟨z_2, hz_2, hze_2, rfl⟩ : ∃ z : Nat, z < ww ∧ z = hh % ww ∧ v_2 = nI z := ⟨hh % ww, Nat.mod_lt _ (by omega), rfl, e_2.trans (pk_rem (a := hh) (d := ww) (by omega) (by omega) (by omega))⟩
    refine lv_istore_n (lv' := [(1, .int (nI z_2)), (0, .ref h)]) hx hb dX3_turnWind_16 rfl hl (by decide) rfl (fun ls hl => ?_)
    refine lv_aload_n hx hb dX3_turnWind_17 rfl (lv_at hl 1 rfl) ?_
    refine va_get (D := (dC, dI)) (ci := 3) (v := .ref b1) (C := RX3) (T := TX3) (N := 13) hx hb hts i_X3_turnWind_X3 hown hK hP 0 rfl rfl 8 (by decide) (hts _ mx_X3_turnWind_3) (fun _ h9 => h9) rfl dX3_turnWind_18 ?_
    refine lv_iload_n hx hb dX3_turnWind_21 rfl (lv_at hl 0 rfl) ?_
    refine lv_iconst (v := 4) hx hb dX3_turnWind_22 (by decide) ?_
    refine lv_aload_n hx hb dX3_turnWind_23 rfl (lv_at hl 1 rfl) ?_
    refine va_get (D := (dC, dI)) (ci := 3) (v := .ref b1) (C := RX3) (T := TX3) (N := 13) hx hb hts i_X3_turnWind_X3 hown hK hP 0 rfl rfl 8 (by decide) (hts _ mx_X3_turnWind_3) (fun _ h9 => h9) rfl dX3_turnWind_24 ?_
    refine lv_iload_n hx hb dX3_turnWind_27 rfl (lv_at hl 0 rfl) ?_
    refine va_iald hx hb hK hP 1 0 rfl rfl (vp_in_nI (by omega) (by omega)) dX3_turnWind_28 ?_
    refine lv_topi (fun v_3 e_3 => ?_)
    have e_3 : v_3 = g1 z_2 := e_3.trans (congrArg g1 (nI_clamp (by omega)))
    refine lv_isub hx hb dX3_turnWind_29 ?_
    refine lv_topi (fun v_4 e_4 => ?_)
    refine va_iast hx hb hK hP hD hS 1 0 rfl rfl (vp_in_nI (by omega) (by omega)) dX3_turnWind_30 (fun H locs hP hD hS => ?_)
    generalize hg_5 : upd g1 ((nI z_2) : Int32).toNatClampNeg v_4 = g_5 at hP hD
    have hu_5 : g_5 = upd g1 z_2 v_4 := (by rw [← hg_5, nI_clamp (by omega)])
    have hP : va_P (dC, dI) vwCl [(xo_3_iiiiiiiirrrrr h v0 v1 v2 v3 (nI hh) v5 (nI ww) (nI kk) b1 b2 b3 b4 b5), (xI b1 cI 6 g_5), (xI b2 cI 6 g2), (xI b3 cI 6 g3), (xI b4 cI 6 g4), (xI b5 cI 6 g5)] H := hP
    have hD := dto hP hD
    have hX9 := cut2 (wc := [(xo_3_iiiiiiiirrrrr h v0 v1 v2 v3 (nI hh) v5 (nI ww) (nI kk) b1 b2 b3 b4 b5), (xI b1 cI 6 g_5), (xI b2 cI 6 g2), (xI b3 cI 6 g3), (xI b4 cI 6 g4), (xI b5 cI 6 g5)]) hP hD [0, 1, 2, 3, 4, 5] (by decide +kernel) rfl
    exact W.vret hx hb hr (fun t ht hW => ⟨⟨(), rfl, trivial, ⟨g_5, va_Ht ht hX9.1, hX9.2, (lf_X3_turnWind_2 hhb hww hkk c_1 hz_2 hze_2 e_3 e_4 hu_5)⟩⟩, hS.F ht⟩) hS.2.2 dX3_turnWind_31
theorem lf_X3_letLoose_1 {hh : Nat} {ww : Nat} {kk : Nat} {g3 : Nat → Int32} {g4 : Nat → Int32} {g5 : Nat → Int32} {i : Nat} {n : Int32} {k : Int32} {g_1 : Nat → Int32} {g_2 : Nat → Int32} {g_3 : Nat → Int32} (hhb : hh < 2000000000) (hww : ww ≤ 6) (hkk : kk ≤ 6) (hi : i < 6) (hu_1 : g_1 = upd g3 i n) (hu_2 : g_2 = upd g4 i k) (hu_3 : g_3 = upd g5 i 0) : g_1 = upd g3 i n := by
  grind
theorem lf_X3_letLoose_2 {hh : Nat} {ww : Nat} {kk : Nat} {g3 : Nat → Int32} {g4 : Nat → Int32} {g5 : Nat → Int32} {i : Nat} {n : Int32} {k : Int32} {g_1 : Nat → Int32} {g_2 : Nat → Int32} {g_3 : Nat → Int32} (hhb : hh < 2000000000) (hww : ww ≤ 6) (hkk : kk ≤ 6) (hi : i < 6) (hu_1 : g_1 = upd g3 i n) (hu_2 : g_2 = upd g4 i k) (hu_3 : g_3 = upd g5 i 0) : g_2 = upd g4 i k := by
  grind
theorem lf_X3_letLoose_3 {hh : Nat} {ww : Nat} {kk : Nat} {g3 : Nat → Int32} {g4 : Nat → Int32} {g5 : Nat → Int32} {i : Nat} {n : Int32} {k : Int32} {g_1 : Nat → Int32} {g_2 : Nat → Int32} {g_3 : Nat → Int32} (hhb : hh < 2000000000) (hww : ww ≤ 6) (hkk : kk ≤ 6) (hi : i < 6) (hu_1 : g_1 = upd g3 i n) (hu_2 : g_2 = upd g4 i k) (hu_3 : g_3 = upd g5 i 0) : g_3 = upd g5 i 0 := by
  grind
set_option maxHeartbeats 4000000 in
set_option maxRecDepth 100000 in
theorem r_X3_letLoose (l : Launch) (dC : Nat → ClassId) (dI : Nat → Nat → Nat) (cI cZ cL cJ : ClassId) (sz : Nat) (h : Nat) (v0 : Int32) (v1 : Int32) (v2 : Int32) (v3 : Int32) (v5 : Int32) (hh : Nat) (ww : Nat) (kk : Nat) (b1 : Nat) (b2 : Nat) (b3 : Nat) (b4 : Nat) (b5 : Nat) (g1 : Nat → Int32) (g2 : Nat → Int32) (g3 : Nat → Int32) (g4 : Nat → Int32) (g5 : Nat → Int32) (i : Nat) (n : Int32) (k : Int32) (hhb : hh < 2000000000) (hww : ww ≤ 6) (hkk : kk ≤ 6) (hi : i < 6) : Met l yX3_letLoose wsX3_letLoose ({ frames := 0, cells := 0, slots := 0, locals := 0 }) (va_Pc [.ref h, .int (nI i), .int n, .int k] (fun U => U.heap.size = sz ∧ va_P (dC, dI) vwCl [(xo_3_iiiiiiiirrrrr h v0 v1 v2 v3 (nI hh) v5 (nI ww) (nI kk) b1 b2 b3 b4 b5), (xI b1 cI 6 g1), (xI b2 cI 6 g2), (xI b3 cI 6 g3), (xI b4 cI 6 g4), (xI b5 cI 6 g5)] U.heap ∧ va_K (dC, dI) vwCl [(cI, .int), (cZ, .boolean), (cL, .object RX3), (cJ, .array .int)] U ∧ va_D (fun _ => True) [(xo_3_iiiiiiiirrrrr h v0 v1 v2 v3 (nI hh) v5 (nI ww) (nI kk) b1 b2 b3 b4 b5), (xI b1 cI 6 g1), (xI b2 cI 6 g2), (xI b3 cI 6 g3), (xI b4 cI 6 g4), (xI b5 cI 6 g5)])) (va_Qv (fun (_ : Unit) => True) (fun (_ : Unit) t => ∃ (g3n : Nat → Int32) (g4n : Nat → Int32) (g5n : Nat → Int32), va_P (dC, dI) vwCl [(xo_3_iiiiiiiirrrrr h v0 v1 v2 v3 (nI hh) v5 (nI ww) (nI kk) b1 b2 b3 b4 b5), (xI b1 cI 6 g1), (xI b2 cI 6 g2), (xI b3 cI 6 g3n), (xI b4 cI 6 g4n), (xI b5 cI 6 g5n)] t.heap ∧ va_D (va_A [(xo_3_iiiiiiiirrrrr h v0 v1 v2 v3 (nI hh) v5 (nI ww) (nI kk) b1 b2 b3 b4 b5), (xI b1 cI 6 g1), (xI b2 cI 6 g2), (xI b3 cI 6 g3), (xI b4 cI 6 g4), (xI b5 cI 6 g5)] sz) [(xo_3_iiiiiiiirrrrr h v0 v1 v2 v3 (nI hh) v5 (nI ww) (nI kk) b1 b2 b3 b4 b5), (xI b1 cI 6 g1), (xI b2 cI 6 g2), (xI b3 cI 6 g3n), (xI b4 cI 6 g4n), (xI b5 cI 6 g5n)] ∧ g3n = upd g3 i n ∧ g4n = upd g4 i k ∧ g5n = upd g5 i 0) (va_A [(xo_3_iiiiiiiirrrrr h v0 v1 v2 v3 (nI hh) v5 (nI ww) (nI kk) b1 b2 b3 b4 b5), (xI b1 cI 6 g1), (xI b2 cI 6 g2), (xI b3 cI 6 g3), (xI b4 cI 6 g4), (xI b5 cI 6 g5)] sz)) 0 0 (va_A [(xo_3_iiiiiiiirrrrr h v0 v1 v2 v3 (nI hh) v5 (nI ww) (nI kk) b1 b2 b3 b4 b5), (xI b1 cI 6 g1), (xI b2 cI 6 g2), (xI b3 cI 6 g3), (xI b4 cI 6 g4), (xI b5 cI 6 g5)] sz) := by
  refine Met.ofW (cc := cX3_letLoose) (maxL := 4) (ret := none) (by decide) rfl ?_
  intro p e s m args below meth c s₁ B hml hv
  obtain ⟨rfl, hsz, hP, hK, hD0⟩ := hv
  have hx := B.exec
  have hb := B.bytes
  have hr := B.returns
  have hts := atoms_spec (ws := wsX3_letLoose) B.pre
  have hown : s.vm.findClass RX3 = some m.cls := findClass_of_methodNamed B.named
  have hlocks := B.notSynchronized
  subst hsz
  have hD := hD0.self (sz := s.heap.size)
  generalize hAe : va_A [(xo_3_iiiiiiiirrrrr h v0 v1 v2 v3 (nI hh) v5 (nI ww) (nI kk) b1 b2 b3 b4 b5), (xI b1 cI 6 g1), (xI b2 cI 6 g2), (xI b3 cI 6 g3), (xI b4 cI 6 g4), (xI b5 cI 6 g5)] s.heap.size = A at hD ⊢
  have hA : ∀ q : Nat, s.heap.size ≤ q → A q := fun q h => by rw [← hAe]; exact Or.inr h
  have hS : va_S A s.heap s.heap [] := va_S.rf
  have hP : va_P (dC, dI) vwCl [(xo_3_iiiiiiiirrrrr h v0 v1 v2 v3 (nI hh) v5 (nI ww) (nI kk) b1 b2 b3 b4 b5), (xI b1 cI 6 g1), (xI b2 cI 6 g2), (xI b3 cI 6 g3), (xI b4 cI 6 g4), (xI b5 cI 6 g5)] s.heap := hP
  have hl := lv_entry ([.ref h, .int (nI i), .int n, .int k]) (n := 4) (Nat.le_of_ble_eq_true rfl)
  rw [lg_entry_eq]
  generalize (lg_sl ([.ref h, .int (nI i), .int n, .int k]) ++ List.replicate (4 - (lg_sl ([.ref h, .int (nI i), .int n, .int k])).length) Slot.unset).toArray = ls at hl ⊢
  have hl : lv_has ls 4 [(0, .ref h), (1, .int (nI i)), (2, .int n), (3, .int k)] := hl
  refine lv_aload_n hx hb dX3_letLoose_0 rfl (lv_at hl 0 rfl) ?_
  refine va_get (D := (dC, dI)) (ci := 3) (v := .ref b3) (C := RX3) (T := TX3) (N := 13) hx hb hts i_X3_letLoose_X3 hown hK hP 0 rfl rfl 10 (by decide) (hts _ mx_X3_letLoose_1) (fun _ h9 => h9) rfl dX3_letLoose_1 ?_
  refine lv_iload_n hx hb dX3_letLoose_4 rfl (lv_at hl 1 rfl) ?_
  refine lv_iload_n hx hb dX3_letLoose_5 rfl (lv_at hl 2 rfl) ?_
  refine va_iast hx hb hK hP hD hS 3 0 rfl rfl (vp_in_nI (by omega) (by omega)) dX3_letLoose_6 (fun H locs hP hD hS => ?_)
  generalize hg_1 : upd g3 ((nI i) : Int32).toNatClampNeg n = g_1 at hP hD
  have hu_1 : g_1 = upd g3 i n := (by rw [← hg_1, nI_clamp (by omega)])
  have hP : va_P (dC, dI) vwCl [(xo_3_iiiiiiiirrrrr h v0 v1 v2 v3 (nI hh) v5 (nI ww) (nI kk) b1 b2 b3 b4 b5), (xI b1 cI 6 g1), (xI b2 cI 6 g2), (xI b3 cI 6 g_1), (xI b4 cI 6 g4), (xI b5 cI 6 g5)] H := hP
  have hD := dto hP hD
  refine lv_aload_n hx hb dX3_letLoose_7 rfl (lv_at hl 0 rfl) ?_
  refine va_get (D := (dC, dI)) (ci := 3) (v := .ref b4) (C := RX3) (T := TX3) (N := 13) hx hb hts i_X3_letLoose_X3 hown hK hP 0 rfl rfl 11 (by decide) (hts _ mx_X3_letLoose_2) (fun _ h9 => h9) rfl dX3_letLoose_8 ?_
  refine lv_iload_n hx hb dX3_letLoose_11 rfl (lv_at hl 1 rfl) ?_
  refine lv_iload_n hx hb dX3_letLoose_12 rfl (lv_at hl 3 rfl) ?_
  refine va_iast hx hb hK hP hD hS 4 0 rfl rfl (vp_in_nI (by omega) (by omega)) dX3_letLoose_13 (fun H locs hP hD hS => ?_)
  generalize hg_2 : upd g4 ((nI i) : Int32).toNatClampNeg k = g_2 at hP hD
  have hu_2 : g_2 = upd g4 i k := (by rw [← hg_2, nI_clamp (by omega)])
  have hP : va_P (dC, dI) vwCl [(xo_3_iiiiiiiirrrrr h v0 v1 v2 v3 (nI hh) v5 (nI ww) (nI kk) b1 b2 b3 b4 b5), (xI b1 cI 6 g1), (xI b2 cI 6 g2), (xI b3 cI 6 g_1), (xI b4 cI 6 g_2), (xI b5 cI 6 g5)] H := hP
  have hD := dto hP hD
  refine lv_aload_n hx hb dX3_letLoose_14 rfl (lv_at hl 0 rfl) ?_
  refine va_get (D := (dC, dI)) (ci := 3) (v := .ref b5) (C := RX3) (T := TX3) (N := 13) hx hb hts i_X3_letLoose_X3 hown hK hP 0 rfl rfl 12 (by decide) (hts _ mx_X3_letLoose_3) (fun _ h9 => h9) rfl dX3_letLoose_15 ?_
  refine lv_iload_n hx hb dX3_letLoose_18 rfl (lv_at hl 1 rfl) ?_
  refine lv_iconst (v := 0) hx hb dX3_letLoose_19 (by decide) ?_
  refine va_iast hx hb hK hP hD hS 5 0 rfl rfl (vp_in_nI (by omega) (by omega)) dX3_letLoose_20 (fun H locs hP hD hS => ?_)
  generalize hg_3 : upd g5 ((nI i) : Int32).toNatClampNeg 0 = g_3 at hP hD
  have hu_3 : g_3 = upd g5 i 0 := (by rw [← hg_3, nI_clamp (by omega)])
  have hP : va_P (dC, dI) vwCl [(xo_3_iiiiiiiirrrrr h v0 v1 v2 v3 (nI hh) v5 (nI ww) (nI kk) b1 b2 b3 b4 b5), (xI b1 cI 6 g1), (xI b2 cI 6 g2), (xI b3 cI 6 g_1), (xI b4 cI 6 g_2), (xI b5 cI 6 g_3)] H := hP
  have hD := dto hP hD
  have hX9 := cut2 (wc := [(xo_3_iiiiiiiirrrrr h v0 v1 v2 v3 (nI hh) v5 (nI ww) (nI kk) b1 b2 b3 b4 b5), (xI b1 cI 6 g1), (xI b2 cI 6 g2), (xI b3 cI 6 g_1), (xI b4 cI 6 g_2), (xI b5 cI 6 g_3)]) hP hD [0, 1, 2, 3, 4, 5] (by decide +kernel) rfl
  exact W.vret hx hb hr (fun t ht hW => ⟨⟨(), rfl, trivial, ⟨g_1, g_2, g_3, va_Ht ht hX9.1, hX9.2, (lf_X3_letLoose_1 hhb hww hkk hi hu_1 hu_2 hu_3), (lf_X3_letLoose_2 hhb hww hkk hi hu_1 hu_2 hu_3), (lf_X3_letLoose_3 hhb hww hkk hi hu_1 hu_2 hu_3)⟩⟩, hS.F ht⟩) hS.2.2 dX3_letLoose_21
theorem lf_X3_passSound_1 {v0 : Int32} {v1 : Int32} {v2 : Int32} {v3 : Int32} {v5 : Int32} {hh : Nat} {ww : Nat} {kk : Nat} {g2 : Nat → Int32} {g3 : Nat → Int32} {g4 : Nat → Int32} {g5 : Nat → Int32} {i : Nat} {n : Int32} (hhb : hh < 2000000000) (hww : ww ≤ 6) (hkk : kk ≤ 6) (hi : i < 6) (f_1_0_0 : ¬ g5 i = 0) : psX v0 v1 v2 v3 g2 i n (v5, g3, g4, g5) = (v5, g3, g4, g5) := by
  simp only [psX, loX, cX, lX, limX]; grind
theorem lf_X3_passSound_2 {v0 : Int32} {v1 : Int32} {v2 : Int32} {v3 : Int32} {v5 : Int32} {hh : Nat} {ww : Nat} {kk : Nat} {g2 : Nat → Int32} {g3 : Nat → Int32} {g4 : Nat → Int32} {g5 : Nat → Int32} {i : Nat} {n : Int32} {v_4 : Int32} {r_5 : Int32} {v_6 : Int32} {r_7 : Int32} {g_10 : Nat → Int32} (hhb : hh < 2000000000) (hww : ww ≤ 6) (hkk : kk ≤ 6) (hi : i < 6) (f_1_1_0 : g5 i = 0) (e_4 : v_4 = g3 i) (h_5 : r_5 = (dfX (g2 i) (n - 2))) (e_6 : v_6 = (v_4 + r_5)) (h_7 : r_7 = (lbX (g2 i) (g4 i))) (f_8_0_0 : (v_6 < 0 ∨ v0 ≤ v_6)) (hu_10 : g_10 = upd g5 i 2) : psX v0 v1 v2 v3 g2 i n (v5, g3, g4, g5) = (v5, g3, g4, g_10) := by
  simp only [psX, loX, cX, lX, limX]; grind
theorem lf_X3_passSound_3 {v0 : Int32} {v1 : Int32} {v2 : Int32} {v3 : Int32} {v5 : Int32} {hh : Nat} {ww : Nat} {kk : Nat} {g2 : Nat → Int32} {g3 : Nat → Int32} {g4 : Nat → Int32} {g5 : Nat → Int32} {i : Nat} {n : Int32} {v_4 : Int32} {r_5 : Int32} {v_6 : Int32} {r_7 : Int32} {g3n_13 : Nat → Int32} {g4n_13 : Nat → Int32} {g5n_13 : Nat → Int32} (hhb : hh < 2000000000) (hww : ww ≤ 6) (hkk : kk ≤ 6) (hi : i < 6) (f_1_1_0 : g5 i = 0) (e_4 : v_4 = g3 i) (h_5 : r_5 = (dfX (g2 i) (n - 2))) (e_6 : v_6 = (v_4 + r_5)) (h_7 : r_7 = (lbX (g2 i) (g4 i))) (f_8_1_0 : ¬ v_6 < 0) (f_8_1_1 : ¬ v0 ≤ v_6) (c_12 : 0 < r_7) (hF_13_0 : g3n_13 = upd g3 i v_6) (hF_13_1 : g4n_13 = upd g4 i r_7) (hF_13_2 : g5n_13 = upd g5 i 0) (f_14_0_0 : ¬ grX v1 v2 v3 v_6 n) : psX v0 v1 v2 v3 g2 i n (v5, g3, g4, g5) = (v5, g3n_13, g4n_13, g5n_13) := by
  simp only [psX, loX, cX, lX, limX]; grind
theorem lf_X3_passSound_4 {v0 : Int32} {v1 : Int32} {v2 : Int32} {v3 : Int32} {v5 : Int32} {hh : Nat} {ww : Nat} {kk : Nat} {g2 : Nat → Int32} {g3 : Nat → Int32} {g4 : Nat → Int32} {g5 : Nat → Int32} {i : Nat} {n : Int32} {v_4 : Int32} {r_5 : Int32} {v_6 : Int32} {r_7 : Int32} {g3n_13 : Nat → Int32} {g4n_13 : Nat → Int32} {g5n_13 : Nat → Int32} {g_17 : Nat → Int32} {v_18 : Int32} {v_19 : Int32} (hhb : hh < 2000000000) (hww : ww ≤ 6) (hkk : kk ≤ 6) (hi : i < 6) (f_1_1_0 : g5 i = 0) (e_4 : v_4 = g3 i) (h_5 : r_5 = (dfX (g2 i) (n - 2))) (e_6 : v_6 = (v_4 + r_5)) (h_7 : r_7 = (lbX (g2 i) (g4 i))) (f_8_1_0 : ¬ v_6 < 0) (f_8_1_1 : ¬ v0 ≤ v_6) (c_12 : 0 < r_7) (hF_13_0 : g3n_13 = upd g3 i v_6) (hF_13_1 : g4n_13 = upd g4 i r_7) (hF_13_2 : g5n_13 = upd g5 i 0) (f_14_1_0 : grX v1 v2 v3 v_6 n) (hu_17 : g_17 = upd g5n_13 i 1) (e_18 : v_18 = (v5 + r_7)) (e_19 : v_19 = (if 999 < v_18 then 999 else v_18)) : psX v0 v1 v2 v3 g2 i n (v5, g3, g4, g5) = (v_19, g3n_13, g4n_13, g_17) := by
  simp only [psX, loX, cX, lX, limX]; grind
theorem lf_X3_passSound_5 {v0 : Int32} {v1 : Int32} {v2 : Int32} {v3 : Int32} {v5 : Int32} {hh : Nat} {ww : Nat} {kk : Nat} {g2 : Nat → Int32} {g3 : Nat → Int32} {g4 : Nat → Int32} {g5 : Nat → Int32} {i : Nat} {n : Int32} {v_4 : Int32} {r_5 : Int32} {v_6 : Int32} {r_7 : Int32} {g_20 : Nat → Int32} (hhb : hh < 2000000000) (hww : ww ≤ 6) (hkk : kk ≤ 6) (hi : i < 6) (f_1_1_0 : g5 i = 0) (e_4 : v_4 = g3 i) (h_5 : r_5 = (dfX (g2 i) (n - 2))) (e_6 : v_6 = (v_4 + r_5)) (h_7 : r_7 = (lbX (g2 i) (g4 i))) (f_8_1_0 : ¬ v_6 < 0) (f_8_1_1 : ¬ v0 ≤ v_6) (c_12 : ¬ (0 < r_7)) (hu_20 : g_20 = upd g5 i 2) : psX v0 v1 v2 v3 g2 i n (v5, g3, g4, g5) = (v5, g3, g4, g_20) := by
  simp only [psX, loX, cX, lX, limX]; grind
set_option maxHeartbeats 4000000 in
set_option maxRecDepth 100000 in
theorem r_X3_passSound (l : Launch) (dC : Nat → ClassId) (dI : Nat → Nat → Nat) (cI cZ cL cJ : ClassId) (sz : Nat) (h : Nat) (v0 : Int32) (v1 : Int32) (v2 : Int32) (v3 : Int32) (v5 : Int32) (hh : Nat) (ww : Nat) (kk : Nat) (b1 : Nat) (b2 : Nat) (b3 : Nat) (b4 : Nat) (b5 : Nat) (g1 : Nat → Int32) (g2 : Nat → Int32) (g3 : Nat → Int32) (g4 : Nat → Int32) (g5 : Nat → Int32) (i : Nat) (n : Int32) (hhb : hh < 2000000000) (hww : ww ≤ 6) (hkk : kk ≤ 6) (hi : i < 6) : Met l yX3_passSound wsX3_passSound ({ frames := 2, cells := 0, slots := 0, locals := 42 }) (va_Pc [.ref h, .int (nI i), .int n] (fun U => U.heap.size = sz ∧ va_P (dC, dI) vwCl [(xo_3_iiiiiiiirrrrr h v0 v1 v2 v3 (nI hh) v5 (nI ww) (nI kk) b1 b2 b3 b4 b5), (xI b1 cI 6 g1), (xI b2 cI 6 g2), (xI b3 cI 6 g3), (xI b4 cI 6 g4), (xI b5 cI 6 g5)] U.heap ∧ va_K (dC, dI) vwCl [(cI, .int), (cZ, .boolean), (cL, .object RX3), (cJ, .array .int)] U ∧ va_D (fun _ => True) [(xo_3_iiiiiiiirrrrr h v0 v1 v2 v3 (nI hh) v5 (nI ww) (nI kk) b1 b2 b3 b4 b5), (xI b1 cI 6 g1), (xI b2 cI 6 g2), (xI b3 cI 6 g3), (xI b4 cI 6 g4), (xI b5 cI 6 g5)])) (va_Qv (fun (_ : Unit) => True) (fun (_ : Unit) t => ∃ (v5n : Int32) (g3n : Nat → Int32) (g4n : Nat → Int32) (g5n : Nat → Int32), va_P (dC, dI) vwCl [(xo_3_iiiiiiiirrrrr h v0 v1 v2 v3 (nI hh) v5n (nI ww) (nI kk) b1 b2 b3 b4 b5), (xI b1 cI 6 g1), (xI b2 cI 6 g2), (xI b3 cI 6 g3n), (xI b4 cI 6 g4n), (xI b5 cI 6 g5n)] t.heap ∧ va_D (va_A [(xo_3_iiiiiiiirrrrr h v0 v1 v2 v3 (nI hh) v5 (nI ww) (nI kk) b1 b2 b3 b4 b5), (xI b1 cI 6 g1), (xI b2 cI 6 g2), (xI b3 cI 6 g3), (xI b4 cI 6 g4), (xI b5 cI 6 g5)] sz) [(xo_3_iiiiiiiirrrrr h v0 v1 v2 v3 (nI hh) v5n (nI ww) (nI kk) b1 b2 b3 b4 b5), (xI b1 cI 6 g1), (xI b2 cI 6 g2), (xI b3 cI 6 g3n), (xI b4 cI 6 g4n), (xI b5 cI 6 g5n)] ∧ psX v0 v1 v2 v3 g2 i n (v5, g3, g4, g5) = (v5n, g3n, g4n, g5n)) (va_A [(xo_3_iiiiiiiirrrrr h v0 v1 v2 v3 (nI hh) v5 (nI ww) (nI kk) b1 b2 b3 b4 b5), (xI b1 cI 6 g1), (xI b2 cI 6 g2), (xI b3 cI 6 g3), (xI b4 cI 6 g4), (xI b5 cI 6 g5)] sz)) 0 0 (va_A [(xo_3_iiiiiiiirrrrr h v0 v1 v2 v3 (nI hh) v5 (nI ww) (nI kk) b1 b2 b3 b4 b5), (xI b1 cI 6 g1), (xI b2 cI 6 g2), (xI b3 cI 6 g3), (xI b4 cI 6 g4), (xI b5 cI 6 g5)] sz) := by
  refine Met.ofW (cc := cX3_passSound) (maxL := 5) (ret := none) (by decide) rfl ?_
  intro p e s m args below meth c s₁ B hml hv
  obtain ⟨rfl, hsz, hP, hK, hD0⟩ := hv
  have hx := B.exec
  have hb := B.bytes
  have hr := B.returns
  have hts := atoms_spec (ws := wsX3_passSound) B.pre
  have hown : s.vm.findClass RX3 = some m.cls := findClass_of_methodNamed B.named
  have hlocks := B.notSynchronized
  subst hsz
  have hD := hD0.self (sz := s.heap.size)
  generalize hAe : va_A [(xo_3_iiiiiiiirrrrr h v0 v1 v2 v3 (nI hh) v5 (nI ww) (nI kk) b1 b2 b3 b4 b5), (xI b1 cI 6 g1), (xI b2 cI 6 g2), (xI b3 cI 6 g3), (xI b4 cI 6 g4), (xI b5 cI 6 g5)] s.heap.size = A at hD ⊢
  have hA : ∀ q : Nat, s.heap.size ≤ q → A q := fun q h => by rw [← hAe]; exact Or.inr h
  have hS : va_S A s.heap s.heap [] := va_S.rf
  have hP : va_P (dC, dI) vwCl [(xo_3_iiiiiiiirrrrr h v0 v1 v2 v3 (nI hh) v5 (nI ww) (nI kk) b1 b2 b3 b4 b5), (xI b1 cI 6 g1), (xI b2 cI 6 g2), (xI b3 cI 6 g3), (xI b4 cI 6 g4), (xI b5 cI 6 g5)] s.heap := hP
  have hl := lv_entry ([.ref h, .int (nI i), .int n]) (n := 5) (Nat.le_of_ble_eq_true rfl)
  rw [lg_entry_eq]
  generalize (lg_sl ([.ref h, .int (nI i), .int n]) ++ List.replicate (5 - (lg_sl ([.ref h, .int (nI i), .int n])).length) Slot.unset).toArray = ls at hl ⊢
  have hl : lv_has ls 5 [(0, .ref h), (1, .int (nI i)), (2, .int n)] := hl
  refine lv_aload_n hx hb dX3_passSound_0 rfl (lv_at hl 0 rfl) ?_
  refine lv_iload_n hx hb dX3_passSound_1 rfl (lv_at hl 1 rfl) ?_
  have hPc_1 := hP
  refine vp_callSi (W.runV (As := [.int (nI i)]) (rest := []) ⟨hx, hb, hml, hown, hts⟩ (r_X3_isLoose l dC dI cI cZ cL cJ h v0 v1 v2 v3 v5 hh ww kk b1 b2 b3 b4 b5 g1 g2 g3 g4 g5 i (hhb) (hww) (hkk) (by omega)) (cwV 1 hts gX3_passSound_X3_isLoose rfl rfl rfl (by decide +kernel) ⟨Nat.le_of_ble_eq_true rfl, Nat.le_of_ble_eq_true rfl⟩) (pvP 3 0 hK hP rfl rfl hPc_1) rfl rfl hl.1 rfl (lv_room (Nat.le_of_ble_eq_true rfl)) dX3_passSound_2 ⟨Nat.le_of_ble_eq_true rfl, Nat.le_of_ble_eq_true rfl⟩) (fun r_1 h_1 => ?_)
  rcases h_1 with ⟨h_1, f_1_0_0⟩ | ⟨h_1, f_1_1_0⟩
  · subst h_1
    refine lv_if_ne (tgt := 9) hx hb dX3_passSound_5 (by decide) (fun c_ => absurd (by decide) c_) (fun _ => ?_)
    have hX9 := cut2 (wc := [(xo_3_iiiiiiiirrrrr h v0 v1 v2 v3 (nI hh) v5 (nI ww) (nI kk) b1 b2 b3 b4 b5), (xI b1 cI 6 g1), (xI b2 cI 6 g2), (xI b3 cI 6 g3), (xI b4 cI 6 g4), (xI b5 cI 6 g5)]) hP hD [0, 1, 2, 3, 4, 5] (by decide +kernel) rfl
    exact W.vret hx hb hr (fun t ht hW => ⟨⟨(), rfl, trivial, ⟨v5, g3, g4, g5, va_Ht ht hX9.1, hX9.2, (lf_X3_passSound_1 hhb hww hkk hi f_1_0_0)⟩⟩, hS.F ht⟩) hS.2.2 dX3_passSound_8
  · subst h_1
    refine lv_if_ne (tgt := 9) hx hb dX3_passSound_5 (by decide) (fun _ => ?_) (fun c_ => absurd c_ (by decide))
    refine lv_aload_n hx hb dX3_passSound_9 rfl (lv_at hl 0 rfl) ?_
    refine va_get (D := (dC, dI)) (ci := 3) (v := .ref b3) (C := RX3) (T := TX3) (N := 13) hx hb hts i_X3_passSound_X3 hown hK hP 0 rfl rfl 10 (by decide) (hts _ mx_X3_passSound_1) (fun _ h9 => h9) rfl dX3_passSound_10 ?_
    refine lv_iload_n hx hb dX3_passSound_13 rfl (lv_at hl 1 rfl) ?_
    refine va_iald hx hb hK hP 3 0 rfl rfl (vp_in_nI (by omega) (by omega)) dX3_passSound_14 ?_
    refine lv_topi (fun v_4 e_4 => ?_)
    have e_4 : v_4 = g3 i := e_4.trans (congrArg g3 (nI_clamp (by omega)))
    refine lv_aload_n hx hb dX3_passSound_15 rfl (lv_at hl 0 rfl) ?_
    refine lv_iload_n hx hb dX3_passSound_16 rfl (lv_at hl 1 rfl) ?_
    refine lv_iload_n hx hb dX3_passSound_17 rfl (lv_at hl 2 rfl) ?_
    have hPc_5 := hP
    refine vp_callSi (W.runV (As := [.int (nI i), .int n]) (rest := [.int v_4]) ⟨hx, hb, hml, hown, hts⟩ (r_X3_driftOf l dC dI cI cZ cL cJ h v0 v1 v2 v3 v5 hh ww kk b1 b2 b3 b4 b5 g1 g2 g3 g4 g5 i n (hhb) (hww) (hkk) (by omega)) (cwV 2 hts gX3_passSound_X3_driftOf rfl rfl rfl (by decide +kernel) ⟨Nat.le_of_ble_eq_true rfl, Nat.le_of_ble_eq_true rfl⟩) (pvP 3 0 hK hP rfl rfl hPc_5) rfl rfl hl.1 rfl (lv_room (Nat.le_of_ble_eq_true rfl)) dX3_passSound_18 ⟨Nat.le_of_ble_eq_true rfl, Nat.le_of_ble_eq_true rfl⟩) (fun r_5 h_5 => ?_)
    refine lv_iadd hx hb dX3_passSound_21 ?_
    refine lv_topi (fun v_6 e_6 => ?_)
    refine lv_istore_n (lv' := [(3, .int v_6), (0, .ref h), (1, .int (nI i)), (2, .int n)]) hx hb dX3_passSound_22 rfl hl (by decide) rfl (fun ls hl => ?_)
    refine lv_aload_n hx hb dX3_passSound_23 rfl (lv_at hl 1 rfl) ?_
    refine lv_iload_n hx hb dX3_passSound_24 rfl (lv_at hl 2 rfl) ?_
    have hPc_7 := hP
    refine vp_callSi (W.runV (As := [.int (nI i)]) (rest := []) ⟨hx, hb, hml, hown, hts⟩ (r_X3_loudBehindHour l dC dI cI cZ cL cJ h v0 v1 v2 v3 v5 hh ww kk b1 b2 b3 b4 b5 g1 g2 g3 g4 g5 i (hhb) (hww) (hkk) (by omega)) (cwV 1 hts gX3_passSound_X3_loudBehindHour rfl rfl rfl (by decide +kernel) ⟨Nat.le_of_ble_eq_true rfl, Nat.le_of_ble_eq_true rfl⟩) (pvP 3 0 hK hP rfl rfl hPc_7) rfl rfl hl.1 rfl (lv_room (Nat.le_of_ble_eq_true rfl)) dX3_passSound_25 ⟨Nat.le_of_ble_eq_true rfl, Nat.le_of_ble_eq_true rfl⟩) (fun r_7 h_7 => ?_)
    refine lv_istore (lv' := [(4, .int r_7), (3, .int v_6), (0, .ref h), (1, .int (nI i)), (2, .int n)]) hx hb dX3_passSound_28 hl (by decide) rfl (fun ls hl => ?_)
    refine lv_aload_n hx hb dX3_passSound_30 rfl (lv_at hl 2 rfl) ?_
    refine lv_iload_n hx hb dX3_passSound_31 rfl (lv_at hl 1 rfl) ?_
    have hPc_8 := hP
    refine vp_callSi (W.runV (As := [.int v_6]) (rest := []) ⟨hx, hb, hml, hown, hts⟩ (r_X3_hasCell l dC dI cI cZ cL cJ h v0 v1 v2 v3 v5 hh ww kk b1 b2 b3 b4 b5 g1 g2 g3 g4 g5 v_6 (hhb) (hww) (hkk)) (cwV 1 hts gX3_passSound_X3_hasCell rfl rfl rfl (by decide +kernel) ⟨Nat.le_of_ble_eq_true rfl, Nat.le_of_ble_eq_true rfl⟩) (pvP 3 0 hK hP rfl rfl hPc_8) rfl rfl hl.1 rfl (lv_room (Nat.le_of_ble_eq_true rfl)) dX3_passSound_32 ⟨Nat.le_of_ble_eq_true rfl, Nat.le_of_ble_eq_true rfl⟩) (fun r_8 h_8 => ?_)
    rcases h_8 with ⟨h_8, f_8_0_0⟩ | ⟨h_8, f_8_1_0, f_8_1_1⟩
    · subst h_8
      refine lv_if_eq (tgt := 43) hx hb dX3_passSound_35 (by decide) (fun _ => ?_) (fun c_ => absurd (by decide) c_)
      refine lv_aload_n hx hb dX3_passSound_43 rfl (lv_at hl 2 rfl) ?_
      refine va_get (D := (dC, dI)) (ci := 3) (v := .ref b5) (C := RX3) (T := TX3) (N := 13) hx hb hts i_X3_passSound_X3 hown hK hP 0 rfl rfl 12 (by decide) (hts _ mx_X3_passSound_2) (fun _ h9 => h9) rfl dX3_passSound_44 ?_
      refine lv_iload_n hx hb dX3_passSound_47 rfl (lv_at hl 3 rfl) ?_
      refine lv_iconst (v := 2) hx hb dX3_passSound_48 (by decide) ?_
      refine va_iast hx hb hK hP hD hS 5 0 rfl rfl (vp_in_nI (by omega) (by omega)) dX3_passSound_49 (fun H locs hP hD hS => ?_)
      generalize hg_10 : upd g5 ((nI i) : Int32).toNatClampNeg 2 = g_10 at hP hD
      have hu_10 : g_10 = upd g5 i 2 := (by rw [← hg_10, nI_clamp (by omega)])
      have hP : va_P (dC, dI) vwCl [(xo_3_iiiiiiiirrrrr h v0 v1 v2 v3 (nI hh) v5 (nI ww) (nI kk) b1 b2 b3 b4 b5), (xI b1 cI 6 g1), (xI b2 cI 6 g2), (xI b3 cI 6 g3), (xI b4 cI 6 g4), (xI b5 cI 6 g_10)] H := hP
      have hD := dto hP hD
      have hX9 := cut2 (wc := [(xo_3_iiiiiiiirrrrr h v0 v1 v2 v3 (nI hh) v5 (nI ww) (nI kk) b1 b2 b3 b4 b5), (xI b1 cI 6 g1), (xI b2 cI 6 g2), (xI b3 cI 6 g3), (xI b4 cI 6 g4), (xI b5 cI 6 g_10)]) hP hD [0, 1, 2, 3, 4, 5] (by decide +kernel) rfl
      exact W.vret hx hb hr (fun t ht hW => ⟨⟨(), rfl, trivial, ⟨v5, g3, g4, g_10, va_Ht ht hX9.1, hX9.2, (lf_X3_passSound_2 hhb hww hkk hi f_1_1_0 e_4 h_5 e_6 h_7 f_8_0_0 hu_10)⟩⟩, hS.F ht⟩) hS.2.2 dX3_passSound_50
    · subst h_8
      refine lv_if_eq (tgt := 43) hx hb dX3_passSound_35 (by decide) (fun c_ => absurd c_ (by decide)) (fun _ => ?_)
      refine lv_iload hx hb dX3_passSound_38 (lv_at hl 0 rfl) ?_
      refine lv_if_gt (tgt := 51) hx hb dX3_passSound_40 (by decide) (fun c_12 => ?_) (fun c_12 => ?_)
      · skip
        refine lv_aload_n hx hb dX3_passSound_51 rfl (lv_at hl 2 rfl) ?_
        refine lv_iload_n hx hb dX3_passSound_52 rfl (lv_at hl 3 rfl) ?_
        refine lv_iload_n hx hb dX3_passSound_53 rfl (lv_at hl 1 rfl) ?_
        refine lv_iload hx hb dX3_passSound_54 (lv_at hl 0 rfl) ?_
        have hc_13 := cutW (wc := [(xo_3_iiiiiiiirrrrr h v0 v1 v2 v3 (nI hh) v5 (nI ww) (nI kk) b1 b2 b3 b4 b5), (xI b1 cI 6 g1), (xI b2 cI 6 g2), (xI b3 cI 6 g3), (xI b4 cI 6 g4), (xI b5 cI 6 g5)]) hP hD hS hA [0, 1, 2, 3, 4, 5] (by decide +kernel) rfl
        refine va_callv (va_runV (As := [.int (nI i), .int v_6, .int r_7]) (rest := []) ⟨hx, hb, hml, hown, hts⟩ (r_X3_letLoose l dC dI cI cZ cL cJ s.heap.size h v0 v1 v2 v3 v5 hh ww kk b1 b2 b3 b4 b5 g1 g2 g3 g4 g5 i v_6 r_7 (hhb) (hww) (hkk) (by omega)) (cwV 3 hts gX3_passSound_X3_letLoose rfl rfl rfl (by decide +kernel) ⟨Nat.le_of_ble_eq_true rfl, Nat.le_of_ble_eq_true rfl⟩) (pvW 3 0 hK hP rfl rfl hc_13) rfl rfl hl.1 rfl (lv_room (Nat.le_of_ble_eq_true rfl)) dX3_passSound_56 ⟨Nat.le_of_ble_eq_true rfl, Nat.le_of_ble_eq_true rfl⟩) hS (fun q _ h => hc_13.2.2 q h) hc_13.2.2 (fun u_13 t_13 H1 locs ht hvm h_13 hB hz1 hk1 hS => ?_)
        refine xl_3_5 hB (fun g3n_13 g4n_13 g5n_13 hP1 hD1 hF_13_0 hF_13_1 hF_13_2 => ?_)
        clear hB
        rw [ht] at hP1
        obtain ⟨hP, hD⟩ := va_join (wr := []) (w1 := [(xo_3_iiiiiiiirrrrr h v0 v1 v2 v3 (nI hh) v5 (nI ww) (nI kk) b1 b2 b3 b4 b5), (xI b1 cI 6 g1), (xI b2 cI 6 g2), (xI b3 cI 6 g3n_13), (xI b4 cI 6 g4n_13), (xI b5 cI 6 g5n_13)]) hP hD [0, 1, 2, 3, 4, 5] [] rfl rfl (by decide +kernel) (by decide +kernel) hk1 hc_13.2.2 hP1 hD1
        generalize H1 = H at hP hS ⊢
        have hP : va_P (dC, dI) vwCl [(xo_3_iiiiiiiirrrrr h v0 v1 v2 v3 (nI hh) v5 (nI ww) (nI kk) b1 b2 b3 b4 b5), (xI b1 cI 6 g1), (xI b2 cI 6 g2), (xI b3 cI 6 g3n_13), (xI b4 cI 6 g4n_13), (xI b5 cI 6 g5n_13)] H := hP
        have hD := dto hP hD
        refine lv_aload_n hx hb dX3_passSound_59 rfl (lv_at hl 2 rfl) ?_
        refine lv_iload_n hx hb dX3_passSound_60 rfl (lv_at hl 1 rfl) ?_
        refine lv_iload_n hx hb dX3_passSound_61 rfl (lv_at hl 4 rfl) ?_
        have hPc_14 := hP
        refine vp_callSi (W.runV (As := [.int v_6, .int n]) (rest := []) ⟨hx, hb, hml, hown, hts⟩ (r_X3_grindsAt l dC dI cI cZ cL cJ h v0 v1 v2 v3 v5 hh ww kk b1 b2 b3 b4 b5 g1 g2 g3n_13 g4n_13 g5n_13 v_6 n (hhb) (hww) (hkk)) (cwV 2 hts gX3_passSound_X3_grindsAt rfl rfl rfl (by decide +kernel) ⟨Nat.le_of_ble_eq_true rfl, Nat.le_of_ble_eq_true rfl⟩) (pvP 3 0 hK hP rfl rfl hPc_14) rfl rfl hl.1 rfl (lv_room (Nat.le_of_ble_eq_true rfl)) dX3_passSound_62 ⟨Nat.le_of_ble_eq_true rfl, Nat.le_of_ble_eq_true rfl⟩) (fun r_14 h_14 => ?_)
        rcases h_14 with ⟨h_14, f_14_0_0⟩ | ⟨h_14, f_14_1_0⟩
        · subst h_14
          refine lv_if_eq (tgt := 92) hx hb dX3_passSound_65 (by decide) (fun _ => ?_) (fun c_ => absurd (by decide) c_)
          have hX9 := cut2 (wc := [(xo_3_iiiiiiiirrrrr h v0 v1 v2 v3 (nI hh) v5 (nI ww) (nI kk) b1 b2 b3 b4 b5), (xI b1 cI 6 g1), (xI b2 cI 6 g2), (xI b3 cI 6 g3n_13), (xI b4 cI 6 g4n_13), (xI b5 cI 6 g5n_13)]) hP hD [0, 1, 2, 3, 4, 5] (by decide +kernel) rfl
          exact W.vret hx hb hr (fun t ht hW => ⟨⟨(), rfl, trivial, ⟨v5, g3n_13, g4n_13, g5n_13, va_Ht ht hX9.1, hX9.2, (lf_X3_passSound_3 hhb hww hkk hi f_1_1_0 e_4 h_5 e_6 h_7 f_8_1_0 f_8_1_1 c_12 hF_13_0 hF_13_1 hF_13_2 f_14_0_0)⟩⟩, hS.F ht⟩) hS.2.2 dX3_passSound_92
        · subst h_14
          refine lv_if_eq (tgt := 92) hx hb dX3_passSound_65 (by decide) (fun c_ => absurd c_ (by decide)) (fun _ => ?_)
          refine lv_aload_n hx hb dX3_passSound_68 rfl (lv_at hl 2 rfl) ?_
          refine va_get (D := (dC, dI)) (ci := 3) (v := .ref b5) (C := RX3) (T := TX3) (N := 13) hx hb hts i_X3_passSound_X3 hown hK hP 0 rfl rfl 12 (by decide) (hts _ mx_X3_passSound_2) (fun _ h9 => h9) rfl dX3_passSound_69 ?_
          refine lv_iload_n hx hb dX3_passSound_72 rfl (lv_at hl 3 rfl) ?_
          refine lv_iconst (v := 1) hx hb dX3_passSound_73 (by decide) ?_
          refine va_iast hx hb hK hP hD hS 5 0 rfl rfl (vp_in_nI (by omega) (by omega)) dX3_passSound_74 (fun H locs hP hD hS => ?_)
          generalize hg_17 : upd g5n_13 ((nI i) : Int32).toNatClampNeg 1 = g_17 at hP hD
          have hu_17 : g_17 = upd g5n_13 i 1 := (by rw [← hg_17, nI_clamp (by omega)])
          have hP : va_P (dC, dI) vwCl [(xo_3_iiiiiiiirrrrr h v0 v1 v2 v3 (nI hh) v5 (nI ww) (nI kk) b1 b2 b3 b4 b5), (xI b1 cI 6 g1), (xI b2 cI 6 g2), (xI b3 cI 6 g3n_13), (xI b4 cI 6 g4n_13), (xI b5 cI 6 g_17)] H := hP
          have hD := dto hP hD
          refine lv_aload_n hx hb dX3_passSound_75 rfl (lv_at hl 2 rfl) ?_
          refine lv_aload_n hx hb dX3_passSound_76 rfl (lv_at hl 2 rfl) ?_
          refine va_get (D := (dC, dI)) (ci := 3) (v := .int v5) (C := RX3) (T := TX3) (N := 13) hx hb hts i_X3_passSound_X3 hown hK hP 0 rfl rfl 5 (by decide) (hts _ mx_X3_passSound_3) (fun _ h9 => h9) rfl dX3_passSound_77 ?_
          refine lv_iload hx hb dX3_passSound_80 (lv_at hl 0 rfl) ?_
          refine lv_iadd hx hb dX3_passSound_82 ?_
          refine lv_topi (fun v_18 e_18 => ?_)
          refine lv_sipush (v := 999) hx hb dX3_passSound_83 (by decide) ?_
          refine va_mmin hx hb (by rw [hml]; exact hl.1.symm) hown (hts _ mx_X3_passSound_4) (hts _ mx_X3_passSound_5) (hts _ mx_X3_passSound_6) (hts _ mx_X3_passSound_7) (Nat.le_of_ble_eq_true rfl) (Nat.le_of_ble_eq_true rfl) (Nat.zero_le _) (Nat.zero_le _) dX3_passSound_86 ?_
          refine lv_topi (fun v_19 e_19 => ?_)
          refine va_put (D := (dC, dI)) (ci := 3) (v := .int v_19) (ty := .int) (C := RX3) (T := TX3) (N := 13) hx hb hts i_X3_passSound_X3 tyX3 tyX3_ok nmX3 hown hK hP hD hS 0 rfl rfl 5 (by decide) (hts _ mx_X3_passSound_3) (fun _ h9 => h9) rfl (by decide +kernel) rfl rfl (Nat.le_of_ble_eq_true rfl) dX3_passSound_89 (fun H locs hP hD hS => ?_)
          have hP : va_P (dC, dI) vwCl [(xo_3_iiiiiiiirrrrr h v0 v1 v2 v3 (nI hh) v_19 (nI ww) (nI kk) b1 b2 b3 b4 b5), (xI b1 cI 6 g1), (xI b2 cI 6 g2), (xI b3 cI 6 g3n_13), (xI b4 cI 6 g4n_13), (xI b5 cI 6 g_17)] H := hP
          have hD := dto hP hD
          have hX9 := cut2 (wc := [(xo_3_iiiiiiiirrrrr h v0 v1 v2 v3 (nI hh) v_19 (nI ww) (nI kk) b1 b2 b3 b4 b5), (xI b1 cI 6 g1), (xI b2 cI 6 g2), (xI b3 cI 6 g3n_13), (xI b4 cI 6 g4n_13), (xI b5 cI 6 g_17)]) hP hD [0, 1, 2, 3, 4, 5] (by decide +kernel) rfl
          exact W.vret hx hb hr (fun t ht hW => ⟨⟨(), rfl, trivial, ⟨v_19, g3n_13, g4n_13, g_17, va_Ht ht hX9.1, hX9.2, (lf_X3_passSound_4 hhb hww hkk hi f_1_1_0 e_4 h_5 e_6 h_7 f_8_1_0 f_8_1_1 c_12 hF_13_0 hF_13_1 hF_13_2 f_14_1_0 hu_17 e_18 e_19)⟩⟩, hS.F ht⟩) hS.2.2 dX3_passSound_92
      · skip
        refine lv_aload_n hx hb dX3_passSound_43 rfl (lv_at hl 2 rfl) ?_
        refine va_get (D := (dC, dI)) (ci := 3) (v := .ref b5) (C := RX3) (T := TX3) (N := 13) hx hb hts i_X3_passSound_X3 hown hK hP 0 rfl rfl 12 (by decide) (hts _ mx_X3_passSound_2) (fun _ h9 => h9) rfl dX3_passSound_44 ?_
        refine lv_iload_n hx hb dX3_passSound_47 rfl (lv_at hl 3 rfl) ?_
        refine lv_iconst (v := 2) hx hb dX3_passSound_48 (by decide) ?_
        refine va_iast hx hb hK hP hD hS 5 0 rfl rfl (vp_in_nI (by omega) (by omega)) dX3_passSound_49 (fun H locs hP hD hS => ?_)
        generalize hg_20 : upd g5 ((nI i) : Int32).toNatClampNeg 2 = g_20 at hP hD
        have hu_20 : g_20 = upd g5 i 2 := (by rw [← hg_20, nI_clamp (by omega)])
        have hP : va_P (dC, dI) vwCl [(xo_3_iiiiiiiirrrrr h v0 v1 v2 v3 (nI hh) v5 (nI ww) (nI kk) b1 b2 b3 b4 b5), (xI b1 cI 6 g1), (xI b2 cI 6 g2), (xI b3 cI 6 g3), (xI b4 cI 6 g4), (xI b5 cI 6 g_20)] H := hP
        have hD := dto hP hD
        have hX9 := cut2 (wc := [(xo_3_iiiiiiiirrrrr h v0 v1 v2 v3 (nI hh) v5 (nI ww) (nI kk) b1 b2 b3 b4 b5), (xI b1 cI 6 g1), (xI b2 cI 6 g2), (xI b3 cI 6 g3), (xI b4 cI 6 g4), (xI b5 cI 6 g_20)]) hP hD [0, 1, 2, 3, 4, 5] (by decide +kernel) rfl
        exact W.vret hx hb hr (fun t ht hW => ⟨⟨(), rfl, trivial, ⟨v5, g3, g4, g_20, va_Ht ht hX9.1, hX9.2, (lf_X3_passSound_5 hhb hww hkk hi f_1_1_0 e_4 h_5 e_6 h_7 f_8_1_0 f_8_1_1 c_12 hu_20)⟩⟩, hS.F ht⟩) hS.2.2 dX3_passSound_50
theorem lf_X3_pass_1 {v0 : Int32} {v1 : Int32} {v2 : Int32} {v3 : Int32} {v5 : Int32} {hh : Nat} {ww : Nat} {kk : Nat} {g1 : Nat → Int32} {g2 : Nat → Int32} {g3 : Nat → Int32} {g4 : Nat → Int32} {g5 : Nat → Int32} {r_1 : Int32} {w_4 : Int32} {w_5 : Nat → Int32} {w_6 : Nat → Int32} {w_7 : Nat → Int32} {ii : Nat} {v5n_15 : Int32} {g3n_15 : Nat → Int32} {g4n_15 : Nat → Int32} {g5n_15 : Nat → Int32} (hhb : hh < 2000000000) (hww : ww ≤ 6) (hkk : kk ≤ 6) (h_1 : r_1 = (wdX g1 ww hh 0)) (hii : ii < kk) (haf_0 : (paX v0 v1 v2 v3 g2 (wdX g1 ww hh 0) ii (v5, g3, g4, g5) = (w_4, w_5, w_6, w_7))) (hF_15_0 : psX v0 v1 v2 v3 g2 ii r_1 (w_4, w_5, w_6, w_7) = (v5n_15, g3n_15, g4n_15, g5n_15)) : paX v0 v1 v2 v3 g2 (wdX g1 ww hh 0) (ii + 1) (v5, g3, g4, g5) = (v5n_15, g3n_15, g4n_15, g5n_15) := by
  first | assumption | (simp only [paX]; grind) | grind
theorem lf_X3_pass_2 {v0 : Int32} {v1 : Int32} {v2 : Int32} {v3 : Int32} {v5 : Int32} {hh : Nat} {ww : Nat} {kk : Nat} {g1 : Nat → Int32} {g2 : Nat → Int32} {g3 : Nat → Int32} {g4 : Nat → Int32} {g5 : Nat → Int32} {r_1 : Int32} {w_4 : Int32} {w_5 : Nat → Int32} {w_6 : Nat → Int32} {w_7 : Nat → Int32} (hhb : hh < 2000000000) (hww : ww ≤ 6) (hkk : kk ≤ 6) (h_1 : r_1 = (wdX g1 ww hh 0)) (haf_0 : (paX v0 v1 v2 v3 g2 (wdX g1 ww hh 0) kk (v5, g3, g4, g5) = (w_4, w_5, w_6, w_7))) : paX v0 v1 v2 v3 g2 (wdX g1 ww hh 0) kk (v5, g3, g4, g5) = (w_4, w_5, w_6, w_7) := by
  first | assumption | (simp only [paX]; grind) | grind
set_option maxHeartbeats 4000000 in
set_option maxRecDepth 100000 in
theorem r_X3_pass (l : Launch) (dC : Nat → ClassId) (dI : Nat → Nat → Nat) (cI cZ cL cJ : ClassId) (sz : Nat) (h : Nat) (v0 : Int32) (v1 : Int32) (v2 : Int32) (v3 : Int32) (v5 : Int32) (hh : Nat) (ww : Nat) (kk : Nat) (b1 : Nat) (b2 : Nat) (b3 : Nat) (b4 : Nat) (b5 : Nat) (g1 : Nat → Int32) (g2 : Nat → Int32) (g3 : Nat → Int32) (g4 : Nat → Int32) (g5 : Nat → Int32) (hhb : hh < 2000000000) (hww : ww ≤ 6) (hkk : kk ≤ 6) : Met l yX3_pass wsX3_pass ({ frames := 3, cells := 0, slots := 0, locals := 66 }) (va_Pc [.ref h] (fun U => U.heap.size = sz ∧ va_P (dC, dI) vwCl [(xo_3_iiiiiiiirrrrr h v0 v1 v2 v3 (nI hh) v5 (nI ww) (nI kk) b1 b2 b3 b4 b5), (xI b1 cI 6 g1), (xI b2 cI 6 g2), (xI b3 cI 6 g3), (xI b4 cI 6 g4), (xI b5 cI 6 g5)] U.heap ∧ va_K (dC, dI) vwCl [(cI, .int), (cZ, .boolean), (cL, .object RX3), (cJ, .array .int)] U ∧ va_D (fun _ => True) [(xo_3_iiiiiiiirrrrr h v0 v1 v2 v3 (nI hh) v5 (nI ww) (nI kk) b1 b2 b3 b4 b5), (xI b1 cI 6 g1), (xI b2 cI 6 g2), (xI b3 cI 6 g3), (xI b4 cI 6 g4), (xI b5 cI 6 g5)])) (va_Qv (fun (_ : Unit) => True) (fun (_ : Unit) t => ∃ (v5n : Int32) (g3n : Nat → Int32) (g4n : Nat → Int32) (g5n : Nat → Int32), va_P (dC, dI) vwCl [(xo_3_iiiiiiiirrrrr h v0 v1 v2 v3 (nI (hh + 1)) v5n (nI ww) (nI kk) b1 b2 b3 b4 b5), (xI b1 cI 6 g1), (xI b2 cI 6 g2), (xI b3 cI 6 g3n), (xI b4 cI 6 g4n), (xI b5 cI 6 g5n)] t.heap ∧ va_D (va_A [(xo_3_iiiiiiiirrrrr h v0 v1 v2 v3 (nI hh) v5 (nI ww) (nI kk) b1 b2 b3 b4 b5), (xI b1 cI 6 g1), (xI b2 cI 6 g2), (xI b3 cI 6 g3), (xI b4 cI 6 g4), (xI b5 cI 6 g5)] sz) [(xo_3_iiiiiiiirrrrr h v0 v1 v2 v3 (nI (hh + 1)) v5n (nI ww) (nI kk) b1 b2 b3 b4 b5), (xI b1 cI 6 g1), (xI b2 cI 6 g2), (xI b3 cI 6 g3n), (xI b4 cI 6 g4n), (xI b5 cI 6 g5n)] ∧ paX v0 v1 v2 v3 g2 (wdX g1 ww hh 0) kk (v5, g3, g4, g5) = (v5n, g3n, g4n, g5n)) (va_A [(xo_3_iiiiiiiirrrrr h v0 v1 v2 v3 (nI hh) v5 (nI ww) (nI kk) b1 b2 b3 b4 b5), (xI b1 cI 6 g1), (xI b2 cI 6 g2), (xI b3 cI 6 g3), (xI b4 cI 6 g4), (xI b5 cI 6 g5)] sz)) 0 0 (va_A [(xo_3_iiiiiiiirrrrr h v0 v1 v2 v3 (nI hh) v5 (nI ww) (nI kk) b1 b2 b3 b4 b5), (xI b1 cI 6 g1), (xI b2 cI 6 g2), (xI b3 cI 6 g3), (xI b4 cI 6 g4), (xI b5 cI 6 g5)] sz) := by
  refine Met.ofW (cc := cX3_pass) (maxL := 3) (ret := none) (by decide) rfl ?_
  intro p e s m args below meth c s₁ B hml hv
  obtain ⟨rfl, hsz, hP, hK, hD0⟩ := hv
  have hx := B.exec
  have hb := B.bytes
  have hr := B.returns
  have hts := atoms_spec (ws := wsX3_pass) B.pre
  have hown : s.vm.findClass RX3 = some m.cls := findClass_of_methodNamed B.named
  have hlocks := B.notSynchronized
  subst hsz
  have hD := hD0.self (sz := s.heap.size)
  generalize hAe : va_A [(xo_3_iiiiiiiirrrrr h v0 v1 v2 v3 (nI hh) v5 (nI ww) (nI kk) b1 b2 b3 b4 b5), (xI b1 cI 6 g1), (xI b2 cI 6 g2), (xI b3 cI 6 g3), (xI b4 cI 6 g4), (xI b5 cI 6 g5)] s.heap.size = A at hD ⊢
  have hA : ∀ q : Nat, s.heap.size ≤ q → A q := fun q h => by rw [← hAe]; exact Or.inr h
  have hS : va_S A s.heap s.heap [] := va_S.rf
  have hP : va_P (dC, dI) vwCl [(xo_3_iiiiiiiirrrrr h v0 v1 v2 v3 (nI hh) v5 (nI ww) (nI kk) b1 b2 b3 b4 b5), (xI b1 cI 6 g1), (xI b2 cI 6 g2), (xI b3 cI 6 g3), (xI b4 cI 6 g4), (xI b5 cI 6 g5)] s.heap := hP
  have hl := lv_entry ([.ref h]) (n := 3) (Nat.le_of_ble_eq_true rfl)
  rw [lg_entry_eq]
  generalize (lg_sl ([.ref h]) ++ List.replicate (3 - (lg_sl ([.ref h])).length) Slot.unset).toArray = ls at hl ⊢
  have hl : lv_has ls 3 [(0, .ref h)] := hl
  refine lv_aload_n hx hb dX3_pass_0 rfl (lv_at hl 0 rfl) ?_
  refine lv_iconst (v := 0) hx hb dX3_pass_1 (by decide) ?_
  have hPc_1 := hP
  refine vp_callSi (W.runV (As := [.int 0]) (rest := []) ⟨hx, hb, hml, hown, hts⟩ (r_X3_windOn l dC dI cI cZ cL cJ h v0 v1 v2 v3 v5 hh ww kk b1 b2 b3 b4 b5 g1 g2 g3 g4 g5 0 (hhb) (hww) (hkk) (by omega)) (cwV 1 hts gX3_pass_X3_windOn rfl rfl rfl (by decide +kernel) ⟨Nat.le_of_ble_eq_true rfl, Nat.le_of_ble_eq_true rfl⟩) (pvP 3 0 hK hP rfl rfl hPc_1) rfl rfl hl.1 rfl (lv_room (Nat.le_of_ble_eq_true rfl)) dX3_pass_2 ⟨Nat.le_of_ble_eq_true rfl, Nat.le_of_ble_eq_true rfl⟩) (fun r_1 h_1 => ?_)
  refine lv_istore_n (lv' := [(1, .int r_1), (0, .ref h)]) hx hb dX3_pass_5 rfl hl (by decide) rfl (fun ls hl => ?_)
  refine lv_iconst (v := 0) hx hb dX3_pass_6 (by decide) ?_
  refine lv_istore_n (lv' := [(2, .int 0), (1, .int r_1), (0, .ref h)]) hx hb dX3_pass_7 rfl hl (by decide) rfl (fun ls hl => ?_)
  refine lp_go (σ := (Int32) × (Nat → Int32) × (Nat → Int32) × (Nat → Int32)) (fun ii (st : (Int32) × (Nat → Int32) × (Nat → Int32) × (Nat → Int32)) H locs ls => match st with | (w_4, w_5, w_6, w_7) => lv_has ls 3 [(2, .int (nI ii)), (1, .int r_1), (0, .ref h)] ∧ va_P (dC, dI) vwCl [(xo_3_iiiiiiiirrrrr h v0 v1 v2 v3 (nI hh) w_4 (nI ww) (nI kk) b1 b2 b3 b4 b5), (xI b1 cI 6 g1), (xI b2 cI 6 g2), (xI b3 cI 6 w_5), (xI b4 cI 6 w_6), (xI b5 cI 6 w_7)] H ∧ va_D A [(xo_3_iiiiiiiirrrrr h v0 v1 v2 v3 (nI hh) w_4 (nI ww) (nI kk) b1 b2 b3 b4 b5), (xI b1 cI 6 g1), (xI b2 cI 6 g2), (xI b3 cI 6 w_5), (xI b4 cI 6 w_6), (xI b5 cI 6 w_7)] ∧ va_S A s.heap H locs ∧ (paX v0 v1 v2 v3 g2 (wdX g1 ww hh 0) ii (v5, g3, g4, g5) = (w_4, w_5, w_6, w_7))) kk ?_ ?_ 0 (by omega) (v5, g3, g4, g5) ⟨lv_sub hl [0, 1, 2] rfl, hP.sub (ws' := [(xo_3_iiiiiiiirrrrr h v0 v1 v2 v3 (nI hh) v5 (nI ww) (nI kk) b1 b2 b3 b4 b5), (xI b1 cI 6 g1), (xI b2 cI 6 g2), (xI b3 cI 6 g3), (xI b4 cI 6 g4), (xI b5 cI 6 g5)]) [0, 1, 2, 3, 4, 5] rfl, hD.sub (ws' := [(xo_3_iiiiiiiirrrrr h v0 v1 v2 v3 (nI hh) v5 (nI ww) (nI kk) b1 b2 b3 b4 b5), (xI b1 cI 6 g1), (xI b2 cI 6 g2), (xI b3 cI 6 g3), (xI b4 cI 6 g4), (xI b5 cI 6 g5)]) [0, 1, 2, 3, 4, 5] (by decide +kernel) rfl, hS, rfl⟩
  · rintro ii ⟨w_4, w_5, w_6, w_7⟩ H locs ls hii ⟨hl, hP, hD, hS, haf_0⟩ ih
    refine lv_iload_n hx hb dX3_pass_8 rfl (lv_at hl 0 rfl) ?_
    refine lv_aload_n hx hb dX3_pass_9 rfl (lv_at hl 2 rfl) ?_
    refine va_get (D := (dC, dI)) (ci := 3) (v := .int (nI kk)) (C := RX3) (T := TX3) (N := 13) hx hb hts i_X3_pass_X3 hown hK hP 0 rfl rfl 7 (by decide) (hts _ mx_X3_pass_1) (fun _ h9 => h9) rfl dX3_pass_10 ?_
    refine lv_icmp_ge (tgt := 28) hx hb dX3_pass_13 (by decide) (fun c_ => absurd c_ (fun q_ => absurd ((nI_leI (a := kk) (b := ii) (by omega) (by omega)).mp q_) (by omega))) (fun _ => ?_)
    refine lv_aload_n hx hb dX3_pass_16 rfl (lv_at hl 2 rfl) ?_
    refine lv_iload_n hx hb dX3_pass_17 rfl (lv_at hl 0 rfl) ?_
    refine lv_iload_n hx hb dX3_pass_18 rfl (lv_at hl 1 rfl) ?_
    have hc_15 := cutW (wc := [(xo_3_iiiiiiiirrrrr h v0 v1 v2 v3 (nI hh) w_4 (nI ww) (nI kk) b1 b2 b3 b4 b5), (xI b1 cI 6 g1), (xI b2 cI 6 g2), (xI b3 cI 6 w_5), (xI b4 cI 6 w_6), (xI b5 cI 6 w_7)]) hP hD hS hA [0, 1, 2, 3, 4, 5] (by decide +kernel) rfl
    refine va_callv (va_runV (As := [.int (nI ii), .int r_1]) (rest := []) ⟨hx, hb, hml, hown, hts⟩ (r_X3_passSound l dC dI cI cZ cL cJ H.size h v0 v1 v2 v3 w_4 hh ww kk b1 b2 b3 b4 b5 g1 g2 w_5 w_6 w_7 ii r_1 (hhb) (hww) (hkk) (by omega)) (cwV 2 hts gX3_pass_X3_passSound rfl rfl rfl (by decide +kernel) ⟨Nat.le_of_ble_eq_true rfl, Nat.le_of_ble_eq_true rfl⟩) (pvW 3 0 hK hP rfl rfl hc_15) rfl rfl hl.1 rfl (lv_room (Nat.le_of_ble_eq_true rfl)) dX3_pass_19 ⟨Nat.le_of_ble_eq_true rfl, Nat.le_of_ble_eq_true rfl⟩) hS (fun q _ h => hc_15.2.2 q h) hc_15.2.2 (fun u_15 t_15 H1 locs ht hvm h_15 hB hz1 hk1 hS => ?_)
    refine xl_4_3 hB (fun v5n_15 g3n_15 g4n_15 g5n_15 hP1 hD1 hF_15_0 => ?_)
    clear hB
    rw [ht] at hP1
    obtain ⟨hP, hD⟩ := va_join (wr := []) (w1 := [(xo_3_iiiiiiiirrrrr h v0 v1 v2 v3 (nI hh) v5n_15 (nI ww) (nI kk) b1 b2 b3 b4 b5), (xI b1 cI 6 g1), (xI b2 cI 6 g2), (xI b3 cI 6 g3n_15), (xI b4 cI 6 g4n_15), (xI b5 cI 6 g5n_15)]) hP hD [0, 1, 2, 3, 4, 5] [] rfl rfl (by decide +kernel) (by decide +kernel) hk1 hc_15.2.2 hP1 hD1
    generalize H1 = H at hP hS ⊢
    have hP : va_P (dC, dI) vwCl [(xo_3_iiiiiiiirrrrr h v0 v1 v2 v3 (nI hh) v5n_15 (nI ww) (nI kk) b1 b2 b3 b4 b5), (xI b1 cI 6 g1), (xI b2 cI 6 g2), (xI b3 cI 6 g3n_15), (xI b4 cI 6 g4n_15), (xI b5 cI 6 g5n_15)] H := hP
    have hD := dto hP hD
    refine lv_iinc (v := (nI (ii + 1))) (lv' := [(2, .int (nI (ii + 1))), (1, .int r_1), (0, .ref h)]) hx hb dX3_pass_22 hl (k := 0) rfl (nI_add ii 1) (by decide) rfl (fun ls hl => ?_)
    refine lv_goto (tgt := 8) hx hb dX3_pass_25 (by decide) ?_
    exact ih (v5n_15, g3n_15, g4n_15, g5n_15) _ _ _ ⟨lv_sub hl [0, 1, 2] rfl, hP.sub (ws' := [(xo_3_iiiiiiiirrrrr h v0 v1 v2 v3 (nI hh) v5n_15 (nI ww) (nI kk) b1 b2 b3 b4 b5), (xI b1 cI 6 g1), (xI b2 cI 6 g2), (xI b3 cI 6 g3n_15), (xI b4 cI 6 g4n_15), (xI b5 cI 6 g5n_15)]) [0, 1, 2, 3, 4, 5] rfl, hD.sub (ws' := [(xo_3_iiiiiiiirrrrr h v0 v1 v2 v3 (nI hh) v5n_15 (nI ww) (nI kk) b1 b2 b3 b4 b5), (xI b1 cI 6 g1), (xI b2 cI 6 g2), (xI b3 cI 6 g3n_15), (xI b4 cI 6 g4n_15), (xI b5 cI 6 g5n_15)]) [0, 1, 2, 3, 4, 5] (by decide +kernel) rfl, hS, (lf_X3_pass_1 hhb hww hkk h_1 hii haf_0 hF_15_0)⟩
  · rintro ⟨w_4, w_5, w_6, w_7⟩ H locs ls ⟨hl, hP, hD, hS, haf_0⟩
    refine lv_iload_n hx hb dX3_pass_8 rfl (lv_at hl 0 rfl) ?_
    refine lv_aload_n hx hb dX3_pass_9 rfl (lv_at hl 2 rfl) ?_
    refine va_get (D := (dC, dI)) (ci := 3) (v := .int (nI kk)) (C := RX3) (T := TX3) (N := 13) hx hb hts i_X3_pass_X3 hown hK hP 0 rfl rfl 7 (by decide) (hts _ mx_X3_pass_1) (fun _ h9 => h9) rfl dX3_pass_10 ?_
    refine lv_icmp_ge (tgt := 28) hx hb dX3_pass_13 (by decide) (fun _ => ?_) (fun c_ => absurd ((nI_leI (a := kk) (b := kk) (by omega) (by omega)).mpr (by omega)) c_)
    refine lv_aload_n hx hb dX3_pass_28 rfl (lv_at hl 2 rfl) ?_
    refine lv_dup hx hb dX3_pass_29 rfl ?_
    refine va_get (D := (dC, dI)) (ci := 3) (v := .int (nI hh)) (C := RX3) (T := TX3) (N := 13) hx hb hts i_X3_pass_X3 hown hK hP 0 rfl rfl 4 (by decide) (hts _ mx_X3_pass_2) (fun _ h9 => h9) rfl dX3_pass_30 ?_
    refine lv_iconst (v := 1) hx hb dX3_pass_33 (by decide) ?_
    refine lv_iadd hx hb dX3_pass_34 ?_
    refine lv_topi (fun v_17 e_17 => ?_)
    obtain rfl : v_17 = (nI (hh + 1)) := (e_17).trans (nI_add hh 1)
    refine va_put (D := (dC, dI)) (ci := 3) (v := .int (nI (hh + 1))) (ty := .int) (C := RX3) (T := TX3) (N := 13) hx hb hts i_X3_pass_X3 tyX3 tyX3_ok nmX3 hown hK hP hD hS 0 rfl rfl 4 (by decide) (hts _ mx_X3_pass_2) (fun _ h9 => h9) rfl (by decide +kernel) rfl rfl (Nat.le_of_ble_eq_true rfl) dX3_pass_35 (fun H locs hP hD hS => ?_)
    have hP : va_P (dC, dI) vwCl [(xo_3_iiiiiiiirrrrr h v0 v1 v2 v3 (nI (hh + 1)) w_4 (nI ww) (nI kk) b1 b2 b3 b4 b5), (xI b1 cI 6 g1), (xI b2 cI 6 g2), (xI b3 cI 6 w_5), (xI b4 cI 6 w_6), (xI b5 cI 6 w_7)] H := hP
    have hD := dto hP hD
    have hX9 := cut2 (wc := [(xo_3_iiiiiiiirrrrr h v0 v1 v2 v3 (nI (hh + 1)) w_4 (nI ww) (nI kk) b1 b2 b3 b4 b5), (xI b1 cI 6 g1), (xI b2 cI 6 g2), (xI b3 cI 6 w_5), (xI b4 cI 6 w_6), (xI b5 cI 6 w_7)]) hP hD [0, 1, 2, 3, 4, 5] (by decide +kernel) rfl
    exact W.vret hx hb hr (fun t ht hW => ⟨⟨(), rfl, trivial, ⟨w_4, w_5, w_6, w_7, va_Ht ht hX9.1, hX9.2, (lf_X3_pass_2 hhb hww hkk h_1 haf_0)⟩⟩, hS.F ht⟩) hS.2.2 dX3_pass_38
theorem lf_X3_passOnly_1 {v0 : Int32} {v1 : Int32} {v2 : Int32} {v3 : Int32} {v5 : Int32} {hh : Nat} {ww : Nat} {kk : Nat} {g1 : Nat → Int32} {g2 : Nat → Int32} {g3 : Nat → Int32} {g4 : Nat → Int32} {g5 : Nat → Int32} {i : Nat} {j : Nat} {w_5 : Int32} {w_6 : Nat → Int32} {w_7 : Nat → Int32} {w_8 : Nat → Int32} {ii : Nat} {r_18 : Int32} {v5n_19 : Int32} {g3n_19 : Nat → Int32} {g4n_19 : Nat → Int32} {g5n_19 : Nat → Int32} (hhb : hh < 1999999000) (hww : ww ≤ 6) (hkk : kk ≤ 6) (hi : i < 6) (hj : j ≤ 900) (hii : ii < j) (haf_0 : (poX v0 v1 v2 v3 g1 ww hh g2 i ii (v5, g3, g4, g5) = (w_5, w_6, w_7, w_8))) (h_18 : r_18 = (wdX g1 ww (hh + ii) 0)) (hF_19_0 : psX v0 v1 v2 v3 g2 i r_18 (w_5, w_6, w_7, w_8) = (v5n_19, g3n_19, g4n_19, g5n_19)) : poX v0 v1 v2 v3 g1 ww hh g2 i (ii + 1) (v5, g3, g4, g5) = (v5n_19, g3n_19, g4n_19, g5n_19) := by
  first | assumption | (simp only [poX]; grind) | grind
theorem lf_X3_passOnly_2 {v0 : Int32} {v1 : Int32} {v2 : Int32} {v3 : Int32} {v5 : Int32} {hh : Nat} {ww : Nat} {kk : Nat} {g1 : Nat → Int32} {g2 : Nat → Int32} {g3 : Nat → Int32} {g4 : Nat → Int32} {g5 : Nat → Int32} {i : Nat} {j : Nat} {w_5 : Int32} {w_6 : Nat → Int32} {w_7 : Nat → Int32} {w_8 : Nat → Int32} (hhb : hh < 1999999000) (hww : ww ≤ 6) (hkk : kk ≤ 6) (hi : i < 6) (hj : j ≤ 900) (haf_0 : (poX v0 v1 v2 v3 g1 ww hh g2 i j (v5, g3, g4, g5) = (w_5, w_6, w_7, w_8))) : poX v0 v1 v2 v3 g1 ww hh g2 i j (v5, g3, g4, g5) = (w_5, w_6, w_7, w_8) := by
  first | assumption | (simp only [poX]; grind) | grind
set_option maxHeartbeats 4000000 in
set_option maxRecDepth 100000 in
theorem r_X3_passOnly (l : Launch) (dC : Nat → ClassId) (dI : Nat → Nat → Nat) (cI cZ cL cJ : ClassId) (sz : Nat) (h : Nat) (v0 : Int32) (v1 : Int32) (v2 : Int32) (v3 : Int32) (v5 : Int32) (hh : Nat) (ww : Nat) (kk : Nat) (b1 : Nat) (b2 : Nat) (b3 : Nat) (b4 : Nat) (b5 : Nat) (g1 : Nat → Int32) (g2 : Nat → Int32) (g3 : Nat → Int32) (g4 : Nat → Int32) (g5 : Nat → Int32) (i : Nat) (j : Nat) (hhb : hh < 1999999000) (hww : ww ≤ 6) (hkk : kk ≤ 6) (hi : i < 6) (hj : j ≤ 900) : Met l yX3_passOnly wsX3_passOnly ({ frames := 3, cells := 0, slots := 0, locals := 66 }) (va_Pc [.ref h, .int (nI i), .int (nI j)] (fun U => U.heap.size = sz ∧ va_P (dC, dI) vwCl [(xo_3_iiiiiiiirrrrr h v0 v1 v2 v3 (nI hh) v5 (nI ww) (nI kk) b1 b2 b3 b4 b5), (xI b1 cI 6 g1), (xI b2 cI 6 g2), (xI b3 cI 6 g3), (xI b4 cI 6 g4), (xI b5 cI 6 g5)] U.heap ∧ va_K (dC, dI) vwCl [(cI, .int), (cZ, .boolean), (cL, .object RX3), (cJ, .array .int)] U ∧ va_D (fun _ => True) [(xo_3_iiiiiiiirrrrr h v0 v1 v2 v3 (nI hh) v5 (nI ww) (nI kk) b1 b2 b3 b4 b5), (xI b1 cI 6 g1), (xI b2 cI 6 g2), (xI b3 cI 6 g3), (xI b4 cI 6 g4), (xI b5 cI 6 g5)])) (va_Qv (fun (_ : Unit) => True) (fun (_ : Unit) t => ∃ (v5n : Int32) (g3n : Nat → Int32) (g4n : Nat → Int32) (g5n : Nat → Int32), va_P (dC, dI) vwCl [(xo_3_iiiiiiiirrrrr h v0 v1 v2 v3 (nI (hh + j)) v5n (nI ww) (nI kk) b1 b2 b3 b4 b5), (xI b1 cI 6 g1), (xI b2 cI 6 g2), (xI b3 cI 6 g3n), (xI b4 cI 6 g4n), (xI b5 cI 6 g5n)] t.heap ∧ va_D (va_A [(xo_3_iiiiiiiirrrrr h v0 v1 v2 v3 (nI hh) v5 (nI ww) (nI kk) b1 b2 b3 b4 b5), (xI b1 cI 6 g1), (xI b2 cI 6 g2), (xI b3 cI 6 g3), (xI b4 cI 6 g4), (xI b5 cI 6 g5)] sz) [(xo_3_iiiiiiiirrrrr h v0 v1 v2 v3 (nI (hh + j)) v5n (nI ww) (nI kk) b1 b2 b3 b4 b5), (xI b1 cI 6 g1), (xI b2 cI 6 g2), (xI b3 cI 6 g3n), (xI b4 cI 6 g4n), (xI b5 cI 6 g5n)] ∧ poX v0 v1 v2 v3 g1 ww hh g2 i j (v5, g3, g4, g5) = (v5n, g3n, g4n, g5n)) (va_A [(xo_3_iiiiiiiirrrrr h v0 v1 v2 v3 (nI hh) v5 (nI ww) (nI kk) b1 b2 b3 b4 b5), (xI b1 cI 6 g1), (xI b2 cI 6 g2), (xI b3 cI 6 g3), (xI b4 cI 6 g4), (xI b5 cI 6 g5)] sz)) 0 0 (va_A [(xo_3_iiiiiiiirrrrr h v0 v1 v2 v3 (nI hh) v5 (nI ww) (nI kk) b1 b2 b3 b4 b5), (xI b1 cI 6 g1), (xI b2 cI 6 g2), (xI b3 cI 6 g3), (xI b4 cI 6 g4), (xI b5 cI 6 g5)] sz) := by
  refine Met.ofW (cc := cX3_passOnly) (maxL := 4) (ret := none) (by decide) rfl ?_
  intro p e s m args below meth c s₁ B hml hv
  obtain ⟨rfl, hsz, hP, hK, hD0⟩ := hv
  have hx := B.exec
  have hb := B.bytes
  have hr := B.returns
  have hts := atoms_spec (ws := wsX3_passOnly) B.pre
  have hown : s.vm.findClass RX3 = some m.cls := findClass_of_methodNamed B.named
  have hlocks := B.notSynchronized
  subst hsz
  have hD := hD0.self (sz := s.heap.size)
  generalize hAe : va_A [(xo_3_iiiiiiiirrrrr h v0 v1 v2 v3 (nI hh) v5 (nI ww) (nI kk) b1 b2 b3 b4 b5), (xI b1 cI 6 g1), (xI b2 cI 6 g2), (xI b3 cI 6 g3), (xI b4 cI 6 g4), (xI b5 cI 6 g5)] s.heap.size = A at hD ⊢
  have hA : ∀ q : Nat, s.heap.size ≤ q → A q := fun q h => by rw [← hAe]; exact Or.inr h
  have hS : va_S A s.heap s.heap [] := va_S.rf
  have hP : va_P (dC, dI) vwCl [(xo_3_iiiiiiiirrrrr h v0 v1 v2 v3 (nI hh) v5 (nI ww) (nI kk) b1 b2 b3 b4 b5), (xI b1 cI 6 g1), (xI b2 cI 6 g2), (xI b3 cI 6 g3), (xI b4 cI 6 g4), (xI b5 cI 6 g5)] s.heap := hP
  have hl := lv_entry ([.ref h, .int (nI i), .int (nI j)]) (n := 4) (Nat.le_of_ble_eq_true rfl)
  rw [lg_entry_eq]
  generalize (lg_sl ([.ref h, .int (nI i), .int (nI j)]) ++ List.replicate (4 - (lg_sl ([.ref h, .int (nI i), .int (nI j)])).length) Slot.unset).toArray = ls at hl ⊢
  have hl : lv_has ls 4 [(0, .ref h), (1, .int (nI i)), (2, .int (nI j))] := hl
  refine lv_iconst (v := 0) hx hb dX3_passOnly_0 (by decide) ?_
  refine lv_istore_n (lv' := [(3, .int 0), (0, .ref h), (1, .int (nI i)), (2, .int (nI j))]) hx hb dX3_passOnly_1 rfl hl (by decide) rfl (fun ls hl => ?_)
  refine lp_go (σ := (Int32) × (Nat → Int32) × (Nat → Int32) × (Nat → Int32)) (fun ii (st : (Int32) × (Nat → Int32) × (Nat → Int32) × (Nat → Int32)) H locs ls => match st with | (w_5, w_6, w_7, w_8) => lv_has ls 4 [(3, .int (nI ii)), (0, .ref h), (1, .int (nI i)), (2, .int (nI j))] ∧ va_P (dC, dI) vwCl [(xo_3_iiiiiiiirrrrr h v0 v1 v2 v3 (nI (hh + ii)) w_5 (nI ww) (nI kk) b1 b2 b3 b4 b5), (xI b1 cI 6 g1), (xI b2 cI 6 g2), (xI b3 cI 6 w_6), (xI b4 cI 6 w_7), (xI b5 cI 6 w_8)] H ∧ va_D A [(xo_3_iiiiiiiirrrrr h v0 v1 v2 v3 (nI (hh + ii)) w_5 (nI ww) (nI kk) b1 b2 b3 b4 b5), (xI b1 cI 6 g1), (xI b2 cI 6 g2), (xI b3 cI 6 w_6), (xI b4 cI 6 w_7), (xI b5 cI 6 w_8)] ∧ va_S A s.heap H locs ∧ (poX v0 v1 v2 v3 g1 ww hh g2 i ii (v5, g3, g4, g5) = (w_5, w_6, w_7, w_8))) j ?_ ?_ 0 (by omega) (v5, g3, g4, g5) ⟨lv_sub hl [0, 1, 2, 3] rfl, hP.sub (ws' := [(xo_3_iiiiiiiirrrrr h v0 v1 v2 v3 (nI hh) v5 (nI ww) (nI kk) b1 b2 b3 b4 b5), (xI b1 cI 6 g1), (xI b2 cI 6 g2), (xI b3 cI 6 g3), (xI b4 cI 6 g4), (xI b5 cI 6 g5)]) [0, 1, 2, 3, 4, 5] rfl, hD.sub (ws' := [(xo_3_iiiiiiiirrrrr h v0 v1 v2 v3 (nI hh) v5 (nI ww) (nI kk) b1 b2 b3 b4 b5), (xI b1 cI 6 g1), (xI b2 cI 6 g2), (xI b3 cI 6 g3), (xI b4 cI 6 g4), (xI b5 cI 6 g5)]) [0, 1, 2, 3, 4, 5] (by decide +kernel) rfl, hS, rfl⟩
  · rintro ii ⟨w_5, w_6, w_7, w_8⟩ H locs ls hii ⟨hl, hP, hD, hS, haf_0⟩ ih
    refine lv_iload_n hx hb dX3_passOnly_2 rfl (lv_at hl 0 rfl) ?_
    refine lv_iload_n hx hb dX3_passOnly_3 rfl (lv_at hl 3 rfl) ?_
    refine lv_icmp_ge (tgt := 33) hx hb dX3_passOnly_4 (by decide) (fun c_ => absurd c_ (fun q_ => absurd ((nI_leI (a := j) (b := ii) (by omega) (by omega)).mp q_) (by omega))) (fun _ => ?_)
    refine lv_aload_n hx hb dX3_passOnly_7 rfl (lv_at hl 1 rfl) ?_
    refine lv_iload_n hx hb dX3_passOnly_8 rfl (lv_at hl 2 rfl) ?_
    refine lv_aload_n hx hb dX3_passOnly_9 rfl (lv_at hl 1 rfl) ?_
    refine lv_iconst (v := 0) hx hb dX3_passOnly_10 (by decide) ?_
    have hPc_18 := hP
    refine vp_callSi (W.runV (As := [.int 0]) (rest := [.int (nI i), .ref h]) ⟨hx, hb, hml, hown, hts⟩ (r_X3_windOn l dC dI cI cZ cL cJ h v0 v1 v2 v3 w_5 (hh + ii) ww kk b1 b2 b3 b4 b5 g1 g2 w_6 w_7 w_8 0 (by omega) (hww) (hkk) (by omega)) (cwV 1 hts gX3_passOnly_X3_windOn rfl rfl rfl (by decide +kernel) ⟨Nat.le_of_ble_eq_true rfl, Nat.le_of_ble_eq_true rfl⟩) (pvP 3 0 hK hP rfl rfl hPc_18) rfl rfl hl.1 rfl (lv_room (Nat.le_of_ble_eq_true rfl)) dX3_passOnly_11 ⟨Nat.le_of_ble_eq_true rfl, Nat.le_of_ble_eq_true rfl⟩) (fun r_18 h_18 => ?_)
    have hc_19 := cutW (wc := [(xo_3_iiiiiiiirrrrr h v0 v1 v2 v3 (nI (hh + ii)) w_5 (nI ww) (nI kk) b1 b2 b3 b4 b5), (xI b1 cI 6 g1), (xI b2 cI 6 g2), (xI b3 cI 6 w_6), (xI b4 cI 6 w_7), (xI b5 cI 6 w_8)]) hP hD hS hA [0, 1, 2, 3, 4, 5] (by decide +kernel) rfl
    refine va_callv (va_runV (As := [.int (nI i), .int r_18]) (rest := []) ⟨hx, hb, hml, hown, hts⟩ (r_X3_passSound l dC dI cI cZ cL cJ H.size h v0 v1 v2 v3 w_5 (hh + ii) ww kk b1 b2 b3 b4 b5 g1 g2 w_6 w_7 w_8 i r_18 (by omega) (hww) (hkk) (by omega)) (cwV 2 hts gX3_passOnly_X3_passSound rfl rfl rfl (by decide +kernel) ⟨Nat.le_of_ble_eq_true rfl, Nat.le_of_ble_eq_true rfl⟩) (pvW 3 0 hK hP rfl rfl hc_19) rfl rfl hl.1 rfl (lv_room (Nat.le_of_ble_eq_true rfl)) dX3_passOnly_14 ⟨Nat.le_of_ble_eq_true rfl, Nat.le_of_ble_eq_true rfl⟩) hS (fun q _ h => hc_19.2.2 q h) hc_19.2.2 (fun u_19 t_19 H1 locs ht hvm h_19 hB hz1 hk1 hS => ?_)
    refine xl_4_3 hB (fun v5n_19 g3n_19 g4n_19 g5n_19 hP1 hD1 hF_19_0 => ?_)
    clear hB
    rw [ht] at hP1
    obtain ⟨hP, hD⟩ := va_join (wr := []) (w1 := [(xo_3_iiiiiiiirrrrr h v0 v1 v2 v3 (nI (hh + ii)) v5n_19 (nI ww) (nI kk) b1 b2 b3 b4 b5), (xI b1 cI 6 g1), (xI b2 cI 6 g2), (xI b3 cI 6 g3n_19), (xI b4 cI 6 g4n_19), (xI b5 cI 6 g5n_19)]) hP hD [0, 1, 2, 3, 4, 5] [] rfl rfl (by decide +kernel) (by decide +kernel) hk1 hc_19.2.2 hP1 hD1
    generalize H1 = H at hP hS ⊢
    have hP : va_P (dC, dI) vwCl [(xo_3_iiiiiiiirrrrr h v0 v1 v2 v3 (nI (hh + ii)) v5n_19 (nI ww) (nI kk) b1 b2 b3 b4 b5), (xI b1 cI 6 g1), (xI b2 cI 6 g2), (xI b3 cI 6 g3n_19), (xI b4 cI 6 g4n_19), (xI b5 cI 6 g5n_19)] H := hP
    have hD := dto hP hD
    refine lv_aload_n hx hb dX3_passOnly_17 rfl (lv_at hl 1 rfl) ?_
    refine lv_dup hx hb dX3_passOnly_18 rfl ?_
    refine va_get (D := (dC, dI)) (ci := 3) (v := .int (nI (hh + ii))) (C := RX3) (T := TX3) (N := 13) hx hb hts i_X3_passOnly_X3 hown hK hP 0 rfl rfl 4 (by decide) (hts _ mx_X3_passOnly_1) (fun _ h9 => h9) rfl dX3_passOnly_19 ?_
    refine lv_iconst (v := 1) hx hb dX3_passOnly_22 (by decide) ?_
    refine lv_iadd hx hb dX3_passOnly_23 ?_
    refine lv_topi (fun v_20 e_20 => ?_)
    obtain rfl : v_20 = (nI ((hh + ii) + 1)) := (e_20).trans (nI_add (hh + ii) 1)
    refine va_put (D := (dC, dI)) (ci := 3) (v := .int (nI ((hh + ii) + 1))) (ty := .int) (C := RX3) (T := TX3) (N := 13) hx hb hts i_X3_passOnly_X3 tyX3 tyX3_ok nmX3 hown hK hP hD hS 0 rfl rfl 4 (by decide) (hts _ mx_X3_passOnly_1) (fun _ h9 => h9) rfl (by decide +kernel) rfl rfl (Nat.le_of_ble_eq_true rfl) dX3_passOnly_24 (fun H locs hP hD hS => ?_)
    have hP : va_P (dC, dI) vwCl [(xo_3_iiiiiiiirrrrr h v0 v1 v2 v3 (nI ((hh + ii) + 1)) v5n_19 (nI ww) (nI kk) b1 b2 b3 b4 b5), (xI b1 cI 6 g1), (xI b2 cI 6 g2), (xI b3 cI 6 g3n_19), (xI b4 cI 6 g4n_19), (xI b5 cI 6 g5n_19)] H := hP
    have hD := dto hP hD
    refine lv_iinc (v := (nI (ii + 1))) (lv' := [(3, .int (nI (ii + 1))), (0, .ref h), (1, .int (nI i)), (2, .int (nI j))]) hx hb dX3_passOnly_27 hl (k := 0) rfl (nI_add ii 1) (by decide) rfl (fun ls hl => ?_)
    refine lv_goto (tgt := 2) hx hb dX3_passOnly_30 (by decide) ?_
    exact ih (v5n_19, g3n_19, g4n_19, g5n_19) _ _ _ ⟨lv_sub hl [0, 1, 2, 3] rfl, hP.sub (ws' := [(xo_3_iiiiiiiirrrrr h v0 v1 v2 v3 (nI ((hh + ii) + 1)) v5n_19 (nI ww) (nI kk) b1 b2 b3 b4 b5), (xI b1 cI 6 g1), (xI b2 cI 6 g2), (xI b3 cI 6 g3n_19), (xI b4 cI 6 g4n_19), (xI b5 cI 6 g5n_19)]) [0, 1, 2, 3, 4, 5] rfl, hD.sub (ws' := [(xo_3_iiiiiiiirrrrr h v0 v1 v2 v3 (nI ((hh + ii) + 1)) v5n_19 (nI ww) (nI kk) b1 b2 b3 b4 b5), (xI b1 cI 6 g1), (xI b2 cI 6 g2), (xI b3 cI 6 g3n_19), (xI b4 cI 6 g4n_19), (xI b5 cI 6 g5n_19)]) [0, 1, 2, 3, 4, 5] (by decide +kernel) rfl, hS, (lf_X3_passOnly_1 hhb hww hkk hi hj hii haf_0 h_18 hF_19_0)⟩
  · rintro ⟨w_5, w_6, w_7, w_8⟩ H locs ls ⟨hl, hP, hD, hS, haf_0⟩
    refine lv_iload_n hx hb dX3_passOnly_2 rfl (lv_at hl 0 rfl) ?_
    refine lv_iload_n hx hb dX3_passOnly_3 rfl (lv_at hl 3 rfl) ?_
    refine lv_icmp_ge (tgt := 33) hx hb dX3_passOnly_4 (by decide) (fun _ => ?_) (fun c_ => absurd ((nI_leI (a := j) (b := j) (by omega) (by omega)).mpr (by omega)) c_)
    have hX9 := cut2 (wc := [(xo_3_iiiiiiiirrrrr h v0 v1 v2 v3 (nI (hh + j)) w_5 (nI ww) (nI kk) b1 b2 b3 b4 b5), (xI b1 cI 6 g1), (xI b2 cI 6 g2), (xI b3 cI 6 w_6), (xI b4 cI 6 w_7), (xI b5 cI 6 w_8)]) hP hD [0, 1, 2, 3, 4, 5] (by decide +kernel) rfl
    exact W.vret hx hb hr (fun t ht hW => ⟨⟨(), rfl, trivial, ⟨w_5, w_6, w_7, w_8, va_Ht ht hX9.1, hX9.2, (lf_X3_passOnly_2 hhb hww hkk hi hj haf_0)⟩⟩, hS.F ht⟩) hS.2.2 dX3_passOnly_33
theorem lf_X3_mealBehind_1 {v0 : Int32} {v1 : Int32} {v2 : Int32} {v3 : Int32} {v5 : Int32} {hh : Nat} {ww : Nat} {kk : Nat} {g1 : Nat → Int32} {g2 : Nat → Int32} {g3 : Nat → Int32} {g4 : Nat → Int32} {g5 : Nat → Int32} {j : Nat} {w_3 : Int32} {w_4 : Nat → Int32} {w_5 : Nat → Int32} {w_6 : Nat → Int32} {ii : Nat} {v5n_14 : Int32} {g3n_14 : Nat → Int32} {g4n_14 : Nat → Int32} {g5n_14 : Nat → Int32} (hhb : hh < 1999999000) (hww : ww ≤ 6) (hkk : kk ≤ 6) (hj : j ≤ 900) (hii : ii < j) (haf_0 : (pmX v0 v1 v2 v3 g1 ww hh kk g2 ii (v5, g3, g4, g5) = (w_3, w_4, w_5, w_6))) (hF_14_0 : paX v0 v1 v2 v3 g2 (wdX g1 ww (hh + ii) 0) kk (w_3, w_4, w_5, w_6) = (v5n_14, g3n_14, g4n_14, g5n_14)) : pmX v0 v1 v2 v3 g1 ww hh kk g2 (ii + 1) (v5, g3, g4, g5) = (v5n_14, g3n_14, g4n_14, g5n_14) := by
  first | assumption | (simp only [pmX]; grind) | grind
theorem lf_X3_mealBehind_2 {v0 : Int32} {v1 : Int32} {v2 : Int32} {v3 : Int32} {v5 : Int32} {hh : Nat} {ww : Nat} {kk : Nat} {g1 : Nat → Int32} {g2 : Nat → Int32} {g3 : Nat → Int32} {g4 : Nat → Int32} {g5 : Nat → Int32} {j : Nat} {w_3 : Int32} {w_4 : Nat → Int32} {w_5 : Nat → Int32} {w_6 : Nat → Int32} (hhb : hh < 1999999000) (hww : ww ≤ 6) (hkk : kk ≤ 6) (hj : j ≤ 900) (haf_0 : (pmX v0 v1 v2 v3 g1 ww hh kk g2 j (v5, g3, g4, g5) = (w_3, w_4, w_5, w_6))) : pmX v0 v1 v2 v3 g1 ww hh kk g2 j (v5, g3, g4, g5) = (w_3, w_4, w_5, w_6) := by
  first | assumption | (simp only [pmX]; grind) | grind
theorem lf_X3_mealBehind_3 {v0 : Int32} {v1 : Int32} {v2 : Int32} {v3 : Int32} {v5 : Int32} {hh : Nat} {ww : Nat} {kk : Nat} {g1 : Nat → Int32} {g2 : Nat → Int32} {g3 : Nat → Int32} {g4 : Nat → Int32} {g5 : Nat → Int32} {j : Nat} {w_3 : Int32} {w_4 : Nat → Int32} {w_5 : Nat → Int32} {w_6 : Nat → Int32} (hhb : hh < 1999999000) (hww : ww ≤ 6) (hkk : kk ≤ 6) (hj : j ≤ 900) (haf_0 : (pmX v0 v1 v2 v3 g1 ww hh kk g2 j (v5, g3, g4, g5) = (w_3, w_4, w_5, w_6))) : w_3 = ((pmX v0 v1 v2 v3 g1 ww hh kk g2 j (v5, g3, g4, g5)).1) := by
  first | assumption | (simp only [pmX]; grind) | grind
set_option maxHeartbeats 4000000 in
set_option maxRecDepth 100000 in
theorem r_X3_mealBehind (l : Launch) (dC : Nat → ClassId) (dI : Nat → Nat → Nat) (cI cZ cL cJ : ClassId) (sz : Nat) (h : Nat) (v0 : Int32) (v1 : Int32) (v2 : Int32) (v3 : Int32) (v5 : Int32) (hh : Nat) (ww : Nat) (kk : Nat) (b1 : Nat) (b2 : Nat) (b3 : Nat) (b4 : Nat) (b5 : Nat) (g1 : Nat → Int32) (g2 : Nat → Int32) (g3 : Nat → Int32) (g4 : Nat → Int32) (g5 : Nat → Int32) (j : Nat) (hhb : hh < 1999999000) (hww : ww ≤ 6) (hkk : kk ≤ 6) (hj : j ≤ 900) : Met l yX3_mealBehind wsX3_mealBehind ({ frames := 4, cells := 0, slots := 0, locals := 88 }) (va_Pc [.ref h, .int (nI j)] (fun U => U.heap.size = sz ∧ va_P (dC, dI) vwCl [(xo_3_iiiiiiiirrrrr h v0 v1 v2 v3 (nI hh) v5 (nI ww) (nI kk) b1 b2 b3 b4 b5), (xI b1 cI 6 g1), (xI b2 cI 6 g2), (xI b3 cI 6 g3), (xI b4 cI 6 g4), (xI b5 cI 6 g5)] U.heap ∧ va_K (dC, dI) vwCl [(cI, .int), (cZ, .boolean), (cL, .object RX3), (cJ, .array .int)] U ∧ va_D (fun _ => True) [(xo_3_iiiiiiiirrrrr h v0 v1 v2 v3 (nI hh) v5 (nI ww) (nI kk) b1 b2 b3 b4 b5), (xI b1 cI 6 g1), (xI b2 cI 6 g2), (xI b3 cI 6 g3), (xI b4 cI 6 g4), (xI b5 cI 6 g5)])) (va_Qi (fun r (_ : Unit) => r = ((pmX v0 v1 v2 v3 g1 ww hh kk g2 j (v5, g3, g4, g5)).1)) (fun (_ : Unit) t => ∃ (v5n : Int32) (g3n : Nat → Int32) (g4n : Nat → Int32) (g5n : Nat → Int32), va_P (dC, dI) vwCl [(xo_3_iiiiiiiirrrrr h v0 v1 v2 v3 (nI (hh + j)) v5n (nI ww) (nI kk) b1 b2 b3 b4 b5), (xI b1 cI 6 g1), (xI b2 cI 6 g2), (xI b3 cI 6 g3n), (xI b4 cI 6 g4n), (xI b5 cI 6 g5n)] t.heap ∧ va_D (va_A [(xo_3_iiiiiiiirrrrr h v0 v1 v2 v3 (nI hh) v5 (nI ww) (nI kk) b1 b2 b3 b4 b5), (xI b1 cI 6 g1), (xI b2 cI 6 g2), (xI b3 cI 6 g3), (xI b4 cI 6 g4), (xI b5 cI 6 g5)] sz) [(xo_3_iiiiiiiirrrrr h v0 v1 v2 v3 (nI (hh + j)) v5n (nI ww) (nI kk) b1 b2 b3 b4 b5), (xI b1 cI 6 g1), (xI b2 cI 6 g2), (xI b3 cI 6 g3n), (xI b4 cI 6 g4n), (xI b5 cI 6 g5n)] ∧ pmX v0 v1 v2 v3 g1 ww hh kk g2 j (v5, g3, g4, g5) = (v5n, g3n, g4n, g5n)) (va_A [(xo_3_iiiiiiiirrrrr h v0 v1 v2 v3 (nI hh) v5 (nI ww) (nI kk) b1 b2 b3 b4 b5), (xI b1 cI 6 g1), (xI b2 cI 6 g2), (xI b3 cI 6 g3), (xI b4 cI 6 g4), (xI b5 cI 6 g5)] sz)) 0 0 (va_A [(xo_3_iiiiiiiirrrrr h v0 v1 v2 v3 (nI hh) v5 (nI ww) (nI kk) b1 b2 b3 b4 b5), (xI b1 cI 6 g1), (xI b2 cI 6 g2), (xI b3 cI 6 g3), (xI b4 cI 6 g4), (xI b5 cI 6 g5)] sz) := by
  refine Met.ofW (cc := cX3_mealBehind) (maxL := 3) (ret := (some .int)) (by decide) rfl ?_
  intro p e s m args below meth c s₁ B hml hv
  obtain ⟨rfl, hsz, hP, hK, hD0⟩ := hv
  have hx := B.exec
  have hb := B.bytes
  have hr := B.returns
  have hts := atoms_spec (ws := wsX3_mealBehind) B.pre
  have hown : s.vm.findClass RX3 = some m.cls := findClass_of_methodNamed B.named
  have hlocks := B.notSynchronized
  subst hsz
  have hD := hD0.self (sz := s.heap.size)
  generalize hAe : va_A [(xo_3_iiiiiiiirrrrr h v0 v1 v2 v3 (nI hh) v5 (nI ww) (nI kk) b1 b2 b3 b4 b5), (xI b1 cI 6 g1), (xI b2 cI 6 g2), (xI b3 cI 6 g3), (xI b4 cI 6 g4), (xI b5 cI 6 g5)] s.heap.size = A at hD ⊢
  have hA : ∀ q : Nat, s.heap.size ≤ q → A q := fun q h => by rw [← hAe]; exact Or.inr h
  have hS : va_S A s.heap s.heap [] := va_S.rf
  have hP : va_P (dC, dI) vwCl [(xo_3_iiiiiiiirrrrr h v0 v1 v2 v3 (nI hh) v5 (nI ww) (nI kk) b1 b2 b3 b4 b5), (xI b1 cI 6 g1), (xI b2 cI 6 g2), (xI b3 cI 6 g3), (xI b4 cI 6 g4), (xI b5 cI 6 g5)] s.heap := hP
  have hl := lv_entry ([.ref h, .int (nI j)]) (n := 3) (Nat.le_of_ble_eq_true rfl)
  rw [lg_entry_eq]
  generalize (lg_sl ([.ref h, .int (nI j)]) ++ List.replicate (3 - (lg_sl ([.ref h, .int (nI j)])).length) Slot.unset).toArray = ls at hl ⊢
  have hl : lv_has ls 3 [(0, .ref h), (1, .int (nI j))] := hl
  refine lv_iconst (v := 0) hx hb dX3_mealBehind_0 (by decide) ?_
  refine lv_istore_n (lv' := [(2, .int 0), (0, .ref h), (1, .int (nI j))]) hx hb dX3_mealBehind_1 rfl hl (by decide) rfl (fun ls hl => ?_)
  refine lp_go (σ := (Int32) × (Nat → Int32) × (Nat → Int32) × (Nat → Int32)) (fun ii (st : (Int32) × (Nat → Int32) × (Nat → Int32) × (Nat → Int32)) H locs ls => match st with | (w_3, w_4, w_5, w_6) => lv_has ls 3 [(2, .int (nI ii)), (0, .ref h), (1, .int (nI j))] ∧ va_P (dC, dI) vwCl [(xo_3_iiiiiiiirrrrr h v0 v1 v2 v3 (nI (hh + ii)) w_3 (nI ww) (nI kk) b1 b2 b3 b4 b5), (xI b1 cI 6 g1), (xI b2 cI 6 g2), (xI b3 cI 6 w_4), (xI b4 cI 6 w_5), (xI b5 cI 6 w_6)] H ∧ va_D A [(xo_3_iiiiiiiirrrrr h v0 v1 v2 v3 (nI (hh + ii)) w_3 (nI ww) (nI kk) b1 b2 b3 b4 b5), (xI b1 cI 6 g1), (xI b2 cI 6 g2), (xI b3 cI 6 w_4), (xI b4 cI 6 w_5), (xI b5 cI 6 w_6)] ∧ va_S A s.heap H locs ∧ (pmX v0 v1 v2 v3 g1 ww hh kk g2 ii (v5, g3, g4, g5) = (w_3, w_4, w_5, w_6))) j ?_ ?_ 0 (by omega) (v5, g3, g4, g5) ⟨lv_sub hl [0, 1, 2] rfl, hP.sub (ws' := [(xo_3_iiiiiiiirrrrr h v0 v1 v2 v3 (nI hh) v5 (nI ww) (nI kk) b1 b2 b3 b4 b5), (xI b1 cI 6 g1), (xI b2 cI 6 g2), (xI b3 cI 6 g3), (xI b4 cI 6 g4), (xI b5 cI 6 g5)]) [0, 1, 2, 3, 4, 5] rfl, hD.sub (ws' := [(xo_3_iiiiiiiirrrrr h v0 v1 v2 v3 (nI hh) v5 (nI ww) (nI kk) b1 b2 b3 b4 b5), (xI b1 cI 6 g1), (xI b2 cI 6 g2), (xI b3 cI 6 g3), (xI b4 cI 6 g4), (xI b5 cI 6 g5)]) [0, 1, 2, 3, 4, 5] (by decide +kernel) rfl, hS, rfl⟩
  · rintro ii ⟨w_3, w_4, w_5, w_6⟩ H locs ls hii ⟨hl, hP, hD, hS, haf_0⟩ ih
    refine lv_iload_n hx hb dX3_mealBehind_2 rfl (lv_at hl 0 rfl) ?_
    refine lv_iload_n hx hb dX3_mealBehind_3 rfl (lv_at hl 2 rfl) ?_
    refine lv_icmp_ge (tgt := 17) hx hb dX3_mealBehind_4 (by decide) (fun c_ => absurd c_ (fun q_ => absurd ((nI_leI (a := j) (b := ii) (by omega) (by omega)).mp q_) (by omega))) (fun _ => ?_)
    refine lv_aload_n hx hb dX3_mealBehind_7 rfl (lv_at hl 1 rfl) ?_
    have hc_14 := cutW (wc := [(xo_3_iiiiiiiirrrrr h v0 v1 v2 v3 (nI (hh + ii)) w_3 (nI ww) (nI kk) b1 b2 b3 b4 b5), (xI b1 cI 6 g1), (xI b2 cI 6 g2), (xI b3 cI 6 w_4), (xI b4 cI 6 w_5), (xI b5 cI 6 w_6)]) hP hD hS hA [0, 1, 2, 3, 4, 5] (by decide +kernel) rfl
    refine va_callv (va_runV (As := []) (rest := []) ⟨hx, hb, hml, hown, hts⟩ (r_X3_pass l dC dI cI cZ cL cJ H.size h v0 v1 v2 v3 w_3 (hh + ii) ww kk b1 b2 b3 b4 b5 g1 g2 w_4 w_5 w_6 (by omega) (hww) (hkk)) (cwV 0 hts gX3_mealBehind_X3_pass rfl rfl rfl (by decide +kernel) ⟨Nat.le_of_ble_eq_true rfl, Nat.le_of_ble_eq_true rfl⟩) (pvW 3 0 hK hP rfl rfl hc_14) rfl rfl hl.1 rfl (lv_room (Nat.le_of_ble_eq_true rfl)) dX3_mealBehind_8 ⟨Nat.le_of_ble_eq_true rfl, Nat.le_of_ble_eq_true rfl⟩) hS (fun q _ h => hc_14.2.2 q h) hc_14.2.2 (fun u_14 t_14 H1 locs ht hvm h_14 hB hz1 hk1 hS => ?_)
    refine xl_4_3 hB (fun v5n_14 g3n_14 g4n_14 g5n_14 hP1 hD1 hF_14_0 => ?_)
    clear hB
    rw [ht] at hP1
    obtain ⟨hP, hD⟩ := va_join (wr := []) (w1 := [(xo_3_iiiiiiiirrrrr h v0 v1 v2 v3 (nI ((hh + ii) + 1)) v5n_14 (nI ww) (nI kk) b1 b2 b3 b4 b5), (xI b1 cI 6 g1), (xI b2 cI 6 g2), (xI b3 cI 6 g3n_14), (xI b4 cI 6 g4n_14), (xI b5 cI 6 g5n_14)]) hP hD [0, 1, 2, 3, 4, 5] [] rfl rfl (by decide +kernel) (by decide +kernel) hk1 hc_14.2.2 hP1 hD1
    generalize H1 = H at hP hS ⊢
    have hP : va_P (dC, dI) vwCl [(xo_3_iiiiiiiirrrrr h v0 v1 v2 v3 (nI ((hh + ii) + 1)) v5n_14 (nI ww) (nI kk) b1 b2 b3 b4 b5), (xI b1 cI 6 g1), (xI b2 cI 6 g2), (xI b3 cI 6 g3n_14), (xI b4 cI 6 g4n_14), (xI b5 cI 6 g5n_14)] H := hP
    have hD := dto hP hD
    refine lv_iinc (v := (nI (ii + 1))) (lv' := [(2, .int (nI (ii + 1))), (0, .ref h), (1, .int (nI j))]) hx hb dX3_mealBehind_11 hl (k := 0) rfl (nI_add ii 1) (by decide) rfl (fun ls hl => ?_)
    refine lv_goto (tgt := 2) hx hb dX3_mealBehind_14 (by decide) ?_
    exact ih (v5n_14, g3n_14, g4n_14, g5n_14) _ _ _ ⟨lv_sub hl [0, 1, 2] rfl, hP.sub (ws' := [(xo_3_iiiiiiiirrrrr h v0 v1 v2 v3 (nI ((hh + ii) + 1)) v5n_14 (nI ww) (nI kk) b1 b2 b3 b4 b5), (xI b1 cI 6 g1), (xI b2 cI 6 g2), (xI b3 cI 6 g3n_14), (xI b4 cI 6 g4n_14), (xI b5 cI 6 g5n_14)]) [0, 1, 2, 3, 4, 5] rfl, hD.sub (ws' := [(xo_3_iiiiiiiirrrrr h v0 v1 v2 v3 (nI ((hh + ii) + 1)) v5n_14 (nI ww) (nI kk) b1 b2 b3 b4 b5), (xI b1 cI 6 g1), (xI b2 cI 6 g2), (xI b3 cI 6 g3n_14), (xI b4 cI 6 g4n_14), (xI b5 cI 6 g5n_14)]) [0, 1, 2, 3, 4, 5] (by decide +kernel) rfl, hS, (lf_X3_mealBehind_1 hhb hww hkk hj hii haf_0 hF_14_0)⟩
  · rintro ⟨w_3, w_4, w_5, w_6⟩ H locs ls ⟨hl, hP, hD, hS, haf_0⟩
    refine lv_iload_n hx hb dX3_mealBehind_2 rfl (lv_at hl 0 rfl) ?_
    refine lv_iload_n hx hb dX3_mealBehind_3 rfl (lv_at hl 2 rfl) ?_
    refine lv_icmp_ge (tgt := 17) hx hb dX3_mealBehind_4 (by decide) (fun _ => ?_) (fun c_ => absurd ((nI_leI (a := j) (b := j) (by omega) (by omega)).mpr (by omega)) c_)
    refine lv_aload_n hx hb dX3_mealBehind_17 rfl (lv_at hl 1 rfl) ?_
    refine va_get (D := (dC, dI)) (ci := 3) (v := .int w_3) (C := RX3) (T := TX3) (N := 13) hx hb hts i_X3_mealBehind_X3 hown hK hP 0 rfl rfl 5 (by decide) (hts _ mx_X3_mealBehind_1) (fun _ h9 => h9) rfl dX3_mealBehind_18 ?_
    have hX9 := cut2 (wc := [(xo_3_iiiiiiiirrrrr h v0 v1 v2 v3 (nI (hh + j)) w_3 (nI ww) (nI kk) b1 b2 b3 b4 b5), (xI b1 cI 6 g1), (xI b2 cI 6 g2), (xI b3 cI 6 w_4), (xI b4 cI 6 w_5), (xI b5 cI 6 w_6)]) hP hD [0, 1, 2, 3, 4, 5] (by decide +kernel) rfl
    exact W.iret (v := w_3) hx hb hr (fun t ht hW => ⟨⟨w_3, (), rfl, (lf_X3_mealBehind_3 hhb hww hkk hj haf_0), ⟨w_3, w_4, w_5, w_6, va_Ht ht hX9.1, hX9.2, (lf_X3_mealBehind_2 hhb hww hkk hj haf_0)⟩⟩, hS.F ht⟩) hS.2.2 dX3_mealBehind_21
set_option maxHeartbeats 4000000 in
set_option maxRecDepth 100000 in
theorem r_X3_begin (l : Launch) (dC : Nat → ClassId) (dI : Nat → Nat → Nat) (cI cZ cL cJ : ClassId) (sz : Nat) (h : Nat) (v0 : Int32) (v1 : Int32) (v2 : Int32) (v3 : Int32) (v5 : Int32) (hh : Nat) (ww : Nat) (kk : Nat) (b1 : Nat) (b2 : Nat) (b3 : Nat) (b4 : Nat) (b5 : Nat) (g1 : Nat → Int32) (g2 : Nat → Int32) (g3 : Nat → Int32) (g4 : Nat → Int32) (g5 : Nat → Int32) (hhb : hh < 2000000000) (hww : ww ≤ 6) (hkk : kk ≤ 6) : Met l yX3_begin wsX3_begin ({ frames := 0, cells := 0, slots := 0, locals := 0 }) (va_Pc [.ref h] (fun U => U.heap.size = sz ∧ va_P (dC, dI) vwCl [(xo_3_iiiiiiiirrrrr h v0 v1 v2 v3 (nI hh) v5 (nI ww) (nI kk) b1 b2 b3 b4 b5), (xI b1 cI 6 g1), (xI b2 cI 6 g2), (xI b3 cI 6 g3), (xI b4 cI 6 g4), (xI b5 cI 6 g5)] U.heap ∧ va_K (dC, dI) vwCl [(cI, .int), (cZ, .boolean), (cL, .object RX3), (cJ, .array .int)] U ∧ va_D (fun _ => True) [(xo_3_iiiiiiiirrrrr h v0 v1 v2 v3 (nI hh) v5 (nI ww) (nI kk) b1 b2 b3 b4 b5), (xI b1 cI 6 g1), (xI b2 cI 6 g2), (xI b3 cI 6 g3), (xI b4 cI 6 g4), (xI b5 cI 6 g5)])) (va_Qv (fun (_ : Unit) => True) (fun (_ : Unit) t => va_P (dC, dI) vwCl [(xo_3_iiiiiiiirrrrr h 0 0 0 1 0 0 0 0 b1 b2 b3 b4 b5), (xI b1 cI 6 g1), (xI b2 cI 6 g2), (xI b3 cI 6 g3), (xI b4 cI 6 g4), (xI b5 cI 6 g5)] t.heap ∧ va_D (va_A [(xo_3_iiiiiiiirrrrr h v0 v1 v2 v3 (nI hh) v5 (nI ww) (nI kk) b1 b2 b3 b4 b5), (xI b1 cI 6 g1), (xI b2 cI 6 g2), (xI b3 cI 6 g3), (xI b4 cI 6 g4), (xI b5 cI 6 g5)] sz) [(xo_3_iiiiiiiirrrrr h 0 0 0 1 0 0 0 0 b1 b2 b3 b4 b5), (xI b1 cI 6 g1), (xI b2 cI 6 g2), (xI b3 cI 6 g3), (xI b4 cI 6 g4), (xI b5 cI 6 g5)]) (va_A [(xo_3_iiiiiiiirrrrr h v0 v1 v2 v3 (nI hh) v5 (nI ww) (nI kk) b1 b2 b3 b4 b5), (xI b1 cI 6 g1), (xI b2 cI 6 g2), (xI b3 cI 6 g3), (xI b4 cI 6 g4), (xI b5 cI 6 g5)] sz)) 0 0 (va_A [(xo_3_iiiiiiiirrrrr h v0 v1 v2 v3 (nI hh) v5 (nI ww) (nI kk) b1 b2 b3 b4 b5), (xI b1 cI 6 g1), (xI b2 cI 6 g2), (xI b3 cI 6 g3), (xI b4 cI 6 g4), (xI b5 cI 6 g5)] sz) := by
  refine Met.ofW (cc := cX3_begin) (maxL := 1) (ret := none) (by decide) rfl ?_
  intro p e s m args below meth c s₁ B hml hv
  obtain ⟨rfl, hsz, hP, hK, hD0⟩ := hv
  have hx := B.exec
  have hb := B.bytes
  have hr := B.returns
  have hts := atoms_spec (ws := wsX3_begin) B.pre
  have hown : s.vm.findClass RX3 = some m.cls := findClass_of_methodNamed B.named
  have hlocks := B.notSynchronized
  subst hsz
  have hD := hD0.self (sz := s.heap.size)
  generalize hAe : va_A [(xo_3_iiiiiiiirrrrr h v0 v1 v2 v3 (nI hh) v5 (nI ww) (nI kk) b1 b2 b3 b4 b5), (xI b1 cI 6 g1), (xI b2 cI 6 g2), (xI b3 cI 6 g3), (xI b4 cI 6 g4), (xI b5 cI 6 g5)] s.heap.size = A at hD ⊢
  have hA : ∀ q : Nat, s.heap.size ≤ q → A q := fun q h => by rw [← hAe]; exact Or.inr h
  have hS : va_S A s.heap s.heap [] := va_S.rf
  have hP : va_P (dC, dI) vwCl [(xo_3_iiiiiiiirrrrr h v0 v1 v2 v3 (nI hh) v5 (nI ww) (nI kk) b1 b2 b3 b4 b5), (xI b1 cI 6 g1), (xI b2 cI 6 g2), (xI b3 cI 6 g3), (xI b4 cI 6 g4), (xI b5 cI 6 g5)] s.heap := hP
  have hl := lv_entry ([.ref h]) (n := 1) (Nat.le_of_ble_eq_true rfl)
  rw [lg_entry_eq]
  generalize (lg_sl ([.ref h]) ++ List.replicate (1 - (lg_sl ([.ref h])).length) Slot.unset).toArray = ls at hl ⊢
  have hl : lv_has ls 1 [(0, .ref h)] := hl
  refine lv_aload_n hx hb dX3_begin_0 rfl (lv_at hl 0 rfl) ?_
  refine lv_iconst (v := 0) hx hb dX3_begin_1 (by decide) ?_
  refine va_put (D := (dC, dI)) (ci := 3) (v := .int 0) (ty := .int) (C := RX3) (T := TX3) (N := 13) hx hb hts i_X3_begin_X3 tyX3 tyX3_ok nmX3 hown hK hP hD hS 0 rfl rfl 0 (by decide) (hts _ mx_X3_begin_1) (fun _ h9 => h9) rfl (by decide +kernel) rfl rfl (Nat.le_of_ble_eq_true rfl) dX3_begin_2 (fun H locs hP hD hS => ?_)
  have hP : va_P (dC, dI) vwCl [(xo_3_iiiiiiiirrrrr h 0 v1 v2 v3 (nI hh) v5 (nI ww) (nI kk) b1 b2 b3 b4 b5), (xI b1 cI 6 g1), (xI b2 cI 6 g2), (xI b3 cI 6 g3), (xI b4 cI 6 g4), (xI b5 cI 6 g5)] H := hP
  have hD := dto hP hD
  refine lv_aload_n hx hb dX3_begin_5 rfl (lv_at hl 0 rfl) ?_
  refine lv_iconst (v := 0) hx hb dX3_begin_6 (by decide) ?_
  refine va_put (D := (dC, dI)) (ci := 3) (v := .int 0) (ty := .int) (C := RX3) (T := TX3) (N := 13) hx hb hts i_X3_begin_X3 tyX3 tyX3_ok nmX3 hown hK hP hD hS 0 rfl rfl 1 (by decide) (hts _ mx_X3_begin_2) (fun _ h9 => h9) rfl (by decide +kernel) rfl rfl (Nat.le_of_ble_eq_true rfl) dX3_begin_7 (fun H locs hP hD hS => ?_)
  have hP : va_P (dC, dI) vwCl [(xo_3_iiiiiiiirrrrr h 0 0 v2 v3 (nI hh) v5 (nI ww) (nI kk) b1 b2 b3 b4 b5), (xI b1 cI 6 g1), (xI b2 cI 6 g2), (xI b3 cI 6 g3), (xI b4 cI 6 g4), (xI b5 cI 6 g5)] H := hP
  have hD := dto hP hD
  refine lv_aload_n hx hb dX3_begin_10 rfl (lv_at hl 0 rfl) ?_
  refine lv_iconst (v := 0) hx hb dX3_begin_11 (by decide) ?_
  refine va_put (D := (dC, dI)) (ci := 3) (v := .int 0) (ty := .int) (C := RX3) (T := TX3) (N := 13) hx hb hts i_X3_begin_X3 tyX3 tyX3_ok nmX3 hown hK hP hD hS 0 rfl rfl 2 (by decide) (hts _ mx_X3_begin_3) (fun _ h9 => h9) rfl (by decide +kernel) rfl rfl (Nat.le_of_ble_eq_true rfl) dX3_begin_12 (fun H locs hP hD hS => ?_)
  have hP : va_P (dC, dI) vwCl [(xo_3_iiiiiiiirrrrr h 0 0 0 v3 (nI hh) v5 (nI ww) (nI kk) b1 b2 b3 b4 b5), (xI b1 cI 6 g1), (xI b2 cI 6 g2), (xI b3 cI 6 g3), (xI b4 cI 6 g4), (xI b5 cI 6 g5)] H := hP
  have hD := dto hP hD
  refine lv_aload_n hx hb dX3_begin_15 rfl (lv_at hl 0 rfl) ?_
  refine lv_iconst (v := 1) hx hb dX3_begin_16 (by decide) ?_
  refine va_put (D := (dC, dI)) (ci := 3) (v := .int 1) (ty := .int) (C := RX3) (T := TX3) (N := 13) hx hb hts i_X3_begin_X3 tyX3 tyX3_ok nmX3 hown hK hP hD hS 0 rfl rfl 3 (by decide) (hts _ mx_X3_begin_4) (fun _ h9 => h9) rfl (by decide +kernel) rfl rfl (Nat.le_of_ble_eq_true rfl) dX3_begin_17 (fun H locs hP hD hS => ?_)
  have hP : va_P (dC, dI) vwCl [(xo_3_iiiiiiiirrrrr h 0 0 0 1 (nI hh) v5 (nI ww) (nI kk) b1 b2 b3 b4 b5), (xI b1 cI 6 g1), (xI b2 cI 6 g2), (xI b3 cI 6 g3), (xI b4 cI 6 g4), (xI b5 cI 6 g5)] H := hP
  have hD := dto hP hD
  refine lv_aload_n hx hb dX3_begin_20 rfl (lv_at hl 0 rfl) ?_
  refine lv_iconst (v := 0) hx hb dX3_begin_21 (by decide) ?_
  refine va_put (D := (dC, dI)) (ci := 3) (v := .int 0) (ty := .int) (C := RX3) (T := TX3) (N := 13) hx hb hts i_X3_begin_X3 tyX3 tyX3_ok nmX3 hown hK hP hD hS 0 rfl rfl 4 (by decide) (hts _ mx_X3_begin_5) (fun _ h9 => h9) rfl (by decide +kernel) rfl rfl (Nat.le_of_ble_eq_true rfl) dX3_begin_22 (fun H locs hP hD hS => ?_)
  have hP : va_P (dC, dI) vwCl [(xo_3_iiiiiiiirrrrr h 0 0 0 1 0 v5 (nI ww) (nI kk) b1 b2 b3 b4 b5), (xI b1 cI 6 g1), (xI b2 cI 6 g2), (xI b3 cI 6 g3), (xI b4 cI 6 g4), (xI b5 cI 6 g5)] H := hP
  have hD := dto hP hD
  refine lv_aload_n hx hb dX3_begin_25 rfl (lv_at hl 0 rfl) ?_
  refine lv_iconst (v := 0) hx hb dX3_begin_26 (by decide) ?_
  refine va_put (D := (dC, dI)) (ci := 3) (v := .int 0) (ty := .int) (C := RX3) (T := TX3) (N := 13) hx hb hts i_X3_begin_X3 tyX3 tyX3_ok nmX3 hown hK hP hD hS 0 rfl rfl 5 (by decide) (hts _ mx_X3_begin_6) (fun _ h9 => h9) rfl (by decide +kernel) rfl rfl (Nat.le_of_ble_eq_true rfl) dX3_begin_27 (fun H locs hP hD hS => ?_)
  have hP : va_P (dC, dI) vwCl [(xo_3_iiiiiiiirrrrr h 0 0 0 1 0 0 (nI ww) (nI kk) b1 b2 b3 b4 b5), (xI b1 cI 6 g1), (xI b2 cI 6 g2), (xI b3 cI 6 g3), (xI b4 cI 6 g4), (xI b5 cI 6 g5)] H := hP
  have hD := dto hP hD
  refine lv_aload_n hx hb dX3_begin_30 rfl (lv_at hl 0 rfl) ?_
  refine lv_iconst (v := 0) hx hb dX3_begin_31 (by decide) ?_
  refine va_put (D := (dC, dI)) (ci := 3) (v := .int 0) (ty := .int) (C := RX3) (T := TX3) (N := 13) hx hb hts i_X3_begin_X3 tyX3 tyX3_ok nmX3 hown hK hP hD hS 0 rfl rfl 6 (by decide) (hts _ mx_X3_begin_7) (fun _ h9 => h9) rfl (by decide +kernel) rfl rfl (Nat.le_of_ble_eq_true rfl) dX3_begin_32 (fun H locs hP hD hS => ?_)
  have hP : va_P (dC, dI) vwCl [(xo_3_iiiiiiiirrrrr h 0 0 0 1 0 0 0 (nI kk) b1 b2 b3 b4 b5), (xI b1 cI 6 g1), (xI b2 cI 6 g2), (xI b3 cI 6 g3), (xI b4 cI 6 g4), (xI b5 cI 6 g5)] H := hP
  have hD := dto hP hD
  refine lv_aload_n hx hb dX3_begin_35 rfl (lv_at hl 0 rfl) ?_
  refine lv_iconst (v := 0) hx hb dX3_begin_36 (by decide) ?_
  refine va_put (D := (dC, dI)) (ci := 3) (v := .int 0) (ty := .int) (C := RX3) (T := TX3) (N := 13) hx hb hts i_X3_begin_X3 tyX3 tyX3_ok nmX3 hown hK hP hD hS 0 rfl rfl 7 (by decide) (hts _ mx_X3_begin_8) (fun _ h9 => h9) rfl (by decide +kernel) rfl rfl (Nat.le_of_ble_eq_true rfl) dX3_begin_37 (fun H locs hP hD hS => ?_)
  have hP : va_P (dC, dI) vwCl [(xo_3_iiiiiiiirrrrr h 0 0 0 1 0 0 0 0 b1 b2 b3 b4 b5), (xI b1 cI 6 g1), (xI b2 cI 6 g2), (xI b3 cI 6 g3), (xI b4 cI 6 g4), (xI b5 cI 6 g5)] H := hP
  have hD := dto hP hD
  have hX9 := cut2 (wc := [(xo_3_iiiiiiiirrrrr h 0 0 0 1 0 0 0 0 b1 b2 b3 b4 b5), (xI b1 cI 6 g1), (xI b2 cI 6 g2), (xI b3 cI 6 g3), (xI b4 cI 6 g4), (xI b5 cI 6 g5)]) hP hD [0, 1, 2, 3, 4, 5] (by decide +kernel) rfl
  exact W.vret hx hb hr (fun t ht hW => ⟨⟨(), rfl, trivial, ⟨va_Ht ht hX9.1, hX9.2⟩⟩, hS.F ht⟩) hS.2.2 dX3_begin_40
theorem lf_X3_becomeLike_1 {f1 : Nat → Int32} {f2 : Nat → Int32} {f3 : Nat → Int32} {f4 : Nat → Int32} {f5 : Nat → Int32} {x1 : Nat → Int32} {x2 : Nat → Int32} {x3 : Nat → Int32} {x4 : Nat → Int32} {x5 : Nat → Int32} {g_1 : Nat → Int32} {g_2 : Nat → Int32} {g_3 : Nat → Int32} {g_4 : Nat → Int32} {g_5 : Nat → Int32} (hu_1 : g_1 = va_cpy x1 f1 (0 : Int32).toNatClampNeg (0 : Int32).toNatClampNeg (6 : Int32).toNatClampNeg) (hu_2 : g_2 = va_cpy x2 f2 (0 : Int32).toNatClampNeg (0 : Int32).toNatClampNeg (6 : Int32).toNatClampNeg) (hu_3 : g_3 = va_cpy x3 f3 (0 : Int32).toNatClampNeg (0 : Int32).toNatClampNeg (6 : Int32).toNatClampNeg) (hu_4 : g_4 = va_cpy x4 f4 (0 : Int32).toNatClampNeg (0 : Int32).toNatClampNeg (6 : Int32).toNatClampNeg) (hu_5 : g_5 = va_cpy x5 f5 (0 : Int32).toNatClampNeg (0 : Int32).toNatClampNeg (6 : Int32).toNatClampNeg) : (∀ jq : Nat, jq < 6 → g_1 jq = x1 jq) := by
  (intro jq hq; subst_vars; exact cpy6 hq)
theorem lf_X3_becomeLike_2 {f1 : Nat → Int32} {f2 : Nat → Int32} {f3 : Nat → Int32} {f4 : Nat → Int32} {f5 : Nat → Int32} {x1 : Nat → Int32} {x2 : Nat → Int32} {x3 : Nat → Int32} {x4 : Nat → Int32} {x5 : Nat → Int32} {g_1 : Nat → Int32} {g_2 : Nat → Int32} {g_3 : Nat → Int32} {g_4 : Nat → Int32} {g_5 : Nat → Int32} (hu_1 : g_1 = va_cpy x1 f1 (0 : Int32).toNatClampNeg (0 : Int32).toNatClampNeg (6 : Int32).toNatClampNeg) (hu_2 : g_2 = va_cpy x2 f2 (0 : Int32).toNatClampNeg (0 : Int32).toNatClampNeg (6 : Int32).toNatClampNeg) (hu_3 : g_3 = va_cpy x3 f3 (0 : Int32).toNatClampNeg (0 : Int32).toNatClampNeg (6 : Int32).toNatClampNeg) (hu_4 : g_4 = va_cpy x4 f4 (0 : Int32).toNatClampNeg (0 : Int32).toNatClampNeg (6 : Int32).toNatClampNeg) (hu_5 : g_5 = va_cpy x5 f5 (0 : Int32).toNatClampNeg (0 : Int32).toNatClampNeg (6 : Int32).toNatClampNeg) : (∀ jq : Nat, jq < 6 → g_2 jq = x2 jq) := by
  (intro jq hq; subst_vars; exact cpy6 hq)
theorem lf_X3_becomeLike_3 {f1 : Nat → Int32} {f2 : Nat → Int32} {f3 : Nat → Int32} {f4 : Nat → Int32} {f5 : Nat → Int32} {x1 : Nat → Int32} {x2 : Nat → Int32} {x3 : Nat → Int32} {x4 : Nat → Int32} {x5 : Nat → Int32} {g_1 : Nat → Int32} {g_2 : Nat → Int32} {g_3 : Nat → Int32} {g_4 : Nat → Int32} {g_5 : Nat → Int32} (hu_1 : g_1 = va_cpy x1 f1 (0 : Int32).toNatClampNeg (0 : Int32).toNatClampNeg (6 : Int32).toNatClampNeg) (hu_2 : g_2 = va_cpy x2 f2 (0 : Int32).toNatClampNeg (0 : Int32).toNatClampNeg (6 : Int32).toNatClampNeg) (hu_3 : g_3 = va_cpy x3 f3 (0 : Int32).toNatClampNeg (0 : Int32).toNatClampNeg (6 : Int32).toNatClampNeg) (hu_4 : g_4 = va_cpy x4 f4 (0 : Int32).toNatClampNeg (0 : Int32).toNatClampNeg (6 : Int32).toNatClampNeg) (hu_5 : g_5 = va_cpy x5 f5 (0 : Int32).toNatClampNeg (0 : Int32).toNatClampNeg (6 : Int32).toNatClampNeg) : (∀ jq : Nat, jq < 6 → g_3 jq = x3 jq) := by
  (intro jq hq; subst_vars; exact cpy6 hq)
theorem lf_X3_becomeLike_4 {f1 : Nat → Int32} {f2 : Nat → Int32} {f3 : Nat → Int32} {f4 : Nat → Int32} {f5 : Nat → Int32} {x1 : Nat → Int32} {x2 : Nat → Int32} {x3 : Nat → Int32} {x4 : Nat → Int32} {x5 : Nat → Int32} {g_1 : Nat → Int32} {g_2 : Nat → Int32} {g_3 : Nat → Int32} {g_4 : Nat → Int32} {g_5 : Nat → Int32} (hu_1 : g_1 = va_cpy x1 f1 (0 : Int32).toNatClampNeg (0 : Int32).toNatClampNeg (6 : Int32).toNatClampNeg) (hu_2 : g_2 = va_cpy x2 f2 (0 : Int32).toNatClampNeg (0 : Int32).toNatClampNeg (6 : Int32).toNatClampNeg) (hu_3 : g_3 = va_cpy x3 f3 (0 : Int32).toNatClampNeg (0 : Int32).toNatClampNeg (6 : Int32).toNatClampNeg) (hu_4 : g_4 = va_cpy x4 f4 (0 : Int32).toNatClampNeg (0 : Int32).toNatClampNeg (6 : Int32).toNatClampNeg) (hu_5 : g_5 = va_cpy x5 f5 (0 : Int32).toNatClampNeg (0 : Int32).toNatClampNeg (6 : Int32).toNatClampNeg) : (∀ jq : Nat, jq < 6 → g_4 jq = x4 jq) := by
  (intro jq hq; subst_vars; exact cpy6 hq)
theorem lf_X3_becomeLike_5 {f1 : Nat → Int32} {f2 : Nat → Int32} {f3 : Nat → Int32} {f4 : Nat → Int32} {f5 : Nat → Int32} {x1 : Nat → Int32} {x2 : Nat → Int32} {x3 : Nat → Int32} {x4 : Nat → Int32} {x5 : Nat → Int32} {g_1 : Nat → Int32} {g_2 : Nat → Int32} {g_3 : Nat → Int32} {g_4 : Nat → Int32} {g_5 : Nat → Int32} (hu_1 : g_1 = va_cpy x1 f1 (0 : Int32).toNatClampNeg (0 : Int32).toNatClampNeg (6 : Int32).toNatClampNeg) (hu_2 : g_2 = va_cpy x2 f2 (0 : Int32).toNatClampNeg (0 : Int32).toNatClampNeg (6 : Int32).toNatClampNeg) (hu_3 : g_3 = va_cpy x3 f3 (0 : Int32).toNatClampNeg (0 : Int32).toNatClampNeg (6 : Int32).toNatClampNeg) (hu_4 : g_4 = va_cpy x4 f4 (0 : Int32).toNatClampNeg (0 : Int32).toNatClampNeg (6 : Int32).toNatClampNeg) (hu_5 : g_5 = va_cpy x5 f5 (0 : Int32).toNatClampNeg (0 : Int32).toNatClampNeg (6 : Int32).toNatClampNeg) : (∀ jq : Nat, jq < 6 → g_5 jq = x5 jq) := by
  (intro jq hq; subst_vars; exact cpy6 hq)
set_option maxHeartbeats 4000000 in
set_option maxRecDepth 100000 in
theorem r_X3_becomeLike (l : Launch) (dC : Nat → ClassId) (dI : Nat → Nat → Nat) (cI cZ cL cJ : ClassId) (sz : Nat) (h : Nat) (u0 : Int32) (u1 : Int32) (u2 : Int32) (u3 : Int32) (u4 : Int32) (u5 : Int32) (u6 : Int32) (u7 : Int32) (o1 : Nat) (o2 : Nat) (o3 : Nat) (o4 : Nat) (o5 : Nat) (f1 : Nat → Int32) (f2 : Nat → Int32) (f3 : Nat → Int32) (f4 : Nat → Int32) (f5 : Nat → Int32) (k : Nat) (y0 : Int32) (y1 : Int32) (y2 : Int32) (y3 : Int32) (y4 : Int32) (y5 : Int32) (y6 : Int32) (y7 : Int32) (p1 : Nat) (p2 : Nat) (p3 : Nat) (p4 : Nat) (p5 : Nat) (x1 : Nat → Int32) (x2 : Nat → Int32) (x3 : Nat → Int32) (x4 : Nat → Int32) (x5 : Nat → Int32)  : Met l yX3_becomeLike wsX3_becomeLike ({ frames := 1, cells := 0, slots := 0, locals := 80 }) (va_Pc [.ref h, .ref k] (fun U => U.heap.size = sz ∧ va_P (dC, dI) vwCl [(xo_3_iiiiiiiirrrrr h u0 u1 u2 u3 u4 u5 u6 u7 o1 o2 o3 o4 o5), (xI o1 cI 6 f1), (xI o2 cI 6 f2), (xI o3 cI 6 f3), (xI o4 cI 6 f4), (xI o5 cI 6 f5), (xo_3_iiiiiiiirrrrr k y0 y1 y2 y3 y4 y5 y6 y7 p1 p2 p3 p4 p5), (xI p1 cI 6 x1), (xI p2 cI 6 x2), (xI p3 cI 6 x3), (xI p4 cI 6 x4), (xI p5 cI 6 x5)] U.heap ∧ va_K (dC, dI) vwCl [(cI, .int), (cZ, .boolean), (cL, .object RX3), (cJ, .array .int)] U ∧ va_D (fun _ => True) [(xo_3_iiiiiiiirrrrr h u0 u1 u2 u3 u4 u5 u6 u7 o1 o2 o3 o4 o5), (xI o1 cI 6 f1), (xI o2 cI 6 f2), (xI o3 cI 6 f3), (xI o4 cI 6 f4), (xI o5 cI 6 f5), (xo_3_iiiiiiiirrrrr k y0 y1 y2 y3 y4 y5 y6 y7 p1 p2 p3 p4 p5), (xI p1 cI 6 x1), (xI p2 cI 6 x2), (xI p3 cI 6 x3), (xI p4 cI 6 x4), (xI p5 cI 6 x5)])) (va_Qv (fun (_ : Unit) => True) (fun (_ : Unit) t => ∃ (f1n : Nat → Int32) (f2n : Nat → Int32) (f3n : Nat → Int32) (f4n : Nat → Int32) (f5n : Nat → Int32), va_P (dC, dI) vwCl [(xo_3_iiiiiiiirrrrr h y0 y1 y2 y3 y4 y5 y6 y7 o1 o2 o3 o4 o5), (xI o1 cI 6 f1n), (xI o2 cI 6 f2n), (xI o3 cI 6 f3n), (xI o4 cI 6 f4n), (xI o5 cI 6 f5n), (xo_3_iiiiiiiirrrrr k y0 y1 y2 y3 y4 y5 y6 y7 p1 p2 p3 p4 p5), (xI p1 cI 6 x1), (xI p2 cI 6 x2), (xI p3 cI 6 x3), (xI p4 cI 6 x4), (xI p5 cI 6 x5)] t.heap ∧ va_D (va_A [(xo_3_iiiiiiiirrrrr h u0 u1 u2 u3 u4 u5 u6 u7 o1 o2 o3 o4 o5), (xI o1 cI 6 f1), (xI o2 cI 6 f2), (xI o3 cI 6 f3), (xI o4 cI 6 f4), (xI o5 cI 6 f5), (xo_3_iiiiiiiirrrrr k y0 y1 y2 y3 y4 y5 y6 y7 p1 p2 p3 p4 p5), (xI p1 cI 6 x1), (xI p2 cI 6 x2), (xI p3 cI 6 x3), (xI p4 cI 6 x4), (xI p5 cI 6 x5)] sz) [(xo_3_iiiiiiiirrrrr h y0 y1 y2 y3 y4 y5 y6 y7 o1 o2 o3 o4 o5), (xI o1 cI 6 f1n), (xI o2 cI 6 f2n), (xI o3 cI 6 f3n), (xI o4 cI 6 f4n), (xI o5 cI 6 f5n), (xo_3_iiiiiiiirrrrr k y0 y1 y2 y3 y4 y5 y6 y7 p1 p2 p3 p4 p5), (xI p1 cI 6 x1), (xI p2 cI 6 x2), (xI p3 cI 6 x3), (xI p4 cI 6 x4), (xI p5 cI 6 x5)] ∧ (∀ jq : Nat, jq < 6 → f1n jq = x1 jq) ∧ (∀ jq : Nat, jq < 6 → f2n jq = x2 jq) ∧ (∀ jq : Nat, jq < 6 → f3n jq = x3 jq) ∧ (∀ jq : Nat, jq < 6 → f4n jq = x4 jq) ∧ (∀ jq : Nat, jq < 6 → f5n jq = x5 jq)) (va_A [(xo_3_iiiiiiiirrrrr h u0 u1 u2 u3 u4 u5 u6 u7 o1 o2 o3 o4 o5), (xI o1 cI 6 f1), (xI o2 cI 6 f2), (xI o3 cI 6 f3), (xI o4 cI 6 f4), (xI o5 cI 6 f5), (xo_3_iiiiiiiirrrrr k y0 y1 y2 y3 y4 y5 y6 y7 p1 p2 p3 p4 p5), (xI p1 cI 6 x1), (xI p2 cI 6 x2), (xI p3 cI 6 x3), (xI p4 cI 6 x4), (xI p5 cI 6 x5)] sz)) 0 0 (va_A [(xo_3_iiiiiiiirrrrr h u0 u1 u2 u3 u4 u5 u6 u7 o1 o2 o3 o4 o5), (xI o1 cI 6 f1), (xI o2 cI 6 f2), (xI o3 cI 6 f3), (xI o4 cI 6 f4), (xI o5 cI 6 f5), (xo_3_iiiiiiiirrrrr k y0 y1 y2 y3 y4 y5 y6 y7 p1 p2 p3 p4 p5), (xI p1 cI 6 x1), (xI p2 cI 6 x2), (xI p3 cI 6 x3), (xI p4 cI 6 x4), (xI p5 cI 6 x5)] sz) := by
  refine Met.ofW (cc := cX3_becomeLike) (maxL := 2) (ret := none) (by decide) rfl ?_
  intro p e s m args below meth c s₁ B hml hv
  obtain ⟨rfl, hsz, hP, hK, hD0⟩ := hv
  have hx := B.exec
  have hb := B.bytes
  have hr := B.returns
  have hts := atoms_spec (ws := wsX3_becomeLike) B.pre
  have hown : s.vm.findClass RX3 = some m.cls := findClass_of_methodNamed B.named
  have hlocks := B.notSynchronized
  subst hsz
  have hD := hD0.self (sz := s.heap.size)
  generalize hAe : va_A [(xo_3_iiiiiiiirrrrr h u0 u1 u2 u3 u4 u5 u6 u7 o1 o2 o3 o4 o5), (xI o1 cI 6 f1), (xI o2 cI 6 f2), (xI o3 cI 6 f3), (xI o4 cI 6 f4), (xI o5 cI 6 f5), (xo_3_iiiiiiiirrrrr k y0 y1 y2 y3 y4 y5 y6 y7 p1 p2 p3 p4 p5), (xI p1 cI 6 x1), (xI p2 cI 6 x2), (xI p3 cI 6 x3), (xI p4 cI 6 x4), (xI p5 cI 6 x5)] s.heap.size = A at hD ⊢
  have hA : ∀ q : Nat, s.heap.size ≤ q → A q := fun q h => by rw [← hAe]; exact Or.inr h
  have hS : va_S A s.heap s.heap [] := va_S.rf
  have hP : va_P (dC, dI) vwCl [(xo_3_iiiiiiiirrrrr h u0 u1 u2 u3 u4 u5 u6 u7 o1 o2 o3 o4 o5), (xI o1 cI 6 f1), (xI o2 cI 6 f2), (xI o3 cI 6 f3), (xI o4 cI 6 f4), (xI o5 cI 6 f5), (xo_3_iiiiiiiirrrrr k y0 y1 y2 y3 y4 y5 y6 y7 p1 p2 p3 p4 p5), (xI p1 cI 6 x1), (xI p2 cI 6 x2), (xI p3 cI 6 x3), (xI p4 cI 6 x4), (xI p5 cI 6 x5)] s.heap := hP
  have hl := lv_entry ([.ref h, .ref k]) (n := 2) (Nat.le_of_ble_eq_true rfl)
  rw [lg_entry_eq]
  generalize (lg_sl ([.ref h, .ref k]) ++ List.replicate (2 - (lg_sl ([.ref h, .ref k])).length) Slot.unset).toArray = ls at hl ⊢
  have hl : lv_has ls 2 [(0, .ref h), (1, .ref k)] := hl
  refine lv_aload_n hx hb dX3_becomeLike_0 rfl (lv_at hl 0 rfl) ?_
  refine lv_aload_n hx hb dX3_becomeLike_1 rfl (lv_at hl 1 rfl) ?_
  refine va_get (D := (dC, dI)) (ci := 3) (v := .int y0) (C := RX3) (T := TX3) (N := 13) hx hb hts i_X3_becomeLike_X3 hown hK hP 6 rfl rfl 0 (by decide) (hts _ mx_X3_becomeLike_1) (fun _ h9 => h9) rfl dX3_becomeLike_2 ?_
  refine va_put (D := (dC, dI)) (ci := 3) (v := .int y0) (ty := .int) (C := RX3) (T := TX3) (N := 13) hx hb hts i_X3_becomeLike_X3 tyX3 tyX3_ok nmX3 hown hK hP hD hS 0 rfl rfl 0 (by decide) (hts _ mx_X3_becomeLike_1) (fun _ h9 => h9) rfl (by decide +kernel) rfl rfl (Nat.le_of_ble_eq_true rfl) dX3_becomeLike_5 (fun H locs hP hD hS => ?_)
  have hP : va_P (dC, dI) vwCl [(xo_3_iiiiiiiirrrrr h y0 u1 u2 u3 u4 u5 u6 u7 o1 o2 o3 o4 o5), (xI o1 cI 6 f1), (xI o2 cI 6 f2), (xI o3 cI 6 f3), (xI o4 cI 6 f4), (xI o5 cI 6 f5), (xo_3_iiiiiiiirrrrr k y0 y1 y2 y3 y4 y5 y6 y7 p1 p2 p3 p4 p5), (xI p1 cI 6 x1), (xI p2 cI 6 x2), (xI p3 cI 6 x3), (xI p4 cI 6 x4), (xI p5 cI 6 x5)] H := hP
  have hD := dto hP hD
  refine lv_aload_n hx hb dX3_becomeLike_8 rfl (lv_at hl 0 rfl) ?_
  refine lv_aload_n hx hb dX3_becomeLike_9 rfl (lv_at hl 1 rfl) ?_
  refine va_get (D := (dC, dI)) (ci := 3) (v := .int y1) (C := RX3) (T := TX3) (N := 13) hx hb hts i_X3_becomeLike_X3 hown hK hP 6 rfl rfl 1 (by decide) (hts _ mx_X3_becomeLike_2) (fun _ h9 => h9) rfl dX3_becomeLike_10 ?_
  refine va_put (D := (dC, dI)) (ci := 3) (v := .int y1) (ty := .int) (C := RX3) (T := TX3) (N := 13) hx hb hts i_X3_becomeLike_X3 tyX3 tyX3_ok nmX3 hown hK hP hD hS 0 rfl rfl 1 (by decide) (hts _ mx_X3_becomeLike_2) (fun _ h9 => h9) rfl (by decide +kernel) rfl rfl (Nat.le_of_ble_eq_true rfl) dX3_becomeLike_13 (fun H locs hP hD hS => ?_)
  have hP : va_P (dC, dI) vwCl [(xo_3_iiiiiiiirrrrr h y0 y1 u2 u3 u4 u5 u6 u7 o1 o2 o3 o4 o5), (xI o1 cI 6 f1), (xI o2 cI 6 f2), (xI o3 cI 6 f3), (xI o4 cI 6 f4), (xI o5 cI 6 f5), (xo_3_iiiiiiiirrrrr k y0 y1 y2 y3 y4 y5 y6 y7 p1 p2 p3 p4 p5), (xI p1 cI 6 x1), (xI p2 cI 6 x2), (xI p3 cI 6 x3), (xI p4 cI 6 x4), (xI p5 cI 6 x5)] H := hP
  have hD := dto hP hD
  refine lv_aload_n hx hb dX3_becomeLike_16 rfl (lv_at hl 0 rfl) ?_
  refine lv_aload_n hx hb dX3_becomeLike_17 rfl (lv_at hl 1 rfl) ?_
  refine va_get (D := (dC, dI)) (ci := 3) (v := .int y2) (C := RX3) (T := TX3) (N := 13) hx hb hts i_X3_becomeLike_X3 hown hK hP 6 rfl rfl 2 (by decide) (hts _ mx_X3_becomeLike_3) (fun _ h9 => h9) rfl dX3_becomeLike_18 ?_
  refine va_put (D := (dC, dI)) (ci := 3) (v := .int y2) (ty := .int) (C := RX3) (T := TX3) (N := 13) hx hb hts i_X3_becomeLike_X3 tyX3 tyX3_ok nmX3 hown hK hP hD hS 0 rfl rfl 2 (by decide) (hts _ mx_X3_becomeLike_3) (fun _ h9 => h9) rfl (by decide +kernel) rfl rfl (Nat.le_of_ble_eq_true rfl) dX3_becomeLike_21 (fun H locs hP hD hS => ?_)
  have hP : va_P (dC, dI) vwCl [(xo_3_iiiiiiiirrrrr h y0 y1 y2 u3 u4 u5 u6 u7 o1 o2 o3 o4 o5), (xI o1 cI 6 f1), (xI o2 cI 6 f2), (xI o3 cI 6 f3), (xI o4 cI 6 f4), (xI o5 cI 6 f5), (xo_3_iiiiiiiirrrrr k y0 y1 y2 y3 y4 y5 y6 y7 p1 p2 p3 p4 p5), (xI p1 cI 6 x1), (xI p2 cI 6 x2), (xI p3 cI 6 x3), (xI p4 cI 6 x4), (xI p5 cI 6 x5)] H := hP
  have hD := dto hP hD
  refine lv_aload_n hx hb dX3_becomeLike_24 rfl (lv_at hl 0 rfl) ?_
  refine lv_aload_n hx hb dX3_becomeLike_25 rfl (lv_at hl 1 rfl) ?_
  refine va_get (D := (dC, dI)) (ci := 3) (v := .int y3) (C := RX3) (T := TX3) (N := 13) hx hb hts i_X3_becomeLike_X3 hown hK hP 6 rfl rfl 3 (by decide) (hts _ mx_X3_becomeLike_4) (fun _ h9 => h9) rfl dX3_becomeLike_26 ?_
  refine va_put (D := (dC, dI)) (ci := 3) (v := .int y3) (ty := .int) (C := RX3) (T := TX3) (N := 13) hx hb hts i_X3_becomeLike_X3 tyX3 tyX3_ok nmX3 hown hK hP hD hS 0 rfl rfl 3 (by decide) (hts _ mx_X3_becomeLike_4) (fun _ h9 => h9) rfl (by decide +kernel) rfl rfl (Nat.le_of_ble_eq_true rfl) dX3_becomeLike_29 (fun H locs hP hD hS => ?_)
  have hP : va_P (dC, dI) vwCl [(xo_3_iiiiiiiirrrrr h y0 y1 y2 y3 u4 u5 u6 u7 o1 o2 o3 o4 o5), (xI o1 cI 6 f1), (xI o2 cI 6 f2), (xI o3 cI 6 f3), (xI o4 cI 6 f4), (xI o5 cI 6 f5), (xo_3_iiiiiiiirrrrr k y0 y1 y2 y3 y4 y5 y6 y7 p1 p2 p3 p4 p5), (xI p1 cI 6 x1), (xI p2 cI 6 x2), (xI p3 cI 6 x3), (xI p4 cI 6 x4), (xI p5 cI 6 x5)] H := hP
  have hD := dto hP hD
  refine lv_aload_n hx hb dX3_becomeLike_32 rfl (lv_at hl 0 rfl) ?_
  refine lv_aload_n hx hb dX3_becomeLike_33 rfl (lv_at hl 1 rfl) ?_
  refine va_get (D := (dC, dI)) (ci := 3) (v := .int y4) (C := RX3) (T := TX3) (N := 13) hx hb hts i_X3_becomeLike_X3 hown hK hP 6 rfl rfl 4 (by decide) (hts _ mx_X3_becomeLike_5) (fun _ h9 => h9) rfl dX3_becomeLike_34 ?_
  refine va_put (D := (dC, dI)) (ci := 3) (v := .int y4) (ty := .int) (C := RX3) (T := TX3) (N := 13) hx hb hts i_X3_becomeLike_X3 tyX3 tyX3_ok nmX3 hown hK hP hD hS 0 rfl rfl 4 (by decide) (hts _ mx_X3_becomeLike_5) (fun _ h9 => h9) rfl (by decide +kernel) rfl rfl (Nat.le_of_ble_eq_true rfl) dX3_becomeLike_37 (fun H locs hP hD hS => ?_)
  have hP : va_P (dC, dI) vwCl [(xo_3_iiiiiiiirrrrr h y0 y1 y2 y3 y4 u5 u6 u7 o1 o2 o3 o4 o5), (xI o1 cI 6 f1), (xI o2 cI 6 f2), (xI o3 cI 6 f3), (xI o4 cI 6 f4), (xI o5 cI 6 f5), (xo_3_iiiiiiiirrrrr k y0 y1 y2 y3 y4 y5 y6 y7 p1 p2 p3 p4 p5), (xI p1 cI 6 x1), (xI p2 cI 6 x2), (xI p3 cI 6 x3), (xI p4 cI 6 x4), (xI p5 cI 6 x5)] H := hP
  have hD := dto hP hD
  refine lv_aload_n hx hb dX3_becomeLike_40 rfl (lv_at hl 0 rfl) ?_
  refine lv_aload_n hx hb dX3_becomeLike_41 rfl (lv_at hl 1 rfl) ?_
  refine va_get (D := (dC, dI)) (ci := 3) (v := .int y5) (C := RX3) (T := TX3) (N := 13) hx hb hts i_X3_becomeLike_X3 hown hK hP 6 rfl rfl 5 (by decide) (hts _ mx_X3_becomeLike_6) (fun _ h9 => h9) rfl dX3_becomeLike_42 ?_
  refine va_put (D := (dC, dI)) (ci := 3) (v := .int y5) (ty := .int) (C := RX3) (T := TX3) (N := 13) hx hb hts i_X3_becomeLike_X3 tyX3 tyX3_ok nmX3 hown hK hP hD hS 0 rfl rfl 5 (by decide) (hts _ mx_X3_becomeLike_6) (fun _ h9 => h9) rfl (by decide +kernel) rfl rfl (Nat.le_of_ble_eq_true rfl) dX3_becomeLike_45 (fun H locs hP hD hS => ?_)
  have hP : va_P (dC, dI) vwCl [(xo_3_iiiiiiiirrrrr h y0 y1 y2 y3 y4 y5 u6 u7 o1 o2 o3 o4 o5), (xI o1 cI 6 f1), (xI o2 cI 6 f2), (xI o3 cI 6 f3), (xI o4 cI 6 f4), (xI o5 cI 6 f5), (xo_3_iiiiiiiirrrrr k y0 y1 y2 y3 y4 y5 y6 y7 p1 p2 p3 p4 p5), (xI p1 cI 6 x1), (xI p2 cI 6 x2), (xI p3 cI 6 x3), (xI p4 cI 6 x4), (xI p5 cI 6 x5)] H := hP
  have hD := dto hP hD
  refine lv_aload_n hx hb dX3_becomeLike_48 rfl (lv_at hl 0 rfl) ?_
  refine lv_aload_n hx hb dX3_becomeLike_49 rfl (lv_at hl 1 rfl) ?_
  refine va_get (D := (dC, dI)) (ci := 3) (v := .int y6) (C := RX3) (T := TX3) (N := 13) hx hb hts i_X3_becomeLike_X3 hown hK hP 6 rfl rfl 6 (by decide) (hts _ mx_X3_becomeLike_7) (fun _ h9 => h9) rfl dX3_becomeLike_50 ?_
  refine va_put (D := (dC, dI)) (ci := 3) (v := .int y6) (ty := .int) (C := RX3) (T := TX3) (N := 13) hx hb hts i_X3_becomeLike_X3 tyX3 tyX3_ok nmX3 hown hK hP hD hS 0 rfl rfl 6 (by decide) (hts _ mx_X3_becomeLike_7) (fun _ h9 => h9) rfl (by decide +kernel) rfl rfl (Nat.le_of_ble_eq_true rfl) dX3_becomeLike_53 (fun H locs hP hD hS => ?_)
  have hP : va_P (dC, dI) vwCl [(xo_3_iiiiiiiirrrrr h y0 y1 y2 y3 y4 y5 y6 u7 o1 o2 o3 o4 o5), (xI o1 cI 6 f1), (xI o2 cI 6 f2), (xI o3 cI 6 f3), (xI o4 cI 6 f4), (xI o5 cI 6 f5), (xo_3_iiiiiiiirrrrr k y0 y1 y2 y3 y4 y5 y6 y7 p1 p2 p3 p4 p5), (xI p1 cI 6 x1), (xI p2 cI 6 x2), (xI p3 cI 6 x3), (xI p4 cI 6 x4), (xI p5 cI 6 x5)] H := hP
  have hD := dto hP hD
  refine lv_aload_n hx hb dX3_becomeLike_56 rfl (lv_at hl 0 rfl) ?_
  refine lv_aload_n hx hb dX3_becomeLike_57 rfl (lv_at hl 1 rfl) ?_
  refine va_get (D := (dC, dI)) (ci := 3) (v := .int y7) (C := RX3) (T := TX3) (N := 13) hx hb hts i_X3_becomeLike_X3 hown hK hP 6 rfl rfl 7 (by decide) (hts _ mx_X3_becomeLike_8) (fun _ h9 => h9) rfl dX3_becomeLike_58 ?_
  refine va_put (D := (dC, dI)) (ci := 3) (v := .int y7) (ty := .int) (C := RX3) (T := TX3) (N := 13) hx hb hts i_X3_becomeLike_X3 tyX3 tyX3_ok nmX3 hown hK hP hD hS 0 rfl rfl 7 (by decide) (hts _ mx_X3_becomeLike_8) (fun _ h9 => h9) rfl (by decide +kernel) rfl rfl (Nat.le_of_ble_eq_true rfl) dX3_becomeLike_61 (fun H locs hP hD hS => ?_)
  have hP : va_P (dC, dI) vwCl [(xo_3_iiiiiiiirrrrr h y0 y1 y2 y3 y4 y5 y6 y7 o1 o2 o3 o4 o5), (xI o1 cI 6 f1), (xI o2 cI 6 f2), (xI o3 cI 6 f3), (xI o4 cI 6 f4), (xI o5 cI 6 f5), (xo_3_iiiiiiiirrrrr k y0 y1 y2 y3 y4 y5 y6 y7 p1 p2 p3 p4 p5), (xI p1 cI 6 x1), (xI p2 cI 6 x2), (xI p3 cI 6 x3), (xI p4 cI 6 x4), (xI p5 cI 6 x5)] H := hP
  have hD := dto hP hD
  refine lv_aload_n hx hb dX3_becomeLike_64 rfl (lv_at hl 1 rfl) ?_
  refine va_get (D := (dC, dI)) (ci := 3) (v := .ref p1) (C := RX3) (T := TX3) (N := 13) hx hb hts i_X3_becomeLike_X3 hown hK hP 6 rfl rfl 8 (by decide) (hts _ mx_X3_becomeLike_9) (fun _ h9 => h9) rfl dX3_becomeLike_65 ?_
  refine lv_iconst (v := 0) hx hb dX3_becomeLike_68 (by decide) ?_
  refine lv_aload_n hx hb dX3_becomeLike_69 rfl (lv_at hl 0 rfl) ?_
  refine va_get (D := (dC, dI)) (ci := 3) (v := .ref o1) (C := RX3) (T := TX3) (N := 13) hx hb hts i_X3_becomeLike_X3 hown hK hP 0 rfl rfl 8 (by decide) (hts _ mx_X3_becomeLike_9) (fun _ h9 => h9) rfl dX3_becomeLike_70 ?_
  refine lv_iconst (v := 0) hx hb dX3_becomeLike_73 (by decide) ?_
  refine lv_bipush (v := 6) hx hb dX3_becomeLike_74 (by decide) ?_
  refine va_copyi hx hb (by rw [hml]; exact hl.1.symm) hown (hts _ mx_X3_becomeLike_10) (hts _ mx_X3_becomeLike_11) (hts _ mx_X3_becomeLike_12) (hts _ mx_X3_becomeLike_13) hK hP hD hS 7 1 0 0 rfl rfl rfl rfl rfl (by decide) (by decide) (by decide) (by decide) (by decide) (fun _ _ => rfl) (Nat.le_of_ble_eq_true rfl) (Nat.le_of_ble_eq_true rfl) dX3_becomeLike_76 (fun H locs hP hD hS => ?_)
  generalize hg_1 : va_cpy x1 f1 (0 : Int32).toNatClampNeg (0 : Int32).toNatClampNeg (6 : Int32).toNatClampNeg = g_1 at hP hD
  have hu_1 : g_1 = va_cpy x1 f1 (0 : Int32).toNatClampNeg (0 : Int32).toNatClampNeg (6 : Int32).toNatClampNeg := hg_1.symm
  have hP : va_P (dC, dI) vwCl [(xo_3_iiiiiiiirrrrr h y0 y1 y2 y3 y4 y5 y6 y7 o1 o2 o3 o4 o5), (xI o1 cI 6 g_1), (xI o2 cI 6 f2), (xI o3 cI 6 f3), (xI o4 cI 6 f4), (xI o5 cI 6 f5), (xo_3_iiiiiiiirrrrr k y0 y1 y2 y3 y4 y5 y6 y7 p1 p2 p3 p4 p5), (xI p1 cI 6 x1), (xI p2 cI 6 x2), (xI p3 cI 6 x3), (xI p4 cI 6 x4), (xI p5 cI 6 x5)] H := hP
  have hD := dto hP hD
  refine lv_aload_n hx hb dX3_becomeLike_79 rfl (lv_at hl 1 rfl) ?_
  refine va_get (D := (dC, dI)) (ci := 3) (v := .ref p2) (C := RX3) (T := TX3) (N := 13) hx hb hts i_X3_becomeLike_X3 hown hK hP 6 rfl rfl 9 (by decide) (hts _ mx_X3_becomeLike_14) (fun _ h9 => h9) rfl dX3_becomeLike_80 ?_
  refine lv_iconst (v := 0) hx hb dX3_becomeLike_83 (by decide) ?_
  refine lv_aload_n hx hb dX3_becomeLike_84 rfl (lv_at hl 0 rfl) ?_
  refine va_get (D := (dC, dI)) (ci := 3) (v := .ref o2) (C := RX3) (T := TX3) (N := 13) hx hb hts i_X3_becomeLike_X3 hown hK hP 0 rfl rfl 9 (by decide) (hts _ mx_X3_becomeLike_14) (fun _ h9 => h9) rfl dX3_becomeLike_85 ?_
  refine lv_iconst (v := 0) hx hb dX3_becomeLike_88 (by decide) ?_
  refine lv_bipush (v := 6) hx hb dX3_becomeLike_89 (by decide) ?_
  refine va_copyi hx hb (by rw [hml]; exact hl.1.symm) hown (hts _ mx_X3_becomeLike_10) (hts _ mx_X3_becomeLike_11) (hts _ mx_X3_becomeLike_12) (hts _ mx_X3_becomeLike_13) hK hP hD hS 8 2 0 0 rfl rfl rfl rfl rfl (by decide) (by decide) (by decide) (by decide) (by decide) (fun _ _ => rfl) (Nat.le_of_ble_eq_true rfl) (Nat.le_of_ble_eq_true rfl) dX3_becomeLike_91 (fun H locs hP hD hS => ?_)
  generalize hg_2 : va_cpy x2 f2 (0 : Int32).toNatClampNeg (0 : Int32).toNatClampNeg (6 : Int32).toNatClampNeg = g_2 at hP hD
  have hu_2 : g_2 = va_cpy x2 f2 (0 : Int32).toNatClampNeg (0 : Int32).toNatClampNeg (6 : Int32).toNatClampNeg := hg_2.symm
  have hP : va_P (dC, dI) vwCl [(xo_3_iiiiiiiirrrrr h y0 y1 y2 y3 y4 y5 y6 y7 o1 o2 o3 o4 o5), (xI o1 cI 6 g_1), (xI o2 cI 6 g_2), (xI o3 cI 6 f3), (xI o4 cI 6 f4), (xI o5 cI 6 f5), (xo_3_iiiiiiiirrrrr k y0 y1 y2 y3 y4 y5 y6 y7 p1 p2 p3 p4 p5), (xI p1 cI 6 x1), (xI p2 cI 6 x2), (xI p3 cI 6 x3), (xI p4 cI 6 x4), (xI p5 cI 6 x5)] H := hP
  have hD := dto hP hD
  refine lv_aload_n hx hb dX3_becomeLike_94 rfl (lv_at hl 1 rfl) ?_
  refine va_get (D := (dC, dI)) (ci := 3) (v := .ref p3) (C := RX3) (T := TX3) (N := 13) hx hb hts i_X3_becomeLike_X3 hown hK hP 6 rfl rfl 10 (by decide) (hts _ mx_X3_becomeLike_15) (fun _ h9 => h9) rfl dX3_becomeLike_95 ?_
  refine lv_iconst (v := 0) hx hb dX3_becomeLike_98 (by decide) ?_
  refine lv_aload_n hx hb dX3_becomeLike_99 rfl (lv_at hl 0 rfl) ?_
  refine va_get (D := (dC, dI)) (ci := 3) (v := .ref o3) (C := RX3) (T := TX3) (N := 13) hx hb hts i_X3_becomeLike_X3 hown hK hP 0 rfl rfl 10 (by decide) (hts _ mx_X3_becomeLike_15) (fun _ h9 => h9) rfl dX3_becomeLike_100 ?_
  refine lv_iconst (v := 0) hx hb dX3_becomeLike_103 (by decide) ?_
  refine lv_bipush (v := 6) hx hb dX3_becomeLike_104 (by decide) ?_
  refine va_copyi hx hb (by rw [hml]; exact hl.1.symm) hown (hts _ mx_X3_becomeLike_10) (hts _ mx_X3_becomeLike_11) (hts _ mx_X3_becomeLike_12) (hts _ mx_X3_becomeLike_13) hK hP hD hS 9 3 0 0 rfl rfl rfl rfl rfl (by decide) (by decide) (by decide) (by decide) (by decide) (fun _ _ => rfl) (Nat.le_of_ble_eq_true rfl) (Nat.le_of_ble_eq_true rfl) dX3_becomeLike_106 (fun H locs hP hD hS => ?_)
  generalize hg_3 : va_cpy x3 f3 (0 : Int32).toNatClampNeg (0 : Int32).toNatClampNeg (6 : Int32).toNatClampNeg = g_3 at hP hD
  have hu_3 : g_3 = va_cpy x3 f3 (0 : Int32).toNatClampNeg (0 : Int32).toNatClampNeg (6 : Int32).toNatClampNeg := hg_3.symm
  have hP : va_P (dC, dI) vwCl [(xo_3_iiiiiiiirrrrr h y0 y1 y2 y3 y4 y5 y6 y7 o1 o2 o3 o4 o5), (xI o1 cI 6 g_1), (xI o2 cI 6 g_2), (xI o3 cI 6 g_3), (xI o4 cI 6 f4), (xI o5 cI 6 f5), (xo_3_iiiiiiiirrrrr k y0 y1 y2 y3 y4 y5 y6 y7 p1 p2 p3 p4 p5), (xI p1 cI 6 x1), (xI p2 cI 6 x2), (xI p3 cI 6 x3), (xI p4 cI 6 x4), (xI p5 cI 6 x5)] H := hP
  have hD := dto hP hD
  refine lv_aload_n hx hb dX3_becomeLike_109 rfl (lv_at hl 1 rfl) ?_
  refine va_get (D := (dC, dI)) (ci := 3) (v := .ref p4) (C := RX3) (T := TX3) (N := 13) hx hb hts i_X3_becomeLike_X3 hown hK hP 6 rfl rfl 11 (by decide) (hts _ mx_X3_becomeLike_16) (fun _ h9 => h9) rfl dX3_becomeLike_110 ?_
  refine lv_iconst (v := 0) hx hb dX3_becomeLike_113 (by decide) ?_
  refine lv_aload_n hx hb dX3_becomeLike_114 rfl (lv_at hl 0 rfl) ?_
  refine va_get (D := (dC, dI)) (ci := 3) (v := .ref o4) (C := RX3) (T := TX3) (N := 13) hx hb hts i_X3_becomeLike_X3 hown hK hP 0 rfl rfl 11 (by decide) (hts _ mx_X3_becomeLike_16) (fun _ h9 => h9) rfl dX3_becomeLike_115 ?_
  refine lv_iconst (v := 0) hx hb dX3_becomeLike_118 (by decide) ?_
  refine lv_bipush (v := 6) hx hb dX3_becomeLike_119 (by decide) ?_
  refine va_copyi hx hb (by rw [hml]; exact hl.1.symm) hown (hts _ mx_X3_becomeLike_10) (hts _ mx_X3_becomeLike_11) (hts _ mx_X3_becomeLike_12) (hts _ mx_X3_becomeLike_13) hK hP hD hS 10 4 0 0 rfl rfl rfl rfl rfl (by decide) (by decide) (by decide) (by decide) (by decide) (fun _ _ => rfl) (Nat.le_of_ble_eq_true rfl) (Nat.le_of_ble_eq_true rfl) dX3_becomeLike_121 (fun H locs hP hD hS => ?_)
  generalize hg_4 : va_cpy x4 f4 (0 : Int32).toNatClampNeg (0 : Int32).toNatClampNeg (6 : Int32).toNatClampNeg = g_4 at hP hD
  have hu_4 : g_4 = va_cpy x4 f4 (0 : Int32).toNatClampNeg (0 : Int32).toNatClampNeg (6 : Int32).toNatClampNeg := hg_4.symm
  have hP : va_P (dC, dI) vwCl [(xo_3_iiiiiiiirrrrr h y0 y1 y2 y3 y4 y5 y6 y7 o1 o2 o3 o4 o5), (xI o1 cI 6 g_1), (xI o2 cI 6 g_2), (xI o3 cI 6 g_3), (xI o4 cI 6 g_4), (xI o5 cI 6 f5), (xo_3_iiiiiiiirrrrr k y0 y1 y2 y3 y4 y5 y6 y7 p1 p2 p3 p4 p5), (xI p1 cI 6 x1), (xI p2 cI 6 x2), (xI p3 cI 6 x3), (xI p4 cI 6 x4), (xI p5 cI 6 x5)] H := hP
  have hD := dto hP hD
  refine lv_aload_n hx hb dX3_becomeLike_124 rfl (lv_at hl 1 rfl) ?_
  refine va_get (D := (dC, dI)) (ci := 3) (v := .ref p5) (C := RX3) (T := TX3) (N := 13) hx hb hts i_X3_becomeLike_X3 hown hK hP 6 rfl rfl 12 (by decide) (hts _ mx_X3_becomeLike_17) (fun _ h9 => h9) rfl dX3_becomeLike_125 ?_
  refine lv_iconst (v := 0) hx hb dX3_becomeLike_128 (by decide) ?_
  refine lv_aload_n hx hb dX3_becomeLike_129 rfl (lv_at hl 0 rfl) ?_
  refine va_get (D := (dC, dI)) (ci := 3) (v := .ref o5) (C := RX3) (T := TX3) (N := 13) hx hb hts i_X3_becomeLike_X3 hown hK hP 0 rfl rfl 12 (by decide) (hts _ mx_X3_becomeLike_17) (fun _ h9 => h9) rfl dX3_becomeLike_130 ?_
  refine lv_iconst (v := 0) hx hb dX3_becomeLike_133 (by decide) ?_
  refine lv_bipush (v := 6) hx hb dX3_becomeLike_134 (by decide) ?_
  refine va_copyi hx hb (by rw [hml]; exact hl.1.symm) hown (hts _ mx_X3_becomeLike_10) (hts _ mx_X3_becomeLike_11) (hts _ mx_X3_becomeLike_12) (hts _ mx_X3_becomeLike_13) hK hP hD hS 11 5 0 0 rfl rfl rfl rfl rfl (by decide) (by decide) (by decide) (by decide) (by decide) (fun _ _ => rfl) (Nat.le_of_ble_eq_true rfl) (Nat.le_of_ble_eq_true rfl) dX3_becomeLike_136 (fun H locs hP hD hS => ?_)
  generalize hg_5 : va_cpy x5 f5 (0 : Int32).toNatClampNeg (0 : Int32).toNatClampNeg (6 : Int32).toNatClampNeg = g_5 at hP hD
  have hu_5 : g_5 = va_cpy x5 f5 (0 : Int32).toNatClampNeg (0 : Int32).toNatClampNeg (6 : Int32).toNatClampNeg := hg_5.symm
  have hP : va_P (dC, dI) vwCl [(xo_3_iiiiiiiirrrrr h y0 y1 y2 y3 y4 y5 y6 y7 o1 o2 o3 o4 o5), (xI o1 cI 6 g_1), (xI o2 cI 6 g_2), (xI o3 cI 6 g_3), (xI o4 cI 6 g_4), (xI o5 cI 6 g_5), (xo_3_iiiiiiiirrrrr k y0 y1 y2 y3 y4 y5 y6 y7 p1 p2 p3 p4 p5), (xI p1 cI 6 x1), (xI p2 cI 6 x2), (xI p3 cI 6 x3), (xI p4 cI 6 x4), (xI p5 cI 6 x5)] H := hP
  have hD := dto hP hD
  have hX9 := cut2 (wc := [(xo_3_iiiiiiiirrrrr h y0 y1 y2 y3 y4 y5 y6 y7 o1 o2 o3 o4 o5), (xI o1 cI 6 g_1), (xI o2 cI 6 g_2), (xI o3 cI 6 g_3), (xI o4 cI 6 g_4), (xI o5 cI 6 g_5), (xo_3_iiiiiiiirrrrr k y0 y1 y2 y3 y4 y5 y6 y7 p1 p2 p3 p4 p5), (xI p1 cI 6 x1), (xI p2 cI 6 x2), (xI p3 cI 6 x3), (xI p4 cI 6 x4), (xI p5 cI 6 x5)]) hP hD [0, 1, 2, 3, 4, 5, 6, 7, 8, 9, 10, 11] (by decide +kernel) rfl
  exact W.vret hx hb hr (fun t ht hW => ⟨⟨(), rfl, trivial, ⟨g_1, g_2, g_3, g_4, g_5, va_Ht ht hX9.1, hX9.2, (lf_X3_becomeLike_1 hu_1 hu_2 hu_3 hu_4 hu_5), (lf_X3_becomeLike_2 hu_1 hu_2 hu_3 hu_4 hu_5), (lf_X3_becomeLike_3 hu_1 hu_2 hu_3 hu_4 hu_5), (lf_X3_becomeLike_4 hu_1 hu_2 hu_3 hu_4 hu_5), (lf_X3_becomeLike_5 hu_1 hu_2 hu_3 hu_4 hu_5)⟩⟩, hS.F ht⟩) hS.2.2 dX3_becomeLike_139
